set_option maxHeartbeats 200000000 in
set_option maxRecDepth 20000 in
theorem k_X10_arg (l : Launch) (D : va_G) (dA : Nat → ClassId) (eA : Nat) (L : List Nat) (T N : Nat → Nat) (I : Nat → Nat → Int) (J : Nat → Nat → Int64) (R : Nat → Nat → Nat) (a_this : Nat) (t_this : T a_this = 9) (a_i : Int) (i_i : (-2147483648 : Int) ≤ a_i ∧ a_i ≤ 2147483647) : PC l yX10_arg cX10_arg 2 (some .int) ({ frames := 0, cells := 0, slots := 0, locals := 0 }) D dA eA L T N I J R [.ref a_this, .int (II a_i)] (rI (fun r => True)) := by
  generalize hPST : (rI (fun r => True)) = PST
  refine p_enter (own := RX10) (by decide) rfl (Nat.le_of_ble_eq_true rfl) (fun p e s m args below meth c ls B hX hM hl => ?_)
  have hA : ∀ q, s.heap.size ≤ q → cF dA L T N I J R s.heap.size q := fun q h => Or.inr h
  have hl : lv_has ls 2 [(0, .ref a_this), (1, .int (II a_i))] := hl
  refine lv_aload_n B.1 B.2.1 dX10_arg_0 rfl (lv_at hl 0 rfl) ?_
  obtain ⟨v1, e2⟩ : ∃ v, R a_this 2 = v := ⟨_, rfl⟩
  have q3 : v1 = 0 ∨ ∃ b, v1 = b + 1 ∧ T b = 75 := by rw [← e2]; exact g9_2 hM.2.2.2.2.2.2.1 t_this
  refine c_getr (k := 2) pk_X10 B hM t_this kd9 rfl (by decide) fl_X10_24 dX10_arg_1 e2 ?_
  rcases q3 with rfl | ⟨b4, rfl, t5⟩
  · have hl : lv_has ls 2 [(0, .ref a_this), (1, .int (II a_i))] := hl
    refine lv_ifnullN (tgt := 37) B.1 B.2.1 dX10_arg_4 (by decide) ?_
    refine q_con B dX10_arg_37 ?_
    refine p_iret B dX10_arg_38 ?_
    rw [← hPST]
    exact ⟨(0), rfl, by omega, by first | omega | assumption | exact trivial⟩
  · have hl : lv_has ls 2 [(0, .ref a_this), (1, .int (II a_i))] := hl
    refine lv_ifnull B.1 B.2.1 dX10_arg_4 ?_
    refine lv_iload_n B.1 B.2.1 dX10_arg_7 rfl (lv_at hl 1 rfl) ?_
    refine q_ilt (tgt := 37) B dX10_arg_8 (by decide) (by unfold inr; omega) (fun c6 => ?_) (fun c6 => ?_)
    · refine q_con B dX10_arg_37 ?_
      refine p_iret B dX10_arg_38 ?_
      rw [← hPST]
      exact ⟨(0), rfl, by omega, by first | omega | assumption | exact trivial⟩
    · refine lv_iload_n B.1 B.2.1 dX10_arg_11 rfl (lv_at hl 1 rfl) ?_
      refine lv_aload_n B.1 B.2.1 dX10_arg_12 rfl (lv_at hl 0 rfl) ?_
      obtain ⟨x7, e8⟩ : ∃ v, I a_this 1 = v := ⟨_, rfl⟩
      have r9 : (-2147483648 : Int) ≤ x7 ∧ x7 ≤ 2147483647 := by rw [← e8]; exact g9_1 hM.2.2.2.2.2.2.1 t_this
      refine c_geti (k := 1) pk_X10 B hM t_this kd9 rfl (by decide) fl_X10_28 dX10_arg_13 e8 ?_
      refine q_cge (tgt := 37) B dX10_arg_16 (by decide) (by unfold inr; omega) (by unfold inr; omega) (fun c10 => ?_) (fun c10 => ?_)
      · refine q_con B dX10_arg_37 ?_
        refine p_iret B dX10_arg_38 ?_
        rw [← hPST]
        exact ⟨(0), rfl, by omega, by first | omega | assumption | exact trivial⟩
      · refine lv_iload_n B.1 B.2.1 dX10_arg_19 rfl (lv_at hl 1 rfl) ?_
        refine lv_aload_n B.1 B.2.1 dX10_arg_20 rfl (lv_at hl 0 rfl) ?_
        refine c_getn (k := 2) pk_X10 B hM t_this kd9 rfl (by decide) fl_X10_24 dX10_arg_21 e2 ?_
        have n11 : 4 ≤ N b4 ∧ N b4 ≤ 4 := gn75 hM.2.2.2.2.2.2.1 t5
        refine c_len B hM t5 kd75 (by decide) dX10_arg_24 rfl ?_
        refine q_cge (tgt := 37) B dX10_arg_25 (by decide) (by unfold inr; omega) (by unfold inr; omega) (fun c12 => ?_) (fun c12 => ?_)
        · refine q_con B dX10_arg_37 ?_
          refine p_iret B dX10_arg_38 ?_
          rw [← hPST]
          exact ⟨(0), rfl, by omega, by first | omega | assumption | exact trivial⟩
        · refine lv_aload_n B.1 B.2.1 dX10_arg_28 rfl (lv_at hl 0 rfl) ?_
          refine c_getn (k := 2) pk_X10 B hM t_this kd9 rfl (by decide) fl_X10_24 dX10_arg_29 e2 ?_
          refine lv_iload_n B.1 B.2.1 dX10_arg_32 rfl (lv_at hl 1 rfl) ?_
          obtain ⟨x13, e14⟩ : ∃ v, I b4 a_i.toNat = v := ⟨_, rfl⟩
          have r15 : (-2147483648 : Int) ≤ x13 ∧ x13 ≤ 2147483647 := by rw [← e14]; exact ga75 hM.2.2.2.2.2.2.1 t5 (by omega)
          refine c_ild B hM t5 kd75 (by decide) dX10_arg_33 (by omega) (by omega) e14 ?_
          refine lv_goto (tgt := 38) B.1 B.2.1 dX10_arg_34 (by decide) ?_
          refine p_iret B dX10_arg_38 ?_
          rw [← hPST]
          exact ⟨x13, rfl, by omega, by first | omega | assumption | exact trivial⟩

set_option maxHeartbeats 200000000 in
set_option maxRecDepth 20000 in
theorem k_X10_name (l : Launch) (D : va_G) (dA : Nat → ClassId) (eA : Nat) (L : List Nat) (T N : Nat → Nat) (I : Nat → Nat → Int) (J : Nat → Nat → Int64) (R : Nat → Nat → Nat) (a_this : Nat) (t_this : T a_this = 9) (a_i : Int) (i_i : (-2147483648 : Int) ≤ a_i ∧ a_i ≤ 2147483647) : PC l yX10_name cX10_name 2 (some .long) ({ frames := 0, cells := 0, slots := 0, locals := 0 }) D dA eA L T N I J R [.ref a_this, .int (II a_i)] (rL (fun r => True)) := by
  generalize hPST : (rL (fun r => True)) = PST
  refine p_enter (own := RX10) (by decide) rfl (Nat.le_of_ble_eq_true rfl) (fun p e s m args below meth c ls B hX hM hl => ?_)
  have hA : ∀ q, s.heap.size ≤ q → cF dA L T N I J R s.heap.size q := fun q h => Or.inr h
  have hl : lv_has ls 2 [(0, .ref a_this), (1, .int (II a_i))] := hl
  refine lv_aload_n B.1 B.2.1 dX10_name_0 rfl (lv_at hl 0 rfl) ?_
  obtain ⟨v1, e2⟩ : ∃ v, R a_this 3 = v := ⟨_, rfl⟩
  have q3 : v1 = 0 ∨ ∃ b, v1 = b + 1 ∧ T b = 76 := by rw [← e2]; exact g9_3 hM.2.2.2.2.2.2.1 t_this
  refine c_getr (k := 3) pk_X10 B hM t_this kd9 rfl (by decide) fl_X10_31 dX10_name_1 e2 ?_
  rcases q3 with rfl | ⟨b4, rfl, t5⟩
  · have hl : lv_has ls 2 [(0, .ref a_this), (1, .int (II a_i))] := hl
    refine lv_ifnullN (tgt := 37) B.1 B.2.1 dX10_name_4 (by decide) ?_
    refine lv_lconst (v := 0) B.1 B.2.1 dX10_name_37 (by decide) ?_
    refine p_lret B dX10_name_38 ?_
    rw [← hPST]
    exact ⟨((0 : Int64)), rfl, by first | omega | assumption | exact trivial⟩
  · have hl : lv_has ls 2 [(0, .ref a_this), (1, .int (II a_i))] := hl
    refine lv_ifnull B.1 B.2.1 dX10_name_4 ?_
    refine lv_iload_n B.1 B.2.1 dX10_name_7 rfl (lv_at hl 1 rfl) ?_
    refine q_ilt (tgt := 37) B dX10_name_8 (by decide) (by unfold inr; omega) (fun c6 => ?_) (fun c6 => ?_)
    · refine lv_lconst (v := 0) B.1 B.2.1 dX10_name_37 (by decide) ?_
      refine p_lret B dX10_name_38 ?_
      rw [← hPST]
      exact ⟨((0 : Int64)), rfl, by first | omega | assumption | exact trivial⟩
    · refine lv_iload_n B.1 B.2.1 dX10_name_11 rfl (lv_at hl 1 rfl) ?_
      refine lv_aload_n B.1 B.2.1 dX10_name_12 rfl (lv_at hl 0 rfl) ?_
      obtain ⟨x7, e8⟩ : ∃ v, I a_this 1 = v := ⟨_, rfl⟩
      have r9 : (-2147483648 : Int) ≤ x7 ∧ x7 ≤ 2147483647 := by rw [← e8]; exact g9_1 hM.2.2.2.2.2.2.1 t_this
      refine c_geti (k := 1) pk_X10 B hM t_this kd9 rfl (by decide) fl_X10_28 dX10_name_13 e8 ?_
      refine q_cge (tgt := 37) B dX10_name_16 (by decide) (by unfold inr; omega) (by unfold inr; omega) (fun c10 => ?_) (fun c10 => ?_)
      · refine lv_lconst (v := 0) B.1 B.2.1 dX10_name_37 (by decide) ?_
        refine p_lret B dX10_name_38 ?_
        rw [← hPST]
        exact ⟨((0 : Int64)), rfl, by first | omega | assumption | exact trivial⟩
      · refine lv_iload_n B.1 B.2.1 dX10_name_19 rfl (lv_at hl 1 rfl) ?_
        refine lv_aload_n B.1 B.2.1 dX10_name_20 rfl (lv_at hl 0 rfl) ?_
        refine c_getn (k := 3) pk_X10 B hM t_this kd9 rfl (by decide) fl_X10_31 dX10_name_21 e2 ?_
        have n11 : 4 ≤ N b4 ∧ N b4 ≤ 4 := gn76 hM.2.2.2.2.2.2.1 t5
        refine c_len B hM t5 kd76 (by decide) dX10_name_24 rfl ?_
        refine q_cge (tgt := 37) B dX10_name_25 (by decide) (by unfold inr; omega) (by unfold inr; omega) (fun c12 => ?_) (fun c12 => ?_)
        · refine lv_lconst (v := 0) B.1 B.2.1 dX10_name_37 (by decide) ?_
          refine p_lret B dX10_name_38 ?_
          rw [← hPST]
          exact ⟨((0 : Int64)), rfl, by first | omega | assumption | exact trivial⟩
        · refine lv_aload_n B.1 B.2.1 dX10_name_28 rfl (lv_at hl 0 rfl) ?_
          refine c_getn (k := 3) pk_X10 B hM t_this kd9 rfl (by decide) fl_X10_31 dX10_name_29 e2 ?_
          refine lv_iload_n B.1 B.2.1 dX10_name_32 rfl (lv_at hl 1 rfl) ?_
          obtain ⟨w13, e14⟩ : ∃ v, J b4 a_i.toNat = v := ⟨_, rfl⟩
          refine c_lld B hM t5 kd76 (by decide) dX10_name_33 (by omega) (by omega) e14 ?_
          refine lv_goto (tgt := 38) B.1 B.2.1 dX10_name_34 (by decide) ?_
          refine p_lret B dX10_name_38 ?_
          rw [← hPST]
          exact ⟨w13, rfl, by first | omega | assumption | exact trivial⟩

set_option maxHeartbeats 200000000 in
set_option maxRecDepth 20000 in
theorem k_X10_read (l : Launch) (D : va_G) (dA : Nat → ClassId) (eA : Nat) (L : List Nat) (T N : Nat → Nat) (I : Nat → Nat → Int) (J : Nat → Nat → Int64) (R : Nat → Nat → Nat) (a_this : Nat) (t_this : T a_this = 9) (a_i : Int) (i_i : (-2147483648 : Int) ≤ a_i ∧ a_i ≤ 2147483647) : PC l yX10_read cX10_read 2 (some .int) ({ frames := 0, cells := 0, slots := 0, locals := 0 }) D dA eA L T N I J R [.ref a_this, .int (II a_i)] (rI (fun r => True)) := by
  generalize hPST : (rI (fun r => True)) = PST
  refine p_enter (own := RX10) (by decide) rfl (Nat.le_of_ble_eq_true rfl) (fun p e s m args below meth c ls B hX hM hl => ?_)
  have hA : ∀ q, s.heap.size ≤ q → cF dA L T N I J R s.heap.size q := fun q h => Or.inr h
  have hl : lv_has ls 2 [(0, .ref a_this), (1, .int (II a_i))] := hl
  refine lv_aload_n B.1 B.2.1 dX10_read_0 rfl (lv_at hl 0 rfl) ?_
  obtain ⟨v1, e2⟩ : ∃ v, R a_this 4 = v := ⟨_, rfl⟩
  have q3 : v1 = 0 ∨ ∃ b, v1 = b + 1 ∧ T b = 77 := by rw [← e2]; exact g9_4 hM.2.2.2.2.2.2.1 t_this
  refine c_getr (k := 4) pk_X10 B hM t_this kd9 rfl (by decide) fl_X10_35 dX10_read_1 e2 ?_
  rcases q3 with rfl | ⟨b4, rfl, t5⟩
  · have hl : lv_has ls 2 [(0, .ref a_this), (1, .int (II a_i))] := hl
    refine lv_ifnullN (tgt := 29) B.1 B.2.1 dX10_read_4 (by decide) ?_
    refine q_con B dX10_read_29 ?_
    refine p_iret B dX10_read_30 ?_
    rw [← hPST]
    exact ⟨(-1), rfl, by omega, by first | omega | assumption | exact trivial⟩
  · have hl : lv_has ls 2 [(0, .ref a_this), (1, .int (II a_i))] := hl
    refine lv_ifnull B.1 B.2.1 dX10_read_4 ?_
    refine lv_iload_n B.1 B.2.1 dX10_read_7 rfl (lv_at hl 1 rfl) ?_
    refine q_ilt (tgt := 29) B dX10_read_8 (by decide) (by unfold inr; omega) (fun c6 => ?_) (fun c6 => ?_)
    · refine q_con B dX10_read_29 ?_
      refine p_iret B dX10_read_30 ?_
      rw [← hPST]
      exact ⟨(-1), rfl, by omega, by first | omega | assumption | exact trivial⟩
    · refine lv_iload_n B.1 B.2.1 dX10_read_11 rfl (lv_at hl 1 rfl) ?_
      refine lv_aload_n B.1 B.2.1 dX10_read_12 rfl (lv_at hl 0 rfl) ?_
      refine c_getn (k := 4) pk_X10 B hM t_this kd9 rfl (by decide) fl_X10_35 dX10_read_13 e2 ?_
      have n7 : 2 ≤ N b4 ∧ N b4 ≤ 3 := gn77 hM.2.2.2.2.2.2.1 t5
      refine c_len B hM t5 kd77 (by decide) dX10_read_16 rfl ?_
      refine q_cge (tgt := 29) B dX10_read_17 (by decide) (by unfold inr; omega) (by unfold inr; omega) (fun c8 => ?_) (fun c8 => ?_)
      · refine q_con B dX10_read_29 ?_
        refine p_iret B dX10_read_30 ?_
        rw [← hPST]
        exact ⟨(-1), rfl, by omega, by first | omega | assumption | exact trivial⟩
      · refine lv_aload_n B.1 B.2.1 dX10_read_20 rfl (lv_at hl 0 rfl) ?_
        refine c_getn (k := 4) pk_X10 B hM t_this kd9 rfl (by decide) fl_X10_35 dX10_read_21 e2 ?_
        refine lv_iload_n B.1 B.2.1 dX10_read_24 rfl (lv_at hl 1 rfl) ?_
        obtain ⟨x9, e10⟩ : ∃ v, I b4 a_i.toNat = v := ⟨_, rfl⟩
        have r11 : (-2147483648 : Int) ≤ x9 ∧ x9 ≤ 2147483647 := by rw [← e10]; exact ga77 hM.2.2.2.2.2.2.1 t5 (by omega)
        refine c_ild B hM t5 kd77 (by decide) dX10_read_25 (by omega) (by omega) e10 ?_
        refine lv_goto (tgt := 30) B.1 B.2.1 dX10_read_26 (by decide) ?_
        refine p_iret B dX10_read_30 ?_
        rw [← hPST]
        exact ⟨x9, rfl, by omega, by first | omega | assumption | exact trivial⟩

set_option maxHeartbeats 200000000 in
set_option maxRecDepth 20000 in
theorem k_X10_takesNumbers (l : Launch) (D : va_G) (dA : Nat → ClassId) (eA : Nat) (L : List Nat) (T N : Nat → Nat) (I : Nat → Nat → Int) (J : Nat → Nat → Int64) (R : Nat → Nat → Nat) (a_this : Nat) (t_this : T a_this = 9) (a_least : Int) (i_least : (-2147483648 : Int) ≤ a_least ∧ a_least ≤ 2147483647) (a_most : Int) (i_most : (-2147483648 : Int) ≤ a_most ∧ a_most ≤ 2147483647) : PC l yX10_takesNumbers cX10_takesNumbers 4 (some .boolean) ({ frames := 1, cells := 0, slots := 0, locals := 21 }) D dA eA L T N I J R [.ref a_this, .int (II a_least), .int (II a_most)] (rI (fun r => (0 : Int) ≤ r ∧ r ≤ 1 ∧ (True))) := by
  generalize hPST : (rI (fun r => (0 : Int) ≤ r ∧ r ≤ 1 ∧ (True))) = PST
  refine p_enter (own := RX10) (by decide) rfl (Nat.le_of_ble_eq_true rfl) (fun p e s m args below meth c ls B hX hM hl => ?_)
  have hA : ∀ q, s.heap.size ≤ q → cF dA L T N I J R s.heap.size q := fun q h => Or.inr h
  have hl : lv_has ls 4 [(0, .ref a_this), (1, .int (II a_least)), (2, .int (II a_most))] := hl
  refine q_con B dX10_takesNumbers_0 ?_
  refine lv_istore_n (lv' := [(3, .int (II 0)), (0, .ref a_this), (1, .int (II a_least)), (2, .int (II a_most))]) B.1 B.2.1 dX10_takesNumbers_1 rfl hl (by decide) rfl (fun ls hl => ?_)
  have LL2 : ∀ NN : Nat, ∀ (v2_3 : Int) (ls : Array Slot), lv_has ls 4 [(0, .ref a_this), (1, .int (II a_least)), (2, .int (II a_most)), (3, .int (II v2_3))] → ((-2147483648 : Int) ≤ v2_3 ∧ v2_3 ≤ 2147483647) → (0 ≤ 2147483647 - v2_3) → (2147483647 - v2_3 < (NN : Int)) → W p l e ({ frames := 1, cells := 0, slots := 0, locals := 21 }) s m args below meth c s.heap [] 0 0 (MQ below (pQ PST) args s 0 0 (fun _ => False)) (F0 m 2 ls []) := by
    intro NN
    induction NN with
    | zero => intro v2_3 ls hl hLL2_0 hLL2_1 hN; exfalso; omega
    | succ NN IH2 =>
      intro v2_3 ls hl hLL2_0 hLL2_1 hN
      refine lv_iload_n B.1 B.2.1 dX10_takesNumbers_2 rfl (lv_at hl 3 rfl) ?_
      refine lv_aload_n B.1 B.2.1 dX10_takesNumbers_3 rfl (lv_at hl 0 rfl) ?_
      obtain ⟨x1, e2⟩ : ∃ v, I a_this 1 = v := ⟨_, rfl⟩
      have r3 : (-2147483648 : Int) ≤ x1 ∧ x1 ≤ 2147483647 := by rw [← e2]; exact g9_1 hM.2.2.2.2.2.2.1 t_this
      refine c_geti (k := 1) pk_X10 B hM t_this kd9 rfl (by decide) fl_X10_28 dX10_takesNumbers_4 e2 ?_
      refine q_cge (tgt := 28) B dX10_takesNumbers_7 (by decide) (by unfold inr; omega) (by unfold inr; omega) (fun c4 => ?_) (fun c4 => ?_)
      · refine lv_aload_n B.1 B.2.1 dX10_takesNumbers_28 rfl (lv_at hl 0 rfl) ?_
        refine c_geti (k := 1) pk_X10 B hM t_this kd9 rfl (by decide) fl_X10_28 dX10_takesNumbers_29 e2 ?_
        refine lv_iload_n B.1 B.2.1 dX10_takesNumbers_32 rfl (lv_at hl 1 rfl) ?_
        refine q_clt (tgt := 48) B dX10_takesNumbers_33 (by decide) (by unfold inr; omega) (by unfold inr; omega) (fun c5 => ?_) (fun c5 => ?_)
        · refine q_con B dX10_takesNumbers_48 ?_
          refine p_zret B dX10_takesNumbers_49 (by omega) (by omega) ?_
          rw [← hPST]
          exact ⟨(0), rfl, by omega, by omega, by omega, by first | omega | assumption | exact trivial⟩
        · refine lv_aload_n B.1 B.2.1 dX10_takesNumbers_36 rfl (lv_at hl 0 rfl) ?_
          refine c_geti (k := 1) pk_X10 B hM t_this kd9 rfl (by decide) fl_X10_28 dX10_takesNumbers_37 e2 ?_
          refine lv_iload_n B.1 B.2.1 dX10_takesNumbers_40 rfl (lv_at hl 2 rfl) ?_
          refine q_cgt (tgt := 48) B dX10_takesNumbers_41 (by decide) (by unfold inr; omega) (by unfold inr; omega) (fun c6 => ?_) (fun c6 => ?_)
          · refine q_con B dX10_takesNumbers_48 ?_
            refine p_zret B dX10_takesNumbers_49 (by omega) (by omega) ?_
            rw [← hPST]
            exact ⟨(0), rfl, by omega, by omega, by omega, by first | omega | assumption | exact trivial⟩
          · refine q_con B dX10_takesNumbers_44 ?_
            refine lv_goto (tgt := 49) B.1 B.2.1 dX10_takesNumbers_45 (by decide) ?_
            refine p_zret B dX10_takesNumbers_49 (by omega) (by omega) ?_
            rw [← hPST]
            exact ⟨(1), rfl, by omega, by omega, by omega, by first | omega | assumption | exact trivial⟩
      · refine lv_aload_n B.1 B.2.1 dX10_takesNumbers_10 rfl (lv_at hl 0 rfl) ?_
        refine lv_iload_n B.1 B.2.1 dX10_takesNumbers_11 rfl (lv_at hl 3 rfl) ?_
        refine p_calll (c_runV (n := 1) (as := [.int (II v2_3)]) (rest := []) B hX hA hM hl.1 t_this kd9 rfl (k_X10_name l D dA eA L T N I J R a_this t_this v2_3 (by first | omega | assumption | exact trivial) _ _) ml_X10_38 nm_X10_name ⟨rfl, rfl⟩ ⟨Nat.le_of_ble_eq_true rfl, Nat.le_of_ble_eq_true rfl⟩ dX10_takesNumbers_12 rfl rfl (Nat.le_of_ble_eq_true rfl) ⟨Nat.zero_le _, Nat.zero_le _⟩) (fun w8 hp7 => ?_)
        have hp7a := hp7
        clear hp7a
        refine lv_lconst (v := 0) B.1 B.2.1 dX10_takesNumbers_15 (by decide) ?_
        refine q_lcmp B dX10_takesNumbers_16 (fun x9 lx9 ux9 ex9 => ?_)
        refine q_ieq (tgt := 22) B dX10_takesNumbers_17 (by decide) (by unfold inr; omega) (fun c10 => ?_) (fun c10 => ?_)
        · refine q_inc (lv' := [(3, .int (II (v2_3 + 1))), (0, .ref a_this), (1, .int (II a_least)), (2, .int (II a_most))]) B dX10_takesNumbers_22 hl (k := 3) rfl (by decide) rfl (fun ls hl => ?_)
          refine lv_goto (tgt := 2) B.1 B.2.1 dX10_takesNumbers_25 (by decide) ?_
          have hv11 : ((-2147483648 : Int) ≤ v2_3 + 1 ∧ (v2_3 + 1 : Int) ≤ 2147483647) ∧ (0 ≤ 2147483647 - (v2_3 + 1)) := by first | omega | exact ⟨by first | omega | assumption | exact trivial, by first | omega | assumption | exact trivial⟩
          exact IH2 (v2_3 + 1) ls (lv_sub hl [1, 2, 3, 0] rfl) hv11.1 hv11.2 (by omega)
        · refine q_con B dX10_takesNumbers_20 ?_
          refine p_zret B dX10_takesNumbers_21 (by omega) (by omega) ?_
          rw [← hPST]
          exact ⟨(0), rfl, by omega, by omega, by omega, by first | omega | assumption | exact trivial⟩
  have hv12 : ((-2147483648 : Int) ≤ 0 ∧ (0 : Int) ≤ 2147483647) ∧ (0 ≤ 2147483647 - (0 : Int)) := by first | omega | exact ⟨by first | omega | assumption | exact trivial, by first | omega | assumption | exact trivial⟩
  exact LL2 (Int.toNat (2147483647 - (0 : Int) + 1)) 0 ls (lv_sub hl [1, 2, 3, 0] rfl) hv12.1 hv12.2 (by omega)

set_option maxHeartbeats 200000000 in
set_option maxRecDepth 20000 in
theorem k_X10_lets (l : Launch) (D : va_G) (dA : Nat → ClassId) (eA : Nat) (L : List Nat) (T N : Nat → Nat) (I : Nat → Nat → Int) (J : Nat → Nat → Int64) (R : Nat → Nat → Nat) (a_this : Nat) (t_this : T a_this = 9) (a_v : Int) (i_v : (-2147483648 : Int) ≤ a_v ∧ a_v ≤ 2147483647) : PC l yX10_lets cX10_lets 4 (some .boolean) ({ frames := 1, cells := 0, slots := 0, locals := 21 }) D dA eA L T N I J R [.ref a_this, .int (II a_v)] (rI (fun r => (0 : Int) ≤ r ∧ r ≤ 1 ∧ (True))) := by
  generalize hPST : (rI (fun r => (0 : Int) ≤ r ∧ r ≤ 1 ∧ (True))) = PST
  refine p_enter (own := RX10) (by decide) rfl (Nat.le_of_ble_eq_true rfl) (fun p e s m args below meth c ls B hX hM hl => ?_)
  have hA : ∀ q, s.heap.size ≤ q → cF dA L T N I J R s.heap.size q := fun q h => Or.inr h
  have hl : lv_has ls 4 [(0, .ref a_this), (1, .int (II a_v))] := hl
  refine lv_aload_n B.1 B.2.1 dX10_lets_0 rfl (lv_at hl 0 rfl) ?_
  obtain ⟨x1, e2⟩ : ∃ v, I a_this 0 = v := ⟨_, rfl⟩
  have r3 : (-2147483648 : Int) ≤ x1 ∧ x1 ≤ 2147483647 := by rw [← e2]; exact g9_0 hM.2.2.2.2.2.2.1 t_this
  refine c_geti (k := 0) pk_X10 B hM t_this kd9 rfl (by decide) fl_X10_9 dX10_lets_1 e2 ?_
  refine q_con B dX10_lets_4 ?_
  refine q_cne (tgt := 23) B dX10_lets_5 (by decide) (by unfold inr; omega) (by unfold inr; omega) (fun c4 => ?_) (fun c4 => ?_)
  · refine lv_aload_n B.1 B.2.1 dX10_lets_23 rfl (lv_at hl 0 rfl) ?_
    refine c_geti (k := 0) pk_X10 B hM t_this kd9 rfl (by decide) fl_X10_9 dX10_lets_24 e2 ?_
    refine q_con B dX10_lets_27 ?_
    refine q_cne (tgt := 46) B dX10_lets_28 (by decide) (by unfold inr; omega) (by unfold inr; omega) (fun c5 => ?_) (fun c5 => ?_)
    · refine lv_aload_n B.1 B.2.1 dX10_lets_46 rfl (lv_at hl 0 rfl) ?_
      refine c_geti (k := 0) pk_X10 B hM t_this kd9 rfl (by decide) fl_X10_9 dX10_lets_47 e2 ?_
      refine q_con B dX10_lets_50 ?_
      refine q_cne (tgt := 78) B dX10_lets_51 (by decide) (by unfold inr; omega) (by unfold inr; omega) (fun c6 => ?_) (fun c6 => ?_)
      · refine lv_aload_n B.1 B.2.1 dX10_lets_78 rfl (lv_at hl 0 rfl) ?_
        refine c_geti (k := 0) pk_X10 B hM t_this kd9 rfl (by decide) fl_X10_9 dX10_lets_79 e2 ?_
        refine q_bip B dX10_lets_82 (by decide) ?_
        have JJ92 : ∀ (s92_0 : Int) (ls : Array Slot), lv_has ls 4 [(0, .ref a_this), (1, .int (II a_v))] → ((-2147483648 : Int) ≤ s92_0 ∧ s92_0 ≤ 2147483647) → (0 ≤ s92_0) → (s92_0 ≤ 1) → W p l e ({ frames := 1, cells := 0, slots := 0, locals := 21 }) s m args below meth c s.heap [] 0 0 (MQ below (pQ PST) args s 0 0 (fun _ => False)) (F0 m 92 ls [.int (II s92_0)]) := by
          intro s92_0 ls hl hJJ92_0 hJJ92_1 hJJ92_2
          refine lv_istore_n (lv' := [(2, .int (II s92_0)), (0, .ref a_this), (1, .int (II a_v))]) B.1 B.2.1 dX10_lets_92 rfl hl (by decide) rfl (fun ls hl => ?_)
          refine q_con B dX10_lets_93 ?_
          refine lv_istore_n (lv' := [(3, .int (II 0)), (2, .int (II s92_0)), (0, .ref a_this), (1, .int (II a_v))]) B.1 B.2.1 dX10_lets_94 rfl hl (by decide) rfl (fun ls hl => ?_)
          have LL95 : ∀ NN : Nat, ∀ (v95_2 : Int) (v95_3 : Int) (ls : Array Slot), lv_has ls 4 [(0, .ref a_this), (1, .int (II a_v)), (2, .int (II v95_2)), (3, .int (II v95_3))] → ((-2147483648 : Int) ≤ v95_2 ∧ v95_2 ≤ 2147483647) → ((-2147483648 : Int) ≤ v95_3 ∧ v95_3 ≤ 2147483647) → (0 ≤ v95_2) → (v95_2 ≤ 1) → (0 ≤ 2147483647 - v95_3) → (2147483647 - v95_3 < (NN : Int)) → W p l e ({ frames := 1, cells := 0, slots := 0, locals := 21 }) s m args below meth c s.heap [] 0 0 (MQ below (pQ PST) args s 0 0 (fun _ => False)) (F0 m 95 ls []) := by
            intro NN
            induction NN with
            | zero => intro v95_2 v95_3 ls hl hLL95_0 hLL95_1 hLL95_2 hLL95_3 hLL95_4 hN; exfalso; omega
            | succ NN IH95 =>
              intro v95_2 v95_3 ls hl hLL95_0 hLL95_1 hLL95_2 hLL95_3 hLL95_4 hN
              refine lv_iload_n B.1 B.2.1 dX10_lets_95 rfl (lv_at hl 3 rfl) ?_
              refine lv_aload_n B.1 B.2.1 dX10_lets_96 rfl (lv_at hl 0 rfl) ?_
              obtain ⟨x7, e8⟩ : ∃ v, I a_this 1 = v := ⟨_, rfl⟩
              have r9 : (-2147483648 : Int) ≤ x7 ∧ x7 ≤ 2147483647 := by rw [← e8]; exact g9_1 hM.2.2.2.2.2.2.1 t_this
              refine c_geti (k := 1) pk_X10 B hM t_this kd9 rfl (by decide) fl_X10_28 dX10_lets_97 e8 ?_
              refine q_cge (tgt := 128) B dX10_lets_100 (by decide) (by unfold inr; omega) (by unfold inr; omega) (fun c10 => ?_) (fun c10 => ?_)
              · refine lv_iload_n B.1 B.2.1 dX10_lets_128 rfl (lv_at hl 2 rfl) ?_
                refine p_zret B dX10_lets_129 (by omega) (by omega) ?_
                rw [← hPST]
                exact ⟨v95_2, rfl, by omega, by omega, by omega, by first | omega | assumption | exact trivial⟩
              · refine lv_iload_n B.1 B.2.1 dX10_lets_103 rfl (lv_at hl 2 rfl) ?_
                refine q_ine (tgt := 128) B dX10_lets_104 (by decide) (by unfold inr; omega) (fun c11 => ?_) (fun c11 => ?_)
                · refine lv_iload_n B.1 B.2.1 dX10_lets_128 rfl (lv_at hl 2 rfl) ?_
                  refine p_zret B dX10_lets_129 (by omega) (by omega) ?_
                  rw [← hPST]
                  exact ⟨v95_2, rfl, by omega, by omega, by omega, by first | omega | assumption | exact trivial⟩
                · refine lv_iload_n B.1 B.2.1 dX10_lets_107 rfl (lv_at hl 1 rfl) ?_
                  refine lv_aload_n B.1 B.2.1 dX10_lets_108 rfl (lv_at hl 0 rfl) ?_
                  refine lv_iload_n B.1 B.2.1 dX10_lets_109 rfl (lv_at hl 3 rfl) ?_
                  refine p_calli (c_runV (n := 1) (as := [.int (II v95_3)]) (rest := [.int (II a_v)]) B hX hA hM hl.1 t_this kd9 rfl (k_X10_arg l D dA eA L T N I J R a_this t_this v95_3 (by first | omega | assumption | exact trivial) _ _) ml_X10_42 nm_X10_arg ⟨rfl, rfl⟩ ⟨Nat.le_of_ble_eq_true rfl, Nat.le_of_ble_eq_true rfl⟩ dX10_lets_110 rfl rfl (Nat.le_of_ble_eq_true rfl) ⟨Nat.zero_le _, Nat.zero_le _⟩) (fun x13 ix13 hp12 => ?_)
                  have hp12a := hp12
                  clear hp12a
                  refine q_cne (tgt := 120) B dX10_lets_113 (by decide) (by unfold inr; omega) (by unfold inr; omega) (fun c14 => ?_) (fun c14 => ?_)
                  · refine q_con B dX10_lets_120 ?_
                    refine lv_istore_n (lv' := [(2, .int (II 0)), (0, .ref a_this), (1, .int (II a_v)), (3, .int (II v95_3))]) B.1 B.2.1 dX10_lets_121 rfl hl (by decide) rfl (fun ls hl => ?_)
                    refine q_inc (lv' := [(3, .int (II (v95_3 + 1))), (2, .int (II 0)), (0, .ref a_this), (1, .int (II a_v))]) B dX10_lets_122 hl (k := 3) rfl (by decide) rfl (fun ls hl => ?_)
                    refine lv_goto (tgt := 95) B.1 B.2.1 dX10_lets_125 (by decide) ?_
                    have hv15 : ((-2147483648 : Int) ≤ 0 ∧ (0 : Int) ≤ 2147483647) ∧ ((-2147483648 : Int) ≤ v95_3 + 1 ∧ (v95_3 + 1 : Int) ≤ 2147483647) ∧ (0 ≤ (0 : Int)) ∧ ((0 : Int) ≤ 1) ∧ (0 ≤ 2147483647 - (v95_3 + 1)) := by first | omega | exact ⟨by first | omega | assumption | exact trivial, by first | omega | assumption | exact trivial, by first | omega | assumption | exact trivial, by first | omega | assumption | exact trivial, by first | omega | assumption | exact trivial⟩
                    exact IH95 0 (v95_3 + 1) ls (lv_sub hl [2, 3, 1, 0] rfl) hv15.1 hv15.2.1 hv15.2.2.1 hv15.2.2.2.1 hv15.2.2.2.2 (by omega)
                  · refine q_con B dX10_lets_116 ?_
                    refine lv_goto (tgt := 121) B.1 B.2.1 dX10_lets_117 (by decide) ?_
                    refine lv_istore_n (lv' := [(2, .int (II 1)), (0, .ref a_this), (1, .int (II a_v)), (3, .int (II v95_3))]) B.1 B.2.1 dX10_lets_121 rfl hl (by decide) rfl (fun ls hl => ?_)
                    refine q_inc (lv' := [(3, .int (II (v95_3 + 1))), (2, .int (II 1)), (0, .ref a_this), (1, .int (II a_v))]) B dX10_lets_122 hl (k := 3) rfl (by decide) rfl (fun ls hl => ?_)
                    refine lv_goto (tgt := 95) B.1 B.2.1 dX10_lets_125 (by decide) ?_
                    have hv16 : ((-2147483648 : Int) ≤ 1 ∧ (1 : Int) ≤ 2147483647) ∧ ((-2147483648 : Int) ≤ v95_3 + 1 ∧ (v95_3 + 1 : Int) ≤ 2147483647) ∧ (0 ≤ (1 : Int)) ∧ ((1 : Int) ≤ 1) ∧ (0 ≤ 2147483647 - (v95_3 + 1)) := by first | omega | exact ⟨by first | omega | assumption | exact trivial, by first | omega | assumption | exact trivial, by first | omega | assumption | exact trivial, by first | omega | assumption | exact trivial, by first | omega | assumption | exact trivial⟩
                    exact IH95 1 (v95_3 + 1) ls (lv_sub hl [2, 3, 1, 0] rfl) hv16.1 hv16.2.1 hv16.2.2.1 hv16.2.2.2.1 hv16.2.2.2.2 (by omega)
          have hv17 : ((-2147483648 : Int) ≤ s92_0 ∧ (s92_0 : Int) ≤ 2147483647) ∧ ((-2147483648 : Int) ≤ 0 ∧ (0 : Int) ≤ 2147483647) ∧ (0 ≤ s92_0) ∧ (s92_0 ≤ 1) ∧ (0 ≤ 2147483647 - (0 : Int)) := by first | omega | exact ⟨by first | omega | assumption | exact trivial, by first | omega | assumption | exact trivial, by first | omega | assumption | exact trivial, by first | omega | assumption | exact trivial, by first | omega | assumption | exact trivial⟩
          exact LL95 (Int.toNat (2147483647 - (0 : Int) + 1)) s92_0 0 ls (lv_sub hl [2, 3, 1, 0] rfl) hv17.1 hv17.2.1 hv17.2.2.1 hv17.2.2.2.1 hv17.2.2.2.2 (by omega)
        refine q_ceq (tgt := 91) B dX10_lets_84 (by decide) (by unfold inr; omega) (by unfold inr; omega) (fun c18 => ?_) (fun c18 => ?_)
        · refine q_con B dX10_lets_91 ?_
          have hv19 : ((-2147483648 : Int) ≤ 0 ∧ (0 : Int) ≤ 2147483647) ∧ (0 ≤ (0 : Int)) ∧ ((0 : Int) ≤ 1) := by first | omega | exact ⟨by first | omega | assumption | exact trivial, by first | omega | assumption | exact trivial, by first | omega | assumption | exact trivial⟩
          exact JJ92 0 ls (lv_sub hl [0, 1] rfl) hv19.1 hv19.2.1 hv19.2.2
        · refine q_con B dX10_lets_87 ?_
          refine lv_goto (tgt := 92) B.1 B.2.1 dX10_lets_88 (by decide) ?_
          have hv20 : ((-2147483648 : Int) ≤ 1 ∧ (1 : Int) ≤ 2147483647) ∧ (0 ≤ (1 : Int)) ∧ ((1 : Int) ≤ 1) := by first | omega | exact ⟨by first | omega | assumption | exact trivial, by first | omega | assumption | exact trivial, by first | omega | assumption | exact trivial⟩
          exact JJ92 1 ls (lv_sub hl [0, 1] rfl) hv20.1 hv20.2.1 hv20.2.2
      · refine lv_iload_n B.1 B.2.1 dX10_lets_54 rfl (lv_at hl 1 rfl) ?_
        refine lv_aload_n B.1 B.2.1 dX10_lets_55 rfl (lv_at hl 0 rfl) ?_
        refine q_con B dX10_lets_56 ?_
        refine p_calli (c_runV (n := 1) (as := [.int (II 0)]) (rest := [.int (II a_v)]) B hX hA hM hl.1 t_this kd9 rfl (k_X10_arg l D dA eA L T N I J R a_this t_this (0) (by first | omega | assumption | exact trivial) _ _) ml_X10_42 nm_X10_arg ⟨rfl, rfl⟩ ⟨Nat.le_of_ble_eq_true rfl, Nat.le_of_ble_eq_true rfl⟩ dX10_lets_57 rfl rfl (Nat.le_of_ble_eq_true rfl) ⟨Nat.zero_le _, Nat.zero_le _⟩) (fun x22 ix22 hp21 => ?_)
        have hp21a := hp21
        clear hp21a
        refine q_clt (tgt := 76) B dX10_lets_60 (by decide) (by unfold inr; omega) (by unfold inr; omega) (fun c23 => ?_) (fun c23 => ?_)
        · refine q_con B dX10_lets_76 ?_
          refine p_zret B dX10_lets_77 (by omega) (by omega) ?_
          rw [← hPST]
          exact ⟨(0), rfl, by omega, by omega, by omega, by first | omega | assumption | exact trivial⟩
        · refine lv_iload_n B.1 B.2.1 dX10_lets_63 rfl (lv_at hl 1 rfl) ?_
          refine lv_aload_n B.1 B.2.1 dX10_lets_64 rfl (lv_at hl 0 rfl) ?_
          refine q_con B dX10_lets_65 ?_
          refine p_calli (c_runV (n := 1) (as := [.int (II 1)]) (rest := [.int (II a_v)]) B hX hA hM hl.1 t_this kd9 rfl (k_X10_arg l D dA eA L T N I J R a_this t_this (1) (by first | omega | assumption | exact trivial) _ _) ml_X10_42 nm_X10_arg ⟨rfl, rfl⟩ ⟨Nat.le_of_ble_eq_true rfl, Nat.le_of_ble_eq_true rfl⟩ dX10_lets_66 rfl rfl (Nat.le_of_ble_eq_true rfl) ⟨Nat.zero_le _, Nat.zero_le _⟩) (fun x25 ix25 hp24 => ?_)
          have hp24a := hp24
          clear hp24a
          refine q_cgt (tgt := 76) B dX10_lets_69 (by decide) (by unfold inr; omega) (by unfold inr; omega) (fun c26 => ?_) (fun c26 => ?_)
          · refine q_con B dX10_lets_76 ?_
            refine p_zret B dX10_lets_77 (by omega) (by omega) ?_
            rw [← hPST]
            exact ⟨(0), rfl, by omega, by omega, by omega, by first | omega | assumption | exact trivial⟩
          · refine q_con B dX10_lets_72 ?_
            refine lv_goto (tgt := 77) B.1 B.2.1 dX10_lets_73 (by decide) ?_
            refine p_zret B dX10_lets_77 (by omega) (by omega) ?_
            rw [← hPST]
            exact ⟨(1), rfl, by omega, by omega, by omega, by first | omega | assumption | exact trivial⟩
    · refine lv_iload_n B.1 B.2.1 dX10_lets_31 rfl (lv_at hl 1 rfl) ?_
      refine lv_aload_n B.1 B.2.1 dX10_lets_32 rfl (lv_at hl 0 rfl) ?_
      refine q_con B dX10_lets_33 ?_
      refine p_calli (c_runV (n := 1) (as := [.int (II 0)]) (rest := [.int (II a_v)]) B hX hA hM hl.1 t_this kd9 rfl (k_X10_arg l D dA eA L T N I J R a_this t_this (0) (by first | omega | assumption | exact trivial) _ _) ml_X10_42 nm_X10_arg ⟨rfl, rfl⟩ ⟨Nat.le_of_ble_eq_true rfl, Nat.le_of_ble_eq_true rfl⟩ dX10_lets_34 rfl rfl (Nat.le_of_ble_eq_true rfl) ⟨Nat.zero_le _, Nat.zero_le _⟩) (fun x28 ix28 hp27 => ?_)
      have hp27a := hp27
      clear hp27a
      refine q_cgt (tgt := 44) B dX10_lets_37 (by decide) (by unfold inr; omega) (by unfold inr; omega) (fun c29 => ?_) (fun c29 => ?_)
      · refine q_con B dX10_lets_44 ?_
        refine p_zret B dX10_lets_45 (by omega) (by omega) ?_
        rw [← hPST]
        exact ⟨(0), rfl, by omega, by omega, by omega, by first | omega | assumption | exact trivial⟩
      · refine q_con B dX10_lets_40 ?_
        refine lv_goto (tgt := 45) B.1 B.2.1 dX10_lets_41 (by decide) ?_
        refine p_zret B dX10_lets_45 (by omega) (by omega) ?_
        rw [← hPST]
        exact ⟨(1), rfl, by omega, by omega, by omega, by first | omega | assumption | exact trivial⟩
  · refine lv_iload_n B.1 B.2.1 dX10_lets_8 rfl (lv_at hl 1 rfl) ?_
    refine lv_aload_n B.1 B.2.1 dX10_lets_9 rfl (lv_at hl 0 rfl) ?_
    refine q_con B dX10_lets_10 ?_
    refine p_calli (c_runV (n := 1) (as := [.int (II 0)]) (rest := [.int (II a_v)]) B hX hA hM hl.1 t_this kd9 rfl (k_X10_arg l D dA eA L T N I J R a_this t_this (0) (by first | omega | assumption | exact trivial) _ _) ml_X10_42 nm_X10_arg ⟨rfl, rfl⟩ ⟨Nat.le_of_ble_eq_true rfl, Nat.le_of_ble_eq_true rfl⟩ dX10_lets_11 rfl rfl (Nat.le_of_ble_eq_true rfl) ⟨Nat.zero_le _, Nat.zero_le _⟩) (fun x31 ix31 hp30 => ?_)
    have hp30a := hp30
    clear hp30a
    refine q_clt (tgt := 21) B dX10_lets_14 (by decide) (by unfold inr; omega) (by unfold inr; omega) (fun c32 => ?_) (fun c32 => ?_)
    · refine q_con B dX10_lets_21 ?_
      refine p_zret B dX10_lets_22 (by omega) (by omega) ?_
      rw [← hPST]
      exact ⟨(0), rfl, by omega, by omega, by omega, by first | omega | assumption | exact trivial⟩
    · refine q_con B dX10_lets_17 ?_
      refine lv_goto (tgt := 22) B.1 B.2.1 dX10_lets_18 (by decide) ?_
      refine p_zret B dX10_lets_22 (by omega) (by omega) ?_
      rw [← hPST]
      exact ⟨(1), rfl, by omega, by omega, by omega, by first | omega | assumption | exact trivial⟩

set_option maxHeartbeats 200000000 in
set_option maxRecDepth 20000 in
theorem k_X10_proposes (l : Launch) (D : va_G) (dA : Nat → ClassId) (eA : Nat) (L : List Nat) (T N : Nat → Nat) (I : Nat → Nat → Int) (J : Nat → Nat → Int64) (R : Nat → Nat → Nat) (a_this : Nat) (t_this : T a_this = 9) : PC l yX10_proposes cX10_proposes 1 (some .boolean) ({ frames := 0, cells := 0, slots := 0, locals := 0 }) D dA eA L T N I J R [.ref a_this] (rI (fun r => (0 : Int) ≤ r ∧ r ≤ 1 ∧ (True))) := by
  generalize hPST : (rI (fun r => (0 : Int) ≤ r ∧ r ≤ 1 ∧ (True))) = PST
  refine p_enter (own := RX10) (by decide) rfl (Nat.le_of_ble_eq_true rfl) (fun p e s m args below meth c ls B hX hM hl => ?_)
  have hA : ∀ q, s.heap.size ≤ q → cF dA L T N I J R s.heap.size q := fun q h => Or.inr h
  have hl : lv_has ls 1 [(0, .ref a_this)] := hl
  refine lv_aload_n B.1 B.2.1 dX10_proposes_0 rfl (lv_at hl 0 rfl) ?_
  obtain ⟨x1, e2⟩ : ∃ v, I a_this 0 = v := ⟨_, rfl⟩
  have r3 : (-2147483648 : Int) ≤ x1 ∧ x1 ≤ 2147483647 := by rw [← e2]; exact g9_0 hM.2.2.2.2.2.2.1 t_this
  refine c_geti (k := 0) pk_X10 B hM t_this kd9 rfl (by decide) fl_X10_9 dX10_proposes_1 e2 ?_
  refine q_con B dX10_proposes_4 ?_
  refine q_ceq (tgt := 25) B dX10_proposes_5 (by decide) (by unfold inr; omega) (by unfold inr; omega) (fun c4 => ?_) (fun c4 => ?_)
  · refine q_con B dX10_proposes_25 ?_
    refine lv_goto (tgt := 30) B.1 B.2.1 dX10_proposes_26 (by decide) ?_
    refine p_zret B dX10_proposes_30 (by omega) (by omega) ?_
    rw [← hPST]
    exact ⟨(1), rfl, by omega, by omega, by omega, by first | omega | assumption | exact trivial⟩
  · refine lv_aload_n B.1 B.2.1 dX10_proposes_8 rfl (lv_at hl 0 rfl) ?_
    refine c_geti (k := 0) pk_X10 B hM t_this kd9 rfl (by decide) fl_X10_9 dX10_proposes_9 e2 ?_
    refine q_con B dX10_proposes_12 ?_
    refine q_ceq (tgt := 25) B dX10_proposes_13 (by decide) (by unfold inr; omega) (by unfold inr; omega) (fun c5 => ?_) (fun c5 => ?_)
    · refine q_con B dX10_proposes_25 ?_
      refine lv_goto (tgt := 30) B.1 B.2.1 dX10_proposes_26 (by decide) ?_
      refine p_zret B dX10_proposes_30 (by omega) (by omega) ?_
      rw [← hPST]
      exact ⟨(1), rfl, by omega, by omega, by omega, by first | omega | assumption | exact trivial⟩
    · refine lv_aload_n B.1 B.2.1 dX10_proposes_16 rfl (lv_at hl 0 rfl) ?_
      refine c_geti (k := 0) pk_X10 B hM t_this kd9 rfl (by decide) fl_X10_9 dX10_proposes_17 e2 ?_
      refine q_bip B dX10_proposes_20 (by decide) ?_
      refine q_cne (tgt := 29) B dX10_proposes_22 (by decide) (by unfold inr; omega) (by unfold inr; omega) (fun c6 => ?_) (fun c6 => ?_)
      · refine q_con B dX10_proposes_29 ?_
        refine p_zret B dX10_proposes_30 (by omega) (by omega) ?_
        rw [← hPST]
        exact ⟨(0), rfl, by omega, by omega, by omega, by first | omega | assumption | exact trivial⟩
      · refine q_con B dX10_proposes_25 ?_
        refine lv_goto (tgt := 30) B.1 B.2.1 dX10_proposes_26 (by decide) ?_
        refine p_zret B dX10_proposes_30 (by omega) (by omega) ?_
        rw [← hPST]
        exact ⟨(1), rfl, by omega, by omega, by omega, by first | omega | assumption | exact trivial⟩

set_option maxHeartbeats 200000000 in
set_option maxRecDepth 20000 in
theorem k_X10_nearest (l : Launch) (D : va_G) (dA : Nat → ClassId) (eA : Nat) (L : List Nat) (T N : Nat → Nat) (I : Nat → Nat → Int) (J : Nat → Nat → Int64) (R : Nat → Nat → Nat) (a_this : Nat) (t_this : T a_this = 9) (a_v : Int) (i_v : (-2147483648 : Int) ≤ a_v ∧ a_v ≤ 2147483647) : PC l yX10_nearest cX10_nearest 8 (some .int) ({ frames := 1, cells := 0, slots := 0, locals := 30 }) D dA eA L T N I J R [.ref a_this, .int (II a_v)] (rI (fun r => True)) := by
  generalize hPST : (rI (fun r => True)) = PST
  refine p_enter (own := RX10) (by decide) rfl (Nat.le_of_ble_eq_true rfl) (fun p e s m args below meth c ls B hX hM hl => ?_)
  have hA : ∀ q, s.heap.size ≤ q → cF dA L T N I J R s.heap.size q := fun q h => Or.inr h
  have hl : lv_has ls 8 [(0, .ref a_this), (1, .int (II a_v))] := hl
  refine lv_aload_n B.1 B.2.1 dX10_nearest_0 rfl (lv_at hl 0 rfl) ?_
  obtain ⟨v1, e2⟩ : ∃ v, R a_this 2 = v := ⟨_, rfl⟩
  have q3 : v1 = 0 ∨ ∃ b, v1 = b + 1 ∧ T b = 75 := by rw [← e2]; exact g9_2 hM.2.2.2.2.2.2.1 t_this
  refine c_getr (k := 2) pk_X10 B hM t_this kd9 rfl (by decide) fl_X10_24 dX10_nearest_1 e2 ?_
  rcases q3 with rfl | ⟨b4, rfl, t5⟩
  · have hl : lv_has ls 8 [(0, .ref a_this), (1, .int (II a_v))] := hl
    refine lv_ifnullN (tgt := 27) B.1 B.2.1 dX10_nearest_4 (by decide) ?_
    refine q_con B dX10_nearest_27 ?_
    refine p_iret B dX10_nearest_28 ?_
    rw [← hPST]
    exact ⟨(0), rfl, by omega, by first | omega | assumption | exact trivial⟩
  · have hl : lv_has ls 8 [(0, .ref a_this), (1, .int (II a_v))] := hl
    refine lv_ifnull B.1 B.2.1 dX10_nearest_4 ?_
    refine lv_aload_n B.1 B.2.1 dX10_nearest_7 rfl (lv_at hl 0 rfl) ?_
    obtain ⟨x6, e7⟩ : ∃ v, I a_this 1 = v := ⟨_, rfl⟩
    have r8 : (-2147483648 : Int) ≤ x6 ∧ x6 ≤ 2147483647 := by rw [← e7]; exact g9_1 hM.2.2.2.2.2.2.1 t_this
    refine c_geti (k := 1) pk_X10 B hM t_this kd9 rfl (by decide) fl_X10_28 dX10_nearest_8 e7 ?_
    refine q_con B dX10_nearest_11 ?_
    refine q_clt (tgt := 27) B dX10_nearest_12 (by decide) (by unfold inr; omega) (by unfold inr; omega) (fun c9 => ?_) (fun c9 => ?_)
    · refine q_con B dX10_nearest_27 ?_
      refine p_iret B dX10_nearest_28 ?_
      rw [← hPST]
      exact ⟨(0), rfl, by omega, by first | omega | assumption | exact trivial⟩
    · refine lv_aload_n B.1 B.2.1 dX10_nearest_15 rfl (lv_at hl 0 rfl) ?_
      refine c_geti (k := 1) pk_X10 B hM t_this kd9 rfl (by decide) fl_X10_28 dX10_nearest_16 e7 ?_
      refine lv_aload_n B.1 B.2.1 dX10_nearest_19 rfl (lv_at hl 0 rfl) ?_
      refine c_getn (k := 2) pk_X10 B hM t_this kd9 rfl (by decide) fl_X10_24 dX10_nearest_20 e2 ?_
      have n10 : 4 ≤ N b4 ∧ N b4 ≤ 4 := gn75 hM.2.2.2.2.2.2.1 t5
      refine c_len B hM t5 kd75 (by decide) dX10_nearest_23 rfl ?_
      refine q_cle (tgt := 29) B dX10_nearest_24 (by decide) (by unfold inr; omega) (by unfold inr; omega) (fun c11 => ?_) (fun c11 => ?_)
      · refine lv_aload_n B.1 B.2.1 dX10_nearest_29 rfl (lv_at hl 0 rfl) ?_
        refine c_getn (k := 2) pk_X10 B hM t_this kd9 rfl (by decide) fl_X10_24 dX10_nearest_30 e2 ?_
        refine q_con B dX10_nearest_33 ?_
        obtain ⟨x12, e13⟩ : ∃ v, I b4 ((0 : Int).toNat) = v := ⟨_, rfl⟩
        have r14 : (-2147483648 : Int) ≤ x12 ∧ x12 ≤ 2147483647 := by rw [← e13]; exact ga75 hM.2.2.2.2.2.2.1 t5 (by omega)
        refine c_ild B hM t5 kd75 (by decide) dX10_nearest_34 (by omega) (by omega) e13 ?_
        refine lv_istore_n (lv' := [(2, .int (II x12)), (0, .ref a_this), (1, .int (II a_v))]) B.1 B.2.1 dX10_nearest_35 rfl hl (by decide) rfl (fun ls hl => ?_)
        refine q_con B dX10_nearest_36 ?_
        refine lv_istore_n (lv' := [(3, .int (II 1)), (2, .int (II x12)), (0, .ref a_this), (1, .int (II a_v))]) B.1 B.2.1 dX10_nearest_37 rfl hl (by decide) rfl (fun ls hl => ?_)
        have LL38 : ∀ NN : Nat, ∀ (v38_2 : Int) (v38_3 : Int) (ls : Array Slot), lv_has ls 8 [(0, .ref a_this), (1, .int (II a_v)), (2, .int (II v38_2)), (3, .int (II v38_3))] → ((-2147483648 : Int) ≤ v38_2 ∧ v38_2 ≤ 2147483647) → ((-2147483648 : Int) ≤ v38_3 ∧ v38_3 ≤ 2147483647) → (1 ≤ v38_3) → (0 ≤ 2147483647 - v38_3) → (2147483647 - v38_3 < (NN : Int)) → W p l e ({ frames := 1, cells := 0, slots := 0, locals := 30 }) s m args below meth c s.heap [] 0 0 (MQ below (pQ PST) args s 0 0 (fun _ => False)) (F0 m 38 ls []) := by
          intro NN
          induction NN with
          | zero => intro v38_2 v38_3 ls hl hLL38_0 hLL38_1 hLL38_2 hLL38_3 hN; exfalso; omega
          | succ NN IH38 =>
            intro v38_2 v38_3 ls hl hLL38_0 hLL38_1 hLL38_2 hLL38_3 hN
            refine lv_iload_n B.1 B.2.1 dX10_nearest_38 rfl (lv_at hl 3 rfl) ?_
            refine lv_aload_n B.1 B.2.1 dX10_nearest_39 rfl (lv_at hl 0 rfl) ?_
            refine c_geti (k := 1) pk_X10 B hM t_this kd9 rfl (by decide) fl_X10_28 dX10_nearest_40 e7 ?_
            refine q_cge (tgt := 110) B dX10_nearest_43 (by decide) (by unfold inr; omega) (by unfold inr; omega) (fun c15 => ?_) (fun c15 => ?_)
            · refine lv_iload_n B.1 B.2.1 dX10_nearest_110 rfl (lv_at hl 2 rfl) ?_
              refine p_iret B dX10_nearest_111 ?_
              rw [← hPST]
              exact ⟨v38_2, rfl, by omega, by first | omega | assumption | exact trivial⟩
            · refine lv_aload_n B.1 B.2.1 dX10_nearest_46 rfl (lv_at hl 0 rfl) ?_
              refine c_getn (k := 2) pk_X10 B hM t_this kd9 rfl (by decide) fl_X10_24 dX10_nearest_47 e2 ?_
              refine lv_iload_n B.1 B.2.1 dX10_nearest_50 rfl (lv_at hl 3 rfl) ?_
              obtain ⟨x16, e17⟩ : ∃ v, I b4 v38_3.toNat = v := ⟨_, rfl⟩
              have r18 : (-2147483648 : Int) ≤ x16 ∧ x16 ≤ 2147483647 := by rw [← e17]; exact ga75 hM.2.2.2.2.2.2.1 t5 (by omega)
              refine c_ild B hM t5 kd75 (by decide) dX10_nearest_51 (by omega) (by omega) e17 ?_
              refine q_i2l B dX10_nearest_52 (fun w19 => ?_)
              refine lv_iload_n B.1 B.2.1 dX10_nearest_53 rfl (lv_at hl 1 rfl) ?_
              refine q_i2l B dX10_nearest_54 (fun w20 => ?_)
              refine lv_lsub B.1 B.2.1 dX10_nearest_55 ?_
              refine lv_topl (fun w21 ew21 => ?_)
              refine c_mabsl B ml_X10_46 hl.1 (Nat.le_of_ble_eq_true rfl) (Nat.le_of_ble_eq_true rfl) (Nat.zero_le _) (Nat.zero_le _) dX10_nearest_56 (fun w22 => ?_)
              refine lv_lstore (lv' := [(4, .long w22), (0, .ref a_this), (1, .int (II a_v)), (2, .int (II v38_2)), (3, .int (II v38_3))]) B.1 B.2.1 dX10_nearest_59 hl (by decide) rfl (fun ls hl => ?_)
              refine lv_iload_n B.1 B.2.1 dX10_nearest_61 rfl (lv_at hl 3 rfl) ?_
              refine q_i2l B dX10_nearest_62 (fun w23 => ?_)
              refine lv_iload_n B.1 B.2.1 dX10_nearest_63 rfl (lv_at hl 2 rfl) ?_
              refine q_i2l B dX10_nearest_64 (fun w24 => ?_)
              refine lv_lsub B.1 B.2.1 dX10_nearest_65 ?_
              refine lv_topl (fun w25 ew25 => ?_)
              refine c_mabsl B ml_X10_46 hl.1 (Nat.le_of_ble_eq_true rfl) (Nat.le_of_ble_eq_true rfl) (Nat.zero_le _) (Nat.zero_le _) dX10_nearest_66 (fun w26 => ?_)
              refine lv_lstore (lv' := [(6, .long w26), (4, .long w22), (0, .ref a_this), (1, .int (II a_v)), (2, .int (II v38_2)), (3, .int (II v38_3))]) B.1 B.2.1 dX10_nearest_69 hl (by decide) rfl (fun ls hl => ?_)
              refine lv_lload B.1 B.2.1 dX10_nearest_71 (lv_at hl 1 rfl) ?_
              refine lv_lload B.1 B.2.1 dX10_nearest_73 (lv_at hl 0 rfl) ?_
              refine q_lcmp B dX10_nearest_75 (fun x27 lx27 ux27 ex27 => ?_)
              refine q_ilt (tgt := 97) B dX10_nearest_76 (by decide) (by unfold inr; omega) (fun c28 => ?_) (fun c28 => ?_)
              · refine lv_aload_n B.1 B.2.1 dX10_nearest_97 rfl (lv_at hl 2 rfl) ?_
                refine c_getn (k := 2) pk_X10 B hM t_this kd9 rfl (by decide) fl_X10_24 dX10_nearest_98 e2 ?_
                refine lv_iload_n B.1 B.2.1 dX10_nearest_101 rfl (lv_at hl 5 rfl) ?_
                refine c_ild B hM t5 kd75 (by decide) dX10_nearest_102 (by omega) (by omega) e17 ?_
                refine lv_istore_n (lv' := [(2, .int (II x16)), (6, .long w26), (4, .long w22), (0, .ref a_this), (1, .int (II a_v)), (3, .int (II v38_3))]) B.1 B.2.1 dX10_nearest_103 rfl hl (by decide) rfl (fun ls hl => ?_)
                refine q_inc (lv' := [(3, .int (II (v38_3 + 1))), (2, .int (II x16)), (6, .long w26), (4, .long w22), (0, .ref a_this), (1, .int (II a_v))]) B dX10_nearest_104 hl (k := 5) rfl (by decide) rfl (fun ls hl => ?_)
                refine lv_goto (tgt := 38) B.1 B.2.1 dX10_nearest_107 (by decide) ?_
                have hv29 : ((-2147483648 : Int) ≤ x16 ∧ (x16 : Int) ≤ 2147483647) ∧ ((-2147483648 : Int) ≤ v38_3 + 1 ∧ (v38_3 + 1 : Int) ≤ 2147483647) ∧ (1 ≤ (v38_3 + 1)) ∧ (0 ≤ 2147483647 - (v38_3 + 1)) := by first | omega | exact ⟨by first | omega | assumption | exact trivial, by first | omega | assumption | exact trivial, by first | omega | assumption | exact trivial, by first | omega | assumption | exact trivial⟩
                exact IH38 x16 (v38_3 + 1) ls (lv_sub hl [4, 5, 1, 0] rfl) hv29.1 hv29.2.1 hv29.2.2.1 hv29.2.2.2 (by omega)
              · refine lv_lload B.1 B.2.1 dX10_nearest_79 (lv_at hl 1 rfl) ?_
                refine lv_lload B.1 B.2.1 dX10_nearest_81 (lv_at hl 0 rfl) ?_
                refine q_lcmp B dX10_nearest_83 (fun x30 lx30 ux30 ex30 => ?_)
                refine q_ine (tgt := 104) B dX10_nearest_84 (by decide) (by unfold inr; omega) (fun c31 => ?_) (fun c31 => ?_)
                · refine q_inc (lv' := [(3, .int (II (v38_3 + 1))), (6, .long w26), (4, .long w22), (0, .ref a_this), (1, .int (II a_v)), (2, .int (II v38_2))]) B dX10_nearest_104 hl (k := 5) rfl (by decide) rfl (fun ls hl => ?_)
                  refine lv_goto (tgt := 38) B.1 B.2.1 dX10_nearest_107 (by decide) ?_
                  have hv32 : ((-2147483648 : Int) ≤ v38_2 ∧ (v38_2 : Int) ≤ 2147483647) ∧ ((-2147483648 : Int) ≤ v38_3 + 1 ∧ (v38_3 + 1 : Int) ≤ 2147483647) ∧ (1 ≤ (v38_3 + 1)) ∧ (0 ≤ 2147483647 - (v38_3 + 1)) := by first | omega | exact ⟨by first | omega | assumption | exact trivial, by first | omega | assumption | exact trivial, by first | omega | assumption | exact trivial, by first | omega | assumption | exact trivial⟩
                  exact IH38 v38_2 (v38_3 + 1) ls (lv_sub hl [3, 4, 5, 0] rfl) hv32.1 hv32.2.1 hv32.2.2.1 hv32.2.2.2 (by omega)
                · refine lv_aload_n B.1 B.2.1 dX10_nearest_87 rfl (lv_at hl 2 rfl) ?_
                  refine c_getn (k := 2) pk_X10 B hM t_this kd9 rfl (by decide) fl_X10_24 dX10_nearest_88 e2 ?_
                  refine lv_iload_n B.1 B.2.1 dX10_nearest_91 rfl (lv_at hl 5 rfl) ?_
                  refine c_ild B hM t5 kd75 (by decide) dX10_nearest_92 (by omega) (by omega) e17 ?_
                  refine lv_iload_n B.1 B.2.1 dX10_nearest_93 rfl (lv_at hl 4 rfl) ?_
                  refine q_cge (tgt := 104) B dX10_nearest_94 (by decide) (by unfold inr; omega) (by unfold inr; omega) (fun c33 => ?_) (fun c33 => ?_)
                  · refine q_inc (lv' := [(3, .int (II (v38_3 + 1))), (6, .long w26), (4, .long w22), (0, .ref a_this), (1, .int (II a_v)), (2, .int (II v38_2))]) B dX10_nearest_104 hl (k := 5) rfl (by decide) rfl (fun ls hl => ?_)
                    refine lv_goto (tgt := 38) B.1 B.2.1 dX10_nearest_107 (by decide) ?_
                    have hv34 : ((-2147483648 : Int) ≤ v38_2 ∧ (v38_2 : Int) ≤ 2147483647) ∧ ((-2147483648 : Int) ≤ v38_3 + 1 ∧ (v38_3 + 1 : Int) ≤ 2147483647) ∧ (1 ≤ (v38_3 + 1)) ∧ (0 ≤ 2147483647 - (v38_3 + 1)) := by first | omega | exact ⟨by first | omega | assumption | exact trivial, by first | omega | assumption | exact trivial, by first | omega | assumption | exact trivial, by first | omega | assumption | exact trivial⟩
                    exact IH38 v38_2 (v38_3 + 1) ls (lv_sub hl [3, 4, 5, 0] rfl) hv34.1 hv34.2.1 hv34.2.2.1 hv34.2.2.2 (by omega)
                  · refine lv_aload_n B.1 B.2.1 dX10_nearest_97 rfl (lv_at hl 2 rfl) ?_
                    refine c_getn (k := 2) pk_X10 B hM t_this kd9 rfl (by decide) fl_X10_24 dX10_nearest_98 e2 ?_
                    refine lv_iload_n B.1 B.2.1 dX10_nearest_101 rfl (lv_at hl 5 rfl) ?_
                    refine c_ild B hM t5 kd75 (by decide) dX10_nearest_102 (by omega) (by omega) e17 ?_
                    refine lv_istore_n (lv' := [(2, .int (II x16)), (6, .long w26), (4, .long w22), (0, .ref a_this), (1, .int (II a_v)), (3, .int (II v38_3))]) B.1 B.2.1 dX10_nearest_103 rfl hl (by decide) rfl (fun ls hl => ?_)
                    refine q_inc (lv' := [(3, .int (II (v38_3 + 1))), (2, .int (II x16)), (6, .long w26), (4, .long w22), (0, .ref a_this), (1, .int (II a_v))]) B dX10_nearest_104 hl (k := 5) rfl (by decide) rfl (fun ls hl => ?_)
                    refine lv_goto (tgt := 38) B.1 B.2.1 dX10_nearest_107 (by decide) ?_
                    have hv35 : ((-2147483648 : Int) ≤ x16 ∧ (x16 : Int) ≤ 2147483647) ∧ ((-2147483648 : Int) ≤ v38_3 + 1 ∧ (v38_3 + 1 : Int) ≤ 2147483647) ∧ (1 ≤ (v38_3 + 1)) ∧ (0 ≤ 2147483647 - (v38_3 + 1)) := by first | omega | exact ⟨by first | omega | assumption | exact trivial, by first | omega | assumption | exact trivial, by first | omega | assumption | exact trivial, by first | omega | assumption | exact trivial⟩
                    exact IH38 x16 (v38_3 + 1) ls (lv_sub hl [4, 5, 1, 0] rfl) hv35.1 hv35.2.1 hv35.2.2.1 hv35.2.2.2 (by omega)
        have hv36 : ((-2147483648 : Int) ≤ x12 ∧ (x12 : Int) ≤ 2147483647) ∧ ((-2147483648 : Int) ≤ 1 ∧ (1 : Int) ≤ 2147483647) ∧ (1 ≤ (1 : Int)) ∧ (0 ≤ 2147483647 - (1 : Int)) := by first | omega | exact ⟨by first | omega | assumption | exact trivial, by first | omega | assumption | exact trivial, by first | omega | assumption | exact trivial, by first | omega | assumption | exact trivial⟩
        exact LL38 (Int.toNat (2147483647 - (1 : Int) + 1)) x12 1 ls (lv_sub hl [2, 3, 1, 0] rfl) hv36.1 hv36.2.1 hv36.2.2.1 hv36.2.2.2 (by omega)
      · refine q_con B dX10_nearest_27 ?_
        refine p_iret B dX10_nearest_28 ?_
        rw [← hPST]
        exact ⟨(0), rfl, by omega, by first | omega | assumption | exact trivial⟩

set_option maxHeartbeats 200000000 in
set_option maxRecDepth 20000 in
theorem k_X10_readsHere (l : Launch) (D : va_G) (dA : Nat → ClassId) (eA : Nat) (L : List Nat) (T N : Nat → Nat) (I : Nat → Nat → Int) (J : Nat → Nat → Int64) (R : Nat → Nat → Nat) (a_this : Nat) (t_this : T a_this = 9) (a_member : Int) (i_member : (-2147483648 : Int) ≤ a_member ∧ a_member ≤ 2147483647) : PC l yX10_readsHere cX10_readsHere 2 (some .boolean) ({ frames := 1, cells := 0, slots := 0, locals := 21 }) D dA eA L T N I J R [.ref a_this, .int (II a_member)] (rI (fun r => (0 : Int) ≤ r ∧ r ≤ 1 ∧ (True))) := by
  generalize hPST : (rI (fun r => (0 : Int) ≤ r ∧ r ≤ 1 ∧ (True))) = PST
  refine p_enter (own := RX10) (by decide) rfl (Nat.le_of_ble_eq_true rfl) (fun p e s m args below meth c ls B hX hM hl => ?_)
  have hA : ∀ q, s.heap.size ≤ q → cF dA L T N I J R s.heap.size q := fun q h => Or.inr h
  have hl : lv_has ls 2 [(0, .ref a_this), (1, .int (II a_member))] := hl
  refine lv_aload_n B.1 B.2.1 dX10_readsHere_0 rfl (lv_at hl 0 rfl) ?_
  obtain ⟨x1, e2⟩ : ∃ v, I a_this 0 = v := ⟨_, rfl⟩
  have r3 : (-2147483648 : Int) ≤ x1 ∧ x1 ≤ 2147483647 := by rw [← e2]; exact g9_0 hM.2.2.2.2.2.2.1 t_this
  refine c_geti (k := 0) pk_X10 B hM t_this kd9 rfl (by decide) fl_X10_9 dX10_readsHere_1 e2 ?_
  refine q_bip B dX10_readsHere_4 (by decide) ?_
  refine q_cne (tgt := 33) B dX10_readsHere_6 (by decide) (by unfold inr; omega) (by unfold inr; omega) (fun c4 => ?_) (fun c4 => ?_)
  · refine lv_aload_n B.1 B.2.1 dX10_readsHere_33 rfl (lv_at hl 0 rfl) ?_
    refine c_geti (k := 0) pk_X10 B hM t_this kd9 rfl (by decide) fl_X10_9 dX10_readsHere_34 e2 ?_
    refine q_bip B dX10_readsHere_37 (by decide) ?_
    refine q_cne (tgt := 55) B dX10_readsHere_39 (by decide) (by unfold inr; omega) (by unfold inr; omega) (fun c5 => ?_) (fun c5 => ?_)
    · refine q_con B dX10_readsHere_55 ?_
      refine p_zret B dX10_readsHere_56 (by omega) (by omega) ?_
      rw [← hPST]
      exact ⟨(0), rfl, by omega, by omega, by omega, by first | omega | assumption | exact trivial⟩
    · refine lv_aload_n B.1 B.2.1 dX10_readsHere_42 rfl (lv_at hl 0 rfl) ?_
      refine q_con B dX10_readsHere_43 ?_
      refine p_calli (c_runV (n := 1) (as := [.int (II 2)]) (rest := []) B hX hA hM hl.1 t_this kd9 rfl (k_X10_read l D dA eA L T N I J R a_this t_this (2) (by first | omega | assumption | exact trivial) _ _) ml_X10_52 nm_X10_read ⟨rfl, rfl⟩ ⟨Nat.le_of_ble_eq_true rfl, Nat.le_of_ble_eq_true rfl⟩ dX10_readsHere_44 rfl rfl (Nat.le_of_ble_eq_true rfl) ⟨Nat.zero_le _, Nat.zero_le _⟩) (fun x7 ix7 hp6 => ?_)
      have hp6a := hp6
      clear hp6a
      refine lv_iload_n B.1 B.2.1 dX10_readsHere_47 rfl (lv_at hl 1 rfl) ?_
      refine q_cne (tgt := 55) B dX10_readsHere_48 (by decide) (by unfold inr; omega) (by unfold inr; omega) (fun c8 => ?_) (fun c8 => ?_)
      · refine q_con B dX10_readsHere_55 ?_
        refine p_zret B dX10_readsHere_56 (by omega) (by omega) ?_
        rw [← hPST]
        exact ⟨(0), rfl, by omega, by omega, by omega, by first | omega | assumption | exact trivial⟩
      · refine q_con B dX10_readsHere_51 ?_
        refine lv_goto (tgt := 56) B.1 B.2.1 dX10_readsHere_52 (by decide) ?_
        refine p_zret B dX10_readsHere_56 (by omega) (by omega) ?_
        rw [← hPST]
        exact ⟨(1), rfl, by omega, by omega, by omega, by first | omega | assumption | exact trivial⟩
  · refine lv_aload_n B.1 B.2.1 dX10_readsHere_9 rfl (lv_at hl 0 rfl) ?_
    refine q_con B dX10_readsHere_10 ?_
    refine p_calli (c_runV (n := 1) (as := [.int (II 0)]) (rest := []) B hX hA hM hl.1 t_this kd9 rfl (k_X10_read l D dA eA L T N I J R a_this t_this (0) (by first | omega | assumption | exact trivial) _ _) ml_X10_52 nm_X10_read ⟨rfl, rfl⟩ ⟨Nat.le_of_ble_eq_true rfl, Nat.le_of_ble_eq_true rfl⟩ dX10_readsHere_11 rfl rfl (Nat.le_of_ble_eq_true rfl) ⟨Nat.zero_le _, Nat.zero_le _⟩) (fun x10 ix10 hp9 => ?_)
    have hp9a := hp9
    clear hp9a
    refine lv_iload_n B.1 B.2.1 dX10_readsHere_14 rfl (lv_at hl 1 rfl) ?_
    refine q_ceq (tgt := 27) B dX10_readsHere_15 (by decide) (by unfold inr; omega) (by unfold inr; omega) (fun c11 => ?_) (fun c11 => ?_)
    · refine q_con B dX10_readsHere_27 ?_
      refine lv_goto (tgt := 32) B.1 B.2.1 dX10_readsHere_28 (by decide) ?_
      refine p_zret B dX10_readsHere_32 (by omega) (by omega) ?_
      rw [← hPST]
      exact ⟨(1), rfl, by omega, by omega, by omega, by first | omega | assumption | exact trivial⟩
    · refine lv_aload_n B.1 B.2.1 dX10_readsHere_18 rfl (lv_at hl 0 rfl) ?_
      refine q_con B dX10_readsHere_19 ?_
      refine p_calli (c_runV (n := 1) (as := [.int (II 1)]) (rest := []) B hX hA hM hl.1 t_this kd9 rfl (k_X10_read l D dA eA L T N I J R a_this t_this (1) (by first | omega | assumption | exact trivial) _ _) ml_X10_52 nm_X10_read ⟨rfl, rfl⟩ ⟨Nat.le_of_ble_eq_true rfl, Nat.le_of_ble_eq_true rfl⟩ dX10_readsHere_20 rfl rfl (Nat.le_of_ble_eq_true rfl) ⟨Nat.zero_le _, Nat.zero_le _⟩) (fun x13 ix13 hp12 => ?_)
      have hp12a := hp12
      clear hp12a
      refine lv_iload_n B.1 B.2.1 dX10_readsHere_23 rfl (lv_at hl 1 rfl) ?_
      refine q_cne (tgt := 31) B dX10_readsHere_24 (by decide) (by unfold inr; omega) (by unfold inr; omega) (fun c14 => ?_) (fun c14 => ?_)
      · refine q_con B dX10_readsHere_31 ?_
        refine p_zret B dX10_readsHere_32 (by omega) (by omega) ?_
        rw [← hPST]
        exact ⟨(0), rfl, by omega, by omega, by omega, by first | omega | assumption | exact trivial⟩
      · refine q_con B dX10_readsHere_27 ?_
        refine lv_goto (tgt := 32) B.1 B.2.1 dX10_readsHere_28 (by decide) ?_
        refine p_zret B dX10_readsHere_32 (by omega) (by omega) ?_
        rw [← hPST]
        exact ⟨(1), rfl, by omega, by omega, by omega, by first | omega | assumption | exact trivial⟩

set_option maxHeartbeats 200000000 in
set_option maxRecDepth 20000 in
theorem k_X10_readsInList (l : Launch) (D : va_G) (dA : Nat → ClassId) (eA : Nat) (L : List Nat) (T N : Nat → Nat) (I : Nat → Nat → Int) (J : Nat → Nat → Int64) (R : Nat → Nat → Nat) (a_this : Nat) (t_this : T a_this = 9) (a_member : Int) (i_member : (-2147483648 : Int) ≤ a_member ∧ a_member ≤ 2147483647) : PC l yX10_readsInList cX10_readsInList 2 (some .boolean) ({ frames := 1, cells := 0, slots := 0, locals := 21 }) D dA eA L T N I J R [.ref a_this, .int (II a_member)] (rI (fun r => (0 : Int) ≤ r ∧ r ≤ 1 ∧ (True))) := by
  generalize hPST : (rI (fun r => (0 : Int) ≤ r ∧ r ≤ 1 ∧ (True))) = PST
  refine p_enter (own := RX10) (by decide) rfl (Nat.le_of_ble_eq_true rfl) (fun p e s m args below meth c ls B hX hM hl => ?_)
  have hA : ∀ q, s.heap.size ≤ q → cF dA L T N I J R s.heap.size q := fun q h => Or.inr h
  have hl : lv_has ls 2 [(0, .ref a_this), (1, .int (II a_member))] := hl
  refine lv_aload_n B.1 B.2.1 dX10_readsInList_0 rfl (lv_at hl 0 rfl) ?_
  obtain ⟨x1, e2⟩ : ∃ v, I a_this 0 = v := ⟨_, rfl⟩
  have r3 : (-2147483648 : Int) ≤ x1 ∧ x1 ≤ 2147483647 := by rw [← e2]; exact g9_0 hM.2.2.2.2.2.2.1 t_this
  refine c_geti (k := 0) pk_X10 B hM t_this kd9 rfl (by decide) fl_X10_9 dX10_readsInList_1 e2 ?_
  refine q_bip B dX10_readsInList_4 (by decide) ?_
  refine q_cne (tgt := 22) B dX10_readsInList_6 (by decide) (by unfold inr; omega) (by unfold inr; omega) (fun c4 => ?_) (fun c4 => ?_)
  · refine q_con B dX10_readsInList_22 ?_
    refine p_zret B dX10_readsInList_23 (by omega) (by omega) ?_
    rw [← hPST]
    exact ⟨(0), rfl, by omega, by omega, by omega, by first | omega | assumption | exact trivial⟩
  · refine lv_aload_n B.1 B.2.1 dX10_readsInList_9 rfl (lv_at hl 0 rfl) ?_
    refine q_con B dX10_readsInList_10 ?_
    refine p_calli (c_runV (n := 1) (as := [.int (II 1)]) (rest := []) B hX hA hM hl.1 t_this kd9 rfl (k_X10_read l D dA eA L T N I J R a_this t_this (1) (by first | omega | assumption | exact trivial) _ _) ml_X10_52 nm_X10_read ⟨rfl, rfl⟩ ⟨Nat.le_of_ble_eq_true rfl, Nat.le_of_ble_eq_true rfl⟩ dX10_readsInList_11 rfl rfl (Nat.le_of_ble_eq_true rfl) ⟨Nat.zero_le _, Nat.zero_le _⟩) (fun x6 ix6 hp5 => ?_)
    have hp5a := hp5
    clear hp5a
    refine lv_iload_n B.1 B.2.1 dX10_readsInList_14 rfl (lv_at hl 1 rfl) ?_
    refine q_cne (tgt := 22) B dX10_readsInList_15 (by decide) (by unfold inr; omega) (by unfold inr; omega) (fun c7 => ?_) (fun c7 => ?_)
    · refine q_con B dX10_readsInList_22 ?_
      refine p_zret B dX10_readsInList_23 (by omega) (by omega) ?_
      rw [← hPST]
      exact ⟨(0), rfl, by omega, by omega, by omega, by first | omega | assumption | exact trivial⟩
    · refine q_con B dX10_readsInList_18 ?_
      refine lv_goto (tgt := 23) B.1 B.2.1 dX10_readsInList_19 (by decide) ?_
      refine p_zret B dX10_readsInList_23 (by omega) (by omega) ?_
      rw [← hPST]
      exact ⟨(1), rfl, by omega, by omega, by omega, by first | omega | assumption | exact trivial⟩

set_option maxHeartbeats 200000000 in
set_option maxRecDepth 20000 in
theorem k_X9_isLetter (l : Launch) (D : va_G) (dA : Nat → ClassId) (eA : Nat) (L : List Nat) (T N : Nat → Nat) (I : Nat → Nat → Int) (J : Nat → Nat → Int64) (R : Nat → Nat → Nat) (a_b : Int) (i_b : (-2147483648 : Int) ≤ a_b ∧ a_b ≤ 2147483647) : PC l yX9_isLetter cX9_isLetter 1 (some .boolean) ({ frames := 0, cells := 0, slots := 0, locals := 0 }) D dA eA L T N I J R [.int (II a_b)] (rI (fun r => (0 : Int) ≤ r ∧ r ≤ 1 ∧ (r = 1 → 97 ≤ a_b ∧ a_b ≤ 122))) := by
  generalize hPST : (rI (fun r => (0 : Int) ≤ r ∧ r ≤ 1 ∧ (r = 1 → 97 ≤ a_b ∧ a_b ≤ 122))) = PST
  refine p_enter (own := RX9) (by decide) rfl (Nat.le_of_ble_eq_true rfl) (fun p e s m args below meth c ls B hX hM hl => ?_)
  have hA : ∀ q, s.heap.size ≤ q → cF dA L T N I J R s.heap.size q := fun q h => Or.inr h
  have hl : lv_has ls 1 [(0, .int (II a_b))] := hl
  refine lv_iload_n B.1 B.2.1 dX9_isLetter_0 rfl (lv_at hl 0 rfl) ?_
  refine q_bip B dX9_isLetter_1 (by decide) ?_
  refine q_clt (tgt := 16) B dX9_isLetter_3 (by decide) (by unfold inr; omega) (by unfold inr; omega) (fun c1 => ?_) (fun c1 => ?_)
  · refine q_con B dX9_isLetter_16 ?_
    refine p_zret B dX9_isLetter_17 (by omega) (by omega) ?_
    rw [← hPST]
    exact ⟨(0), rfl, by omega, by omega, by omega, by first | omega | assumption | exact trivial⟩
  · refine lv_iload_n B.1 B.2.1 dX9_isLetter_6 rfl (lv_at hl 0 rfl) ?_
    refine q_bip B dX9_isLetter_7 (by decide) ?_
    refine q_cgt (tgt := 16) B dX9_isLetter_9 (by decide) (by unfold inr; omega) (by unfold inr; omega) (fun c2 => ?_) (fun c2 => ?_)
    · refine q_con B dX9_isLetter_16 ?_
      refine p_zret B dX9_isLetter_17 (by omega) (by omega) ?_
      rw [← hPST]
      exact ⟨(0), rfl, by omega, by omega, by omega, by first | omega | assumption | exact trivial⟩
    · refine q_con B dX9_isLetter_12 ?_
      refine lv_goto (tgt := 17) B.1 B.2.1 dX9_isLetter_13 (by decide) ?_
      refine p_zret B dX9_isLetter_17 (by omega) (by omega) ?_
      rw [← hPST]
      exact ⟨(1), rfl, by omega, by omega, by omega, by first | omega | assumption | exact trivial⟩

set_option maxHeartbeats 200000000 in
set_option maxRecDepth 20000 in
theorem k_X9_isDigit (l : Launch) (D : va_G) (dA : Nat → ClassId) (eA : Nat) (L : List Nat) (T N : Nat → Nat) (I : Nat → Nat → Int) (J : Nat → Nat → Int64) (R : Nat → Nat → Nat) (a_b : Int) (i_b : (-2147483648 : Int) ≤ a_b ∧ a_b ≤ 2147483647) : PC l yX9_isDigit cX9_isDigit 1 (some .boolean) ({ frames := 0, cells := 0, slots := 0, locals := 0 }) D dA eA L T N I J R [.int (II a_b)] (rI (fun r => (0 : Int) ≤ r ∧ r ≤ 1 ∧ (r = 1 → 48 ≤ a_b ∧ a_b ≤ 57))) := by
  generalize hPST : (rI (fun r => (0 : Int) ≤ r ∧ r ≤ 1 ∧ (r = 1 → 48 ≤ a_b ∧ a_b ≤ 57))) = PST
  refine p_enter (own := RX9) (by decide) rfl (Nat.le_of_ble_eq_true rfl) (fun p e s m args below meth c ls B hX hM hl => ?_)
  have hA : ∀ q, s.heap.size ≤ q → cF dA L T N I J R s.heap.size q := fun q h => Or.inr h
  have hl : lv_has ls 1 [(0, .int (II a_b))] := hl
  refine lv_iload_n B.1 B.2.1 dX9_isDigit_0 rfl (lv_at hl 0 rfl) ?_
  refine q_bip B dX9_isDigit_1 (by decide) ?_
  refine q_clt (tgt := 16) B dX9_isDigit_3 (by decide) (by unfold inr; omega) (by unfold inr; omega) (fun c1 => ?_) (fun c1 => ?_)
  · refine q_con B dX9_isDigit_16 ?_
    refine p_zret B dX9_isDigit_17 (by omega) (by omega) ?_
    rw [← hPST]
    exact ⟨(0), rfl, by omega, by omega, by omega, by first | omega | assumption | exact trivial⟩
  · refine lv_iload_n B.1 B.2.1 dX9_isDigit_6 rfl (lv_at hl 0 rfl) ?_
    refine q_bip B dX9_isDigit_7 (by decide) ?_
    refine q_cgt (tgt := 16) B dX9_isDigit_9 (by decide) (by unfold inr; omega) (by unfold inr; omega) (fun c2 => ?_) (fun c2 => ?_)
    · refine q_con B dX9_isDigit_16 ?_
      refine p_zret B dX9_isDigit_17 (by omega) (by omega) ?_
      rw [← hPST]
      exact ⟨(0), rfl, by omega, by omega, by omega, by first | omega | assumption | exact trivial⟩
    · refine q_con B dX9_isDigit_12 ?_
      refine lv_goto (tgt := 17) B.1 B.2.1 dX9_isDigit_13 (by decide) ?_
      refine p_zret B dX9_isDigit_17 (by omega) (by omega) ?_
      rw [← hPST]
      exact ⟨(1), rfl, by omega, by omega, by omega, by first | omega | assumption | exact trivial⟩

set_option maxHeartbeats 200000000 in
set_option maxRecDepth 20000 in
theorem k_X0_maskOf (l : Launch) (D : va_G) (dA : Nat → ClassId) (eA : Nat) (L : List Nat) (T N : Nat → Nat) (I : Nat → Nat → Int) (J : Nat → Nat → Int64) (R : Nat → Nat → Nat) (a_this : Nat) (t_this : T a_this = 6) (a_group : Int) (i_group : (-2147483648 : Int) ≤ a_group ∧ a_group ≤ 2147483647) : PC l yX0_maskOf cX0_maskOf 2 (some .int) ({ frames := 0, cells := 0, slots := 0, locals := 0 }) D dA eA L T N I J R [.ref a_this, .int (II a_group)] (rI (fun r => True)) := by
  generalize hPST : (rI (fun r => True)) = PST
  refine p_enter (own := RX0) (by decide) rfl (Nat.le_of_ble_eq_true rfl) (fun p e s m args below meth c ls B hX hM hl => ?_)
  have hA : ∀ q, s.heap.size ≤ q → cF dA L T N I J R s.heap.size q := fun q h => Or.inr h
  have hl : lv_has ls 2 [(0, .ref a_this), (1, .int (II a_group))] := hl
  refine lv_iload_n B.1 B.2.1 dX0_maskOf_0 rfl (lv_at hl 1 rfl) ?_
  refine q_ilt (tgt := 19) B dX0_maskOf_1 (by decide) (by unfold inr; omega) (fun c1 => ?_) (fun c1 => ?_)
  · refine q_con B dX0_maskOf_19 ?_
    refine p_iret B dX0_maskOf_20 ?_
    rw [← hPST]
    exact ⟨(0), rfl, by omega, by first | omega | assumption | exact trivial⟩
  · refine lv_iload_n B.1 B.2.1 dX0_maskOf_4 rfl (lv_at hl 1 rfl) ?_
    refine q_bip B dX0_maskOf_5 (by decide) ?_
    refine q_cge (tgt := 19) B dX0_maskOf_7 (by decide) (by unfold inr; omega) (by unfold inr; omega) (fun c2 => ?_) (fun c2 => ?_)
    · refine q_con B dX0_maskOf_19 ?_
      refine p_iret B dX0_maskOf_20 ?_
      rw [← hPST]
      exact ⟨(0), rfl, by omega, by first | omega | assumption | exact trivial⟩
    · refine lv_aload_n B.1 B.2.1 dX0_maskOf_10 rfl (lv_at hl 0 rfl) ?_
      obtain ⟨b3, e4, t5⟩ := g6_8 hM.2.2.2.2.2.2.1 t_this
      refine c_getn (k := 8) pk_X0 B hM t_this kd6 rfl (by decide) fl_X0_33 dX0_maskOf_11 e4 ?_
      refine lv_iload_n B.1 B.2.1 dX0_maskOf_14 rfl (lv_at hl 1 rfl) ?_
      have n6 : 8 ≤ N b3 ∧ N b3 ≤ 8 := gn70 hM.2.2.2.2.2.2.1 t5
      obtain ⟨x7, e8⟩ : ∃ v, I b3 a_group.toNat = v := ⟨_, rfl⟩
      have r9 : (-2147483648 : Int) ≤ x7 ∧ x7 ≤ 2147483647 := by rw [← e8]; exact ga70 hM.2.2.2.2.2.2.1 t5 (by omega)
      refine c_ild B hM t5 kd70 (by decide) dX0_maskOf_15 (by omega) (by omega) e8 ?_
      refine lv_goto (tgt := 20) B.1 B.2.1 dX0_maskOf_16 (by decide) ?_
      refine p_iret B dX0_maskOf_20 ?_
      rw [← hPST]
      exact ⟨x7, rfl, by omega, by first | omega | assumption | exact trivial⟩

set_option maxHeartbeats 200000000 in
set_option maxRecDepth 20000 in
theorem k_X0_pack (l : Launch) (D : va_G) (dA : Nat → ClassId) (eA : Nat) (L : List Nat) (T N : Nat → Nat) (I : Nat → Nat → Int) (J : Nat → Nat → Int64) (R : Nat → Nat → Nat) (a_name : Int64) : PC l yX0_pack cX0_pack 7 (some .long) ({ frames := 0, cells := 0, slots := 0, locals := 0 }) D dA eA L T N I J R [.long a_name] (rL (fun r => True)) := by
  generalize hPST : (rL (fun r => True)) = PST
  refine p_enter (own := RX0) (by decide) rfl (Nat.le_of_ble_eq_true rfl) (fun p e s m args below meth c ls B hX hM hl => ?_)
  have hA : ∀ q, s.heap.size ≤ q → cF dA L T N I J R s.heap.size q := fun q h => Or.inr h
  have hl : lv_has ls 7 [(0, .long a_name)] := hl
  refine lv_lconst (v := 0) B.1 B.2.1 dX0_pack_0 (by decide) ?_
  refine lv_lstore_n (lv' := [(2, .long ((0 : Int64))), (0, .long a_name)]) B.1 B.2.1 dX0_pack_1 rfl hl (by decide) rfl (fun ls hl => ?_)
  refine q_bip B dX0_pack_2 (by decide) ?_
  refine lv_istore (lv' := [(4, .int (II 56)), (2, .long ((0 : Int64))), (0, .long a_name)]) B.1 B.2.1 dX0_pack_4 hl (by decide) rfl (fun ls hl => ?_)
  have LL6 : ∀ NN : Nat, ∀ (v6_2 : Int64) (v6_4 : Int) (ls : Array Slot), lv_has ls 7 [(0, .long a_name), (2, .long v6_2), (4, .int (II v6_4))] → ((-2147483648 : Int) ≤ v6_4 ∧ v6_4 ≤ 2147483647) → (-8 ≤ v6_4) → (v6_4 ≤ 56) → (0 ≤ v6_4 + 8) → (v6_4 + 8 < (NN : Int)) → W p l e ({ frames := 0, cells := 0, slots := 0, locals := 0 }) s m args below meth c s.heap [] 0 0 (MQ below (pQ PST) args s 0 0 (fun _ => False)) (F0 m 6 ls []) := by
    intro NN
    induction NN with
    | zero => intro v6_2 v6_4 ls hl hLL6_0 hLL6_1 hLL6_2 hLL6_3 hN; exfalso; omega
    | succ NN IH6 =>
      intro v6_2 v6_4 ls hl hLL6_0 hLL6_1 hLL6_2 hLL6_3 hN
      refine lv_iload B.1 B.2.1 dX0_pack_6 (lv_at hl 2 rfl) ?_
      refine q_ilt (tgt := 42) B dX0_pack_8 (by decide) (by unfold inr; omega) (fun c1 => ?_) (fun c1 => ?_)
      · refine lv_lload_n B.1 B.2.1 dX0_pack_42 rfl (lv_at hl 1 rfl) ?_
        refine p_lret B dX0_pack_43 ?_
        rw [← hPST]
        exact ⟨v6_2, rfl, by first | omega | assumption | exact trivial⟩
      · refine lv_lload_n B.1 B.2.1 dX0_pack_11 rfl (lv_at hl 0 rfl) ?_
        refine lv_iload B.1 B.2.1 dX0_pack_12 (lv_at hl 2 rfl) ?_
        refine lv_lushr B.1 B.2.1 dX0_pack_14 rfl ?_
        refine lv_topl (fun w2 ew2 => ?_)
        refine lv_ldc2 B.1 B.2.1 B.2.2.2.1 (B.2.2.2.2.1 _ lc_X0_52) dX0_pack_15 ?_
        refine lv_land B.1 B.2.1 dX0_pack_18 ?_
        refine lv_topl (fun w3 ew3 => ?_)
        refine lv_lstore (lv' := [(5, .long w3), (0, .long a_name), (2, .long v6_2), (4, .int (II v6_4))]) B.1 B.2.1 dX0_pack_19 hl (by decide) rfl (fun ls hl => ?_)
        refine lv_lload B.1 B.2.1 dX0_pack_21 (lv_at hl 0 rfl) ?_
        refine lv_lconst (v := 0) B.1 B.2.1 dX0_pack_23 (by decide) ?_
        refine q_lcmp B dX0_pack_24 (fun x4 lx4 ux4 ex4 => ?_)
        refine q_ieq (tgt := 36) B dX0_pack_25 (by decide) (by unfold inr; omega) (fun c5 => ?_) (fun c5 => ?_)
        · refine q_inc (lv' := [(4, .int (II (v6_4 + (-8)))), (5, .long w3), (0, .long a_name), (2, .long v6_2)]) B dX0_pack_36 hl (k := 3) rfl (by decide) rfl (fun ls hl => ?_)
          refine lv_goto (tgt := 6) B.1 B.2.1 dX0_pack_39 (by decide) ?_
          have hv6 : ((-2147483648 : Int) ≤ v6_4 + (-8) ∧ (v6_4 + (-8) : Int) ≤ 2147483647) ∧ (-8 ≤ (v6_4 + (-8))) ∧ ((v6_4 + (-8)) ≤ 56) ∧ (0 ≤ (v6_4 + (-8)) + 8) := by first | omega | exact ⟨by first | omega | assumption | exact trivial, by first | omega | assumption | exact trivial, by first | omega | assumption | exact trivial, by first | omega | assumption | exact trivial⟩
          exact IH6 v6_2 (v6_4 + (-8)) ls (lv_sub hl [2, 3, 0] rfl) hv6.1 hv6.2.1 hv6.2.2.1 hv6.2.2.2 (by omega)
        · refine lv_lload_n B.1 B.2.1 dX0_pack_28 rfl (lv_at hl 2 rfl) ?_
          refine q_bip B dX0_pack_29 (by decide) ?_
          refine lv_lshl B.1 B.2.1 dX0_pack_31 rfl ?_
          refine lv_topl (fun w7 ew7 => ?_)
          refine lv_lload B.1 B.2.1 dX0_pack_32 (lv_at hl 0 rfl) ?_
          refine lv_lor B.1 B.2.1 dX0_pack_34 ?_
          refine lv_topl (fun w8 ew8 => ?_)
          refine lv_lstore_n (lv' := [(2, .long w8), (5, .long w3), (0, .long a_name), (4, .int (II v6_4))]) B.1 B.2.1 dX0_pack_35 rfl hl (by decide) rfl (fun ls hl => ?_)
          refine q_inc (lv' := [(4, .int (II (v6_4 + (-8)))), (2, .long w8), (5, .long w3), (0, .long a_name)]) B dX0_pack_36 hl (k := 3) rfl (by decide) rfl (fun ls hl => ?_)
          refine lv_goto (tgt := 6) B.1 B.2.1 dX0_pack_39 (by decide) ?_
          have hv9 : ((-2147483648 : Int) ≤ v6_4 + (-8) ∧ (v6_4 + (-8) : Int) ≤ 2147483647) ∧ (-8 ≤ (v6_4 + (-8))) ∧ ((v6_4 + (-8)) ≤ 56) ∧ (0 ≤ (v6_4 + (-8)) + 8) := by first | omega | exact ⟨by first | omega | assumption | exact trivial, by first | omega | assumption | exact trivial, by first | omega | assumption | exact trivial, by first | omega | assumption | exact trivial⟩
          exact IH6 w8 (v6_4 + (-8)) ls (lv_sub hl [3, 1, 0] rfl) hv9.1 hv9.2.1 hv9.2.2.1 hv9.2.2.2 (by omega)
  have hv10 : ((-2147483648 : Int) ≤ 56 ∧ (56 : Int) ≤ 2147483647) ∧ (-8 ≤ (56 : Int)) ∧ ((56 : Int) ≤ 56) ∧ (0 ≤ (56 : Int) + 8) := by first | omega | exact ⟨by first | omega | assumption | exact trivial, by first | omega | assumption | exact trivial, by first | omega | assumption | exact trivial, by first | omega | assumption | exact trivial⟩
  exact LL6 (Int.toNat ((56 : Int) + 8 + 1)) ((0 : Int64)) 56 ls (lv_sub hl [2, 1, 0] rfl) hv10.1 hv10.2.1 hv10.2.2.1 hv10.2.2.2 (by omega)

set_option maxHeartbeats 200000000 in
set_option maxRecDepth 20000 in
theorem k_X0_find (l : Launch) (D : va_G) (dA : Nat → ClassId) (eA : Nat) (L : List Nat) (T N : Nat → Nat) (I : Nat → Nat → Int) (J : Nat → Nat → Int64) (R : Nat → Nat → Nat) (a_this : Nat) (t_this : T a_this = 6) (a_name : Int64) : PC l yX0_find cX0_find 4 (some .int) ({ frames := 0, cells := 0, slots := 0, locals := 0 }) D dA eA L T N I J R [.ref a_this, .long a_name] (rI (fun r => True)) := by
  generalize hPST : (rI (fun r => True)) = PST
  refine p_enter (own := RX0) (by decide) rfl (Nat.le_of_ble_eq_true rfl) (fun p e s m args below meth c ls B hX hM hl => ?_)
  have hA : ∀ q, s.heap.size ≤ q → cF dA L T N I J R s.heap.size q := fun q h => Or.inr h
  have hl : lv_has ls 4 [(0, .ref a_this), (1, .long a_name)] := hl
  refine q_con B dX0_find_0 ?_
  refine lv_istore_n (lv' := [(3, .int (II 0)), (0, .ref a_this), (1, .long a_name)]) B.1 B.2.1 dX0_find_1 rfl hl (by decide) rfl (fun ls hl => ?_)
  have LL2 : ∀ NN : Nat, ∀ (v2_3 : Int) (ls : Array Slot), lv_has ls 4 [(0, .ref a_this), (1, .long a_name), (3, .int (II v2_3))] → ((-2147483648 : Int) ≤ v2_3 ∧ v2_3 ≤ 2147483647) → (0 ≤ v2_3) → (0 ≤ 62 - v2_3) → (62 - v2_3 < (NN : Int)) → W p l e ({ frames := 0, cells := 0, slots := 0, locals := 0 }) s m args below meth c s.heap [] 0 0 (MQ below (pQ PST) args s 0 0 (fun _ => False)) (F0 m 2 ls []) := by
    intro NN
    induction NN with
    | zero => intro v2_3 ls hl hLL2_0 hLL2_1 hLL2_2 hN; exfalso; omega
    | succ NN IH2 =>
      intro v2_3 ls hl hLL2_0 hLL2_1 hLL2_2 hN
      refine lv_iload_n B.1 B.2.1 dX0_find_2 rfl (lv_at hl 2 rfl) ?_
      refine lv_aload_n B.1 B.2.1 dX0_find_3 rfl (lv_at hl 0 rfl) ?_
      obtain ⟨x1, e2⟩ : ∃ v, I a_this 11 = v := ⟨_, rfl⟩
      have r3 : (0 : Int) ≤ x1 ∧ x1 ≤ 62 := by rw [← e2]; exact g6_11 hM.2.2.2.2.2.2.1 t_this
      refine c_geti (k := 11) pk_X0 B hM t_this kd6 rfl (by decide) fl_X0_49 dX0_find_4 e2 ?_
      refine q_cge (tgt := 34) B dX0_find_7 (by decide) (by unfold inr; omega) (by unfold inr; omega) (fun c4 => ?_) (fun c4 => ?_)
      · refine q_con B dX0_find_34 ?_
        refine p_iret B dX0_find_35 ?_
        rw [← hPST]
        exact ⟨(-1), rfl, by omega, by first | omega | assumption | exact trivial⟩
      · refine lv_aload_n B.1 B.2.1 dX0_find_10 rfl (lv_at hl 0 rfl) ?_
        obtain ⟨b5, e6, t7⟩ := g6_9 hM.2.2.2.2.2.2.1 t_this
        refine c_getn (k := 9) pk_X0 B hM t_this kd6 rfl (by decide) fl_X0_36 dX0_find_11 e6 ?_
        refine lv_iload_n B.1 B.2.1 dX0_find_14 rfl (lv_at hl 2 rfl) ?_
        have n8 : 62 ≤ N b5 ∧ N b5 ≤ 62 := gn71 hM.2.2.2.2.2.2.1 t7
        obtain ⟨w9, e10⟩ : ∃ v, J b5 v2_3.toNat = v := ⟨_, rfl⟩
        refine c_lld B hM t7 kd71 (by decide) dX0_find_15 (by omega) (by omega) e10 ?_
        refine lv_lload_n B.1 B.2.1 dX0_find_16 rfl (lv_at hl 1 rfl) ?_
        refine q_lcmp B dX0_find_17 (fun x11 lx11 ux11 ex11 => ?_)
        refine q_ine (tgt := 28) B dX0_find_18 (by decide) (by unfold inr; omega) (fun c12 => ?_) (fun c12 => ?_)
        · refine q_inc (lv' := [(3, .int (II (v2_3 + 1))), (0, .ref a_this), (1, .long a_name)]) B dX0_find_28 hl (k := 2) rfl (by decide) rfl (fun ls hl => ?_)
          refine lv_goto (tgt := 2) B.1 B.2.1 dX0_find_31 (by decide) ?_
          have hv13 : ((-2147483648 : Int) ≤ v2_3 + 1 ∧ (v2_3 + 1 : Int) ≤ 2147483647) ∧ (0 ≤ (v2_3 + 1)) ∧ (0 ≤ 62 - (v2_3 + 1)) := by first | omega | exact ⟨by first | omega | assumption | exact trivial, by first | omega | assumption | exact trivial, by first | omega | assumption | exact trivial⟩
          exact IH2 (v2_3 + 1) ls (lv_sub hl [1, 2, 0] rfl) hv13.1 hv13.2.1 hv13.2.2 (by omega)
        · refine lv_aload_n B.1 B.2.1 dX0_find_21 rfl (lv_at hl 0 rfl) ?_
          obtain ⟨b14, e15, t16⟩ := g6_10 hM.2.2.2.2.2.2.1 t_this
          refine c_getn (k := 10) pk_X0 B hM t_this kd6 rfl (by decide) fl_X0_40 dX0_find_22 e15 ?_
          refine lv_iload_n B.1 B.2.1 dX0_find_25 rfl (lv_at hl 2 rfl) ?_
          have n17 : 62 ≤ N b14 ∧ N b14 ≤ 62 := gn72 hM.2.2.2.2.2.2.1 t16
          obtain ⟨x18, e19⟩ : ∃ v, I b14 v2_3.toNat = v := ⟨_, rfl⟩
          have r20 : (-2147483648 : Int) ≤ x18 ∧ x18 ≤ 2147483647 := by rw [← e19]; exact ga72 hM.2.2.2.2.2.2.1 t16 (by omega)
          refine c_ild B hM t16 kd72 (by decide) dX0_find_26 (by omega) (by omega) e19 ?_
          refine p_iret B dX0_find_27 ?_
          rw [← hPST]
          exact ⟨x18, rfl, by omega, by first | omega | assumption | exact trivial⟩
  have hv21 : ((-2147483648 : Int) ≤ 0 ∧ (0 : Int) ≤ 2147483647) ∧ (0 ≤ (0 : Int)) ∧ (0 ≤ 62 - (0 : Int)) := by first | omega | exact ⟨by first | omega | assumption | exact trivial, by first | omega | assumption | exact trivial, by first | omega | assumption | exact trivial⟩
  exact LL2 (Int.toNat (62 - (0 : Int) + 1)) 0 ls (lv_sub hl [1, 2, 0] rfl) hv21.1 hv21.2.1 hv21.2.2 (by omega)

set_option maxHeartbeats 200000000 in
set_option maxRecDepth 20000 in
theorem k_X11_countLetters (l : Launch) (D : va_G) (dA : Nat → ClassId) (eA : Nat) (L : List Nat) (T N : Nat → Nat) (I : Nat → Nat → Int) (J : Nat → Nat → Int64) (R : Nat → Nat → Nat) (a_letters : Int64) : PC l yX11_countLetters cX11_countLetters 5 (some .int) ({ frames := 0, cells := 0, slots := 0, locals := 0 }) D dA eA L T N I J R [.long a_letters] (rI (fun r => True)) := by
  generalize hPST : (rI (fun r => True)) = PST
  refine p_enter (own := RX11) (by decide) rfl (Nat.le_of_ble_eq_true rfl) (fun p e s m args below meth c ls B hX hM hl => ?_)
  have hA : ∀ q, s.heap.size ≤ q → cF dA L T N I J R s.heap.size q := fun q h => Or.inr h
  have hl : lv_has ls 5 [(0, .long a_letters)] := hl
  refine q_con B dX11_countLetters_0 ?_
  refine lv_istore_n (lv' := [(2, .int (II 0)), (0, .long a_letters)]) B.1 B.2.1 dX11_countLetters_1 rfl hl (by decide) rfl (fun ls hl => ?_)
  refine q_con B dX11_countLetters_2 ?_
  refine lv_istore_n (lv' := [(3, .int (II 0)), (2, .int (II 0)), (0, .long a_letters)]) B.1 B.2.1 dX11_countLetters_3 rfl hl (by decide) rfl (fun ls hl => ?_)
  have LL4 : ∀ NN : Nat, ∀ (v4_2 : Int) (v4_3 : Int) (ls : Array Slot), lv_has ls 5 [(0, .long a_letters), (2, .int (II v4_2)), (3, .int (II v4_3))] → ((-2147483648 : Int) ≤ v4_2 ∧ v4_2 ≤ 2147483647) → ((-2147483648 : Int) ≤ v4_3 ∧ v4_3 ≤ 2147483647) → (0 ≤ v4_3) → (v4_3 ≤ 71) → (0 ≤ v4_2) → (v4_2 ≤ v4_3) → (0 ≤ 72 - v4_3) → (72 - v4_3 < (NN : Int)) → W p l e ({ frames := 0, cells := 0, slots := 0, locals := 0 }) s m args below meth c s.heap [] 0 0 (MQ below (pQ PST) args s 0 0 (fun _ => False)) (F0 m 4 ls []) := by
    intro NN
    induction NN with
    | zero => intro v4_2 v4_3 ls hl hLL4_0 hLL4_1 hLL4_2 hLL4_3 hLL4_4 hLL4_5 hLL4_6 hN; exfalso; omega
    | succ NN IH4 =>
      intro v4_2 v4_3 ls hl hLL4_0 hLL4_1 hLL4_2 hLL4_3 hLL4_4 hLL4_5 hLL4_6 hN
      refine lv_iload_n B.1 B.2.1 dX11_countLetters_4 rfl (lv_at hl 2 rfl) ?_
      refine q_bip B dX11_countLetters_5 (by decide) ?_
      refine q_cge (tgt := 55) B dX11_countLetters_7 (by decide) (by unfold inr; omega) (by unfold inr; omega) (fun c1 => ?_) (fun c1 => ?_)
      · refine lv_iload_n B.1 B.2.1 dX11_countLetters_55 rfl (lv_at hl 1 rfl) ?_
        refine p_iret B dX11_countLetters_56 ?_
        rw [← hPST]
        exact ⟨v4_2, rfl, by omega, by first | omega | assumption | exact trivial⟩
      · refine lv_lload_n B.1 B.2.1 dX11_countLetters_10 rfl (lv_at hl 0 rfl) ?_
        refine lv_iload_n B.1 B.2.1 dX11_countLetters_11 rfl (lv_at hl 2 rfl) ?_
        refine lv_lushr B.1 B.2.1 dX11_countLetters_12 rfl ?_
        refine lv_topl (fun w2 ew2 => ?_)
        refine q_l2i B dX11_countLetters_13 (fun x3 ix3 => ?_)
        unfold inr at ix3
        refine q_sip B dX11_countLetters_14 (by decide) ?_
        refine q_andm B dX11_countLetters_17 (by decide) (inr_lit rfl) (fun x4 ix4 lx4 ux4 => ?_)
        unfold inr at ix4
        refine lv_istore (lv' := [(4, .int (II x4)), (0, .long a_letters), (2, .int (II v4_2)), (3, .int (II v4_3))]) B.1 B.2.1 dX11_countLetters_18 hl (by decide) rfl (fun ls hl => ?_)
        refine lv_iload B.1 B.2.1 dX11_countLetters_20 (lv_at hl 0 rfl) ?_
        refine q_ieq (tgt := 41) B dX11_countLetters_22 (by decide) (by unfold inr; omega) (fun c5 => ?_) (fun c5 => ?_)
        · refine lv_iload B.1 B.2.1 dX11_countLetters_41 (lv_at hl 0 rfl) ?_
          refine q_ieq (tgt := 49) B dX11_countLetters_43 (by decide) (by unfold inr; omega) (fun c6 => ?_) (fun c6 => ?_)
          · refine q_inc (lv' := [(3, .int (II (v4_3 + 8))), (4, .int (II x4)), (0, .long a_letters), (2, .int (II v4_2))]) B dX11_countLetters_49 hl (k := 3) rfl (by decide) rfl (fun ls hl => ?_)
            refine lv_goto (tgt := 4) B.1 B.2.1 dX11_countLetters_52 (by decide) ?_
            have hv7 : ((-2147483648 : Int) ≤ v4_2 ∧ (v4_2 : Int) ≤ 2147483647) ∧ ((-2147483648 : Int) ≤ v4_3 + 8 ∧ (v4_3 + 8 : Int) ≤ 2147483647) ∧ (0 ≤ (v4_3 + 8)) ∧ ((v4_3 + 8) ≤ 71) ∧ (0 ≤ v4_2) ∧ (v4_2 ≤ (v4_3 + 8)) ∧ (0 ≤ 72 - (v4_3 + 8)) := by first | omega | exact ⟨by first | omega | assumption | exact trivial, by first | omega | assumption | exact trivial, by first | omega | assumption | exact trivial, by first | omega | assumption | exact trivial, by first | omega | assumption | exact trivial, by first | omega | assumption | exact trivial, by first | omega | assumption | exact trivial⟩
            exact IH4 v4_2 (v4_3 + 8) ls (lv_sub hl [2, 3, 0] rfl) hv7.1 hv7.2.1 hv7.2.2.1 hv7.2.2.2.1 hv7.2.2.2.2.1 hv7.2.2.2.2.2.1 hv7.2.2.2.2.2.2 (by omega)
          · refine q_inc (lv' := [(2, .int (II (v4_2 + 1))), (4, .int (II x4)), (0, .long a_letters), (3, .int (II v4_3))]) B dX11_countLetters_46 hl (k := 2) rfl (by decide) rfl (fun ls hl => ?_)
            refine q_inc (lv' := [(3, .int (II (v4_3 + 8))), (2, .int (II (v4_2 + 1))), (4, .int (II x4)), (0, .long a_letters)]) B dX11_countLetters_49 hl (k := 3) rfl (by decide) rfl (fun ls hl => ?_)
            refine lv_goto (tgt := 4) B.1 B.2.1 dX11_countLetters_52 (by decide) ?_
            have hv8 : ((-2147483648 : Int) ≤ v4_2 + 1 ∧ (v4_2 + 1 : Int) ≤ 2147483647) ∧ ((-2147483648 : Int) ≤ v4_3 + 8 ∧ (v4_3 + 8 : Int) ≤ 2147483647) ∧ (0 ≤ (v4_3 + 8)) ∧ ((v4_3 + 8) ≤ 71) ∧ (0 ≤ (v4_2 + 1)) ∧ ((v4_2 + 1) ≤ (v4_3 + 8)) ∧ (0 ≤ 72 - (v4_3 + 8)) := by first | omega | exact ⟨by first | omega | assumption | exact trivial, by first | omega | assumption | exact trivial, by first | omega | assumption | exact trivial, by first | omega | assumption | exact trivial, by first | omega | assumption | exact trivial, by first | omega | assumption | exact trivial, by first | omega | assumption | exact trivial⟩
            exact IH4 (v4_2 + 1) (v4_3 + 8) ls (lv_sub hl [3, 1, 0] rfl) hv8.1 hv8.2.1 hv8.2.2.1 hv8.2.2.2.1 hv8.2.2.2.2.1 hv8.2.2.2.2.2.1 hv8.2.2.2.2.2.2 (by omega)
        · refine lv_iload B.1 B.2.1 dX11_countLetters_25 (lv_at hl 0 rfl) ?_
          refine q_bip B dX11_countLetters_27 (by decide) ?_
          refine q_clt (tgt := 39) B dX11_countLetters_29 (by decide) (by unfold inr; omega) (by unfold inr; omega) (fun c9 => ?_) (fun c9 => ?_)
          · refine q_con B dX11_countLetters_39 ?_
            refine p_iret B dX11_countLetters_40 ?_
            rw [← hPST]
            exact ⟨(-1), rfl, by omega, by first | omega | assumption | exact trivial⟩
          · refine lv_iload B.1 B.2.1 dX11_countLetters_32 (lv_at hl 0 rfl) ?_
            refine q_bip B dX11_countLetters_34 (by decide) ?_
            refine q_cle (tgt := 41) B dX11_countLetters_36 (by decide) (by unfold inr; omega) (by unfold inr; omega) (fun c10 => ?_) (fun c10 => ?_)
            · refine lv_iload B.1 B.2.1 dX11_countLetters_41 (lv_at hl 0 rfl) ?_
              refine q_ieq (tgt := 49) B dX11_countLetters_43 (by decide) (by unfold inr; omega) (fun c11 => ?_) (fun c11 => ?_)
              · refine q_inc (lv' := [(3, .int (II (v4_3 + 8))), (4, .int (II x4)), (0, .long a_letters), (2, .int (II v4_2))]) B dX11_countLetters_49 hl (k := 3) rfl (by decide) rfl (fun ls hl => ?_)
                refine lv_goto (tgt := 4) B.1 B.2.1 dX11_countLetters_52 (by decide) ?_
                have hv12 : ((-2147483648 : Int) ≤ v4_2 ∧ (v4_2 : Int) ≤ 2147483647) ∧ ((-2147483648 : Int) ≤ v4_3 + 8 ∧ (v4_3 + 8 : Int) ≤ 2147483647) ∧ (0 ≤ (v4_3 + 8)) ∧ ((v4_3 + 8) ≤ 71) ∧ (0 ≤ v4_2) ∧ (v4_2 ≤ (v4_3 + 8)) ∧ (0 ≤ 72 - (v4_3 + 8)) := by first | omega | exact ⟨by first | omega | assumption | exact trivial, by first | omega | assumption | exact trivial, by first | omega | assumption | exact trivial, by first | omega | assumption | exact trivial, by first | omega | assumption | exact trivial, by first | omega | assumption | exact trivial, by first | omega | assumption | exact trivial⟩
                exact IH4 v4_2 (v4_3 + 8) ls (lv_sub hl [2, 3, 0] rfl) hv12.1 hv12.2.1 hv12.2.2.1 hv12.2.2.2.1 hv12.2.2.2.2.1 hv12.2.2.2.2.2.1 hv12.2.2.2.2.2.2 (by omega)
              · refine q_inc (lv' := [(2, .int (II (v4_2 + 1))), (4, .int (II x4)), (0, .long a_letters), (3, .int (II v4_3))]) B dX11_countLetters_46 hl (k := 2) rfl (by decide) rfl (fun ls hl => ?_)
                refine q_inc (lv' := [(3, .int (II (v4_3 + 8))), (2, .int (II (v4_2 + 1))), (4, .int (II x4)), (0, .long a_letters)]) B dX11_countLetters_49 hl (k := 3) rfl (by decide) rfl (fun ls hl => ?_)
                refine lv_goto (tgt := 4) B.1 B.2.1 dX11_countLetters_52 (by decide) ?_
                have hv13 : ((-2147483648 : Int) ≤ v4_2 + 1 ∧ (v4_2 + 1 : Int) ≤ 2147483647) ∧ ((-2147483648 : Int) ≤ v4_3 + 8 ∧ (v4_3 + 8 : Int) ≤ 2147483647) ∧ (0 ≤ (v4_3 + 8)) ∧ ((v4_3 + 8) ≤ 71) ∧ (0 ≤ (v4_2 + 1)) ∧ ((v4_2 + 1) ≤ (v4_3 + 8)) ∧ (0 ≤ 72 - (v4_3 + 8)) := by first | omega | exact ⟨by first | omega | assumption | exact trivial, by first | omega | assumption | exact trivial, by first | omega | assumption | exact trivial, by first | omega | assumption | exact trivial, by first | omega | assumption | exact trivial, by first | omega | assumption | exact trivial, by first | omega | assumption | exact trivial⟩
                exact IH4 (v4_2 + 1) (v4_3 + 8) ls (lv_sub hl [3, 1, 0] rfl) hv13.1 hv13.2.1 hv13.2.2.1 hv13.2.2.2.1 hv13.2.2.2.2.1 hv13.2.2.2.2.2.1 hv13.2.2.2.2.2.2 (by omega)
            · refine q_con B dX11_countLetters_39 ?_
              refine p_iret B dX11_countLetters_40 ?_
              rw [← hPST]
              exact ⟨(-1), rfl, by omega, by first | omega | assumption | exact trivial⟩
  have hv14 : ((-2147483648 : Int) ≤ 0 ∧ (0 : Int) ≤ 2147483647) ∧ ((-2147483648 : Int) ≤ 0 ∧ (0 : Int) ≤ 2147483647) ∧ (0 ≤ (0 : Int)) ∧ ((0 : Int) ≤ 71) ∧ (0 ≤ (0 : Int)) ∧ ((0 : Int) ≤ (0 : Int)) ∧ (0 ≤ 72 - (0 : Int)) := by first | omega | exact ⟨by first | omega | assumption | exact trivial, by first | omega | assumption | exact trivial, by first | omega | assumption | exact trivial, by first | omega | assumption | exact trivial, by first | omega | assumption | exact trivial, by first | omega | assumption | exact trivial, by first | omega | assumption | exact trivial⟩
  exact LL4 (Int.toNat (72 - (0 : Int) + 1)) 0 0 ls (lv_sub hl [2, 1, 0] rfl) hv14.1 hv14.2.1 hv14.2.2.1 hv14.2.2.2.1 hv14.2.2.2.2.1 hv14.2.2.2.2.2.1 hv14.2.2.2.2.2.2 (by omega)

set_option maxHeartbeats 200000000 in
set_option maxRecDepth 20000 in
theorem k_X4_fitsType (l : Launch) (D : va_G) (dA : Nat → ClassId) (eA : Nat) (L : List Nat) (T N : Nat → Nat) (I : Nat → Nat → Int) (J : Nat → Nat → Int64) (R : Nat → Nat → Nat) (a_code : Int) (i_code : (-2147483648 : Int) ≤ a_code ∧ a_code ≤ 2147483647) (a_type : Int) (i_type : (-2147483648 : Int) ≤ a_type ∧ a_type ≤ 2147483647) : PC l yX4_fitsType cX4_fitsType 2 (some .boolean) ({ frames := 0, cells := 0, slots := 0, locals := 0 }) D dA eA L T N I J R [.int (II a_code), .int (II a_type)] (rI (fun r => (0 : Int) ≤ r ∧ r ≤ 1 ∧ (True))) := by
  generalize hPST : (rI (fun r => (0 : Int) ≤ r ∧ r ≤ 1 ∧ (True))) = PST
  refine p_enter (own := RX4) (by decide) rfl (Nat.le_of_ble_eq_true rfl) (fun p e s m args below meth c ls B hX hM hl => ?_)
  have hA : ∀ q, s.heap.size ≤ q → cF dA L T N I J R s.heap.size q := fun q h => Or.inr h
  have hl : lv_has ls 2 [(0, .int (II a_code)), (1, .int (II a_type))] := hl
  refine lv_iload_n B.1 B.2.1 dX4_fitsType_0 rfl (lv_at hl 1 rfl) ?_
  refine q_con B dX4_fitsType_1 ?_
  refine q_ceq (tgt := 17) B dX4_fitsType_2 (by decide) (by unfold inr; omega) (by unfold inr; omega) (fun c1 => ?_) (fun c1 => ?_)
  · refine lv_iload_n B.1 B.2.1 dX4_fitsType_17 rfl (lv_at hl 1 rfl) ?_
    refine q_con B dX4_fitsType_18 ?_
    refine q_cne (tgt := 38) B dX4_fitsType_19 (by decide) (by unfold inr; omega) (by unfold inr; omega) (fun c2 => ?_) (fun c2 => ?_)
    · refine q_con B dX4_fitsType_38 ?_
      refine p_zret B dX4_fitsType_39 (by omega) (by omega) ?_
      rw [← hPST]
      exact ⟨(0), rfl, by omega, by omega, by omega, by first | omega | assumption | exact trivial⟩
    · refine lv_iload_n B.1 B.2.1 dX4_fitsType_22 rfl (lv_at hl 0 rfl) ?_
      refine q_bip B dX4_fitsType_23 (by decide) ?_
      refine q_ceq (tgt := 34) B dX4_fitsType_25 (by decide) (by unfold inr; omega) (by unfold inr; omega) (fun c3 => ?_) (fun c3 => ?_)
      · refine q_con B dX4_fitsType_34 ?_
        refine lv_goto (tgt := 39) B.1 B.2.1 dX4_fitsType_35 (by decide) ?_
        refine p_zret B dX4_fitsType_39 (by omega) (by omega) ?_
        rw [← hPST]
        exact ⟨(1), rfl, by omega, by omega, by omega, by first | omega | assumption | exact trivial⟩
      · refine lv_iload_n B.1 B.2.1 dX4_fitsType_28 rfl (lv_at hl 0 rfl) ?_
        refine q_bip B dX4_fitsType_29 (by decide) ?_
        refine q_cne (tgt := 38) B dX4_fitsType_31 (by decide) (by unfold inr; omega) (by unfold inr; omega) (fun c4 => ?_) (fun c4 => ?_)
        · refine q_con B dX4_fitsType_38 ?_
          refine p_zret B dX4_fitsType_39 (by omega) (by omega) ?_
          rw [← hPST]
          exact ⟨(0), rfl, by omega, by omega, by omega, by first | omega | assumption | exact trivial⟩
        · refine q_con B dX4_fitsType_34 ?_
          refine lv_goto (tgt := 39) B.1 B.2.1 dX4_fitsType_35 (by decide) ?_
          refine p_zret B dX4_fitsType_39 (by omega) (by omega) ?_
          rw [← hPST]
          exact ⟨(1), rfl, by omega, by omega, by omega, by first | omega | assumption | exact trivial⟩
  · refine lv_iload_n B.1 B.2.1 dX4_fitsType_5 rfl (lv_at hl 0 rfl) ?_
    refine q_bip B dX4_fitsType_6 (by decide) ?_
    refine q_ceq (tgt := 17) B dX4_fitsType_8 (by decide) (by unfold inr; omega) (by unfold inr; omega) (fun c5 => ?_) (fun c5 => ?_)
    · refine lv_iload_n B.1 B.2.1 dX4_fitsType_17 rfl (lv_at hl 1 rfl) ?_
      refine q_con B dX4_fitsType_18 ?_
      refine q_cne (tgt := 38) B dX4_fitsType_19 (by decide) (by unfold inr; omega) (by unfold inr; omega) (fun c6 => ?_) (fun c6 => ?_)
      · refine q_con B dX4_fitsType_38 ?_
        refine p_zret B dX4_fitsType_39 (by omega) (by omega) ?_
        rw [← hPST]
        exact ⟨(0), rfl, by omega, by omega, by omega, by first | omega | assumption | exact trivial⟩
      · refine lv_iload_n B.1 B.2.1 dX4_fitsType_22 rfl (lv_at hl 0 rfl) ?_
        refine q_bip B dX4_fitsType_23 (by decide) ?_
        refine q_ceq (tgt := 34) B dX4_fitsType_25 (by decide) (by unfold inr; omega) (by unfold inr; omega) (fun c7 => ?_) (fun c7 => ?_)
        · refine q_con B dX4_fitsType_34 ?_
          refine lv_goto (tgt := 39) B.1 B.2.1 dX4_fitsType_35 (by decide) ?_
          refine p_zret B dX4_fitsType_39 (by omega) (by omega) ?_
          rw [← hPST]
          exact ⟨(1), rfl, by omega, by omega, by omega, by first | omega | assumption | exact trivial⟩
        · refine lv_iload_n B.1 B.2.1 dX4_fitsType_28 rfl (lv_at hl 0 rfl) ?_
          refine q_bip B dX4_fitsType_29 (by decide) ?_
          refine q_cne (tgt := 38) B dX4_fitsType_31 (by decide) (by unfold inr; omega) (by unfold inr; omega) (fun c8 => ?_) (fun c8 => ?_)
          · refine q_con B dX4_fitsType_38 ?_
            refine p_zret B dX4_fitsType_39 (by omega) (by omega) ?_
            rw [← hPST]
            exact ⟨(0), rfl, by omega, by omega, by omega, by first | omega | assumption | exact trivial⟩
          · refine q_con B dX4_fitsType_34 ?_
            refine lv_goto (tgt := 39) B.1 B.2.1 dX4_fitsType_35 (by decide) ?_
            refine p_zret B dX4_fitsType_39 (by omega) (by omega) ?_
            rw [← hPST]
            exact ⟨(1), rfl, by omega, by omega, by omega, by first | omega | assumption | exact trivial⟩
    · refine lv_iload_n B.1 B.2.1 dX4_fitsType_11 rfl (lv_at hl 0 rfl) ?_
      refine q_bip B dX4_fitsType_12 (by decide) ?_
      refine q_cne (tgt := 40) B dX4_fitsType_14 (by decide) (by unfold inr; omega) (by unfold inr; omega) (fun c9 => ?_) (fun c9 => ?_)
      · refine lv_iload_n B.1 B.2.1 dX4_fitsType_40 rfl (lv_at hl 0 rfl) ?_
        refine q_con B dX4_fitsType_41 ?_
        refine q_cne (tgt := 47) B dX4_fitsType_42 (by decide) (by unfold inr; omega) (by unfold inr; omega) (fun c10 => ?_) (fun c10 => ?_)
        · refine lv_iload_n B.1 B.2.1 dX4_fitsType_47 rfl (lv_at hl 0 rfl) ?_
          refine q_con B dX4_fitsType_48 ?_
          refine q_cne (tgt := 68) B dX4_fitsType_49 (by decide) (by unfold inr; omega) (by unfold inr; omega) (fun c11 => ?_) (fun c11 => ?_)
          · refine lv_iload_n B.1 B.2.1 dX4_fitsType_68 rfl (lv_at hl 0 rfl) ?_
            refine q_con B dX4_fitsType_69 ?_
            refine q_cne (tgt := 89) B dX4_fitsType_70 (by decide) (by unfold inr; omega) (by unfold inr; omega) (fun c12 => ?_) (fun c12 => ?_)
            · refine lv_iload_n B.1 B.2.1 dX4_fitsType_89 rfl (lv_at hl 1 rfl) ?_
              refine q_con B dX4_fitsType_90 ?_
              refine q_cne (tgt := 98) B dX4_fitsType_91 (by decide) (by unfold inr; omega) (by unfold inr; omega) (fun c13 => ?_) (fun c13 => ?_)
              · refine q_con B dX4_fitsType_98 ?_
                refine p_zret B dX4_fitsType_99 (by omega) (by omega) ?_
                rw [← hPST]
                exact ⟨(0), rfl, by omega, by omega, by omega, by first | omega | assumption | exact trivial⟩
              · refine q_con B dX4_fitsType_94 ?_
                refine lv_goto (tgt := 99) B.1 B.2.1 dX4_fitsType_95 (by decide) ?_
                refine p_zret B dX4_fitsType_99 (by omega) (by omega) ?_
                rw [← hPST]
                exact ⟨(1), rfl, by omega, by omega, by omega, by first | omega | assumption | exact trivial⟩
            · refine lv_iload_n B.1 B.2.1 dX4_fitsType_73 rfl (lv_at hl 1 rfl) ?_
              refine q_con B dX4_fitsType_74 ?_
              refine q_ceq (tgt := 83) B dX4_fitsType_75 (by decide) (by unfold inr; omega) (by unfold inr; omega) (fun c14 => ?_) (fun c14 => ?_)
              · refine q_con B dX4_fitsType_83 ?_
                refine lv_goto (tgt := 88) B.1 B.2.1 dX4_fitsType_84 (by decide) ?_
                refine p_zret B dX4_fitsType_88 (by omega) (by omega) ?_
                rw [← hPST]
                exact ⟨(1), rfl, by omega, by omega, by omega, by first | omega | assumption | exact trivial⟩
              · refine lv_iload_n B.1 B.2.1 dX4_fitsType_78 rfl (lv_at hl 1 rfl) ?_
                refine q_con B dX4_fitsType_79 ?_
                refine q_cne (tgt := 87) B dX4_fitsType_80 (by decide) (by unfold inr; omega) (by unfold inr; omega) (fun c15 => ?_) (fun c15 => ?_)
                · refine q_con B dX4_fitsType_87 ?_
                  refine p_zret B dX4_fitsType_88 (by omega) (by omega) ?_
                  rw [← hPST]
                  exact ⟨(0), rfl, by omega, by omega, by omega, by first | omega | assumption | exact trivial⟩
                · refine q_con B dX4_fitsType_83 ?_
                  refine lv_goto (tgt := 88) B.1 B.2.1 dX4_fitsType_84 (by decide) ?_
                  refine p_zret B dX4_fitsType_88 (by omega) (by omega) ?_
                  rw [← hPST]
                  exact ⟨(1), rfl, by omega, by omega, by omega, by first | omega | assumption | exact trivial⟩
          · refine lv_iload_n B.1 B.2.1 dX4_fitsType_52 rfl (lv_at hl 1 rfl) ?_
            refine q_con B dX4_fitsType_53 ?_
            refine q_ceq (tgt := 62) B dX4_fitsType_54 (by decide) (by unfold inr; omega) (by unfold inr; omega) (fun c16 => ?_) (fun c16 => ?_)
            · refine q_con B dX4_fitsType_62 ?_
              refine lv_goto (tgt := 67) B.1 B.2.1 dX4_fitsType_63 (by decide) ?_
              refine p_zret B dX4_fitsType_67 (by omega) (by omega) ?_
              rw [← hPST]
              exact ⟨(1), rfl, by omega, by omega, by omega, by first | omega | assumption | exact trivial⟩
            · refine lv_iload_n B.1 B.2.1 dX4_fitsType_57 rfl (lv_at hl 1 rfl) ?_
              refine q_con B dX4_fitsType_58 ?_
              refine q_cne (tgt := 66) B dX4_fitsType_59 (by decide) (by unfold inr; omega) (by unfold inr; omega) (fun c17 => ?_) (fun c17 => ?_)
              · refine q_con B dX4_fitsType_66 ?_
                refine p_zret B dX4_fitsType_67 (by omega) (by omega) ?_
                rw [← hPST]
                exact ⟨(0), rfl, by omega, by omega, by omega, by first | omega | assumption | exact trivial⟩
              · refine q_con B dX4_fitsType_62 ?_
                refine lv_goto (tgt := 67) B.1 B.2.1 dX4_fitsType_63 (by decide) ?_
                refine p_zret B dX4_fitsType_67 (by omega) (by omega) ?_
                rw [← hPST]
                exact ⟨(1), rfl, by omega, by omega, by omega, by first | omega | assumption | exact trivial⟩
        · refine q_con B dX4_fitsType_45 ?_
          refine p_zret B dX4_fitsType_46 (by omega) (by omega) ?_
          rw [← hPST]
          exact ⟨(1), rfl, by omega, by omega, by omega, by first | omega | assumption | exact trivial⟩
      · refine lv_iload_n B.1 B.2.1 dX4_fitsType_17 rfl (lv_at hl 1 rfl) ?_
        refine q_con B dX4_fitsType_18 ?_
        refine q_cne (tgt := 38) B dX4_fitsType_19 (by decide) (by unfold inr; omega) (by unfold inr; omega) (fun c18 => ?_) (fun c18 => ?_)
        · refine q_con B dX4_fitsType_38 ?_
          refine p_zret B dX4_fitsType_39 (by omega) (by omega) ?_
          rw [← hPST]
          exact ⟨(0), rfl, by omega, by omega, by omega, by first | omega | assumption | exact trivial⟩
        · refine lv_iload_n B.1 B.2.1 dX4_fitsType_22 rfl (lv_at hl 0 rfl) ?_
          refine q_bip B dX4_fitsType_23 (by decide) ?_
          refine q_ceq (tgt := 34) B dX4_fitsType_25 (by decide) (by unfold inr; omega) (by unfold inr; omega) (fun c19 => ?_) (fun c19 => ?_)
          · refine q_con B dX4_fitsType_34 ?_
            refine lv_goto (tgt := 39) B.1 B.2.1 dX4_fitsType_35 (by decide) ?_
            refine p_zret B dX4_fitsType_39 (by omega) (by omega) ?_
            rw [← hPST]
            exact ⟨(1), rfl, by omega, by omega, by omega, by first | omega | assumption | exact trivial⟩
          · refine lv_iload_n B.1 B.2.1 dX4_fitsType_28 rfl (lv_at hl 0 rfl) ?_
            refine q_bip B dX4_fitsType_29 (by decide) ?_
            refine q_cne (tgt := 38) B dX4_fitsType_31 (by decide) (by unfold inr; omega) (by unfold inr; omega) (fun c20 => ?_) (fun c20 => ?_)
            · refine q_con B dX4_fitsType_38 ?_
              refine p_zret B dX4_fitsType_39 (by omega) (by omega) ?_
              rw [← hPST]
              exact ⟨(0), rfl, by omega, by omega, by omega, by first | omega | assumption | exact trivial⟩
            · refine q_con B dX4_fitsType_34 ?_
              refine lv_goto (tgt := 39) B.1 B.2.1 dX4_fitsType_35 (by decide) ?_
              refine p_zret B dX4_fitsType_39 (by omega) (by omega) ?_
              rw [← hPST]
              exact ⟨(1), rfl, by omega, by omega, by omega, by first | omega | assumption | exact trivial⟩
