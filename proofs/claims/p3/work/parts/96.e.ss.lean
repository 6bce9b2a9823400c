set_option maxHeartbeats 1000000 in
set_option maxRecDepth 20000 in
theorem k_J5_isLatin1_aae02 (l : Launch) (D : va_G) (dA : Nat → ClassId) (eA : Nat) (L : List Nat) (T N : Nat → Nat) (I : Nat → Nat → Int) (J : Nat → Nat → Int64) (R : Nat → Nat → Nat) (a_this : Nat) (t_this : T a_this = 14) : PC l yJ5_isLatin1_aae02 cJ5_isLatin1_aae02 1 (some .boolean) ({ frames := 0, cells := 0, slots := 0, locals := 0 }) D dA eA L T N I J R [.ref a_this] (rI (fun r => (0 : Int) ≤ r ∧ r ≤ 1 ∧ (r = 1))) := by
  generalize hPST : (rI (fun r => (0 : Int) ≤ r ∧ r ≤ 1 ∧ (r = 1))) = PST
  refine p_enter (own := RJ5) (by decide) rfl (Nat.le_of_ble_eq_true rfl) (fun p e s m args below meth c ls B hX hM hl => ?_)
  have hA : ∀ q, s.heap.size ≤ q → cF dA L T N I J R s.heap.size q := fun q h => Or.inr h
  have hl : lv_has ls 1 [(0, .ref a_this)] := hl
  refine c_cmp1 B hX hM.2.2.1 fl_J5_18 dJ5_isLatin1_aae02_0 ?_
  refine q_ieq (tgt := 17) B dJ5_isLatin1_aae02_3 (by decide) (by unfold inr; omega) (fun c1 => absurd c1 (by omega)) (fun c1 => ?_)
  refine lv_aload_n B.1 B.2.1 dJ5_isLatin1_aae02_6 rfl (lv_at hl 0 rfl) ?_
  have e2 : I a_this 1 = 0 := by have h9 := g14_1 hM.2.2.2.2.2.2.1 t_this; omega
  refine c_geti (k := 1) pk_J4 B hM t_this kd14 rfl (by decide) fl_J5_22 dJ5_isLatin1_aae02_7 e2 ?_
  refine q_ine (tgt := 17) B dJ5_isLatin1_aae02_10 (by decide) (by unfold inr; omega) (fun c3 => absurd c3 (by omega)) (fun c3 => ?_)
  refine q_con B dJ5_isLatin1_aae02_13 ?_
  refine lv_goto (tgt := 18) B.1 B.2.1 dJ5_isLatin1_aae02_14 (by decide) ?_
  refine p_zret B dJ5_isLatin1_aae02_18 (by omega) (by omega) ?_
  rw [← hPST]
  exact ⟨(1), rfl, by omega, by omega, by omega, by first | omega | assumption | exact trivial⟩

set_option maxHeartbeats 1000000 in
set_option maxRecDepth 20000 in
theorem k_J6_stringSize_0f7a4 (l : Launch) (D : va_G) (dA : Nat → ClassId) (eA : Nat) (L : List Nat) (T N : Nat → Nat) (I : Nat → Nat → Int) (J : Nat → Nat → Int64) (R : Nat → Nat → Nat) (a_x : Int) (i_x : (-2147483648 : Int) ≤ a_x ∧ a_x ≤ 2147483647) : PC l yJ6_stringSize_0f7a4 cJ6_stringSize_0f7a4 4 (some .int) ({ frames := 0, cells := 0, slots := 0, locals := 0 }) D dA eA L T N I J R [.int (II a_x)] (rI (fun r => 1 ≤ r ∧ r ≤ 11 ∧ (0 ≤ a_x → DG a_x r) ∧ (a_x < 0 → DG (-a_x) (r - 1) ∧ 2 ≤ r))) := by
  generalize hPST : (rI (fun r => 1 ≤ r ∧ r ≤ 11 ∧ (0 ≤ a_x → DG a_x r) ∧ (a_x < 0 → DG (-a_x) (r - 1) ∧ 2 ≤ r))) = PST
  refine p_enter (own := RJ6) (by decide) rfl (Nat.le_of_ble_eq_true rfl) (fun p e s m args below meth c ls B hX hM hl => ?_)
  have hA : ∀ q, s.heap.size ≤ q → cF dA L T N I J R s.heap.size q := fun q h => Or.inr h
  have hl : lv_has ls 4 [(0, .int (II a_x))] := hl
  refine q_con B dJ6_stringSize_0f7a4_0 ?_
  refine lv_istore_n (lv' := [(1, .int (II 1)), (0, .int (II a_x))]) B.1 B.2.1 dJ6_stringSize_0f7a4_1 rfl hl (by decide) rfl (fun ls hl => ?_)
  have JJ11 : ∀ (v11_0 : Int) (v11_1 : Int) (ls : Array Slot), lv_has ls 4 [(0, .int (II v11_0)), (1, .int (II v11_1))] → ((-2147483648 : Int) ≤ v11_0 ∧ v11_0 ≤ 2147483647) → ((-2147483648 : Int) ≤ v11_1 ∧ v11_1 ≤ 2147483647) → ((v11_1 = 1 ∧ a_x < 0 ∧ v11_0 = a_x) ∨ (v11_1 = 0 ∧ 0 ≤ a_x ∧ v11_0 = - a_x)) → W p l e ({ frames := 0, cells := 0, slots := 0, locals := 0 }) s m args below meth c s.heap [] 0 0 (MQ below (pQ PST) args s 0 0 (fun _ => False)) (F0 m 11 ls []) := by
    intro v11_0 v11_1 ls hl hJJ11_0 hJJ11_1 hJJ11_2
    refine q_bip B dJ6_stringSize_0f7a4_11 (by decide) ?_
    refine lv_istore_n (lv' := [(2, .int (II (-10))), (0, .int (II v11_0)), (1, .int (II v11_1))]) B.1 B.2.1 dJ6_stringSize_0f7a4_13 rfl hl (by decide) rfl (fun ls hl => ?_)
    refine q_con B dJ6_stringSize_0f7a4_14 ?_
    refine lv_istore_n (lv' := [(3, .int (II 1)), (2, .int (II (-10))), (0, .int (II v11_0)), (1, .int (II v11_1))]) B.1 B.2.1 dJ6_stringSize_0f7a4_15 rfl hl (by decide) rfl (fun ls hl => ?_)
    have LL16 : ∀ NN : Nat, ∀ (v16_2 : Int) (v16_3 : Int) (ls : Array Slot), lv_has ls 4 [(0, .int (II v11_0)), (1, .int (II v11_1)), (2, .int (II v16_2)), (3, .int (II v16_3))] → ((-2147483648 : Int) ≤ v16_2 ∧ v16_2 ≤ 2147483647) → ((-2147483648 : Int) ≤ v16_3 ∧ v16_3 ≤ 2147483647) → (1 ≤ v16_3) → (v16_3 ≤ 10) → (PW v16_2 v16_3) → (0 ≤ 11 - v16_3) → (11 - v16_3 < (NN : Int)) → W p l e ({ frames := 0, cells := 0, slots := 0, locals := 0 }) s m args below meth c s.heap [] 0 0 (MQ below (pQ PST) args s 0 0 (fun _ => False)) (F0 m 16 ls []) := by
      intro NN
      induction NN with
      | zero => intro v16_2 v16_3 ls hl hLL16_0 hLL16_1 hLL16_2 hLL16_3 hLL16_4 hLL16_5 hN; exfalso; omega
      | succ NN IH16 =>
        intro v16_2 v16_3 ls hl hLL16_0 hLL16_1 hLL16_2 hLL16_3 hLL16_4 hLL16_5 hN
        refine lv_iload_n B.1 B.2.1 dJ6_stringSize_0f7a4_16 rfl (lv_at hl 3 rfl) ?_
        refine q_bip B dJ6_stringSize_0f7a4_17 (by decide) ?_
        refine q_cge (tgt := 42) B dJ6_stringSize_0f7a4_19 (by decide) (by unfold inr; omega) (by unfold inr; omega) (fun c1 => ?_) (fun c1 => ?_)
        · refine q_bip B dJ6_stringSize_0f7a4_42 (by decide) ?_
          refine lv_iload_n B.1 B.2.1 dJ6_stringSize_0f7a4_44 rfl (lv_at hl 1 rfl) ?_
          refine q_add B dJ6_stringSize_0f7a4_45 ?_
          refine p_iret B dJ6_stringSize_0f7a4_46 ?_
          rw [← hPST]
          exact ⟨((10 : Int) + v11_1), rfl, by omega, by first | omega | assumption | exact trivial | exact PW.one | exact PW.next (by assumption) (by omega) (by omega) (by assumption), by first | omega | assumption | exact trivial | exact PW.one | exact PW.next (by assumption) (by omega) (by omega) (by assumption), by (intro h0; have hd : DG (-v11_0) v16_3 := (by first | exact PW.dg (by assumption) (by omega) (by omega) (by omega) (by omega) | (rw [show (v16_3 : Int) = 10 from by omega]; exact DG.ten (by omega) (by omega))); exact DG.mono (show DG a_x v16_3 from by rw [show a_x = -v11_0 from by omega]; exact hd) (by omega)), by (intro h0; have hd : DG (-v11_0) v16_3 := (by first | exact PW.dg (by assumption) (by omega) (by omega) (by omega) (by omega) | (rw [show (v16_3 : Int) = 10 from by omega]; exact DG.ten (by omega) (by omega))); exact ⟨DG.mono (show DG (-a_x) v16_3 from by rw [show a_x = v11_0 from by omega]; exact hd) (by omega), by omega⟩)⟩
        · refine lv_iload_n B.1 B.2.1 dJ6_stringSize_0f7a4_22 rfl (lv_at hl 0 rfl) ?_
          refine lv_iload_n B.1 B.2.1 dJ6_stringSize_0f7a4_23 rfl (lv_at hl 2 rfl) ?_
          refine q_cle (tgt := 31) B dJ6_stringSize_0f7a4_24 (by decide) (by unfold inr; omega) (by unfold inr; omega) (fun c2 => ?_) (fun c2 => ?_)
          · refine q_bip B dJ6_stringSize_0f7a4_31 (by decide) ?_
            refine lv_iload_n B.1 B.2.1 dJ6_stringSize_0f7a4_33 rfl (lv_at hl 2 rfl) ?_
            refine q_mul B dJ6_stringSize_0f7a4_34 ?_
            refine q_wrapE (fun x3 ix3 ex3 => ?_)
            refine lv_istore_n (lv' := [(2, .int (II x3)), (0, .int (II v11_0)), (1, .int (II v11_1)), (3, .int (II v16_3))]) B.1 B.2.1 dJ6_stringSize_0f7a4_35 rfl hl (by decide) rfl (fun ls hl => ?_)
            refine q_inc (lv' := [(3, .int (II (v16_3 + 1))), (2, .int (II x3)), (0, .int (II v11_0)), (1, .int (II v11_1))]) B dJ6_stringSize_0f7a4_36 hl (k := 3) rfl (by decide) rfl (fun ls hl => ?_)
            refine lv_goto (tgt := 16) B.1 B.2.1 dJ6_stringSize_0f7a4_39 (by decide) ?_
            have hv4 : ((-2147483648 : Int) ≤ x3 ∧ (x3 : Int) ≤ 2147483647) ∧ ((-2147483648 : Int) ≤ v16_3 + 1 ∧ (v16_3 + 1 : Int) ≤ 2147483647) ∧ (1 ≤ (v16_3 + 1)) ∧ ((v16_3 + 1) ≤ 10) ∧ (0 ≤ 11 - (v16_3 + 1)) := by first | omega | exact ⟨by first | omega | assumption | exact trivial | exact PW.one | exact PW.next (by assumption) (by omega) (by omega) (by assumption), by first | omega | assumption | exact trivial | exact PW.one | exact PW.next (by assumption) (by omega) (by omega) (by assumption), by first | omega | assumption | exact trivial | exact PW.one | exact PW.next (by assumption) (by omega) (by omega) (by assumption), by first | omega | assumption | exact trivial | exact PW.one | exact PW.next (by assumption) (by omega) (by omega) (by assumption), by first | omega | assumption | exact trivial | exact PW.one | exact PW.next (by assumption) (by omega) (by omega) (by assumption)⟩
            exact IH16 x3 (v16_3 + 1) ls (lv_sub hl [2, 3, 1, 0] rfl) hv4.1 hv4.2.1 hv4.2.2.1 hv4.2.2.2.1 (by first | exact PW.one | exact PW.next (by assumption) (by omega) (by omega) (by assumption)) hv4.2.2.2.2 (by omega)
          · refine lv_iload_n B.1 B.2.1 dJ6_stringSize_0f7a4_27 rfl (lv_at hl 3 rfl) ?_
            refine lv_iload_n B.1 B.2.1 dJ6_stringSize_0f7a4_28 rfl (lv_at hl 1 rfl) ?_
            refine q_add B dJ6_stringSize_0f7a4_29 ?_
            refine p_iret B dJ6_stringSize_0f7a4_30 ?_
            rw [← hPST]
            exact ⟨(v16_3 + v11_1), rfl, by omega, by first | omega | assumption | exact trivial | exact PW.one | exact PW.next (by assumption) (by omega) (by omega) (by assumption), by first | omega | assumption | exact trivial | exact PW.one | exact PW.next (by assumption) (by omega) (by omega) (by assumption), by (intro h0; have hd : DG (-v11_0) v16_3 := (by first | exact PW.dg (by assumption) (by omega) (by omega) (by omega) (by omega) | (rw [show (v16_3 : Int) = 10 from by omega]; exact DG.ten (by omega) (by omega))); exact DG.mono (show DG a_x v16_3 from by rw [show a_x = -v11_0 from by omega]; exact hd) (by omega)), by (intro h0; have hd : DG (-v11_0) v16_3 := (by first | exact PW.dg (by assumption) (by omega) (by omega) (by omega) (by omega) | (rw [show (v16_3 : Int) = 10 from by omega]; exact DG.ten (by omega) (by omega))); exact ⟨DG.mono (show DG (-a_x) v16_3 from by rw [show a_x = v11_0 from by omega]; exact hd) (by omega), by omega⟩)⟩
    have hv5 : ((-2147483648 : Int) ≤ -10 ∧ (-10 : Int) ≤ 2147483647) ∧ ((-2147483648 : Int) ≤ 1 ∧ (1 : Int) ≤ 2147483647) ∧ (1 ≤ (1 : Int)) ∧ ((1 : Int) ≤ 10) ∧ (0 ≤ 11 - (1 : Int)) := by first | omega | exact ⟨by first | omega | assumption | exact trivial | exact PW.one | exact PW.next (by assumption) (by omega) (by omega) (by assumption), by first | omega | assumption | exact trivial | exact PW.one | exact PW.next (by assumption) (by omega) (by omega) (by assumption), by first | omega | assumption | exact trivial | exact PW.one | exact PW.next (by assumption) (by omega) (by omega) (by assumption), by first | omega | assumption | exact trivial | exact PW.one | exact PW.next (by assumption) (by omega) (by omega) (by assumption), by first | omega | assumption | exact trivial | exact PW.one | exact PW.next (by assumption) (by omega) (by omega) (by assumption)⟩
    exact LL16 (Int.toNat (11 - (1 : Int) + 1)) (-10) 1 ls (lv_sub hl [2, 3, 1, 0] rfl) hv5.1 hv5.2.1 hv5.2.2.1 hv5.2.2.2.1 (by first | exact PW.one | exact PW.next (by assumption) (by omega) (by omega) (by assumption)) hv5.2.2.2.2 (by omega)
  refine lv_iload_n B.1 B.2.1 dJ6_stringSize_0f7a4_2 rfl (lv_at hl 1 rfl) ?_
  refine q_ilt (tgt := 11) B dJ6_stringSize_0f7a4_3 (by decide) (by unfold inr; omega) (fun c6 => ?_) (fun c6 => ?_)
  · have hv7 : ((-2147483648 : Int) ≤ a_x ∧ (a_x : Int) ≤ 2147483647) ∧ ((-2147483648 : Int) ≤ 1 ∧ (1 : Int) ≤ 2147483647) ∧ (((1 : Int) = 1 ∧ a_x < 0 ∧ a_x = a_x) ∨ ((1 : Int) = 0 ∧ 0 ≤ a_x ∧ a_x = - a_x)) := by first | omega | exact ⟨by first | omega | assumption | exact trivial | exact PW.one | exact PW.next (by assumption) (by omega) (by omega) (by assumption), by first | omega | assumption | exact trivial | exact PW.one | exact PW.next (by assumption) (by omega) (by omega) (by assumption), by first | omega | assumption | exact trivial | exact PW.one | exact PW.next (by assumption) (by omega) (by omega) (by assumption)⟩
    exact JJ11 a_x 1 ls (lv_sub hl [1, 0] rfl) hv7.1 hv7.2.1 hv7.2.2
  · refine q_con B dJ6_stringSize_0f7a4_6 ?_
    refine lv_istore_n (lv' := [(1, .int (II 0)), (0, .int (II a_x))]) B.1 B.2.1 dJ6_stringSize_0f7a4_7 rfl hl (by decide) rfl (fun ls hl => ?_)
    refine lv_iload_n B.1 B.2.1 dJ6_stringSize_0f7a4_8 rfl (lv_at hl 1 rfl) ?_
    refine q_neg B dJ6_stringSize_0f7a4_9 ?_
    refine lv_istore_n (lv' := [(0, .int (II (- a_x))), (1, .int (II 0))]) B.1 B.2.1 dJ6_stringSize_0f7a4_10 rfl hl (by decide) rfl (fun ls hl => ?_)
    have hv8 : ((-2147483648 : Int) ≤ - a_x ∧ (- a_x : Int) ≤ 2147483647) ∧ ((-2147483648 : Int) ≤ 0 ∧ (0 : Int) ≤ 2147483647) ∧ (((0 : Int) = 1 ∧ a_x < 0 ∧ (- a_x) = a_x) ∨ ((0 : Int) = 0 ∧ 0 ≤ a_x ∧ (- a_x) = - a_x)) := by first | omega | exact ⟨by first | omega | assumption | exact trivial | exact PW.one | exact PW.next (by assumption) (by omega) (by omega) (by assumption), by first | omega | assumption | exact trivial | exact PW.one | exact PW.next (by assumption) (by omega) (by omega) (by assumption), by first | omega | assumption | exact trivial | exact PW.one | exact PW.next (by assumption) (by omega) (by omega) (by assumption)⟩
    exact JJ11 (- a_x) 0 ls (lv_sub hl [0, 1] rfl) hv8.1 hv8.2.1 hv8.2.2
