def mo_J6_getChars_ba4f3 : List Nat := [3072]
set_option maxHeartbeats 1000000 in
set_option maxRecDepth 20000 in
theorem k_J6_getChars_ba4f3 (l : Launch) (D : va_G) (dA : Nat → ClassId) (eA : Nat) (L : List Nat) (T N : Nat → Nat) (I : Nat → Nat → Int) (J : Nat → Nat → Int64) (R : Nat → Nat → Nat) (a_i : Int) (i_i : (-2147483648 : Int) ≤ a_i ∧ a_i ≤ 2147483647) (a_p : Int) (i_p : (-2147483648 : Int) ≤ a_p ∧ a_p ≤ 2147483647) (a_buf : Nat) (t_buf : T a_buf = 96) (p_0 : 0 ≤ a_i → DG a_i a_p) (p_1 : a_i < 0 → DG (-a_i) (a_p - 1) ∧ 2 ≤ a_p) (p_2 : 1 ≤ a_p) (p_3 : a_p ≤ ((N a_buf : Nat) : Int)) : GC l yJ6_getChars_ba4f3 cJ6_getChars_ba4f3 7 (some .int) ({ frames := 0, cells := 0, slots := 0, locals := 0 }) D dA eA L T N I J R [.int (II a_i), .int (II a_p), .ref a_buf] 0 0 (gI (fun r L' T' N' I' J' R' dz dl => L' = L ∧ T' = T ∧ N' = N ∧ J' = J ∧ R' = R ∧ Fr mo_J6_getChars_ba4f3 [] T N I J R T' N' I' J' R' ∧ (True))) := by
  generalize hPST : (gI (fun r L' T' N' I' J' R' dz dl => L' = L ∧ T' = T ∧ N' = N ∧ J' = J ∧ R' = R ∧ Fr mo_J6_getChars_ba4f3 [] T N I J R T' N' I' J' R' ∧ (True))) = PST
  refine g_enter (own := RJ6) (by decide) rfl (Nat.le_of_ble_eq_true rfl) (fun p e s m args below meth c ls hm B hX hM hl => ?_)
  have hC0 := hM.2.2.2.2.2.2.1
  have hW0 := hM.2.2.2
  have hF : Fr mo_J6_getChars_ba4f3 [] T N I J R T N I J R := Fr.rf
  have hA : ∀ q, s.heap.size ≤ q → cF dA L T N I J R s.heap.size q := fun q h => Or.inr h
  have hl : lv_has ls 7 [(0, .int (II a_i)), (1, .int (II a_p)), (2, .ref a_buf)] := hl
  refine lv_iload_n B.1 B.2.1 dJ6_getChars_ba4f3_0 rfl (lv_at hl 1 rfl) ?_
  refine lv_istore (lv' := [(5, .int (II a_p)), (0, .int (II a_i)), (1, .int (II a_p)), (2, .ref a_buf)]) B.1 B.2.1 dJ6_getChars_ba4f3_1 hl (by decide) rfl (fun ls hl => ?_)
  refine lv_iload_n B.1 B.2.1 dJ6_getChars_ba4f3_3 rfl (lv_at hl 1 rfl) ?_
  have JJ12 : ∀ (s12_0 : Int) (H : Heap) (locs : List Loc) (ls : Array Slot), (CWd D dA eA (cF dA L T N I J R s.heap.size) s.heap L T N I J R H locs) → lv_has ls 7 [(5, .int (II a_p)), (0, .int (II a_i)), (1, .int (II a_p)), (2, .ref a_buf)] → ((-2147483648 : Int) ≤ s12_0 ∧ s12_0 ≤ 2147483647) → ((s12_0 = 1 ∧ a_i < 0) ∨ (s12_0 = 0 ∧ 0 ≤ a_i)) → W p l e ({ frames := 0, cells := 0, slots := 0, locals := 0 }) s m args below meth c H locs 0 0 (MQ below (gQ D dA eA (cF dA L T N I J R s.heap.size) s.heap.size (hs s.heap) PST) args s 0 0 (cF dA L T N I J R s.heap.size)) (F0 m 12 ls [.int (II s12_0)]) := by
    intro s12_0 H locs ls hM hl hJJ12_0 hJJ12_1
    refine lv_istore (lv' := [(6, .int (II s12_0)), (5, .int (II a_p)), (0, .int (II a_i)), (1, .int (II a_p)), (2, .ref a_buf)]) B.1 B.2.1 dJ6_getChars_ba4f3_12 hl (by decide) rfl (fun ls hl => ?_)
    refine lv_iload B.1 B.2.1 dJ6_getChars_ba4f3_14 (lv_at hl 0 rfl) ?_
    refine q_ine (tgt := 22) B dJ6_getChars_ba4f3_16 (by decide) (by unfold inr; omega) (fun c1 => ?_) (fun c1 => ?_)
    · have LL22 : ∀ NN : Nat, ∀ (v22_0 : Int) (v22_5 : Int) (I_22 : Nat → Nat → Int) (H : Heap) (locs : List Loc) (ls : Array Slot), (CWd D dA eA (cF dA L T N I J R s.heap.size) s.heap L T N I_22 J R H locs) → (Fr mo_J6_getChars_ba4f3 [] T N I J R T N I_22 J R) → lv_has ls 7 [(6, .int (II s12_0)), (1, .int (II a_p)), (2, .ref a_buf), (0, .int (II v22_0)), (5, .int (II v22_5))] → ((-2147483648 : Int) ≤ v22_0 ∧ v22_0 ≤ 2147483647) → ((-2147483648 : Int) ≤ v22_5 ∧ v22_5 ≤ 2147483647) → (v22_0 ≤ 0) → (0 ≤ s12_0) → (s12_0 ≤ 1) → (1 ≤ v22_5 - s12_0) → (v22_5 ≤ a_p) → (DG (- v22_0) (v22_5 - s12_0)) → (0 ≤ - v22_0) → (- v22_0 < (NN : Int)) → W p l e ({ frames := 0, cells := 0, slots := 0, locals := 0 }) s m args below meth c H locs 0 0 (MQ below (gQ D dA eA (cF dA L T N I J R s.heap.size) s.heap.size (hs s.heap) PST) args s 0 0 (cF dA L T N I J R s.heap.size)) (F0 m 22 ls []) := by
        intro NN
        induction NN with
        | zero => intro v22_0 v22_5 I_22 H locs ls hM hF hl hLL22_0 hLL22_1 hLL22_2 hLL22_3 hLL22_4 hLL22_5 hLL22_6 hLL22_7 hLL22_8 hN; exfalso; omega
        | succ NN IH22 =>
          intro v22_0 v22_5 I_22 H locs ls hM hF hl hLL22_0 hLL22_1 hLL22_2 hLL22_3 hLL22_4 hLL22_5 hLL22_6 hLL22_7 hLL22_8 hN
          refine lv_iload_n B.1 B.2.1 dJ6_getChars_ba4f3_22 rfl (lv_at hl 3 rfl) ?_
          refine q_bip B dJ6_getChars_ba4f3_23 (by decide) ?_
          refine q_cgt (tgt := 72) B dJ6_getChars_ba4f3_25 (by decide) (by unfold inr; omega) (by unfold inr; omega) (fun c2 => ?_) (fun c2 => ?_)
          · refine lv_aload_n B.1 B.2.1 dJ6_getChars_ba4f3_72 rfl (lv_at hl 2 rfl) ?_
            refine q_inc (lv' := [(5, .int (II (v22_5 + (-1)))), (6, .int (II s12_0)), (1, .int (II a_p)), (2, .ref a_buf), (0, .int (II v22_0))]) B dJ6_getChars_ba4f3_73 hl (k := 4) rfl (by decide) rfl (fun ls hl => ?_)
            refine lv_iload B.1 B.2.1 dJ6_getChars_ba4f3_76 (lv_at hl 0 rfl) ?_
            obtain ⟨fw3, hf4, aw5, hz6, ht7⟩ := hX.2.2.2.2.2.2.1
            refine va_gets B.1 B.2.1 hz6 hM.2.2.1 B.2.2.2.1 (B.2.2.2.2.1 _ fl_J6_83) (fun _ h => h) dJ6_getChars_ba4f3_78 ?_
            refine lv_iload_n B.1 B.2.1 dJ6_getChars_ba4f3_81 rfl (lv_at hl 4 rfl) ?_
            refine q_neg B dJ6_getChars_ba4f3_82 ?_
            refine c_sbld hf4 B ht7 hM.2.2.1 (by omega) (by omega) (by decide) dJ6_getChars_ba4f3_83 (fun x8 lx8 ux8 => ?_)
            have n9 : 16 ≤ N a_buf ∧ N a_buf ≤ 70000 := gn96 hM.2.2.2.2.2.2.1 t_buf
            refine c_bst B hM t_buf kd96 aq96 dJ6_getChars_ba4f3_84 (by omega) (by omega) (fun I11 H locs x12 lx12 ux12 hu10 hM => ?_)
            have e13 : I11 a_buf ((v22_5 + (-1)).toNat) = x12 := w2_at hu10
            replace hF : Fr mo_J6_getChars_ba4f3 [] T N I J R T N I11 J R := hF.wi hu10 (fun _ _ => by rw [t_buf, cd_arr (j := 0) (by decide)]; rfl)
            refine lv_iload_n B.1 B.2.1 dJ6_getChars_ba4f3_85 rfl (lv_at hl 4 rfl) ?_
            refine q_bip B dJ6_getChars_ba4f3_86 (by decide) ?_
            have JJ104 : ∀ (v104_5 : Int) (I_104 : Nat → Nat → Int) (H : Heap) (locs : List Loc) (ls : Array Slot), (CWd D dA eA (cF dA L T N I J R s.heap.size) s.heap L T N I_104 J R H locs) → (Fr mo_J6_getChars_ba4f3 [] T N I J R T N I_104 J R) → lv_has ls 7 [(6, .int (II s12_0)), (1, .int (II a_p)), (2, .ref a_buf), (0, .int (II v22_0)), (5, .int (II v104_5))] → ((-2147483648 : Int) ≤ v104_5 ∧ v104_5 ≤ 2147483647) → (s12_0 ≤ v104_5) → (v104_5 ≤ a_p) → W p l e ({ frames := 0, cells := 0, slots := 0, locals := 0 }) s m args below meth c H locs 0 0 (MQ below (gQ D dA eA (cF dA L T N I J R s.heap.size) s.heap.size (hs s.heap) PST) args s 0 0 (cF dA L T N I J R s.heap.size)) (F0 m 104 ls []) := by
              intro v104_5 I_104 H locs ls hM hF hl hJJ104_0 hJJ104_1 hJJ104_2
              refine lv_iload B.1 B.2.1 dJ6_getChars_ba4f3_104 (lv_at hl 0 rfl) ?_
              have JJ118 : ∀ (v118_5 : Int) (I_118 : Nat → Nat → Int) (H : Heap) (locs : List Loc) (ls : Array Slot), (CWd D dA eA (cF dA L T N I J R s.heap.size) s.heap L T N I_118 J R H locs) → (Fr mo_J6_getChars_ba4f3 [] T N I J R T N I_118 J R) → lv_has ls 7 [(6, .int (II s12_0)), (1, .int (II a_p)), (2, .ref a_buf), (0, .int (II v22_0)), (5, .int (II v118_5))] → ((-2147483648 : Int) ≤ v118_5 ∧ v118_5 ≤ 2147483647) → W p l e ({ frames := 0, cells := 0, slots := 0, locals := 0 }) s m args below meth c H locs 0 0 (MQ below (gQ D dA eA (cF dA L T N I J R s.heap.size) s.heap.size (hs s.heap) PST) args s 0 0 (cF dA L T N I J R s.heap.size)) (F0 m 118 ls []) := by
                intro v118_5 I_118 H locs ls hM hF hl hJJ118_0
                refine lv_iload B.1 B.2.1 dJ6_getChars_ba4f3_118 (lv_at hl 4 rfl) ?_
                refine g_iret B hM dJ6_getChars_ba4f3_120 ⟨Nat.le_refl _, Nat.le_refl _⟩ ?_
                rw [← hPST]
                exact ⟨v118_5, rfl, by omega, rfl, rfl, rfl, rfl, rfl, hF, by first | omega | assumption | exact trivial⟩
              refine q_ieq (tgt := 118) B dJ6_getChars_ba4f3_106 (by decide) (by unfold inr; omega) (fun c14 => ?_) (fun c14 => ?_)
              · exact JJ118 v104_5 I_104 _ _ ls hM hF (lv_sub hl [0, 1, 2, 3, 4] rfl) (by first | omega | assumption | exact trivial)
              · refine lv_aload_n B.1 B.2.1 dJ6_getChars_ba4f3_109 rfl (lv_at hl 2 rfl) ?_
                refine q_inc (lv' := [(5, .int (II (v104_5 + (-1)))), (6, .int (II s12_0)), (1, .int (II a_p)), (2, .ref a_buf), (0, .int (II v22_0))]) B dJ6_getChars_ba4f3_110 hl (k := 4) rfl (by decide) rfl (fun ls hl => ?_)
                refine lv_iload B.1 B.2.1 dJ6_getChars_ba4f3_113 (lv_at hl 0 rfl) ?_
                refine q_bip B dJ6_getChars_ba4f3_115 (by decide) ?_
                refine c_bst B hM t_buf kd96 aq96 dJ6_getChars_ba4f3_117 (by omega) (by omega) (fun I16 H locs x17 lx17 ux17 hu15 hM => ?_)
                have e18 : I16 a_buf ((v104_5 + (-1)).toNat) = x17 := w2_at hu15
                replace hF : Fr mo_J6_getChars_ba4f3 [] T N I J R T N I16 J R := hF.wi hu15 (fun _ _ => by rw [t_buf, cd_arr (j := 0) (by decide)]; rfl)
                exact JJ118 (v104_5 + (-1)) I16 _ _ ls hM hF (lv_sub hl [1, 2, 3, 4, 0] rfl) (by first | omega | assumption | exact trivial)
            refine q_cge (tgt := 104) B dJ6_getChars_ba4f3_88 (by decide) (by unfold inr; omega) (by unfold inr; omega) (fun c19 => ?_) (fun c19 => ?_)
            · have hv20 : ((-2147483648 : Int) ≤ v22_5 + (-1) ∧ (v22_5 + (-1) : Int) ≤ 2147483647) ∧ (s12_0 ≤ (v22_5 + (-1))) ∧ ((v22_5 + (-1)) ≤ a_p) := by first | omega | exact ⟨by first | omega | assumption | exact trivial, by first | omega | assumption | exact trivial, by first | omega | assumption | exact trivial⟩
              exact JJ104 (v22_5 + (-1)) I11 _ _ ls hM hF (lv_sub hl [1, 2, 3, 4, 0] rfl) hv20.1 hv20.2.1 hv20.2.2
            · have hj2 := DG.two (a := - v22_0) (by assumption) (by omega)
              refine lv_aload_n B.1 B.2.1 dJ6_getChars_ba4f3_91 rfl (lv_at hl 3 rfl) ?_
              refine q_inc (lv' := [(5, .int (II ((v22_5 + (-1)) + (-1)))), (6, .int (II s12_0)), (1, .int (II a_p)), (2, .ref a_buf), (0, .int (II v22_0))]) B dJ6_getChars_ba4f3_92 hl (k := 0) rfl (by decide) rfl (fun ls hl => ?_)
              refine lv_iload B.1 B.2.1 dJ6_getChars_ba4f3_95 (lv_at hl 0 rfl) ?_
              obtain ⟨fw21, hf22, aw23, hz24, ht25⟩ := hX.2.2.2.2.2.1
              refine va_gets B.1 B.2.1 hz24 hM.2.2.1 B.2.2.2.1 (B.2.2.2.2.1 _ fl_J6_87) (fun _ h => h) dJ6_getChars_ba4f3_97 ?_
              refine lv_iload_n B.1 B.2.1 dJ6_getChars_ba4f3_100 rfl (lv_at hl 4 rfl) ?_
              refine q_neg B dJ6_getChars_ba4f3_101 ?_
              refine c_sbld hf22 B ht25 hM.2.2.1 (by omega) (by omega) (by decide) dJ6_getChars_ba4f3_102 (fun x26 lx26 ux26 => ?_)
              refine c_bst B hM t_buf kd96 aq96 dJ6_getChars_ba4f3_103 (by omega) (by omega) (fun I28 H locs x29 lx29 ux29 hu27 hM => ?_)
              have e30 : I28 a_buf (((v22_5 + (-1)) + (-1)).toNat) = x29 := w2_at hu27
              replace hF : Fr mo_J6_getChars_ba4f3 [] T N I J R T N I28 J R := hF.wi hu27 (fun _ _ => by rw [t_buf, cd_arr (j := 0) (by decide)]; rfl)
              have hv31 : ((-2147483648 : Int) ≤ (v22_5 + (-1)) + (-1) ∧ ((v22_5 + (-1)) + (-1) : Int) ≤ 2147483647) ∧ (s12_0 ≤ ((v22_5 + (-1)) + (-1))) ∧ (((v22_5 + (-1)) + (-1)) ≤ a_p) := by first | omega | exact ⟨by first | omega | assumption | exact trivial, by first | omega | assumption | exact trivial, by first | omega | assumption | exact trivial⟩
              exact JJ104 ((v22_5 + (-1)) + (-1)) I28 _ _ ls hM hF (lv_sub hl [1, 2, 3, 4, 0] rfl) hv31.1 hv31.2.1 hv31.2.2
          · have hj3 : 3 ≤ v22_5 - s12_0 := (DG.div (a := - v22_0) (b := 0) (by assumption) (by omega) (by omega) (by omega)).2
            refine lv_iload_n B.1 B.2.1 dJ6_getChars_ba4f3_28 rfl (lv_at hl 3 rfl) ?_
            refine q_bip B dJ6_getChars_ba4f3_29 (by decide) ?_
            refine q_divE B dJ6_getChars_ba4f3_31 (by unfold inr; omega) (by unfold inr; omega) (by omega) (fun x32 ix32 px32 nx32 => ?_)
            unfold inr at ix32
            refine lv_istore_n (lv' := [(3, .int (II x32)), (6, .int (II s12_0)), (1, .int (II a_p)), (2, .ref a_buf), (0, .int (II v22_0)), (5, .int (II v22_5))]) B.1 B.2.1 dJ6_getChars_ba4f3_32 rfl hl (by decide) rfl (fun ls hl => ?_)
            refine lv_iload_n B.1 B.2.1 dJ6_getChars_ba4f3_33 rfl (lv_at hl 0 rfl) ?_
            refine q_bip B dJ6_getChars_ba4f3_34 (by decide) ?_
            refine q_mul B dJ6_getChars_ba4f3_36 ?_
            refine lv_iload_n B.1 B.2.1 dJ6_getChars_ba4f3_37 rfl (lv_at hl 4 rfl) ?_
            refine q_sub B dJ6_getChars_ba4f3_38 ?_
            refine lv_istore (lv' := [(4, .int (II ((x32 * (100 : Int)) - v22_0))), (3, .int (II x32)), (6, .int (II s12_0)), (1, .int (II a_p)), (2, .ref a_buf), (0, .int (II v22_0)), (5, .int (II v22_5))]) B.1 B.2.1 dJ6_getChars_ba4f3_39 hl (by decide) rfl (fun ls hl => ?_)
            refine lv_iload_n B.1 B.2.1 dJ6_getChars_ba4f3_41 rfl (lv_at hl 1 rfl) ?_
            refine lv_istore_n (lv' := [(0, .int (II x32)), (4, .int (II ((x32 * (100 : Int)) - v22_0))), (3, .int (II x32)), (6, .int (II s12_0)), (1, .int (II a_p)), (2, .ref a_buf), (5, .int (II v22_5))]) B.1 B.2.1 dJ6_getChars_ba4f3_42 rfl hl (by decide) rfl (fun ls hl => ?_)
            refine lv_aload_n B.1 B.2.1 dJ6_getChars_ba4f3_43 rfl (lv_at hl 5 rfl) ?_
            refine q_inc (lv' := [(5, .int (II (v22_5 + (-1)))), (0, .int (II x32)), (4, .int (II ((x32 * (100 : Int)) - v22_0))), (3, .int (II x32)), (6, .int (II s12_0)), (1, .int (II a_p)), (2, .ref a_buf)]) B dJ6_getChars_ba4f3_44 hl (k := 6) rfl (by decide) rfl (fun ls hl => ?_)
            refine lv_iload B.1 B.2.1 dJ6_getChars_ba4f3_47 (lv_at hl 0 rfl) ?_
            obtain ⟨fw33, hf34, aw35, hz36, ht37⟩ := hX.2.2.2.2.2.2.1
            refine va_gets B.1 B.2.1 hz36 hM.2.2.1 B.2.2.2.1 (B.2.2.2.2.1 _ fl_J6_83) (fun _ h => h) dJ6_getChars_ba4f3_49 ?_
            refine lv_iload B.1 B.2.1 dJ6_getChars_ba4f3_52 (lv_at hl 2 rfl) ?_
            refine c_sbld hf34 B ht37 hM.2.2.1 (by omega) (by omega) (by decide) dJ6_getChars_ba4f3_54 (fun x38 lx38 ux38 => ?_)
            have n39 : 16 ≤ N a_buf ∧ N a_buf ≤ 70000 := gn96 hM.2.2.2.2.2.2.1 t_buf
            refine c_bst B hM t_buf kd96 aq96 dJ6_getChars_ba4f3_55 (by omega) (by omega) (fun I41 H locs x42 lx42 ux42 hu40 hM => ?_)
            have e43 : I41 a_buf ((v22_5 + (-1)).toNat) = x42 := w2_at hu40
            replace hF : Fr mo_J6_getChars_ba4f3 [] T N I J R T N I41 J R := hF.wi hu40 (fun _ _ => by rw [t_buf, cd_arr (j := 0) (by decide)]; rfl)
            refine lv_aload_n B.1 B.2.1 dJ6_getChars_ba4f3_56 rfl (lv_at hl 6 rfl) ?_
            refine q_inc (lv' := [(5, .int (II ((v22_5 + (-1)) + (-1)))), (0, .int (II x32)), (4, .int (II ((x32 * (100 : Int)) - v22_0))), (3, .int (II x32)), (6, .int (II s12_0)), (1, .int (II a_p)), (2, .ref a_buf)]) B dJ6_getChars_ba4f3_57 hl (k := 0) rfl (by decide) rfl (fun ls hl => ?_)
            refine lv_iload B.1 B.2.1 dJ6_getChars_ba4f3_60 (lv_at hl 0 rfl) ?_
            obtain ⟨fw44, hf45, aw46, hz47, ht48⟩ := hX.2.2.2.2.2.1
            refine va_gets B.1 B.2.1 hz47 hM.2.2.1 B.2.2.2.1 (B.2.2.2.2.1 _ fl_J6_87) (fun _ h => h) dJ6_getChars_ba4f3_62 ?_
            refine lv_iload B.1 B.2.1 dJ6_getChars_ba4f3_65 (lv_at hl 2 rfl) ?_
            refine c_sbld hf45 B ht48 hM.2.2.1 (by omega) (by omega) (by decide) dJ6_getChars_ba4f3_67 (fun x49 lx49 ux49 => ?_)
            refine c_bst B hM t_buf kd96 aq96 dJ6_getChars_ba4f3_68 (by omega) (by omega) (fun I51 H locs x52 lx52 ux52 hu50 hM => ?_)
            have e53 : I51 a_buf (((v22_5 + (-1)) + (-1)).toNat) = x52 := w2_at hu50
            replace hF : Fr mo_J6_getChars_ba4f3 [] T N I J R T N I51 J R := hF.wi hu50 (fun _ _ => by rw [t_buf, cd_arr (j := 0) (by decide)]; rfl)
            refine lv_goto (tgt := 22) B.1 B.2.1 dJ6_getChars_ba4f3_69 (by decide) ?_
            have hv54 : ((-2147483648 : Int) ≤ x32 ∧ (x32 : Int) ≤ 2147483647) ∧ ((-2147483648 : Int) ≤ (v22_5 + (-1)) + (-1) ∧ ((v22_5 + (-1)) + (-1) : Int) ≤ 2147483647) ∧ (x32 ≤ 0) ∧ (0 ≤ s12_0) ∧ (s12_0 ≤ 1) ∧ (1 ≤ ((v22_5 + (-1)) + (-1)) - s12_0) ∧ (((v22_5 + (-1)) + (-1)) ≤ a_p) ∧ (0 ≤ - x32) := by first | omega | exact ⟨by first | omega | assumption | exact trivial, by first | omega | assumption | exact trivial, by first | omega | assumption | exact trivial, by first | omega | assumption | exact trivial, by first | omega | assumption | exact trivial, by first | omega | assumption | exact trivial, by first | omega | assumption | exact trivial, by first | omega | assumption | exact trivial⟩
            exact IH22 x32 ((v22_5 + (-1)) + (-1)) I51 _ _ ls hM hF (lv_sub hl [4, 5, 6, 1, 0] rfl) hv54.1 hv54.2.1 hv54.2.2.1 hv54.2.2.2.1 hv54.2.2.2.2.1 hv54.2.2.2.2.2.1 hv54.2.2.2.2.2.2.1 (by first | (rcases Int.lt_or_le a_i 0 with h9 | h9 <;> first | exact DG.mono (p_1 h9).1 (by omega) | (rw [show - x32 = a_i from by omega]; exact DG.mono (p_0 h9) (by omega)) | omega) | exact DG.mono (DG.div (by assumption) (by omega) (by omega) (by omega)).1 (by omega)) hv54.2.2.2.2.2.2.2 (by omega)
      have hv55 : ((-2147483648 : Int) ≤ a_i ∧ (a_i : Int) ≤ 2147483647) ∧ ((-2147483648 : Int) ≤ a_p ∧ (a_p : Int) ≤ 2147483647) ∧ (a_i ≤ 0) ∧ (0 ≤ s12_0) ∧ (s12_0 ≤ 1) ∧ (1 ≤ a_p - s12_0) ∧ (a_p ≤ a_p) ∧ (0 ≤ - a_i) := by first | omega | exact ⟨by first | omega | assumption | exact trivial, by first | omega | assumption | exact trivial, by first | omega | assumption | exact trivial, by first | omega | assumption | exact trivial, by first | omega | assumption | exact trivial, by first | omega | assumption | exact trivial, by first | omega | assumption | exact trivial, by first | omega | assumption | exact trivial⟩
      exact LL22 (Int.toNat (- a_i + 1)) a_i a_p I _ _ ls hM hF (lv_sub hl [0, 3, 4, 2, 1] rfl) hv55.1 hv55.2.1 hv55.2.2.1 hv55.2.2.2.1 hv55.2.2.2.2.1 hv55.2.2.2.2.2.1 hv55.2.2.2.2.2.2.1 (by first | (rcases Int.lt_or_le a_i 0 with h9 | h9 <;> first | exact DG.mono (p_1 h9).1 (by omega) | (rw [show - a_i = a_i from by omega]; exact DG.mono (p_0 h9) (by omega)) | omega) | exact DG.mono (DG.div (by assumption) (by omega) (by omega) (by omega)).1 (by omega)) hv55.2.2.2.2.2.2.2 (by omega)
    · refine lv_iload_n B.1 B.2.1 dJ6_getChars_ba4f3_19 rfl (lv_at hl 2 rfl) ?_
      refine q_neg B dJ6_getChars_ba4f3_20 ?_
      refine lv_istore_n (lv' := [(0, .int (II (- a_i))), (6, .int (II s12_0)), (5, .int (II a_p)), (1, .int (II a_p)), (2, .ref a_buf)]) B.1 B.2.1 dJ6_getChars_ba4f3_21 rfl hl (by decide) rfl (fun ls hl => ?_)
      have LL22 : ∀ NN : Nat, ∀ (v22_0 : Int) (v22_5 : Int) (I_22 : Nat → Nat → Int) (H : Heap) (locs : List Loc) (ls : Array Slot), (CWd D dA eA (cF dA L T N I J R s.heap.size) s.heap L T N I_22 J R H locs) → (Fr mo_J6_getChars_ba4f3 [] T N I J R T N I_22 J R) → lv_has ls 7 [(6, .int (II s12_0)), (1, .int (II a_p)), (2, .ref a_buf), (0, .int (II v22_0)), (5, .int (II v22_5))] → ((-2147483648 : Int) ≤ v22_0 ∧ v22_0 ≤ 2147483647) → ((-2147483648 : Int) ≤ v22_5 ∧ v22_5 ≤ 2147483647) → (v22_0 ≤ 0) → (0 ≤ s12_0) → (s12_0 ≤ 1) → (1 ≤ v22_5 - s12_0) → (v22_5 ≤ a_p) → (DG (- v22_0) (v22_5 - s12_0)) → (0 ≤ - v22_0) → (- v22_0 < (NN : Int)) → W p l e ({ frames := 0, cells := 0, slots := 0, locals := 0 }) s m args below meth c H locs 0 0 (MQ below (gQ D dA eA (cF dA L T N I J R s.heap.size) s.heap.size (hs s.heap) PST) args s 0 0 (cF dA L T N I J R s.heap.size)) (F0 m 22 ls []) := by
        intro NN
        induction NN with
        | zero => intro v22_0 v22_5 I_22 H locs ls hM hF hl hLL22_0 hLL22_1 hLL22_2 hLL22_3 hLL22_4 hLL22_5 hLL22_6 hLL22_7 hLL22_8 hN; exfalso; omega
        | succ NN IH22 =>
          intro v22_0 v22_5 I_22 H locs ls hM hF hl hLL22_0 hLL22_1 hLL22_2 hLL22_3 hLL22_4 hLL22_5 hLL22_6 hLL22_7 hLL22_8 hN
          refine lv_iload_n B.1 B.2.1 dJ6_getChars_ba4f3_22 rfl (lv_at hl 3 rfl) ?_
          refine q_bip B dJ6_getChars_ba4f3_23 (by decide) ?_
          refine q_cgt (tgt := 72) B dJ6_getChars_ba4f3_25 (by decide) (by unfold inr; omega) (by unfold inr; omega) (fun c56 => ?_) (fun c56 => ?_)
          · refine lv_aload_n B.1 B.2.1 dJ6_getChars_ba4f3_72 rfl (lv_at hl 2 rfl) ?_
            refine q_inc (lv' := [(5, .int (II (v22_5 + (-1)))), (6, .int (II s12_0)), (1, .int (II a_p)), (2, .ref a_buf), (0, .int (II v22_0))]) B dJ6_getChars_ba4f3_73 hl (k := 4) rfl (by decide) rfl (fun ls hl => ?_)
            refine lv_iload B.1 B.2.1 dJ6_getChars_ba4f3_76 (lv_at hl 0 rfl) ?_
            obtain ⟨fw57, hf58, aw59, hz60, ht61⟩ := hX.2.2.2.2.2.2.1
            refine va_gets B.1 B.2.1 hz60 hM.2.2.1 B.2.2.2.1 (B.2.2.2.2.1 _ fl_J6_83) (fun _ h => h) dJ6_getChars_ba4f3_78 ?_
            refine lv_iload_n B.1 B.2.1 dJ6_getChars_ba4f3_81 rfl (lv_at hl 4 rfl) ?_
            refine q_neg B dJ6_getChars_ba4f3_82 ?_
            refine c_sbld hf58 B ht61 hM.2.2.1 (by omega) (by omega) (by decide) dJ6_getChars_ba4f3_83 (fun x62 lx62 ux62 => ?_)
            have n63 : 16 ≤ N a_buf ∧ N a_buf ≤ 70000 := gn96 hM.2.2.2.2.2.2.1 t_buf
            refine c_bst B hM t_buf kd96 aq96 dJ6_getChars_ba4f3_84 (by omega) (by omega) (fun I65 H locs x66 lx66 ux66 hu64 hM => ?_)
            have e67 : I65 a_buf ((v22_5 + (-1)).toNat) = x66 := w2_at hu64
            replace hF : Fr mo_J6_getChars_ba4f3 [] T N I J R T N I65 J R := hF.wi hu64 (fun _ _ => by rw [t_buf, cd_arr (j := 0) (by decide)]; rfl)
            refine lv_iload_n B.1 B.2.1 dJ6_getChars_ba4f3_85 rfl (lv_at hl 4 rfl) ?_
            refine q_bip B dJ6_getChars_ba4f3_86 (by decide) ?_
            have JJ104 : ∀ (v104_5 : Int) (I_104 : Nat → Nat → Int) (H : Heap) (locs : List Loc) (ls : Array Slot), (CWd D dA eA (cF dA L T N I J R s.heap.size) s.heap L T N I_104 J R H locs) → (Fr mo_J6_getChars_ba4f3 [] T N I J R T N I_104 J R) → lv_has ls 7 [(6, .int (II s12_0)), (1, .int (II a_p)), (2, .ref a_buf), (0, .int (II v22_0)), (5, .int (II v104_5))] → ((-2147483648 : Int) ≤ v104_5 ∧ v104_5 ≤ 2147483647) → (s12_0 ≤ v104_5) → (v104_5 ≤ a_p) → W p l e ({ frames := 0, cells := 0, slots := 0, locals := 0 }) s m args below meth c H locs 0 0 (MQ below (gQ D dA eA (cF dA L T N I J R s.heap.size) s.heap.size (hs s.heap) PST) args s 0 0 (cF dA L T N I J R s.heap.size)) (F0 m 104 ls []) := by
              intro v104_5 I_104 H locs ls hM hF hl hJJ104_0 hJJ104_1 hJJ104_2
              refine lv_iload B.1 B.2.1 dJ6_getChars_ba4f3_104 (lv_at hl 0 rfl) ?_
              have JJ118 : ∀ (v118_5 : Int) (I_118 : Nat → Nat → Int) (H : Heap) (locs : List Loc) (ls : Array Slot), (CWd D dA eA (cF dA L T N I J R s.heap.size) s.heap L T N I_118 J R H locs) → (Fr mo_J6_getChars_ba4f3 [] T N I J R T N I_118 J R) → lv_has ls 7 [(6, .int (II s12_0)), (1, .int (II a_p)), (2, .ref a_buf), (0, .int (II v22_0)), (5, .int (II v118_5))] → ((-2147483648 : Int) ≤ v118_5 ∧ v118_5 ≤ 2147483647) → W p l e ({ frames := 0, cells := 0, slots := 0, locals := 0 }) s m args below meth c H locs 0 0 (MQ below (gQ D dA eA (cF dA L T N I J R s.heap.size) s.heap.size (hs s.heap) PST) args s 0 0 (cF dA L T N I J R s.heap.size)) (F0 m 118 ls []) := by
                intro v118_5 I_118 H locs ls hM hF hl hJJ118_0
                refine lv_iload B.1 B.2.1 dJ6_getChars_ba4f3_118 (lv_at hl 4 rfl) ?_
                refine g_iret B hM dJ6_getChars_ba4f3_120 ⟨Nat.le_refl _, Nat.le_refl _⟩ ?_
                rw [← hPST]
                exact ⟨v118_5, rfl, by omega, rfl, rfl, rfl, rfl, rfl, hF, by first | omega | assumption | exact trivial⟩
              refine q_ieq (tgt := 118) B dJ6_getChars_ba4f3_106 (by decide) (by unfold inr; omega) (fun c68 => ?_) (fun c68 => ?_)
              · exact JJ118 v104_5 I_104 _ _ ls hM hF (lv_sub hl [0, 1, 2, 3, 4] rfl) (by first | omega | assumption | exact trivial)
              · refine lv_aload_n B.1 B.2.1 dJ6_getChars_ba4f3_109 rfl (lv_at hl 2 rfl) ?_
                refine q_inc (lv' := [(5, .int (II (v104_5 + (-1)))), (6, .int (II s12_0)), (1, .int (II a_p)), (2, .ref a_buf), (0, .int (II v22_0))]) B dJ6_getChars_ba4f3_110 hl (k := 4) rfl (by decide) rfl (fun ls hl => ?_)
                refine lv_iload B.1 B.2.1 dJ6_getChars_ba4f3_113 (lv_at hl 0 rfl) ?_
                refine q_bip B dJ6_getChars_ba4f3_115 (by decide) ?_
                refine c_bst B hM t_buf kd96 aq96 dJ6_getChars_ba4f3_117 (by omega) (by omega) (fun I70 H locs x71 lx71 ux71 hu69 hM => ?_)
                have e72 : I70 a_buf ((v104_5 + (-1)).toNat) = x71 := w2_at hu69
                replace hF : Fr mo_J6_getChars_ba4f3 [] T N I J R T N I70 J R := hF.wi hu69 (fun _ _ => by rw [t_buf, cd_arr (j := 0) (by decide)]; rfl)
                exact JJ118 (v104_5 + (-1)) I70 _ _ ls hM hF (lv_sub hl [1, 2, 3, 4, 0] rfl) (by first | omega | assumption | exact trivial)
            refine q_cge (tgt := 104) B dJ6_getChars_ba4f3_88 (by decide) (by unfold inr; omega) (by unfold inr; omega) (fun c73 => ?_) (fun c73 => ?_)
            · have hv74 : ((-2147483648 : Int) ≤ v22_5 + (-1) ∧ (v22_5 + (-1) : Int) ≤ 2147483647) ∧ (s12_0 ≤ (v22_5 + (-1))) ∧ ((v22_5 + (-1)) ≤ a_p) := by first | omega | exact ⟨by first | omega | assumption | exact trivial, by first | omega | assumption | exact trivial, by first | omega | assumption | exact trivial⟩
              exact JJ104 (v22_5 + (-1)) I65 _ _ ls hM hF (lv_sub hl [1, 2, 3, 4, 0] rfl) hv74.1 hv74.2.1 hv74.2.2
            · have hj2 := DG.two (a := - v22_0) (by assumption) (by omega)
              refine lv_aload_n B.1 B.2.1 dJ6_getChars_ba4f3_91 rfl (lv_at hl 3 rfl) ?_
              refine q_inc (lv' := [(5, .int (II ((v22_5 + (-1)) + (-1)))), (6, .int (II s12_0)), (1, .int (II a_p)), (2, .ref a_buf), (0, .int (II v22_0))]) B dJ6_getChars_ba4f3_92 hl (k := 0) rfl (by decide) rfl (fun ls hl => ?_)
              refine lv_iload B.1 B.2.1 dJ6_getChars_ba4f3_95 (lv_at hl 0 rfl) ?_
              obtain ⟨fw75, hf76, aw77, hz78, ht79⟩ := hX.2.2.2.2.2.1
              refine va_gets B.1 B.2.1 hz78 hM.2.2.1 B.2.2.2.1 (B.2.2.2.2.1 _ fl_J6_87) (fun _ h => h) dJ6_getChars_ba4f3_97 ?_
              refine lv_iload_n B.1 B.2.1 dJ6_getChars_ba4f3_100 rfl (lv_at hl 4 rfl) ?_
              refine q_neg B dJ6_getChars_ba4f3_101 ?_
              refine c_sbld hf76 B ht79 hM.2.2.1 (by omega) (by omega) (by decide) dJ6_getChars_ba4f3_102 (fun x80 lx80 ux80 => ?_)
              refine c_bst B hM t_buf kd96 aq96 dJ6_getChars_ba4f3_103 (by omega) (by omega) (fun I82 H locs x83 lx83 ux83 hu81 hM => ?_)
              have e84 : I82 a_buf (((v22_5 + (-1)) + (-1)).toNat) = x83 := w2_at hu81
              replace hF : Fr mo_J6_getChars_ba4f3 [] T N I J R T N I82 J R := hF.wi hu81 (fun _ _ => by rw [t_buf, cd_arr (j := 0) (by decide)]; rfl)
              have hv85 : ((-2147483648 : Int) ≤ (v22_5 + (-1)) + (-1) ∧ ((v22_5 + (-1)) + (-1) : Int) ≤ 2147483647) ∧ (s12_0 ≤ ((v22_5 + (-1)) + (-1))) ∧ (((v22_5 + (-1)) + (-1)) ≤ a_p) := by first | omega | exact ⟨by first | omega | assumption | exact trivial, by first | omega | assumption | exact trivial, by first | omega | assumption | exact trivial⟩
              exact JJ104 ((v22_5 + (-1)) + (-1)) I82 _ _ ls hM hF (lv_sub hl [1, 2, 3, 4, 0] rfl) hv85.1 hv85.2.1 hv85.2.2
          · have hj3 : 3 ≤ v22_5 - s12_0 := (DG.div (a := - v22_0) (b := 0) (by assumption) (by omega) (by omega) (by omega)).2
            refine lv_iload_n B.1 B.2.1 dJ6_getChars_ba4f3_28 rfl (lv_at hl 3 rfl) ?_
            refine q_bip B dJ6_getChars_ba4f3_29 (by decide) ?_
            refine q_divE B dJ6_getChars_ba4f3_31 (by unfold inr; omega) (by unfold inr; omega) (by omega) (fun x86 ix86 px86 nx86 => ?_)
            unfold inr at ix86
            refine lv_istore_n (lv' := [(3, .int (II x86)), (6, .int (II s12_0)), (1, .int (II a_p)), (2, .ref a_buf), (0, .int (II v22_0)), (5, .int (II v22_5))]) B.1 B.2.1 dJ6_getChars_ba4f3_32 rfl hl (by decide) rfl (fun ls hl => ?_)
            refine lv_iload_n B.1 B.2.1 dJ6_getChars_ba4f3_33 rfl (lv_at hl 0 rfl) ?_
            refine q_bip B dJ6_getChars_ba4f3_34 (by decide) ?_
            refine q_mul B dJ6_getChars_ba4f3_36 ?_
            refine lv_iload_n B.1 B.2.1 dJ6_getChars_ba4f3_37 rfl (lv_at hl 4 rfl) ?_
            refine q_sub B dJ6_getChars_ba4f3_38 ?_
            refine lv_istore (lv' := [(4, .int (II ((x86 * (100 : Int)) - v22_0))), (3, .int (II x86)), (6, .int (II s12_0)), (1, .int (II a_p)), (2, .ref a_buf), (0, .int (II v22_0)), (5, .int (II v22_5))]) B.1 B.2.1 dJ6_getChars_ba4f3_39 hl (by decide) rfl (fun ls hl => ?_)
            refine lv_iload_n B.1 B.2.1 dJ6_getChars_ba4f3_41 rfl (lv_at hl 1 rfl) ?_
            refine lv_istore_n (lv' := [(0, .int (II x86)), (4, .int (II ((x86 * (100 : Int)) - v22_0))), (3, .int (II x86)), (6, .int (II s12_0)), (1, .int (II a_p)), (2, .ref a_buf), (5, .int (II v22_5))]) B.1 B.2.1 dJ6_getChars_ba4f3_42 rfl hl (by decide) rfl (fun ls hl => ?_)
            refine lv_aload_n B.1 B.2.1 dJ6_getChars_ba4f3_43 rfl (lv_at hl 5 rfl) ?_
            refine q_inc (lv' := [(5, .int (II (v22_5 + (-1)))), (0, .int (II x86)), (4, .int (II ((x86 * (100 : Int)) - v22_0))), (3, .int (II x86)), (6, .int (II s12_0)), (1, .int (II a_p)), (2, .ref a_buf)]) B dJ6_getChars_ba4f3_44 hl (k := 6) rfl (by decide) rfl (fun ls hl => ?_)
            refine lv_iload B.1 B.2.1 dJ6_getChars_ba4f3_47 (lv_at hl 0 rfl) ?_
            obtain ⟨fw87, hf88, aw89, hz90, ht91⟩ := hX.2.2.2.2.2.2.1
            refine va_gets B.1 B.2.1 hz90 hM.2.2.1 B.2.2.2.1 (B.2.2.2.2.1 _ fl_J6_83) (fun _ h => h) dJ6_getChars_ba4f3_49 ?_
            refine lv_iload B.1 B.2.1 dJ6_getChars_ba4f3_52 (lv_at hl 2 rfl) ?_
            refine c_sbld hf88 B ht91 hM.2.2.1 (by omega) (by omega) (by decide) dJ6_getChars_ba4f3_54 (fun x92 lx92 ux92 => ?_)
            have n93 : 16 ≤ N a_buf ∧ N a_buf ≤ 70000 := gn96 hM.2.2.2.2.2.2.1 t_buf
            refine c_bst B hM t_buf kd96 aq96 dJ6_getChars_ba4f3_55 (by omega) (by omega) (fun I95 H locs x96 lx96 ux96 hu94 hM => ?_)
            have e97 : I95 a_buf ((v22_5 + (-1)).toNat) = x96 := w2_at hu94
            replace hF : Fr mo_J6_getChars_ba4f3 [] T N I J R T N I95 J R := hF.wi hu94 (fun _ _ => by rw [t_buf, cd_arr (j := 0) (by decide)]; rfl)
            refine lv_aload_n B.1 B.2.1 dJ6_getChars_ba4f3_56 rfl (lv_at hl 6 rfl) ?_
            refine q_inc (lv' := [(5, .int (II ((v22_5 + (-1)) + (-1)))), (0, .int (II x86)), (4, .int (II ((x86 * (100 : Int)) - v22_0))), (3, .int (II x86)), (6, .int (II s12_0)), (1, .int (II a_p)), (2, .ref a_buf)]) B dJ6_getChars_ba4f3_57 hl (k := 0) rfl (by decide) rfl (fun ls hl => ?_)
            refine lv_iload B.1 B.2.1 dJ6_getChars_ba4f3_60 (lv_at hl 0 rfl) ?_
            obtain ⟨fw98, hf99, aw100, hz101, ht102⟩ := hX.2.2.2.2.2.1
            refine va_gets B.1 B.2.1 hz101 hM.2.2.1 B.2.2.2.1 (B.2.2.2.2.1 _ fl_J6_87) (fun _ h => h) dJ6_getChars_ba4f3_62 ?_
            refine lv_iload B.1 B.2.1 dJ6_getChars_ba4f3_65 (lv_at hl 2 rfl) ?_
            refine c_sbld hf99 B ht102 hM.2.2.1 (by omega) (by omega) (by decide) dJ6_getChars_ba4f3_67 (fun x103 lx103 ux103 => ?_)
            refine c_bst B hM t_buf kd96 aq96 dJ6_getChars_ba4f3_68 (by omega) (by omega) (fun I105 H locs x106 lx106 ux106 hu104 hM => ?_)
            have e107 : I105 a_buf (((v22_5 + (-1)) + (-1)).toNat) = x106 := w2_at hu104
            replace hF : Fr mo_J6_getChars_ba4f3 [] T N I J R T N I105 J R := hF.wi hu104 (fun _ _ => by rw [t_buf, cd_arr (j := 0) (by decide)]; rfl)
            refine lv_goto (tgt := 22) B.1 B.2.1 dJ6_getChars_ba4f3_69 (by decide) ?_
            have hv108 : ((-2147483648 : Int) ≤ x86 ∧ (x86 : Int) ≤ 2147483647) ∧ ((-2147483648 : Int) ≤ (v22_5 + (-1)) + (-1) ∧ ((v22_5 + (-1)) + (-1) : Int) ≤ 2147483647) ∧ (x86 ≤ 0) ∧ (0 ≤ s12_0) ∧ (s12_0 ≤ 1) ∧ (1 ≤ ((v22_5 + (-1)) + (-1)) - s12_0) ∧ (((v22_5 + (-1)) + (-1)) ≤ a_p) ∧ (0 ≤ - x86) := by first | omega | exact ⟨by first | omega | assumption | exact trivial, by first | omega | assumption | exact trivial, by first | omega | assumption | exact trivial, by first | omega | assumption | exact trivial, by first | omega | assumption | exact trivial, by first | omega | assumption | exact trivial, by first | omega | assumption | exact trivial, by first | omega | assumption | exact trivial⟩
            exact IH22 x86 ((v22_5 + (-1)) + (-1)) I105 _ _ ls hM hF (lv_sub hl [4, 5, 6, 1, 0] rfl) hv108.1 hv108.2.1 hv108.2.2.1 hv108.2.2.2.1 hv108.2.2.2.2.1 hv108.2.2.2.2.2.1 hv108.2.2.2.2.2.2.1 (by first | (rcases Int.lt_or_le a_i 0 with h9 | h9 <;> first | exact DG.mono (p_1 h9).1 (by omega) | (rw [show - x86 = a_i from by omega]; exact DG.mono (p_0 h9) (by omega)) | omega) | exact DG.mono (DG.div (by assumption) (by omega) (by omega) (by omega)).1 (by omega)) hv108.2.2.2.2.2.2.2 (by omega)
      have hv109 : ((-2147483648 : Int) ≤ - a_i ∧ (- a_i : Int) ≤ 2147483647) ∧ ((-2147483648 : Int) ≤ a_p ∧ (a_p : Int) ≤ 2147483647) ∧ ((- a_i) ≤ 0) ∧ (0 ≤ s12_0) ∧ (s12_0 ≤ 1) ∧ (1 ≤ a_p - s12_0) ∧ (a_p ≤ a_p) ∧ (0 ≤ - (- a_i)) := by first | omega | exact ⟨by first | omega | assumption | exact trivial, by first | omega | assumption | exact trivial, by first | omega | assumption | exact trivial, by first | omega | assumption | exact trivial, by first | omega | assumption | exact trivial, by first | omega | assumption | exact trivial, by first | omega | assumption | exact trivial, by first | omega | assumption | exact trivial⟩
      exact LL22 (Int.toNat (- (- a_i) + 1)) (- a_i) a_p I _ _ ls hM hF (lv_sub hl [1, 3, 4, 0, 2] rfl) hv109.1 hv109.2.1 hv109.2.2.1 hv109.2.2.2.1 hv109.2.2.2.2.1 hv109.2.2.2.2.2.1 hv109.2.2.2.2.2.2.1 (by first | (rcases Int.lt_or_le a_i 0 with h9 | h9 <;> first | exact DG.mono (p_1 h9).1 (by omega) | (rw [show - (- a_i) = a_i from by omega]; exact DG.mono (p_0 h9) (by omega)) | omega) | exact DG.mono (DG.div (by assumption) (by omega) (by omega) (by omega)).1 (by omega)) hv109.2.2.2.2.2.2.2 (by omega)
  refine q_ige (tgt := 11) B dJ6_getChars_ba4f3_4 (by decide) (by unfold inr; omega) (fun c110 => ?_) (fun c110 => ?_)
  · refine q_con B dJ6_getChars_ba4f3_11 ?_
    have hv111 : ((-2147483648 : Int) ≤ 0 ∧ (0 : Int) ≤ 2147483647) ∧ (((0 : Int) = 1 ∧ a_i < 0) ∨ ((0 : Int) = 0 ∧ 0 ≤ a_i)) := by first | omega | exact ⟨by first | omega | assumption | exact trivial, by first | omega | assumption | exact trivial⟩
    exact JJ12 0 _ _ ls hM (lv_sub hl [0, 1, 2, 3] rfl) hv111.1 hv111.2
  · refine q_con B dJ6_getChars_ba4f3_7 ?_
    refine lv_goto (tgt := 12) B.1 B.2.1 dJ6_getChars_ba4f3_8 (by decide) ?_
    have hv112 : ((-2147483648 : Int) ≤ 1 ∧ (1 : Int) ≤ 2147483647) ∧ (((1 : Int) = 1 ∧ a_i < 0) ∨ ((1 : Int) = 0 ∧ 0 ≤ a_i)) := by first | omega | exact ⟨by first | omega | assumption | exact trivial, by first | omega | assumption | exact trivial⟩
    exact JJ12 1 _ _ ls hM (lv_sub hl [0, 1, 2, 3] rfl) hv112.1 hv112.2
