def moC : List Nat := [22 * 32, 22 * 32 + 2, 57 * 32]
set_option maxRecDepth 20000 in
theorem k_Jx4a65c_clear_da8c8 (l : Launch) (D : va_G) (dA : Nat → ClassId) (eA : Nat) (L : List Nat) (T N : Nat → Nat) (I : Nat → Nat → Int) (J : Nat → Nat → Int64) (R : Nat → Nat → Nat) (a : Nat) (t_a : T a = 22) : GC l yJx4a65c_clear_da8c8 cJx4a65c_clear_da8c8 4 none ({ frames := 0, cells := 0, slots := 0, locals := 0 }) D dA eA L T N I J R [.ref a] 0 0 (gV (fun L' T' N' I' J' R' _ _ => L' = L ∧ T' = T ∧ N' = N ∧ J' = J ∧ Fr moC [] T N I J R T' N' I' J' R' ∧ (I' a 2 = 0))) := by
  generalize hPST : (gV (fun L' T' N' I' J' R' _ _ => L' = L ∧ T' = T ∧ N' = N ∧ J' = J ∧ Fr moC [] T N I J R T' N' I' J' R' ∧ (I' a 2 = 0))) = PST
  refine g_enter (own := RJx4a65c) (by decide) rfl (Nat.le_of_ble_eq_true rfl) (fun p e s m args below meth c ls hmn B hX hM hl => ?_)
  have hl : lv_has ls 4 [(0, .ref a)] := hl
  have hC0 := hM.2.2.2.2.2.2.1
  have hr := gls_2 hC0 t_a (by decide) (by decide)
  have hr2 : I a 2 ≤ 200 := hr.2
  obtain ⟨b, e1, tb⟩ := gls_1 hC0 t_a (by decide) (by decide)
  have hx1 := hM.2.2.2.2.2.2.2.1 a (by omega) (by omega)
  rw [e1, Nat.add_sub_cancel] at hx1
  refine lv_aload_n B.1 B.2.1 dJx4a65c_clear_da8c8_0 rfl (lv_at hl 0 rfl) ?_
  refine lv_dup B.1 B.2.1 dJx4a65c_clear_da8c8_1 rfl ?_
  refine c_getM B hM (lt := 22) (by decide) (by decide) t_a dJx4a65c_clear_da8c8_2 ?_
  refine q_con B dJx4a65c_clear_da8c8_5 ?_
  refine q_add B dJx4a65c_clear_da8c8_6 ?_
  refine c_putM B hM (lt := 22) (by decide) (by decide) t_a dJx4a65c_clear_da8c8_7 (fun v I1 H locs hI hM1 => ?_)
  have hF1 : Fr moC [] T N I J R T N I1 J R := Fr.rf.wi hI (fun _ _ => by rw [t_a]; rfl)
  have i2 : I1 a 2 = I a 2 := w2_ne hI (Or.inr (by decide))
  refine lv_aload_n B.1 B.2.1 dJx4a65c_clear_da8c8_10 rfl (lv_at hl 0 rfl) ?_
  refine c_getn (k := 1) pk_Jx4a65c B hM1 t_a kd22 rfl (by decide) fl_Jx4a65c_9 dJx4a65c_clear_da8c8_11 e1 ?_
  refine lv_astore_n (lv' := [(1, .ref b), (0, .ref a)]) B.1 B.2.1 dJx4a65c_clear_da8c8_14 rfl hl (by decide) rfl (fun ls hl => ?_)
  refine lv_aload_n B.1 B.2.1 dJx4a65c_clear_da8c8_15 rfl (lv_at hl 1 rfl) ?_
  refine c_geti (k := 2) pk_Jx4a65c B hM1 t_a kd22 rfl (by decide) fl_Jx4a65c_48 dJx4a65c_clear_da8c8_16 i2 ?_
  refine lv_istore_n (lv' := [(2, .int (II (I a 2))), (1, .ref b), (0, .ref a)]) B.1 B.2.1 dJx4a65c_clear_da8c8_19 rfl hl (by decide) rfl (fun ls hl => ?_)
  refine lv_aload_n B.1 B.2.1 dJx4a65c_clear_da8c8_20 rfl (lv_at hl 2 rfl) ?_
  refine q_con B dJx4a65c_clear_da8c8_21 ?_
  refine lv_dup_x1 B.1 B.2.1 dJx4a65c_clear_da8c8_22 rfl rfl ?_
  refine c_putiX (k := 2) pk_Jx4a65c B hM1 t_a kd22 rfl (by decide) fl_Jx4a65c_48 (Or.inl rfl) dJx4a65c_clear_da8c8_23 rfl rfl (by decide) (by decide) (fun I' hI' => XI.size hM1.2.2.2.2.2.2.1 hM1.2.2.2.2.2.2.2 (lt := 22) (by decide) (by decide) t_a e1 (by omega) (fun i hi => by omega) (fun h => by omega) (fun h => by omega) hI') (fun I2 H locs hI2 hM2 => ?_)
  have hF2 : Fr moC [] T N I J R T N I2 J R := hF1.wi hI2 (fun _ _ => by rw [t_a]; rfl)
  have z2 : I2 a 2 = 0 := w2_at hI2
  refine lv_istore_n (lv' := [(3, .int (II 0)), (2, .int (II (I a 2))), (1, .ref b), (0, .ref a)]) B.1 B.2.1 dJx4a65c_clear_da8c8_26 rfl hl (by decide) rfl (fun ls hl => ?_)
  have LP : ∀ (NN : Nat) (i : Int) (R3 : Nat → Nat → Nat) (H : Heap) (locs : List Loc) (ls : Array Slot), CWd D dA eA (cF dA L T N I J R s.heap.size) s.heap L T N I2 J R3 H locs → Fr moC [] T N I J R T N I2 J R3 → lv_has ls 4 [(3, .int (II i)), (2, .int (II (I a 2))), (1, .ref b), (0, .ref a)] → 0 ≤ i → i ≤ I a 2 → I a 2 - i < NN → W p l e ({ frames := 0, cells := 0, slots := 0, locals := 0 }) s m args below meth c H locs 0 0 (MQ below (gQ D dA eA (cF dA L T N I J R s.heap.size) s.heap.size (hs s.heap) PST) args s 0 0 (cF dA L T N I J R s.heap.size)) (F0 m 27 ls []) := by
    intro NN
    induction NN with
    | zero => intro i R3 H locs ls _ _ _ h1 h2 h3; omega
    | succ NN IH =>
      intro i R3 H locs ls hM3 hF3 hl h1 h2 h3
      refine lv_iload_n B.1 B.2.1 dJx4a65c_clear_da8c8_27 rfl (lv_at hl 0 rfl) ?_
      refine lv_iload_n B.1 B.2.1 dJx4a65c_clear_da8c8_28 rfl (lv_at hl 1 rfl) ?_
      refine q_cge (tgt := 42) B dJx4a65c_clear_da8c8_29 (by decide) (by unfold inr; omega) (by unfold inr; omega) (fun hge => ?_) (fun hlt => ?_)
      · refine g_vret B hM3 dJx4a65c_clear_da8c8_42 ⟨Nat.le_refl _, Nat.le_refl _⟩ ?_
        rw [← hPST]
        exact ⟨rfl, rfl, rfl, rfl, rfl, hF3, z2⟩
      · have tb : T b = 57 := by
          rcases tb with tb | tb
          · exact tb
          · have := n_one hC0 tb
            omega
        refine lv_aload_n B.1 B.2.1 dJx4a65c_clear_da8c8_32 rfl (lv_at hl 2 rfl) ?_
        refine lv_iload_n B.1 B.2.1 dJx4a65c_clear_da8c8_33 rfl (lv_at hl 0 rfl) ?_
        refine lv_null B.1 B.2.1 dJx4a65c_clear_da8c8_34 ?_
        have e3 : R3 a 1 = b + 1 := (hF3.r t_a (by decide) nm0 rfl).trans e1
        refine c_astN B hM3 (lt := 22) (by decide) (by decide) tb dJx4a65c_clear_da8c8_35 h1 (by omega) (fun R' hu => XI.elem hM3.2.2.2.2.2.2.1 hM3.2.2.2.2.2.2.2 (lt := 22) (by decide) (by decide) t_a e3 tb (by rw [z2]; omega) hu) (fun R4 H locs hu hM4 => ?_)
        refine q_inc (lv' := [(3, .int (II (i + 1))), (2, .int (II (I a 2))), (1, .ref b), (0, .ref a)]) B dJx4a65c_clear_da8c8_36 hl (k := 0) rfl (by decide) rfl (fun ls hl => ?_)
        refine lv_goto (tgt := 27) B.1 B.2.1 dJx4a65c_clear_da8c8_39 (by decide) ?_
        exact IH (i + 1) R4 H locs ls hM4 (hF3.wr hu (fun _ _ => by rw [tb]; rfl)) hl (by omega) (by omega) (by omega)
  exact LP (Int.toNat (I a 2 + 1)) 0 R H locs ls hM2 hF2 hl (by omega) hr.1 (by omega)
