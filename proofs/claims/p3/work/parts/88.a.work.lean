def mo_X7_work : List Nat := [2368, 265]
set_option maxHeartbeats 1000000 in
set_option maxRecDepth 20000 in
theorem k_X7_work (l : Launch) (D : va_G) (dA : Nat → ClassId) (eA : Nat) (L : List Nat) (T N : Nat → Nat) (I : Nat → Nat → Int) (J : Nat → Nat → Int64) (R : Nat → Nat → Nat) (a_this : Nat) (t_this : T a_this = 8) (a_st : Int) (i_st : (0 : Int) ≤ a_st ∧ a_st ≤ 1) (a_v : Int) (i_v : (-2147483648 : Int) ≤ a_v ∧ a_v ≤ 2147483647) (a_a : Int) (i_a : (-2147483648 : Int) ≤ a_a ∧ a_a ≤ 2147483647) (a_b : Int) (i_b : (-2147483648 : Int) ≤ a_b ∧ a_b ≤ 2147483647) : GC l yX7_work cX7_work 12 (some .boolean) ({ frames := 0, cells := 0, slots := 0, locals := 0 }) D dA eA L T N I J R [.ref a_this, .int (II a_st), .int (II a_v), .int (II a_a), .int (II a_b)] 0 0 (gI (fun r L' T' N' I' J' R' dz dl => L' = L ∧ T' = T ∧ N' = N ∧ J' = J ∧ R' = R ∧ Fr mo_X7_work [] T N I J R T' N' I' J' R' ∧ (0 : Int) ≤ r ∧ r ≤ 1 ∧ (True))) := by
  generalize hPST : (gI (fun r L' T' N' I' J' R' dz dl => L' = L ∧ T' = T ∧ N' = N ∧ J' = J ∧ R' = R ∧ Fr mo_X7_work [] T N I J R T' N' I' J' R' ∧ (0 : Int) ≤ r ∧ r ≤ 1 ∧ (True))) = PST
  refine g_enter (own := RX7) (by decide) rfl (Nat.le_of_ble_eq_true rfl) (fun p e s m args below meth c ls hm B hX hM hl => ?_)
  have hC0 := hM.2.2.2.2.2.2.1
  have hW0 := hM.2.2.2
  have hF : Fr mo_X7_work [] T N I J R T N I J R := Fr.rf
  have hA : ∀ q, s.heap.size ≤ q → cF dA L T N I J R s.heap.size q := fun q h => Or.inr h
  have hl : lv_has ls 12 [(0, .ref a_this), (1, .int (II a_st)), (2, .int (II a_v)), (3, .int (II a_a)), (4, .int (II a_b))] := hl
  refine lv_iload_n B.1 B.2.1 dX7_work_0 rfl (lv_at hl 1 rfl) ?_
  have JJ15 : ∀ (s15_0 : Nat) (H : Heap) (locs : List Loc) (ls : Array Slot), (CWd D dA eA (cF dA L T N I J R s.heap.size) s.heap L T N I J R H locs) → lv_has ls 12 [(0, .ref a_this), (1, .int (II a_st)), (2, .int (II a_v)), (3, .int (II a_a)), (4, .int (II a_b))] → (T s15_0 = 73) → W p l e ({ frames := 0, cells := 0, slots := 0, locals := 0 }) s m args below meth c H locs 0 0 (MQ below (gQ D dA eA (cF dA L T N I J R s.heap.size) s.heap.size (hs s.heap) PST) args s 0 0 (cF dA L T N I J R s.heap.size)) (F0 m 15 ls [.ref s15_0]) := by
    intro s15_0 H locs ls hM hl hJJ15_0
    refine lv_astore (lv' := [(5, .ref s15_0), (0, .ref a_this), (1, .int (II a_st)), (2, .int (II a_v)), (3, .int (II a_a)), (4, .int (II a_b))]) B.1 B.2.1 dX7_work_15 hl (by decide) rfl (fun ls hl => ?_)
    refine lv_iload_n B.1 B.2.1 dX7_work_17 rfl (lv_at hl 2 rfl) ?_
    have JJ32 : ∀ (s32_0 : Nat) (H : Heap) (locs : List Loc) (ls : Array Slot), (CWd D dA eA (cF dA L T N I J R s.heap.size) s.heap L T N I J R H locs) → lv_has ls 12 [(5, .ref s15_0), (0, .ref a_this), (1, .int (II a_st)), (2, .int (II a_v)), (3, .int (II a_a)), (4, .int (II a_b))] → (T s32_0 = 73) → W p l e ({ frames := 0, cells := 0, slots := 0, locals := 0 }) s m args below meth c H locs 0 0 (MQ below (gQ D dA eA (cF dA L T N I J R s.heap.size) s.heap.size (hs s.heap) PST) args s 0 0 (cF dA L T N I J R s.heap.size)) (F0 m 32 ls [.ref s32_0]) := by
      intro s32_0 H locs ls hM hl hJJ32_0
      refine lv_astore (lv' := [(6, .ref s32_0), (5, .ref s15_0), (0, .ref a_this), (1, .int (II a_st)), (2, .int (II a_v)), (3, .int (II a_a)), (4, .int (II a_b))]) B.1 B.2.1 dX7_work_32 hl (by decide) rfl (fun ls hl => ?_)
      refine q_con B dX7_work_34 ?_
      refine lv_istore (lv' := [(7, .int (II 0)), (6, .ref s32_0), (5, .ref s15_0), (0, .ref a_this), (1, .int (II a_st)), (2, .int (II a_v)), (3, .int (II a_a)), (4, .int (II a_b))]) B.1 B.2.1 dX7_work_35 hl (by decide) rfl (fun ls hl => ?_)
      refine q_con B dX7_work_37 ?_
      refine lv_istore (lv' := [(8, .int (II 0)), (7, .int (II 0)), (6, .ref s32_0), (5, .ref s15_0), (0, .ref a_this), (1, .int (II a_st)), (2, .int (II a_v)), (3, .int (II a_a)), (4, .int (II a_b))]) B.1 B.2.1 dX7_work_38 hl (by decide) rfl (fun ls hl => ?_)
      have LL40 : ∀ NN : Nat, ∀ (v40_7 : Int) (v40_8 : Int) (I_40 : Nat → Nat → Int) (H : Heap) (locs : List Loc) (ls : Array Slot), (CWd D dA eA (cF dA L T N I J R s.heap.size) s.heap L T N I_40 J R H locs) → (Fr mo_X7_work [] T N I J R T N I_40 J R) → lv_has ls 12 [(6, .ref s32_0), (5, .ref s15_0), (0, .ref a_this), (1, .int (II a_st)), (2, .int (II a_v)), (3, .int (II a_a)), (4, .int (II a_b)), (7, .int (II v40_7)), (8, .int (II v40_8))] → ((-2147483648 : Int) ≤ v40_7 ∧ v40_7 ≤ 2147483647) → ((-2147483648 : Int) ≤ v40_8 ∧ v40_8 ≤ 2147483647) → (0 ≤ v40_7) → (v40_7 ≤ 16) → (0 ≤ v40_8) → (v40_8 ≤ 40) → (0 ≤ 41 - v40_8) → (41 - v40_8 < (NN : Int)) → W p l e ({ frames := 0, cells := 0, slots := 0, locals := 0 }) s m args below meth c H locs 0 0 (MQ below (gQ D dA eA (cF dA L T N I J R s.heap.size) s.heap.size (hs s.heap) PST) args s 0 0 (cF dA L T N I J R s.heap.size)) (F0 m 40 ls []) := by
        intro NN
        induction NN with
        | zero => intro v40_7 v40_8 I_40 H locs ls hM hF hl hLL40_0 hLL40_1 hLL40_2 hLL40_3 hLL40_4 hLL40_5 hLL40_6 hN; exfalso; omega
        | succ NN IH40 =>
          intro v40_7 v40_8 I_40 H locs ls hM hF hl hLL40_0 hLL40_1 hLL40_2 hLL40_3 hLL40_4 hLL40_5 hLL40_6 hN
          refine lv_iload B.1 B.2.1 dX7_work_40 (lv_at hl 8 rfl) ?_
          refine lv_aload B.1 B.2.1 dX7_work_42 (lv_at hl 1 rfl) ?_
          have n1 : 0 ≤ N s15_0 ∧ N s15_0 ≤ 40 := gn73 hM.2.2.2.2.2.2.1 hJJ15_0
          refine c_len B hM hJJ15_0 kd73 (by decide) dX7_work_44 rfl ?_
          refine q_cge (tgt := 503) B dX7_work_45 (by decide) (by unfold inr; omega) (by unfold inr; omega) (fun c2 => ?_) (fun c2 => ?_)
          · refine lv_aload_n B.1 B.2.1 dX7_work_503 rfl (lv_at hl 2 rfl) ?_
            refine lv_iload B.1 B.2.1 dX7_work_504 (lv_at hl 7 rfl) ?_
            refine q_ine (tgt := 513) B dX7_work_506 (by decide) (by unfold inr; omega) (fun c3 => ?_) (fun c3 => ?_)
            · refine lv_aload_n B.1 B.2.1 dX7_work_513 rfl (lv_at hl 2 rfl) ?_
              obtain ⟨b4, e5, t6⟩ := g8_10 hC0 t_this
              refine c_getn (k := 10) pk_X7 B hM t_this kd8 rfl (by decide) fl_X7_28 dX7_work_514 e5 ?_
              refine lv_iload B.1 B.2.1 dX7_work_517 (lv_at hl 7 rfl) ?_
              refine q_con B dX7_work_519 ?_
              refine q_sub B dX7_work_520 ?_
              have n7 : 16 ≤ N b4 ∧ N b4 ≤ 16 := gn74 hM.2.2.2.2.2.2.1 t6
              obtain ⟨x8, e9⟩ : ∃ v, I_40 b4 ((v40_7 - (1 : Int)).toNat) = v := ⟨_, rfl⟩
              have r10 : (-2147483648 : Int) ≤ x8 ∧ x8 ≤ 2147483647 := by rw [← e9]; exact ga74 hM.2.2.2.2.2.2.1 t6 (by omega)
              refine c_ild B hM t6 kd74 an74 dX7_work_521 (by omega) (by omega) e9 ?_
              refine c_puti (k := 9) pk_X7 B hM t_this kd8 rfl (by decide) fl_X7_31 (Or.inl rfl) dX7_work_522 rfl rfl rfl (show (-2147483648 : Int) ≤ x8 from by omega) (show x8 ≤ (2147483647 : Int) from by omega) (fun I11 H locs hu12 hM => ?_)
              have e13 : I11 a_this 9 = x8 := w2_at hu12
              replace hF : Fr mo_X7_work [] T N I J R T N I11 J R := hF.wi hu12 (fun _ _ => by rw [t_this]; rfl)
              refine q_con B dX7_work_525 ?_
              refine g_zret B hM dX7_work_526 ⟨Nat.le_refl _, Nat.le_refl _⟩ (by omega) (by omega) ?_
              rw [← hPST]
              exact ⟨(1), rfl, by omega, rfl, rfl, rfl, rfl, rfl, hF, by omega, by omega, by first | omega | assumption | exact trivial⟩
            · refine q_con B dX7_work_509 ?_
              refine lv_goto (tgt := 522) B.1 B.2.1 dX7_work_510 (by decide) ?_
              refine c_puti (k := 9) pk_X7 B hM t_this kd8 rfl (by decide) fl_X7_31 (Or.inl rfl) dX7_work_522 rfl rfl rfl (show (-2147483648 : Int) ≤ 1 from by omega) (show 1 ≤ (2147483647 : Int) from by omega) (fun I14 H locs hu15 hM => ?_)
              have e16 : I14 a_this 9 = 1 := w2_at hu15
              replace hF : Fr mo_X7_work [] T N I J R T N I14 J R := hF.wi hu15 (fun _ _ => by rw [t_this]; rfl)
              refine q_con B dX7_work_525 ?_
              refine g_zret B hM dX7_work_526 ⟨Nat.le_refl _, Nat.le_refl _⟩ (by omega) (by omega) ?_
              rw [← hPST]
              exact ⟨(1), rfl, by omega, rfl, rfl, rfl, rfl, rfl, hF, by omega, by omega, by first | omega | assumption | exact trivial⟩
          · refine lv_iload B.1 B.2.1 dX7_work_48 (lv_at hl 8 rfl) ?_
            refine lv_aload B.1 B.2.1 dX7_work_50 (lv_at hl 0 rfl) ?_
            have n17 : 0 ≤ N s32_0 ∧ N s32_0 ≤ 40 := gn73 hM.2.2.2.2.2.2.1 hJJ32_0
            refine c_len B hM hJJ32_0 kd73 (by decide) dX7_work_52 rfl ?_
            refine q_cge (tgt := 503) B dX7_work_53 (by decide) (by unfold inr; omega) (by unfold inr; omega) (fun c18 => ?_) (fun c18 => ?_)
            · refine lv_aload_n B.1 B.2.1 dX7_work_503 rfl (lv_at hl 2 rfl) ?_
              refine lv_iload B.1 B.2.1 dX7_work_504 (lv_at hl 7 rfl) ?_
              refine q_ine (tgt := 513) B dX7_work_506 (by decide) (by unfold inr; omega) (fun c19 => ?_) (fun c19 => ?_)
              · refine lv_aload_n B.1 B.2.1 dX7_work_513 rfl (lv_at hl 2 rfl) ?_
                obtain ⟨b20, e21, t22⟩ := g8_10 hC0 t_this
                refine c_getn (k := 10) pk_X7 B hM t_this kd8 rfl (by decide) fl_X7_28 dX7_work_514 e21 ?_
                refine lv_iload B.1 B.2.1 dX7_work_517 (lv_at hl 7 rfl) ?_
                refine q_con B dX7_work_519 ?_
                refine q_sub B dX7_work_520 ?_
                have n23 : 16 ≤ N b20 ∧ N b20 ≤ 16 := gn74 hM.2.2.2.2.2.2.1 t22
                obtain ⟨x24, e25⟩ : ∃ v, I_40 b20 ((v40_7 - (1 : Int)).toNat) = v := ⟨_, rfl⟩
                have r26 : (-2147483648 : Int) ≤ x24 ∧ x24 ≤ 2147483647 := by rw [← e25]; exact ga74 hM.2.2.2.2.2.2.1 t22 (by omega)
                refine c_ild B hM t22 kd74 an74 dX7_work_521 (by omega) (by omega) e25 ?_
                refine c_puti (k := 9) pk_X7 B hM t_this kd8 rfl (by decide) fl_X7_31 (Or.inl rfl) dX7_work_522 rfl rfl rfl (show (-2147483648 : Int) ≤ x24 from by omega) (show x24 ≤ (2147483647 : Int) from by omega) (fun I27 H locs hu28 hM => ?_)
                have e29 : I27 a_this 9 = x24 := w2_at hu28
                replace hF : Fr mo_X7_work [] T N I J R T N I27 J R := hF.wi hu28 (fun _ _ => by rw [t_this]; rfl)
                refine q_con B dX7_work_525 ?_
                refine g_zret B hM dX7_work_526 ⟨Nat.le_refl _, Nat.le_refl _⟩ (by omega) (by omega) ?_
                rw [← hPST]
                exact ⟨(1), rfl, by omega, rfl, rfl, rfl, rfl, rfl, hF, by omega, by omega, by first | omega | assumption | exact trivial⟩
              · refine q_con B dX7_work_509 ?_
                refine lv_goto (tgt := 522) B.1 B.2.1 dX7_work_510 (by decide) ?_
                refine c_puti (k := 9) pk_X7 B hM t_this kd8 rfl (by decide) fl_X7_31 (Or.inl rfl) dX7_work_522 rfl rfl rfl (show (-2147483648 : Int) ≤ 1 from by omega) (show 1 ≤ (2147483647 : Int) from by omega) (fun I30 H locs hu31 hM => ?_)
                have e32 : I30 a_this 9 = 1 := w2_at hu31
                replace hF : Fr mo_X7_work [] T N I J R T N I30 J R := hF.wi hu31 (fun _ _ => by rw [t_this]; rfl)
                refine q_con B dX7_work_525 ?_
                refine g_zret B hM dX7_work_526 ⟨Nat.le_refl _, Nat.le_refl _⟩ (by omega) (by omega) ?_
                rw [← hPST]
                exact ⟨(1), rfl, by omega, rfl, rfl, rfl, rfl, rfl, hF, by omega, by omega, by first | omega | assumption | exact trivial⟩
            · refine lv_aload B.1 B.2.1 dX7_work_56 (lv_at hl 1 rfl) ?_
              refine lv_iload B.1 B.2.1 dX7_work_58 (lv_at hl 8 rfl) ?_
              obtain ⟨x33, e34⟩ : ∃ v, I_40 s15_0 v40_8.toNat = v := ⟨_, rfl⟩
              have r35 : (-2147483648 : Int) ≤ x33 ∧ x33 ≤ 2147483647 := by rw [← e34]; exact ga73 hM.2.2.2.2.2.2.1 hJJ15_0 (by omega)
              refine c_ild B hM hJJ15_0 kd73 an73 dX7_work_60 (by omega) (by omega) e34 ?_
              refine lv_istore (lv' := [(9, .int (II x33)), (6, .ref s32_0), (5, .ref s15_0), (0, .ref a_this), (1, .int (II a_st)), (2, .int (II a_v)), (3, .int (II a_a)), (4, .int (II a_b)), (7, .int (II v40_7)), (8, .int (II v40_8))]) B.1 B.2.1 dX7_work_61 hl (by decide) rfl (fun ls hl => ?_)
              refine lv_iload B.1 B.2.1 dX7_work_63 (lv_at hl 0 rfl) ?_
              refine q_bip B dX7_work_65 (by decide) ?_
              refine q_ceq (tgt := 91) B dX7_work_67 (by decide) (by unfold inr; omega) (by unfold inr; omega) (fun c36 => ?_) (fun c36 => ?_)
              · refine lv_iload B.1 B.2.1 dX7_work_91 (lv_at hl 8 rfl) ?_
                refine q_bip B dX7_work_93 (by decide) ?_
                refine q_clt (tgt := 100) B dX7_work_95 (by decide) (by unfold inr; omega) (by unfold inr; omega) (fun c37 => ?_) (fun c37 => ?_)
                · refine lv_aload_n B.1 B.2.1 dX7_work_100 rfl (lv_at hl 3 rfl) ?_
                  obtain ⟨b38, e39, t40⟩ := g8_10 hC0 t_this
                  refine c_getn (k := 10) pk_X7 B hM t_this kd8 rfl (by decide) fl_X7_28 dX7_work_101 e39 ?_
                  refine lv_iload B.1 B.2.1 dX7_work_104 (lv_at hl 8 rfl) ?_
                  refine lv_iload B.1 B.2.1 dX7_work_106 (lv_at hl 0 rfl) ?_
                  refine q_bip B dX7_work_108 (by decide) ?_
                  have JJ145 : ∀ (s145_0 : Int) (H : Heap) (locs : List Loc) (ls : Array Slot), (CWd D dA eA (cF dA L T N I J R s.heap.size) s.heap L T N I_40 J R H locs) → lv_has ls 12 [(9, .int (II x33)), (6, .ref s32_0), (5, .ref s15_0), (0, .ref a_this), (1, .int (II a_st)), (2, .int (II a_v)), (3, .int (II a_a)), (4, .int (II a_b)), (7, .int (II v40_7)), (8, .int (II v40_8))] → ((-2147483648 : Int) ≤ s145_0 ∧ s145_0 ≤ 2147483647) → W p l e ({ frames := 0, cells := 0, slots := 0, locals := 0 }) s m args below meth c H locs 0 0 (MQ below (gQ D dA eA (cF dA L T N I J R s.heap.size) s.heap.size (hs s.heap) PST) args s 0 0 (cF dA L T N I J R s.heap.size)) (F0 m 145 ls [.int (II s145_0), .int (II v40_7), .ref b38]) := by
                    intro s145_0 H locs ls hM hl hJJ145_0
                    have n41 : 16 ≤ N b38 ∧ N b38 ≤ 16 := gn74 hM.2.2.2.2.2.2.1 t40
                    refine c_ist B hM t40 kd74 aq74 dX7_work_145 (by omega) (by omega) (show (-2147483648 : Int) ≤ s145_0 from by omega) (show s145_0 ≤ (2147483647 : Int) from by omega) (fun I43 H locs hu42 hM => ?_)
                    have e44 : I43 b38 v40_7.toNat = s145_0 := w2_at hu42
                    replace hF : Fr mo_X7_work [] T N I J R T N I43 J R := hF.wi hu42 (fun _ _ => by rw [t40, cd_arr (j := 0) (by decide)]; rfl)
                    refine q_inc (lv' := [(7, .int (II (v40_7 + 1))), (9, .int (II x33)), (6, .ref s32_0), (5, .ref s15_0), (0, .ref a_this), (1, .int (II a_st)), (2, .int (II a_v)), (3, .int (II a_a)), (4, .int (II a_b)), (8, .int (II v40_8))]) B dX7_work_146 hl (k := 8) rfl (by decide) rfl (fun ls hl => ?_)
                    refine lv_goto (tgt := 497) B.1 B.2.1 dX7_work_149 (by decide) ?_
                    refine q_inc (lv' := [(8, .int (II (v40_8 + 1))), (7, .int (II (v40_7 + 1))), (9, .int (II x33)), (6, .ref s32_0), (5, .ref s15_0), (0, .ref a_this), (1, .int (II a_st)), (2, .int (II a_v)), (3, .int (II a_a)), (4, .int (II a_b))]) B dX7_work_497 hl (k := 9) rfl (by decide) rfl (fun ls hl => ?_)
                    refine lv_goto (tgt := 40) B.1 B.2.1 dX7_work_500 (by decide) ?_
                    have hv45 : ((-2147483648 : Int) ≤ v40_7 + 1 ∧ (v40_7 + 1 : Int) ≤ 2147483647) ∧ ((-2147483648 : Int) ≤ v40_8 + 1 ∧ (v40_8 + 1 : Int) ≤ 2147483647) ∧ (0 ≤ (v40_7 + 1)) ∧ ((v40_7 + 1) ≤ 16) ∧ (0 ≤ (v40_8 + 1)) ∧ ((v40_8 + 1) ≤ 40) ∧ (0 ≤ 41 - (v40_8 + 1)) := by first | omega | exact ⟨by first | omega | assumption | exact trivial, by first | omega | assumption | exact trivial, by first | omega | assumption | exact trivial, by first | omega | assumption | exact trivial, by first | omega | assumption | exact trivial, by first | omega | assumption | exact trivial, by first | omega | assumption | exact trivial⟩
                    exact IH40 (v40_7 + 1) (v40_8 + 1) I43 _ _ ls hM hF (lv_sub hl [3, 4, 5, 6, 7, 8, 9, 1, 0] rfl) hv45.1 hv45.2.1 hv45.2.2.1 hv45.2.2.2.1 hv45.2.2.2.2.1 hv45.2.2.2.2.2.1 hv45.2.2.2.2.2.2 (by omega)
                  refine q_cne (tgt := 121) B dX7_work_110 (by decide) (by unfold inr; omega) (by unfold inr; omega) (fun c46 => ?_) (fun c46 => ?_)
                  · clear c46
                    refine lv_iload B.1 B.2.1 dX7_work_121 (lv_at hl 0 rfl) ?_
                    refine q_bip B dX7_work_123 (by decide) ?_
                    refine q_cne (tgt := 132) B dX7_work_125 (by decide) (by unfold inr; omega) (by unfold inr; omega) (fun c47 => ?_) (fun c47 => ?_)
                    · clear c47
                      refine lv_iload B.1 B.2.1 dX7_work_132 (lv_at hl 0 rfl) ?_
                      refine q_bip B dX7_work_134 (by decide) ?_
                      refine q_cne (tgt := 143) B dX7_work_136 (by decide) (by unfold inr; omega) (by unfold inr; omega) (fun c48 => ?_) (fun c48 => ?_)
                      · clear c48
                        refine lv_iload B.1 B.2.1 dX7_work_143 (lv_at hl 7 rfl) ?_
                        exact JJ145 a_b _ _ ls hM (lv_sub hl [0, 1, 2, 3, 4, 5, 6, 7, 8, 9] rfl) (by first | omega | assumption | exact trivial)
                      · refine lv_iload_n B.1 B.2.1 dX7_work_139 rfl (lv_at hl 6 rfl) ?_
                        refine lv_goto (tgt := 145) B.1 B.2.1 dX7_work_140 (by decide) ?_
                        exact JJ145 a_a _ _ ls hM (lv_sub hl [0, 1, 2, 3, 4, 5, 6, 7, 8, 9] rfl) (by first | omega | assumption | exact trivial)
                    · refine lv_iload_n B.1 B.2.1 dX7_work_128 rfl (lv_at hl 5 rfl) ?_
                      refine lv_goto (tgt := 145) B.1 B.2.1 dX7_work_129 (by decide) ?_
                      exact JJ145 a_v _ _ ls hM (lv_sub hl [0, 1, 2, 3, 4, 5, 6, 7, 8, 9] rfl) (by first | omega | assumption | exact trivial)
                  · refine lv_aload B.1 B.2.1 dX7_work_113 (lv_at hl 1 rfl) ?_
                    refine lv_iload B.1 B.2.1 dX7_work_115 (lv_at hl 9 rfl) ?_
                    obtain ⟨x49, e50⟩ : ∃ v, I_40 s32_0 v40_8.toNat = v := ⟨_, rfl⟩
                    have r51 : (-2147483648 : Int) ≤ x49 ∧ x49 ≤ 2147483647 := by rw [← e50]; exact ga73 hM.2.2.2.2.2.2.1 hJJ32_0 (by omega)
                    refine c_ild B hM hJJ32_0 kd73 an73 dX7_work_117 (by omega) (by omega) e50 ?_
                    refine lv_goto (tgt := 145) B.1 B.2.1 dX7_work_118 (by decide) ?_
                    exact JJ145 x49 _ _ ls hM (lv_sub hl [0, 1, 2, 3, 4, 5, 6, 7, 8, 9] rfl) (by first | omega | assumption | exact trivial)
                · refine q_con B dX7_work_98 ?_
                  refine g_zret B hM dX7_work_99 ⟨Nat.le_refl _, Nat.le_refl _⟩ (by omega) (by omega) ?_
                  rw [← hPST]
                  exact ⟨(0), rfl, by omega, rfl, rfl, rfl, rfl, rfl, hF, by omega, by omega, by first | omega | assumption | exact trivial⟩
              · clear c36
                refine lv_iload B.1 B.2.1 dX7_work_70 (lv_at hl 0 rfl) ?_
                refine q_bip B dX7_work_72 (by decide) ?_
                refine q_ceq (tgt := 91) B dX7_work_74 (by decide) (by unfold inr; omega) (by unfold inr; omega) (fun c52 => ?_) (fun c52 => ?_)
                · refine lv_iload B.1 B.2.1 dX7_work_91 (lv_at hl 8 rfl) ?_
                  refine q_bip B dX7_work_93 (by decide) ?_
                  refine q_clt (tgt := 100) B dX7_work_95 (by decide) (by unfold inr; omega) (by unfold inr; omega) (fun c53 => ?_) (fun c53 => ?_)
                  · refine lv_aload_n B.1 B.2.1 dX7_work_100 rfl (lv_at hl 3 rfl) ?_
                    obtain ⟨b54, e55, t56⟩ := g8_10 hC0 t_this
                    refine c_getn (k := 10) pk_X7 B hM t_this kd8 rfl (by decide) fl_X7_28 dX7_work_101 e55 ?_
                    refine lv_iload B.1 B.2.1 dX7_work_104 (lv_at hl 8 rfl) ?_
                    refine lv_iload B.1 B.2.1 dX7_work_106 (lv_at hl 0 rfl) ?_
                    refine q_bip B dX7_work_108 (by decide) ?_
                    have JJ145 : ∀ (s145_0 : Int) (H : Heap) (locs : List Loc) (ls : Array Slot), (CWd D dA eA (cF dA L T N I J R s.heap.size) s.heap L T N I_40 J R H locs) → lv_has ls 12 [(9, .int (II x33)), (6, .ref s32_0), (5, .ref s15_0), (0, .ref a_this), (1, .int (II a_st)), (2, .int (II a_v)), (3, .int (II a_a)), (4, .int (II a_b)), (7, .int (II v40_7)), (8, .int (II v40_8))] → ((-2147483648 : Int) ≤ s145_0 ∧ s145_0 ≤ 2147483647) → W p l e ({ frames := 0, cells := 0, slots := 0, locals := 0 }) s m args below meth c H locs 0 0 (MQ below (gQ D dA eA (cF dA L T N I J R s.heap.size) s.heap.size (hs s.heap) PST) args s 0 0 (cF dA L T N I J R s.heap.size)) (F0 m 145 ls [.int (II s145_0), .int (II v40_7), .ref b54]) := by
                      intro s145_0 H locs ls hM hl hJJ145_0
                      have n57 : 16 ≤ N b54 ∧ N b54 ≤ 16 := gn74 hM.2.2.2.2.2.2.1 t56
                      refine c_ist B hM t56 kd74 aq74 dX7_work_145 (by omega) (by omega) (show (-2147483648 : Int) ≤ s145_0 from by omega) (show s145_0 ≤ (2147483647 : Int) from by omega) (fun I59 H locs hu58 hM => ?_)
                      have e60 : I59 b54 v40_7.toNat = s145_0 := w2_at hu58
                      replace hF : Fr mo_X7_work [] T N I J R T N I59 J R := hF.wi hu58 (fun _ _ => by rw [t56, cd_arr (j := 0) (by decide)]; rfl)
                      refine q_inc (lv' := [(7, .int (II (v40_7 + 1))), (9, .int (II x33)), (6, .ref s32_0), (5, .ref s15_0), (0, .ref a_this), (1, .int (II a_st)), (2, .int (II a_v)), (3, .int (II a_a)), (4, .int (II a_b)), (8, .int (II v40_8))]) B dX7_work_146 hl (k := 8) rfl (by decide) rfl (fun ls hl => ?_)
                      refine lv_goto (tgt := 497) B.1 B.2.1 dX7_work_149 (by decide) ?_
                      refine q_inc (lv' := [(8, .int (II (v40_8 + 1))), (7, .int (II (v40_7 + 1))), (9, .int (II x33)), (6, .ref s32_0), (5, .ref s15_0), (0, .ref a_this), (1, .int (II a_st)), (2, .int (II a_v)), (3, .int (II a_a)), (4, .int (II a_b))]) B dX7_work_497 hl (k := 9) rfl (by decide) rfl (fun ls hl => ?_)
                      refine lv_goto (tgt := 40) B.1 B.2.1 dX7_work_500 (by decide) ?_
                      have hv61 : ((-2147483648 : Int) ≤ v40_7 + 1 ∧ (v40_7 + 1 : Int) ≤ 2147483647) ∧ ((-2147483648 : Int) ≤ v40_8 + 1 ∧ (v40_8 + 1 : Int) ≤ 2147483647) ∧ (0 ≤ (v40_7 + 1)) ∧ ((v40_7 + 1) ≤ 16) ∧ (0 ≤ (v40_8 + 1)) ∧ ((v40_8 + 1) ≤ 40) ∧ (0 ≤ 41 - (v40_8 + 1)) := by first | omega | exact ⟨by first | omega | assumption | exact trivial, by first | omega | assumption | exact trivial, by first | omega | assumption | exact trivial, by first | omega | assumption | exact trivial, by first | omega | assumption | exact trivial, by first | omega | assumption | exact trivial, by first | omega | assumption | exact trivial⟩
                      exact IH40 (v40_7 + 1) (v40_8 + 1) I59 _ _ ls hM hF (lv_sub hl [3, 4, 5, 6, 7, 8, 9, 1, 0] rfl) hv61.1 hv61.2.1 hv61.2.2.1 hv61.2.2.2.1 hv61.2.2.2.2.1 hv61.2.2.2.2.2.1 hv61.2.2.2.2.2.2 (by omega)
                    refine q_cne (tgt := 121) B dX7_work_110 (by decide) (by unfold inr; omega) (by unfold inr; omega) (fun c62 => ?_) (fun c62 => ?_)
                    · clear c62
                      refine lv_iload B.1 B.2.1 dX7_work_121 (lv_at hl 0 rfl) ?_
                      refine q_bip B dX7_work_123 (by decide) ?_
                      refine q_cne (tgt := 132) B dX7_work_125 (by decide) (by unfold inr; omega) (by unfold inr; omega) (fun c63 => ?_) (fun c63 => ?_)
                      · clear c63
                        refine lv_iload B.1 B.2.1 dX7_work_132 (lv_at hl 0 rfl) ?_
                        refine q_bip B dX7_work_134 (by decide) ?_
                        refine q_cne (tgt := 143) B dX7_work_136 (by decide) (by unfold inr; omega) (by unfold inr; omega) (fun c64 => ?_) (fun c64 => ?_)
                        · clear c64
                          refine lv_iload B.1 B.2.1 dX7_work_143 (lv_at hl 7 rfl) ?_
                          exact JJ145 a_b _ _ ls hM (lv_sub hl [0, 1, 2, 3, 4, 5, 6, 7, 8, 9] rfl) (by first | omega | assumption | exact trivial)
                        · refine lv_iload_n B.1 B.2.1 dX7_work_139 rfl (lv_at hl 6 rfl) ?_
                          refine lv_goto (tgt := 145) B.1 B.2.1 dX7_work_140 (by decide) ?_
                          exact JJ145 a_a _ _ ls hM (lv_sub hl [0, 1, 2, 3, 4, 5, 6, 7, 8, 9] rfl) (by first | omega | assumption | exact trivial)
                      · refine lv_iload_n B.1 B.2.1 dX7_work_128 rfl (lv_at hl 5 rfl) ?_
                        refine lv_goto (tgt := 145) B.1 B.2.1 dX7_work_129 (by decide) ?_
                        exact JJ145 a_v _ _ ls hM (lv_sub hl [0, 1, 2, 3, 4, 5, 6, 7, 8, 9] rfl) (by first | omega | assumption | exact trivial)
                    · refine lv_aload B.1 B.2.1 dX7_work_113 (lv_at hl 1 rfl) ?_
                      refine lv_iload B.1 B.2.1 dX7_work_115 (lv_at hl 9 rfl) ?_
                      obtain ⟨x65, e66⟩ : ∃ v, I_40 s32_0 v40_8.toNat = v := ⟨_, rfl⟩
                      have r67 : (-2147483648 : Int) ≤ x65 ∧ x65 ≤ 2147483647 := by rw [← e66]; exact ga73 hM.2.2.2.2.2.2.1 hJJ32_0 (by omega)
                      refine c_ild B hM hJJ32_0 kd73 an73 dX7_work_117 (by omega) (by omega) e66 ?_
                      refine lv_goto (tgt := 145) B.1 B.2.1 dX7_work_118 (by decide) ?_
                      exact JJ145 x65 _ _ ls hM (lv_sub hl [0, 1, 2, 3, 4, 5, 6, 7, 8, 9] rfl) (by first | omega | assumption | exact trivial)
                  · refine q_con B dX7_work_98 ?_
                    refine g_zret B hM dX7_work_99 ⟨Nat.le_refl _, Nat.le_refl _⟩ (by omega) (by omega) ?_
                    rw [← hPST]
                    exact ⟨(0), rfl, by omega, rfl, rfl, rfl, rfl, rfl, hF, by omega, by omega, by first | omega | assumption | exact trivial⟩
                · clear c52
                  refine lv_iload B.1 B.2.1 dX7_work_77 (lv_at hl 0 rfl) ?_
                  refine q_bip B dX7_work_79 (by decide) ?_
                  refine q_ceq (tgt := 91) B dX7_work_81 (by decide) (by unfold inr; omega) (by unfold inr; omega) (fun c68 => ?_) (fun c68 => ?_)
                  · refine lv_iload B.1 B.2.1 dX7_work_91 (lv_at hl 8 rfl) ?_
                    refine q_bip B dX7_work_93 (by decide) ?_
                    refine q_clt (tgt := 100) B dX7_work_95 (by decide) (by unfold inr; omega) (by unfold inr; omega) (fun c69 => ?_) (fun c69 => ?_)
                    · refine lv_aload_n B.1 B.2.1 dX7_work_100 rfl (lv_at hl 3 rfl) ?_
                      obtain ⟨b70, e71, t72⟩ := g8_10 hC0 t_this
                      refine c_getn (k := 10) pk_X7 B hM t_this kd8 rfl (by decide) fl_X7_28 dX7_work_101 e71 ?_
                      refine lv_iload B.1 B.2.1 dX7_work_104 (lv_at hl 8 rfl) ?_
                      refine lv_iload B.1 B.2.1 dX7_work_106 (lv_at hl 0 rfl) ?_
                      refine q_bip B dX7_work_108 (by decide) ?_
                      have JJ145 : ∀ (s145_0 : Int) (H : Heap) (locs : List Loc) (ls : Array Slot), (CWd D dA eA (cF dA L T N I J R s.heap.size) s.heap L T N I_40 J R H locs) → lv_has ls 12 [(9, .int (II x33)), (6, .ref s32_0), (5, .ref s15_0), (0, .ref a_this), (1, .int (II a_st)), (2, .int (II a_v)), (3, .int (II a_a)), (4, .int (II a_b)), (7, .int (II v40_7)), (8, .int (II v40_8))] → ((-2147483648 : Int) ≤ s145_0 ∧ s145_0 ≤ 2147483647) → W p l e ({ frames := 0, cells := 0, slots := 0, locals := 0 }) s m args below meth c H locs 0 0 (MQ below (gQ D dA eA (cF dA L T N I J R s.heap.size) s.heap.size (hs s.heap) PST) args s 0 0 (cF dA L T N I J R s.heap.size)) (F0 m 145 ls [.int (II s145_0), .int (II v40_7), .ref b70]) := by
                        intro s145_0 H locs ls hM hl hJJ145_0
                        have n73 : 16 ≤ N b70 ∧ N b70 ≤ 16 := gn74 hM.2.2.2.2.2.2.1 t72
                        refine c_ist B hM t72 kd74 aq74 dX7_work_145 (by omega) (by omega) (show (-2147483648 : Int) ≤ s145_0 from by omega) (show s145_0 ≤ (2147483647 : Int) from by omega) (fun I75 H locs hu74 hM => ?_)
                        have e76 : I75 b70 v40_7.toNat = s145_0 := w2_at hu74
                        replace hF : Fr mo_X7_work [] T N I J R T N I75 J R := hF.wi hu74 (fun _ _ => by rw [t72, cd_arr (j := 0) (by decide)]; rfl)
                        refine q_inc (lv' := [(7, .int (II (v40_7 + 1))), (9, .int (II x33)), (6, .ref s32_0), (5, .ref s15_0), (0, .ref a_this), (1, .int (II a_st)), (2, .int (II a_v)), (3, .int (II a_a)), (4, .int (II a_b)), (8, .int (II v40_8))]) B dX7_work_146 hl (k := 8) rfl (by decide) rfl (fun ls hl => ?_)
                        refine lv_goto (tgt := 497) B.1 B.2.1 dX7_work_149 (by decide) ?_
                        refine q_inc (lv' := [(8, .int (II (v40_8 + 1))), (7, .int (II (v40_7 + 1))), (9, .int (II x33)), (6, .ref s32_0), (5, .ref s15_0), (0, .ref a_this), (1, .int (II a_st)), (2, .int (II a_v)), (3, .int (II a_a)), (4, .int (II a_b))]) B dX7_work_497 hl (k := 9) rfl (by decide) rfl (fun ls hl => ?_)
                        refine lv_goto (tgt := 40) B.1 B.2.1 dX7_work_500 (by decide) ?_
                        have hv77 : ((-2147483648 : Int) ≤ v40_7 + 1 ∧ (v40_7 + 1 : Int) ≤ 2147483647) ∧ ((-2147483648 : Int) ≤ v40_8 + 1 ∧ (v40_8 + 1 : Int) ≤ 2147483647) ∧ (0 ≤ (v40_7 + 1)) ∧ ((v40_7 + 1) ≤ 16) ∧ (0 ≤ (v40_8 + 1)) ∧ ((v40_8 + 1) ≤ 40) ∧ (0 ≤ 41 - (v40_8 + 1)) := by first | omega | exact ⟨by first | omega | assumption | exact trivial, by first | omega | assumption | exact trivial, by first | omega | assumption | exact trivial, by first | omega | assumption | exact trivial, by first | omega | assumption | exact trivial, by first | omega | assumption | exact trivial, by first | omega | assumption | exact trivial⟩
                        exact IH40 (v40_7 + 1) (v40_8 + 1) I75 _ _ ls hM hF (lv_sub hl [3, 4, 5, 6, 7, 8, 9, 1, 0] rfl) hv77.1 hv77.2.1 hv77.2.2.1 hv77.2.2.2.1 hv77.2.2.2.2.1 hv77.2.2.2.2.2.1 hv77.2.2.2.2.2.2 (by omega)
                      refine q_cne (tgt := 121) B dX7_work_110 (by decide) (by unfold inr; omega) (by unfold inr; omega) (fun c78 => ?_) (fun c78 => ?_)
                      · clear c78
                        refine lv_iload B.1 B.2.1 dX7_work_121 (lv_at hl 0 rfl) ?_
                        refine q_bip B dX7_work_123 (by decide) ?_
                        refine q_cne (tgt := 132) B dX7_work_125 (by decide) (by unfold inr; omega) (by unfold inr; omega) (fun c79 => ?_) (fun c79 => ?_)
                        · clear c79
                          refine lv_iload B.1 B.2.1 dX7_work_132 (lv_at hl 0 rfl) ?_
                          refine q_bip B dX7_work_134 (by decide) ?_
                          refine q_cne (tgt := 143) B dX7_work_136 (by decide) (by unfold inr; omega) (by unfold inr; omega) (fun c80 => ?_) (fun c80 => ?_)
                          · clear c80
                            refine lv_iload B.1 B.2.1 dX7_work_143 (lv_at hl 7 rfl) ?_
                            exact JJ145 a_b _ _ ls hM (lv_sub hl [0, 1, 2, 3, 4, 5, 6, 7, 8, 9] rfl) (by first | omega | assumption | exact trivial)
                          · refine lv_iload_n B.1 B.2.1 dX7_work_139 rfl (lv_at hl 6 rfl) ?_
                            refine lv_goto (tgt := 145) B.1 B.2.1 dX7_work_140 (by decide) ?_
                            exact JJ145 a_a _ _ ls hM (lv_sub hl [0, 1, 2, 3, 4, 5, 6, 7, 8, 9] rfl) (by first | omega | assumption | exact trivial)
                        · refine lv_iload_n B.1 B.2.1 dX7_work_128 rfl (lv_at hl 5 rfl) ?_
                          refine lv_goto (tgt := 145) B.1 B.2.1 dX7_work_129 (by decide) ?_
                          exact JJ145 a_v _ _ ls hM (lv_sub hl [0, 1, 2, 3, 4, 5, 6, 7, 8, 9] rfl) (by first | omega | assumption | exact trivial)
                      · refine lv_aload B.1 B.2.1 dX7_work_113 (lv_at hl 1 rfl) ?_
                        refine lv_iload B.1 B.2.1 dX7_work_115 (lv_at hl 9 rfl) ?_
                        obtain ⟨x81, e82⟩ : ∃ v, I_40 s32_0 v40_8.toNat = v := ⟨_, rfl⟩
                        have r83 : (-2147483648 : Int) ≤ x81 ∧ x81 ≤ 2147483647 := by rw [← e82]; exact ga73 hM.2.2.2.2.2.2.1 hJJ32_0 (by omega)
                        refine c_ild B hM hJJ32_0 kd73 an73 dX7_work_117 (by omega) (by omega) e82 ?_
                        refine lv_goto (tgt := 145) B.1 B.2.1 dX7_work_118 (by decide) ?_
                        exact JJ145 x81 _ _ ls hM (lv_sub hl [0, 1, 2, 3, 4, 5, 6, 7, 8, 9] rfl) (by first | omega | assumption | exact trivial)
                    · refine q_con B dX7_work_98 ?_
                      refine g_zret B hM dX7_work_99 ⟨Nat.le_refl _, Nat.le_refl _⟩ (by omega) (by omega) ?_
                      rw [← hPST]
                      exact ⟨(0), rfl, by omega, rfl, rfl, rfl, rfl, rfl, hF, by omega, by omega, by first | omega | assumption | exact trivial⟩
                  · clear c68
                    refine lv_iload B.1 B.2.1 dX7_work_84 (lv_at hl 0 rfl) ?_
                    refine q_bip B dX7_work_86 (by decide) ?_
                    refine q_cne (tgt := 152) B dX7_work_88 (by decide) (by unfold inr; omega) (by unfold inr; omega) (fun c84 => ?_) (fun c84 => ?_)
                    · clear c84
                      refine lv_iload B.1 B.2.1 dX7_work_152 (lv_at hl 0 rfl) ?_
                      refine q_bip B dX7_work_154 (by decide) ?_
                      refine q_cne (tgt := 196) B dX7_work_156 (by decide) (by unfold inr; omega) (by unfold inr; omega) (fun c85 => ?_) (fun c85 => ?_)
                      · clear c85
                        refine lv_iload B.1 B.2.1 dX7_work_196 (lv_at hl 8 rfl) ?_
                        refine q_con B dX7_work_198 ?_
                        refine q_cge (tgt := 204) B dX7_work_199 (by decide) (by unfold inr; omega) (by unfold inr; omega) (fun c86 => ?_) (fun c86 => ?_)
                        · refine q_inc (lv' := [(7, .int (II (v40_7 + (-1)))), (9, .int (II x33)), (6, .ref s32_0), (5, .ref s15_0), (0, .ref a_this), (1, .int (II a_st)), (2, .int (II a_v)), (3, .int (II a_a)), (4, .int (II a_b)), (8, .int (II v40_8))]) B dX7_work_204 hl (k := 8) rfl (by decide) rfl (fun ls hl => ?_)
                          refine lv_aload_n B.1 B.2.1 dX7_work_207 rfl (lv_at hl 4 rfl) ?_
                          obtain ⟨b87, e88, t89⟩ := g8_10 hC0 t_this
                          refine c_getn (k := 10) pk_X7 B hM t_this kd8 rfl (by decide) fl_X7_28 dX7_work_208 e88 ?_
                          refine lv_iload B.1 B.2.1 dX7_work_211 (lv_at hl 0 rfl) ?_
                          have n90 : 16 ≤ N b87 ∧ N b87 ≤ 16 := gn74 hM.2.2.2.2.2.2.1 t89
                          obtain ⟨x91, e92⟩ : ∃ v, I_40 b87 ((v40_7 + (-1)).toNat) = v := ⟨_, rfl⟩
                          have r93 : (-2147483648 : Int) ≤ x91 ∧ x91 ≤ 2147483647 := by rw [← e92]; exact ga74 hM.2.2.2.2.2.2.1 t89 (by omega)
                          refine c_ild B hM t89 kd74 an74 dX7_work_213 (by omega) (by omega) e92 ?_
                          refine lv_istore (lv' := [(10, .int (II x91)), (7, .int (II (v40_7 + (-1)))), (9, .int (II x33)), (6, .ref s32_0), (5, .ref s15_0), (0, .ref a_this), (1, .int (II a_st)), (2, .int (II a_v)), (3, .int (II a_a)), (4, .int (II a_b)), (8, .int (II v40_8))]) B.1 B.2.1 dX7_work_214 hl (by decide) rfl (fun ls hl => ?_)
                          refine lv_iload B.1 B.2.1 dX7_work_216 (lv_at hl 0 rfl) ?_
                          refine q_ine (tgt := 237) B dX7_work_218 (by decide) (by unfold inr; omega) (fun c94 => ?_) (fun c94 => ?_)
                          · refine lv_aload_n B.1 B.2.1 dX7_work_237 rfl (lv_at hl 5 rfl) ?_
                            refine c_getn (k := 10) pk_X7 B hM t_this kd8 rfl (by decide) fl_X7_28 dX7_work_238 e88 ?_
                            refine lv_iload B.1 B.2.1 dX7_work_241 (lv_at hl 1 rfl) ?_
                            refine q_con B dX7_work_243 ?_
                            refine q_sub B dX7_work_244 ?_
                            obtain ⟨x95, e96⟩ : ∃ v, I_40 b87 (((v40_7 + (-1)) - (1 : Int)).toNat) = v := ⟨_, rfl⟩
                            have r97 : (-2147483648 : Int) ≤ x95 ∧ x95 ≤ 2147483647 := by rw [← e96]; exact ga74 hM.2.2.2.2.2.2.1 t89 (by omega)
                            refine c_ild B hM t89 kd74 an74 dX7_work_245 (by omega) (by omega) e96 ?_
                            refine lv_istore (lv' := [(11, .int (II x95)), (10, .int (II x91)), (7, .int (II (v40_7 + (-1)))), (9, .int (II x33)), (6, .ref s32_0), (5, .ref s15_0), (0, .ref a_this), (1, .int (II a_st)), (2, .int (II a_v)), (3, .int (II a_a)), (4, .int (II a_b)), (8, .int (II v40_8))]) B.1 B.2.1 dX7_work_246 hl (by decide) rfl (fun ls hl => ?_)
                            refine lv_iload B.1 B.2.1 dX7_work_248 (lv_at hl 3 rfl) ?_
                            have JJ486 : ∀ (v486_11 : Int) (H : Heap) (locs : List Loc) (ls : Array Slot), (CWd D dA eA (cF dA L T N I J R s.heap.size) s.heap L T N I_40 J R H locs) → lv_has ls 12 [(10, .int (II x91)), (7, .int (II (v40_7 + (-1)))), (9, .int (II x33)), (6, .ref s32_0), (5, .ref s15_0), (0, .ref a_this), (1, .int (II a_st)), (2, .int (II a_v)), (3, .int (II a_a)), (4, .int (II a_b)), (8, .int (II v40_8)), (11, .int (II v486_11))] → ((-2147483648 : Int) ≤ v486_11 ∧ v486_11 ≤ 2147483647) → W p l e ({ frames := 0, cells := 0, slots := 0, locals := 0 }) s m args below meth c H locs 0 0 (MQ below (gQ D dA eA (cF dA L T N I J R s.heap.size) s.heap.size (hs s.heap) PST) args s 0 0 (cF dA L T N I J R s.heap.size)) (F0 m 486 ls []) := by
                              intro v486_11 H locs ls hM hl hJJ486_0
                              refine lv_aload_n B.1 B.2.1 dX7_work_486 rfl (lv_at hl 5 rfl) ?_
                              refine c_getn (k := 10) pk_X7 B hM t_this kd8 rfl (by decide) fl_X7_28 dX7_work_487 e88 ?_
                              refine lv_iload B.1 B.2.1 dX7_work_490 (lv_at hl 1 rfl) ?_
                              refine q_con B dX7_work_492 ?_
                              refine q_sub B dX7_work_493 ?_
                              refine lv_iload B.1 B.2.1 dX7_work_494 (lv_at hl 11 rfl) ?_
                              refine c_ist B hM t89 kd74 aq74 dX7_work_496 (by omega) (by omega) (show (-2147483648 : Int) ≤ v486_11 from by omega) (show v486_11 ≤ (2147483647 : Int) from by omega) (fun I99 H locs hu98 hM => ?_)
                              have e100 : I99 b87 (((v40_7 + (-1)) - (1 : Int)).toNat) = v486_11 := w2_at hu98
                              replace hF : Fr mo_X7_work [] T N I J R T N I99 J R := hF.wi hu98 (fun _ _ => by rw [t89, cd_arr (j := 0) (by decide)]; rfl)
                              refine q_inc (lv' := [(8, .int (II (v40_8 + 1))), (10, .int (II x91)), (7, .int (II (v40_7 + (-1)))), (9, .int (II x33)), (6, .ref s32_0), (5, .ref s15_0), (0, .ref a_this), (1, .int (II a_st)), (2, .int (II a_v)), (3, .int (II a_a)), (4, .int (II a_b)), (11, .int (II v486_11))]) B dX7_work_497 hl (k := 10) rfl (by decide) rfl (fun ls hl => ?_)
                              refine lv_goto (tgt := 40) B.1 B.2.1 dX7_work_500 (by decide) ?_
                              have hv101 : ((-2147483648 : Int) ≤ v40_7 + (-1) ∧ (v40_7 + (-1) : Int) ≤ 2147483647) ∧ ((-2147483648 : Int) ≤ v40_8 + 1 ∧ (v40_8 + 1 : Int) ≤ 2147483647) ∧ (0 ≤ (v40_7 + (-1))) ∧ ((v40_7 + (-1)) ≤ 16) ∧ (0 ≤ (v40_8 + 1)) ∧ ((v40_8 + 1) ≤ 40) ∧ (0 ≤ 41 - (v40_8 + 1)) := by first | omega | exact ⟨by first | omega | assumption | exact trivial, by first | omega | assumption | exact trivial, by first | omega | assumption | exact trivial, by first | omega | assumption | exact trivial, by first | omega | assumption | exact trivial, by first | omega | assumption | exact trivial, by first | omega | assumption | exact trivial⟩
                              exact IH40 (v40_7 + (-1)) (v40_8 + 1) I99 _ _ ls hM hF (lv_sub hl [4, 5, 6, 7, 8, 9, 10, 2, 0] rfl) hv101.1 hv101.2.1 hv101.2.2.1 hv101.2.2.2.1 hv101.2.2.2.2.1 hv101.2.2.2.2.2.1 hv101.2.2.2.2.2.2 (by omega)
                            by_cases hsw : x33 < 37 ∨ 62 < x33
                            · refine lv_tableOut (tgt := 479) B.1 B.2.1 dX7_work_250 (by rw [II_toInt (by unfold inr; omega)]; omega) (by decide) ?_
                              refine lv_iload B.1 B.2.1 dX7_work_479 (lv_at hl 0 rfl) ?_
                              refine lv_iload B.1 B.2.1 dX7_work_481 (lv_at hl 1 rfl) ?_
                              refine q_or B dX7_work_483 (fun x102 ix102 ex102 => ?_)
                              unfold inr at ix102
                              refine lv_istore (lv' := [(11, .int (II x102)), (10, .int (II x91)), (7, .int (II (v40_7 + (-1)))), (9, .int (II x33)), (6, .ref s32_0), (5, .ref s15_0), (0, .ref a_this), (1, .int (II a_st)), (2, .int (II a_v)), (3, .int (II a_a)), (4, .int (II a_b)), (8, .int (II v40_8))]) B.1 B.2.1 dX7_work_484 hl (by decide) rfl (fun ls hl => ?_)
                              exact JJ486 x102 _ _ ls hM (lv_sub hl [1, 2, 3, 4, 5, 6, 7, 8, 9, 10, 11, 0] rfl) (by first | omega | assumption | exact trivial)
                            have hdj : x33 = 37 ∨ x33 = 38 ∨ x33 = 39 ∨ x33 = 40 ∨ x33 = 41 ∨ x33 = 42 ∨ x33 = 43 ∨ x33 = 44 ∨ x33 = 45 ∨ x33 = 46 ∨ x33 = 47 ∨ x33 = 48 ∨ x33 = 49 ∨ x33 = 50 ∨ x33 = 51 ∨ x33 = 52 ∨ x33 = 53 ∨ x33 = 54 ∨ x33 = 55 ∨ x33 = 56 ∨ x33 = 57 ∨ x33 = 58 ∨ x33 = 59 ∨ x33 = 60 ∨ x33 = 61 ∨ x33 = 62 := by omega
                            clear hsw
                            rcases hdj with hsw0 | hsw1 | hsw2 | hsw3 | hsw4 | hsw5 | hsw6 | hsw7 | hsw8 | hsw9 | hsw10 | hsw11 | hsw12 | hsw13 | hsw14 | hsw15 | hsw16 | hsw17 | hsw18 | hsw19 | hsw20 | hsw21 | hsw22 | hsw23 | hsw24 | hsw25
                            · refine lv_tableIn (off := 158) (tgt := 408) B.1 B.2.1 dX7_work_250 (by rw [II_toInt (by unfold inr; omega)]; omega) (by rw [II_toInt (by unfold inr; omega)]; omega) (by rw [II_toInt (by unfold inr; omega), hsw0]; decide) (by decide) ?_
                              refine lv_iload B.1 B.2.1 dX7_work_408 (lv_at hl 0 rfl) ?_
                              refine lv_iload B.1 B.2.1 dX7_work_410 (lv_at hl 1 rfl) ?_
                              refine q_rem B dX7_work_412 (by unfold inr; omega) (by omega) (fun x103 ix103 => ?_)
                              unfold inr at ix103
                              refine lv_istore (lv' := [(11, .int (II x103)), (10, .int (II x91)), (7, .int (II (v40_7 + (-1)))), (9, .int (II x33)), (6, .ref s32_0), (5, .ref s15_0), (0, .ref a_this), (1, .int (II a_st)), (2, .int (II a_v)), (3, .int (II a_a)), (4, .int (II a_b)), (8, .int (II v40_8))]) B.1 B.2.1 dX7_work_413 hl (by decide) rfl (fun ls hl => ?_)
                              refine lv_goto (tgt := 486) B.1 B.2.1 dX7_work_415 (by decide) ?_
                              exact JJ486 x103 _ _ ls hM (lv_sub hl [1, 2, 3, 4, 5, 6, 7, 8, 9, 10, 11, 0] rfl) (by first | omega | assumption | exact trivial)
                            · refine lv_tableIn (off := 219) (tgt := 469) B.1 B.2.1 dX7_work_250 (by rw [II_toInt (by unfold inr; omega)]; omega) (by rw [II_toInt (by unfold inr; omega)]; omega) (by rw [II_toInt (by unfold inr; omega), hsw1]; decide) (by decide) ?_
                              refine lv_iload B.1 B.2.1 dX7_work_469 (lv_at hl 0 rfl) ?_
                              refine lv_iload B.1 B.2.1 dX7_work_471 (lv_at hl 1 rfl) ?_
                              refine q_and B dX7_work_473 (fun x104 ix104 ex104 => ?_)
                              unfold inr at ix104
                              refine lv_istore (lv' := [(11, .int (II x104)), (10, .int (II x91)), (7, .int (II (v40_7 + (-1)))), (9, .int (II x33)), (6, .ref s32_0), (5, .ref s15_0), (0, .ref a_this), (1, .int (II a_st)), (2, .int (II a_v)), (3, .int (II a_a)), (4, .int (II a_b)), (8, .int (II v40_8))]) B.1 B.2.1 dX7_work_474 hl (by decide) rfl (fun ls hl => ?_)
                              refine lv_goto (tgt := 486) B.1 B.2.1 dX7_work_476 (by decide) ?_
                              exact JJ486 x104 _ _ ls hM (lv_sub hl [1, 2, 3, 4, 5, 6, 7, 8, 9, 10, 11, 0] rfl) (by first | omega | assumption | exact trivial)
                            · refine lv_tableIn (off := 229) (tgt := 479) B.1 B.2.1 dX7_work_250 (by rw [II_toInt (by unfold inr; omega)]; omega) (by rw [II_toInt (by unfold inr; omega)]; omega) (by rw [II_toInt (by unfold inr; omega), hsw2]; decide) (by decide) ?_
                              refine lv_iload B.1 B.2.1 dX7_work_479 (lv_at hl 0 rfl) ?_
                              refine lv_iload B.1 B.2.1 dX7_work_481 (lv_at hl 1 rfl) ?_
                              refine q_or B dX7_work_483 (fun x105 ix105 ex105 => ?_)
                              unfold inr at ix105
                              refine lv_istore (lv' := [(11, .int (II x105)), (10, .int (II x91)), (7, .int (II (v40_7 + (-1)))), (9, .int (II x33)), (6, .ref s32_0), (5, .ref s15_0), (0, .ref a_this), (1, .int (II a_st)), (2, .int (II a_v)), (3, .int (II a_a)), (4, .int (II a_b)), (8, .int (II v40_8))]) B.1 B.2.1 dX7_work_484 hl (by decide) rfl (fun ls hl => ?_)
                              exact JJ486 x105 _ _ ls hM (lv_sub hl [1, 2, 3, 4, 5, 6, 7, 8, 9, 10, 11, 0] rfl) (by first | omega | assumption | exact trivial)
                            · refine lv_tableIn (off := 229) (tgt := 479) B.1 B.2.1 dX7_work_250 (by rw [II_toInt (by unfold inr; omega)]; omega) (by rw [II_toInt (by unfold inr; omega)]; omega) (by rw [II_toInt (by unfold inr; omega), hsw3]; decide) (by decide) ?_
                              refine lv_iload B.1 B.2.1 dX7_work_479 (lv_at hl 0 rfl) ?_
                              refine lv_iload B.1 B.2.1 dX7_work_481 (lv_at hl 1 rfl) ?_
                              refine q_or B dX7_work_483 (fun x106 ix106 ex106 => ?_)
                              unfold inr at ix106
                              refine lv_istore (lv' := [(11, .int (II x106)), (10, .int (II x91)), (7, .int (II (v40_7 + (-1)))), (9, .int (II x33)), (6, .ref s32_0), (5, .ref s15_0), (0, .ref a_this), (1, .int (II a_st)), (2, .int (II a_v)), (3, .int (II a_a)), (4, .int (II a_b)), (8, .int (II v40_8))]) B.1 B.2.1 dX7_work_484 hl (by decide) rfl (fun ls hl => ?_)
                              exact JJ486 x106 _ _ ls hM (lv_sub hl [1, 2, 3, 4, 5, 6, 7, 8, 9, 10, 11, 0] rfl) (by first | omega | assumption | exact trivial)
                            · refine lv_tableIn (off := 229) (tgt := 479) B.1 B.2.1 dX7_work_250 (by rw [II_toInt (by unfold inr; omega)]; omega) (by rw [II_toInt (by unfold inr; omega)]; omega) (by rw [II_toInt (by unfold inr; omega), hsw4]; decide) (by decide) ?_
                              refine lv_iload B.1 B.2.1 dX7_work_479 (lv_at hl 0 rfl) ?_
                              refine lv_iload B.1 B.2.1 dX7_work_481 (lv_at hl 1 rfl) ?_
                              refine q_or B dX7_work_483 (fun x107 ix107 ex107 => ?_)
                              unfold inr at ix107
                              refine lv_istore (lv' := [(11, .int (II x107)), (10, .int (II x91)), (7, .int (II (v40_7 + (-1)))), (9, .int (II x33)), (6, .ref s32_0), (5, .ref s15_0), (0, .ref a_this), (1, .int (II a_st)), (2, .int (II a_v)), (3, .int (II a_a)), (4, .int (II a_b)), (8, .int (II v40_8))]) B.1 B.2.1 dX7_work_484 hl (by decide) rfl (fun ls hl => ?_)
                              exact JJ486 x107 _ _ ls hM (lv_sub hl [1, 2, 3, 4, 5, 6, 7, 8, 9, 10, 11, 0] rfl) (by first | omega | assumption | exact trivial)
                            · refine lv_tableIn (off := 138) (tgt := 388) B.1 B.2.1 dX7_work_250 (by rw [II_toInt (by unfold inr; omega)]; omega) (by rw [II_toInt (by unfold inr; omega)]; omega) (by rw [II_toInt (by unfold inr; omega), hsw5]; decide) (by decide) ?_
                              refine lv_iload B.1 B.2.1 dX7_work_388 (lv_at hl 0 rfl) ?_
                              refine lv_iload B.1 B.2.1 dX7_work_390 (lv_at hl 1 rfl) ?_
                              refine q_mul B dX7_work_392 ?_
                              refine q_wrap (fun x108 ix108 => ?_)
                              refine lv_istore (lv' := [(11, .int (II x108)), (10, .int (II x91)), (7, .int (II (v40_7 + (-1)))), (9, .int (II x33)), (6, .ref s32_0), (5, .ref s15_0), (0, .ref a_this), (1, .int (II a_st)), (2, .int (II a_v)), (3, .int (II a_a)), (4, .int (II a_b)), (8, .int (II v40_8))]) B.1 B.2.1 dX7_work_393 hl (by decide) rfl (fun ls hl => ?_)
                              refine lv_goto (tgt := 486) B.1 B.2.1 dX7_work_395 (by decide) ?_
                              exact JJ486 x108 _ _ ls hM (lv_sub hl [1, 2, 3, 4, 5, 6, 7, 8, 9, 10, 11, 0] rfl) (by first | omega | assumption | exact trivial)
                            · refine lv_tableIn (off := 118) (tgt := 368) B.1 B.2.1 dX7_work_250 (by rw [II_toInt (by unfold inr; omega)]; omega) (by rw [II_toInt (by unfold inr; omega)]; omega) (by rw [II_toInt (by unfold inr; omega), hsw6]; decide) (by decide) ?_
                              refine lv_iload B.1 B.2.1 dX7_work_368 (lv_at hl 0 rfl) ?_
                              refine lv_iload B.1 B.2.1 dX7_work_370 (lv_at hl 1 rfl) ?_
                              refine q_add B dX7_work_372 ?_
                              refine q_wrap (fun x109 ix109 => ?_)
                              refine lv_istore (lv' := [(11, .int (II x109)), (10, .int (II x91)), (7, .int (II (v40_7 + (-1)))), (9, .int (II x33)), (6, .ref s32_0), (5, .ref s15_0), (0, .ref a_this), (1, .int (II a_st)), (2, .int (II a_v)), (3, .int (II a_a)), (4, .int (II a_b)), (8, .int (II v40_8))]) B.1 B.2.1 dX7_work_373 hl (by decide) rfl (fun ls hl => ?_)
                              refine lv_goto (tgt := 486) B.1 B.2.1 dX7_work_375 (by decide) ?_
                              exact JJ486 x109 _ _ ls hM (lv_sub hl [1, 2, 3, 4, 5, 6, 7, 8, 9, 10, 11, 0] rfl) (by first | omega | assumption | exact trivial)
                            · refine lv_tableIn (off := 229) (tgt := 479) B.1 B.2.1 dX7_work_250 (by rw [II_toInt (by unfold inr; omega)]; omega) (by rw [II_toInt (by unfold inr; omega)]; omega) (by rw [II_toInt (by unfold inr; omega), hsw7]; decide) (by decide) ?_
                              refine lv_iload B.1 B.2.1 dX7_work_479 (lv_at hl 0 rfl) ?_
                              refine lv_iload B.1 B.2.1 dX7_work_481 (lv_at hl 1 rfl) ?_
                              refine q_or B dX7_work_483 (fun x110 ix110 ex110 => ?_)
                              unfold inr at ix110
                              refine lv_istore (lv' := [(11, .int (II x110)), (10, .int (II x91)), (7, .int (II (v40_7 + (-1)))), (9, .int (II x33)), (6, .ref s32_0), (5, .ref s15_0), (0, .ref a_this), (1, .int (II a_st)), (2, .int (II a_v)), (3, .int (II a_a)), (4, .int (II a_b)), (8, .int (II v40_8))]) B.1 B.2.1 dX7_work_484 hl (by decide) rfl (fun ls hl => ?_)
                              exact JJ486 x110 _ _ ls hM (lv_sub hl [1, 2, 3, 4, 5, 6, 7, 8, 9, 10, 11, 0] rfl) (by first | omega | assumption | exact trivial)
                            · refine lv_tableIn (off := 128) (tgt := 378) B.1 B.2.1 dX7_work_250 (by rw [II_toInt (by unfold inr; omega)]; omega) (by rw [II_toInt (by unfold inr; omega)]; omega) (by rw [II_toInt (by unfold inr; omega), hsw8]; decide) (by decide) ?_
                              refine lv_iload B.1 B.2.1 dX7_work_378 (lv_at hl 0 rfl) ?_
                              refine lv_iload B.1 B.2.1 dX7_work_380 (lv_at hl 1 rfl) ?_
                              refine q_sub B dX7_work_382 ?_
                              refine q_wrap (fun x111 ix111 => ?_)
                              refine lv_istore (lv' := [(11, .int (II x111)), (10, .int (II x91)), (7, .int (II (v40_7 + (-1)))), (9, .int (II x33)), (6, .ref s32_0), (5, .ref s15_0), (0, .ref a_this), (1, .int (II a_st)), (2, .int (II a_v)), (3, .int (II a_a)), (4, .int (II a_b)), (8, .int (II v40_8))]) B.1 B.2.1 dX7_work_383 hl (by decide) rfl (fun ls hl => ?_)
                              refine lv_goto (tgt := 486) B.1 B.2.1 dX7_work_385 (by decide) ?_
                              exact JJ486 x111 _ _ ls hM (lv_sub hl [1, 2, 3, 4, 5, 6, 7, 8, 9, 10, 11, 0] rfl) (by first | omega | assumption | exact trivial)
                            · refine lv_tableIn (off := 229) (tgt := 479) B.1 B.2.1 dX7_work_250 (by rw [II_toInt (by unfold inr; omega)]; omega) (by rw [II_toInt (by unfold inr; omega)]; omega) (by rw [II_toInt (by unfold inr; omega), hsw9]; decide) (by decide) ?_
                              refine lv_iload B.1 B.2.1 dX7_work_479 (lv_at hl 0 rfl) ?_
                              refine lv_iload B.1 B.2.1 dX7_work_481 (lv_at hl 1 rfl) ?_
                              refine q_or B dX7_work_483 (fun x112 ix112 ex112 => ?_)
                              unfold inr at ix112
                              refine lv_istore (lv' := [(11, .int (II x112)), (10, .int (II x91)), (7, .int (II (v40_7 + (-1)))), (9, .int (II x33)), (6, .ref s32_0), (5, .ref s15_0), (0, .ref a_this), (1, .int (II a_st)), (2, .int (II a_v)), (3, .int (II a_a)), (4, .int (II a_b)), (8, .int (II v40_8))]) B.1 B.2.1 dX7_work_484 hl (by decide) rfl (fun ls hl => ?_)
                              exact JJ486 x112 _ _ ls hM (lv_sub hl [1, 2, 3, 4, 5, 6, 7, 8, 9, 10, 11, 0] rfl) (by first | omega | assumption | exact trivial)
                            · refine lv_tableIn (off := 148) (tgt := 398) B.1 B.2.1 dX7_work_250 (by rw [II_toInt (by unfold inr; omega)]; omega) (by rw [II_toInt (by unfold inr; omega)]; omega) (by rw [II_toInt (by unfold inr; omega), hsw10]; decide) (by decide) ?_
                              refine lv_iload B.1 B.2.1 dX7_work_398 (lv_at hl 0 rfl) ?_
                              refine lv_iload B.1 B.2.1 dX7_work_400 (lv_at hl 1 rfl) ?_
                              refine q_div B dX7_work_402 (by unfold inr; omega) (by omega) (fun x113 ix113 => ?_)
                              unfold inr at ix113
                              refine lv_istore (lv' := [(11, .int (II x113)), (10, .int (II x91)), (7, .int (II (v40_7 + (-1)))), (9, .int (II x33)), (6, .ref s32_0), (5, .ref s15_0), (0, .ref a_this), (1, .int (II a_st)), (2, .int (II a_v)), (3, .int (II a_a)), (4, .int (II a_b)), (8, .int (II v40_8))]) B.1 B.2.1 dX7_work_403 hl (by decide) rfl (fun ls hl => ?_)
                              refine lv_goto (tgt := 486) B.1 B.2.1 dX7_work_405 (by decide) ?_
                              exact JJ486 x113 _ _ ls hM (lv_sub hl [1, 2, 3, 4, 5, 6, 7, 8, 9, 10, 11, 0] rfl) (by first | omega | assumption | exact trivial)
                            · refine lv_tableIn (off := 229) (tgt := 479) B.1 B.2.1 dX7_work_250 (by rw [II_toInt (by unfold inr; omega)]; omega) (by rw [II_toInt (by unfold inr; omega)]; omega) (by rw [II_toInt (by unfold inr; omega), hsw11]; decide) (by decide) ?_
                              refine lv_iload B.1 B.2.1 dX7_work_479 (lv_at hl 0 rfl) ?_
                              refine lv_iload B.1 B.2.1 dX7_work_481 (lv_at hl 1 rfl) ?_
                              refine q_or B dX7_work_483 (fun x114 ix114 ex114 => ?_)
                              unfold inr at ix114
                              refine lv_istore (lv' := [(11, .int (II x114)), (10, .int (II x91)), (7, .int (II (v40_7 + (-1)))), (9, .int (II x33)), (6, .ref s32_0), (5, .ref s15_0), (0, .ref a_this), (1, .int (II a_st)), (2, .int (II a_v)), (3, .int (II a_a)), (4, .int (II a_b)), (8, .int (II v40_8))]) B.1 B.2.1 dX7_work_484 hl (by decide) rfl (fun ls hl => ?_)
                              exact JJ486 x114 _ _ ls hM (lv_sub hl [1, 2, 3, 4, 5, 6, 7, 8, 9, 10, 11, 0] rfl) (by first | omega | assumption | exact trivial)
                            · refine lv_tableIn (off := 229) (tgt := 479) B.1 B.2.1 dX7_work_250 (by rw [II_toInt (by unfold inr; omega)]; omega) (by rw [II_toInt (by unfold inr; omega)]; omega) (by rw [II_toInt (by unfold inr; omega), hsw12]; decide) (by decide) ?_
                              refine lv_iload B.1 B.2.1 dX7_work_479 (lv_at hl 0 rfl) ?_
                              refine lv_iload B.1 B.2.1 dX7_work_481 (lv_at hl 1 rfl) ?_
                              refine q_or B dX7_work_483 (fun x115 ix115 ex115 => ?_)
                              unfold inr at ix115
                              refine lv_istore (lv' := [(11, .int (II x115)), (10, .int (II x91)), (7, .int (II (v40_7 + (-1)))), (9, .int (II x33)), (6, .ref s32_0), (5, .ref s15_0), (0, .ref a_this), (1, .int (II a_st)), (2, .int (II a_v)), (3, .int (II a_a)), (4, .int (II a_b)), (8, .int (II v40_8))]) B.1 B.2.1 dX7_work_484 hl (by decide) rfl (fun ls hl => ?_)
                              exact JJ486 x115 _ _ ls hM (lv_sub hl [1, 2, 3, 4, 5, 6, 7, 8, 9, 10, 11, 0] rfl) (by first | omega | assumption | exact trivial)
                            · refine lv_tableIn (off := 229) (tgt := 479) B.1 B.2.1 dX7_work_250 (by rw [II_toInt (by unfold inr; omega)]; omega) (by rw [II_toInt (by unfold inr; omega)]; omega) (by rw [II_toInt (by unfold inr; omega), hsw13]; decide) (by decide) ?_
                              refine lv_iload B.1 B.2.1 dX7_work_479 (lv_at hl 0 rfl) ?_
                              refine lv_iload B.1 B.2.1 dX7_work_481 (lv_at hl 1 rfl) ?_
                              refine q_or B dX7_work_483 (fun x116 ix116 ex116 => ?_)
                              unfold inr at ix116
                              refine lv_istore (lv' := [(11, .int (II x116)), (10, .int (II x91)), (7, .int (II (v40_7 + (-1)))), (9, .int (II x33)), (6, .ref s32_0), (5, .ref s15_0), (0, .ref a_this), (1, .int (II a_st)), (2, .int (II a_v)), (3, .int (II a_a)), (4, .int (II a_b)), (8, .int (II v40_8))]) B.1 B.2.1 dX7_work_484 hl (by decide) rfl (fun ls hl => ?_)
                              exact JJ486 x116 _ _ ls hM (lv_sub hl [1, 2, 3, 4, 5, 6, 7, 8, 9, 10, 11, 0] rfl) (by first | omega | assumption | exact trivial)
                            · refine lv_tableIn (off := 229) (tgt := 479) B.1 B.2.1 dX7_work_250 (by rw [II_toInt (by unfold inr; omega)]; omega) (by rw [II_toInt (by unfold inr; omega)]; omega) (by rw [II_toInt (by unfold inr; omega), hsw14]; decide) (by decide) ?_
                              refine lv_iload B.1 B.2.1 dX7_work_479 (lv_at hl 0 rfl) ?_
                              refine lv_iload B.1 B.2.1 dX7_work_481 (lv_at hl 1 rfl) ?_
                              refine q_or B dX7_work_483 (fun x117 ix117 ex117 => ?_)
                              unfold inr at ix117
                              refine lv_istore (lv' := [(11, .int (II x117)), (10, .int (II x91)), (7, .int (II (v40_7 + (-1)))), (9, .int (II x33)), (6, .ref s32_0), (5, .ref s15_0), (0, .ref a_this), (1, .int (II a_st)), (2, .int (II a_v)), (3, .int (II a_a)), (4, .int (II a_b)), (8, .int (II v40_8))]) B.1 B.2.1 dX7_work_484 hl (by decide) rfl (fun ls hl => ?_)
                              exact JJ486 x117 _ _ ls hM (lv_sub hl [1, 2, 3, 4, 5, 6, 7, 8, 9, 10, 11, 0] rfl) (by first | omega | assumption | exact trivial)
                            · refine lv_tableIn (off := 229) (tgt := 479) B.1 B.2.1 dX7_work_250 (by rw [II_toInt (by unfold inr; omega)]; omega) (by rw [II_toInt (by unfold inr; omega)]; omega) (by rw [II_toInt (by unfold inr; omega), hsw15]; decide) (by decide) ?_
                              refine lv_iload B.1 B.2.1 dX7_work_479 (lv_at hl 0 rfl) ?_
                              refine lv_iload B.1 B.2.1 dX7_work_481 (lv_at hl 1 rfl) ?_
                              refine q_or B dX7_work_483 (fun x118 ix118 ex118 => ?_)
                              unfold inr at ix118
                              refine lv_istore (lv' := [(11, .int (II x118)), (10, .int (II x91)), (7, .int (II (v40_7 + (-1)))), (9, .int (II x33)), (6, .ref s32_0), (5, .ref s15_0), (0, .ref a_this), (1, .int (II a_st)), (2, .int (II a_v)), (3, .int (II a_a)), (4, .int (II a_b)), (8, .int (II v40_8))]) B.1 B.2.1 dX7_work_484 hl (by decide) rfl (fun ls hl => ?_)
                              exact JJ486 x118 _ _ ls hM (lv_sub hl [1, 2, 3, 4, 5, 6, 7, 8, 9, 10, 11, 0] rfl) (by first | omega | assumption | exact trivial)
                            · refine lv_tableIn (off := 229) (tgt := 479) B.1 B.2.1 dX7_work_250 (by rw [II_toInt (by unfold inr; omega)]; omega) (by rw [II_toInt (by unfold inr; omega)]; omega) (by rw [II_toInt (by unfold inr; omega), hsw16]; decide) (by decide) ?_
                              refine lv_iload B.1 B.2.1 dX7_work_479 (lv_at hl 0 rfl) ?_
                              refine lv_iload B.1 B.2.1 dX7_work_481 (lv_at hl 1 rfl) ?_
                              refine q_or B dX7_work_483 (fun x119 ix119 ex119 => ?_)
                              unfold inr at ix119
                              refine lv_istore (lv' := [(11, .int (II x119)), (10, .int (II x91)), (7, .int (II (v40_7 + (-1)))), (9, .int (II x33)), (6, .ref s32_0), (5, .ref s15_0), (0, .ref a_this), (1, .int (II a_st)), (2, .int (II a_v)), (3, .int (II a_a)), (4, .int (II a_b)), (8, .int (II v40_8))]) B.1 B.2.1 dX7_work_484 hl (by decide) rfl (fun ls hl => ?_)
                              exact JJ486 x119 _ _ ls hM (lv_sub hl [1, 2, 3, 4, 5, 6, 7, 8, 9, 10, 11, 0] rfl) (by first | omega | assumption | exact trivial)
                            · refine lv_tableIn (off := 229) (tgt := 479) B.1 B.2.1 dX7_work_250 (by rw [II_toInt (by unfold inr; omega)]; omega) (by rw [II_toInt (by unfold inr; omega)]; omega) (by rw [II_toInt (by unfold inr; omega), hsw17]; decide) (by decide) ?_
                              refine lv_iload B.1 B.2.1 dX7_work_479 (lv_at hl 0 rfl) ?_
                              refine lv_iload B.1 B.2.1 dX7_work_481 (lv_at hl 1 rfl) ?_
                              refine q_or B dX7_work_483 (fun x120 ix120 ex120 => ?_)
                              unfold inr at ix120
                              refine lv_istore (lv' := [(11, .int (II x120)), (10, .int (II x91)), (7, .int (II (v40_7 + (-1)))), (9, .int (II x33)), (6, .ref s32_0), (5, .ref s15_0), (0, .ref a_this), (1, .int (II a_st)), (2, .int (II a_v)), (3, .int (II a_a)), (4, .int (II a_b)), (8, .int (II v40_8))]) B.1 B.2.1 dX7_work_484 hl (by decide) rfl (fun ls hl => ?_)
                              exact JJ486 x120 _ _ ls hM (lv_sub hl [1, 2, 3, 4, 5, 6, 7, 8, 9, 10, 11, 0] rfl) (by first | omega | assumption | exact trivial)
                            · refine lv_tableIn (off := 229) (tgt := 479) B.1 B.2.1 dX7_work_250 (by rw [II_toInt (by unfold inr; omega)]; omega) (by rw [II_toInt (by unfold inr; omega)]; omega) (by rw [II_toInt (by unfold inr; omega), hsw18]; decide) (by decide) ?_
                              refine lv_iload B.1 B.2.1 dX7_work_479 (lv_at hl 0 rfl) ?_
                              refine lv_iload B.1 B.2.1 dX7_work_481 (lv_at hl 1 rfl) ?_
                              refine q_or B dX7_work_483 (fun x121 ix121 ex121 => ?_)
                              unfold inr at ix121
                              refine lv_istore (lv' := [(11, .int (II x121)), (10, .int (II x91)), (7, .int (II (v40_7 + (-1)))), (9, .int (II x33)), (6, .ref s32_0), (5, .ref s15_0), (0, .ref a_this), (1, .int (II a_st)), (2, .int (II a_v)), (3, .int (II a_a)), (4, .int (II a_b)), (8, .int (II v40_8))]) B.1 B.2.1 dX7_work_484 hl (by decide) rfl (fun ls hl => ?_)
                              exact JJ486 x121 _ _ ls hM (lv_sub hl [1, 2, 3, 4, 5, 6, 7, 8, 9, 10, 11, 0] rfl) (by first | omega | assumption | exact trivial)
                            · refine lv_tableIn (off := 229) (tgt := 479) B.1 B.2.1 dX7_work_250 (by rw [II_toInt (by unfold inr; omega)]; omega) (by rw [II_toInt (by unfold inr; omega)]; omega) (by rw [II_toInt (by unfold inr; omega), hsw19]; decide) (by decide) ?_
                              refine lv_iload B.1 B.2.1 dX7_work_479 (lv_at hl 0 rfl) ?_
                              refine lv_iload B.1 B.2.1 dX7_work_481 (lv_at hl 1 rfl) ?_
                              refine q_or B dX7_work_483 (fun x122 ix122 ex122 => ?_)
                              unfold inr at ix122
                              refine lv_istore (lv' := [(11, .int (II x122)), (10, .int (II x91)), (7, .int (II (v40_7 + (-1)))), (9, .int (II x33)), (6, .ref s32_0), (5, .ref s15_0), (0, .ref a_this), (1, .int (II a_st)), (2, .int (II a_v)), (3, .int (II a_a)), (4, .int (II a_b)), (8, .int (II v40_8))]) B.1 B.2.1 dX7_work_484 hl (by decide) rfl (fun ls hl => ?_)
                              exact JJ486 x122 _ _ ls hM (lv_sub hl [1, 2, 3, 4, 5, 6, 7, 8, 9, 10, 11, 0] rfl) (by first | omega | assumption | exact trivial)
                            · refine lv_tableIn (off := 229) (tgt := 479) B.1 B.2.1 dX7_work_250 (by rw [II_toInt (by unfold inr; omega)]; omega) (by rw [II_toInt (by unfold inr; omega)]; omega) (by rw [II_toInt (by unfold inr; omega), hsw20]; decide) (by decide) ?_
                              refine lv_iload B.1 B.2.1 dX7_work_479 (lv_at hl 0 rfl) ?_
                              refine lv_iload B.1 B.2.1 dX7_work_481 (lv_at hl 1 rfl) ?_
                              refine q_or B dX7_work_483 (fun x123 ix123 ex123 => ?_)
                              unfold inr at ix123
                              refine lv_istore (lv' := [(11, .int (II x123)), (10, .int (II x91)), (7, .int (II (v40_7 + (-1)))), (9, .int (II x33)), (6, .ref s32_0), (5, .ref s15_0), (0, .ref a_this), (1, .int (II a_st)), (2, .int (II a_v)), (3, .int (II a_a)), (4, .int (II a_b)), (8, .int (II v40_8))]) B.1 B.2.1 dX7_work_484 hl (by decide) rfl (fun ls hl => ?_)
                              exact JJ486 x123 _ _ ls hM (lv_sub hl [1, 2, 3, 4, 5, 6, 7, 8, 9, 10, 11, 0] rfl) (by first | omega | assumption | exact trivial)
                            · refine lv_tableIn (off := 229) (tgt := 479) B.1 B.2.1 dX7_work_250 (by rw [II_toInt (by unfold inr; omega)]; omega) (by rw [II_toInt (by unfold inr; omega)]; omega) (by rw [II_toInt (by unfold inr; omega), hsw21]; decide) (by decide) ?_
                              refine lv_iload B.1 B.2.1 dX7_work_479 (lv_at hl 0 rfl) ?_
                              refine lv_iload B.1 B.2.1 dX7_work_481 (lv_at hl 1 rfl) ?_
                              refine q_or B dX7_work_483 (fun x124 ix124 ex124 => ?_)
                              unfold inr at ix124
                              refine lv_istore (lv' := [(11, .int (II x124)), (10, .int (II x91)), (7, .int (II (v40_7 + (-1)))), (9, .int (II x33)), (6, .ref s32_0), (5, .ref s15_0), (0, .ref a_this), (1, .int (II a_st)), (2, .int (II a_v)), (3, .int (II a_a)), (4, .int (II a_b)), (8, .int (II v40_8))]) B.1 B.2.1 dX7_work_484 hl (by decide) rfl (fun ls hl => ?_)
                              exact JJ486 x124 _ _ ls hM (lv_sub hl [1, 2, 3, 4, 5, 6, 7, 8, 9, 10, 11, 0] rfl) (by first | omega | assumption | exact trivial)
                            · refine lv_tableIn (off := 229) (tgt := 479) B.1 B.2.1 dX7_work_250 (by rw [II_toInt (by unfold inr; omega)]; omega) (by rw [II_toInt (by unfold inr; omega)]; omega) (by rw [II_toInt (by unfold inr; omega), hsw22]; decide) (by decide) ?_
                              refine lv_iload B.1 B.2.1 dX7_work_479 (lv_at hl 0 rfl) ?_
                              refine lv_iload B.1 B.2.1 dX7_work_481 (lv_at hl 1 rfl) ?_
                              refine q_or B dX7_work_483 (fun x125 ix125 ex125 => ?_)
                              unfold inr at ix125
                              refine lv_istore (lv' := [(11, .int (II x125)), (10, .int (II x91)), (7, .int (II (v40_7 + (-1)))), (9, .int (II x33)), (6, .ref s32_0), (5, .ref s15_0), (0, .ref a_this), (1, .int (II a_st)), (2, .int (II a_v)), (3, .int (II a_a)), (4, .int (II a_b)), (8, .int (II v40_8))]) B.1 B.2.1 dX7_work_484 hl (by decide) rfl (fun ls hl => ?_)
                              exact JJ486 x125 _ _ ls hM (lv_sub hl [1, 2, 3, 4, 5, 6, 7, 8, 9, 10, 11, 0] rfl) (by first | omega | assumption | exact trivial)
                            · refine lv_tableIn (off := 168) (tgt := 418) B.1 B.2.1 dX7_work_250 (by rw [II_toInt (by unfold inr; omega)]; omega) (by rw [II_toInt (by unfold inr; omega)]; omega) (by rw [II_toInt (by unfold inr; omega), hsw23]; decide) (by decide) ?_
                              refine lv_iload B.1 B.2.1 dX7_work_418 (lv_at hl 0 rfl) ?_
                              refine lv_iload B.1 B.2.1 dX7_work_420 (lv_at hl 1 rfl) ?_
                              refine q_cge (tgt := 429) B dX7_work_422 (by decide) (by unfold inr; omega) (by unfold inr; omega) (fun c126 => ?_) (fun c126 => ?_)
                              · refine q_con B dX7_work_429 ?_
                                refine lv_istore (lv' := [(11, .int (II 0)), (10, .int (II x91)), (7, .int (II (v40_7 + (-1)))), (9, .int (II x33)), (6, .ref s32_0), (5, .ref s15_0), (0, .ref a_this), (1, .int (II a_st)), (2, .int (II a_v)), (3, .int (II a_a)), (4, .int (II a_b)), (8, .int (II v40_8))]) B.1 B.2.1 dX7_work_430 hl (by decide) rfl (fun ls hl => ?_)
                                refine lv_goto (tgt := 486) B.1 B.2.1 dX7_work_432 (by decide) ?_
                                exact JJ486 0 _ _ ls hM (lv_sub hl [1, 2, 3, 4, 5, 6, 7, 8, 9, 10, 11, 0] rfl) (by first | omega | assumption | exact trivial)
                              · refine q_con B dX7_work_425 ?_
                                refine lv_goto (tgt := 430) B.1 B.2.1 dX7_work_426 (by decide) ?_
                                refine lv_istore (lv' := [(11, .int (II 1)), (10, .int (II x91)), (7, .int (II (v40_7 + (-1)))), (9, .int (II x33)), (6, .ref s32_0), (5, .ref s15_0), (0, .ref a_this), (1, .int (II a_st)), (2, .int (II a_v)), (3, .int (II a_a)), (4, .int (II a_b)), (8, .int (II v40_8))]) B.1 B.2.1 dX7_work_430 hl (by decide) rfl (fun ls hl => ?_)
                                refine lv_goto (tgt := 486) B.1 B.2.1 dX7_work_432 (by decide) ?_
                                exact JJ486 1 _ _ ls hM (lv_sub hl [1, 2, 3, 4, 5, 6, 7, 8, 9, 10, 11, 0] rfl) (by first | omega | assumption | exact trivial)
                            · refine lv_tableIn (off := 202) (tgt := 452) B.1 B.2.1 dX7_work_250 (by rw [II_toInt (by unfold inr; omega)]; omega) (by rw [II_toInt (by unfold inr; omega)]; omega) (by rw [II_toInt (by unfold inr; omega), hsw24]; decide) (by decide) ?_
                              refine lv_iload B.1 B.2.1 dX7_work_452 (lv_at hl 0 rfl) ?_
                              refine lv_iload B.1 B.2.1 dX7_work_454 (lv_at hl 1 rfl) ?_
                              refine q_cne (tgt := 463) B dX7_work_456 (by decide) (by unfold inr; omega) (by unfold inr; omega) (fun c127 => ?_) (fun c127 => ?_)
                              · refine q_con B dX7_work_463 ?_
                                refine lv_istore (lv' := [(11, .int (II 0)), (10, .int (II x91)), (7, .int (II (v40_7 + (-1)))), (9, .int (II x33)), (6, .ref s32_0), (5, .ref s15_0), (0, .ref a_this), (1, .int (II a_st)), (2, .int (II a_v)), (3, .int (II a_a)), (4, .int (II a_b)), (8, .int (II v40_8))]) B.1 B.2.1 dX7_work_464 hl (by decide) rfl (fun ls hl => ?_)
                                refine lv_goto (tgt := 486) B.1 B.2.1 dX7_work_466 (by decide) ?_
                                exact JJ486 0 _ _ ls hM (lv_sub hl [1, 2, 3, 4, 5, 6, 7, 8, 9, 10, 11, 0] rfl) (by first | omega | assumption | exact trivial)
                              · refine q_con B dX7_work_459 ?_
                                refine lv_goto (tgt := 464) B.1 B.2.1 dX7_work_460 (by decide) ?_
                                refine lv_istore (lv' := [(11, .int (II 1)), (10, .int (II x91)), (7, .int (II (v40_7 + (-1)))), (9, .int (II x33)), (6, .ref s32_0), (5, .ref s15_0), (0, .ref a_this), (1, .int (II a_st)), (2, .int (II a_v)), (3, .int (II a_a)), (4, .int (II a_b)), (8, .int (II v40_8))]) B.1 B.2.1 dX7_work_464 hl (by decide) rfl (fun ls hl => ?_)
                                refine lv_goto (tgt := 486) B.1 B.2.1 dX7_work_466 (by decide) ?_
                                exact JJ486 1 _ _ ls hM (lv_sub hl [1, 2, 3, 4, 5, 6, 7, 8, 9, 10, 11, 0] rfl) (by first | omega | assumption | exact trivial)
                            · refine lv_tableIn (off := 185) (tgt := 435) B.1 B.2.1 dX7_work_250 (by rw [II_toInt (by unfold inr; omega)]; omega) (by rw [II_toInt (by unfold inr; omega)]; omega) (by rw [II_toInt (by unfold inr; omega), hsw25]; decide) (by decide) ?_
                              refine lv_iload B.1 B.2.1 dX7_work_435 (lv_at hl 0 rfl) ?_
                              refine lv_iload B.1 B.2.1 dX7_work_437 (lv_at hl 1 rfl) ?_
                              refine q_cle (tgt := 446) B dX7_work_439 (by decide) (by unfold inr; omega) (by unfold inr; omega) (fun c128 => ?_) (fun c128 => ?_)
                              · refine q_con B dX7_work_446 ?_
                                refine lv_istore (lv' := [(11, .int (II 0)), (10, .int (II x91)), (7, .int (II (v40_7 + (-1)))), (9, .int (II x33)), (6, .ref s32_0), (5, .ref s15_0), (0, .ref a_this), (1, .int (II a_st)), (2, .int (II a_v)), (3, .int (II a_a)), (4, .int (II a_b)), (8, .int (II v40_8))]) B.1 B.2.1 dX7_work_447 hl (by decide) rfl (fun ls hl => ?_)
                                refine lv_goto (tgt := 486) B.1 B.2.1 dX7_work_449 (by decide) ?_
                                exact JJ486 0 _ _ ls hM (lv_sub hl [1, 2, 3, 4, 5, 6, 7, 8, 9, 10, 11, 0] rfl) (by first | omega | assumption | exact trivial)
                              · refine q_con B dX7_work_442 ?_
                                refine lv_goto (tgt := 447) B.1 B.2.1 dX7_work_443 (by decide) ?_
                                refine lv_istore (lv' := [(11, .int (II 1)), (10, .int (II x91)), (7, .int (II (v40_7 + (-1)))), (9, .int (II x33)), (6, .ref s32_0), (5, .ref s15_0), (0, .ref a_this), (1, .int (II a_st)), (2, .int (II a_v)), (3, .int (II a_a)), (4, .int (II a_b)), (8, .int (II v40_8))]) B.1 B.2.1 dX7_work_447 hl (by decide) rfl (fun ls hl => ?_)
                                refine lv_goto (tgt := 486) B.1 B.2.1 dX7_work_449 (by decide) ?_
                                exact JJ486 1 _ _ ls hM (lv_sub hl [1, 2, 3, 4, 5, 6, 7, 8, 9, 10, 11, 0] rfl) (by first | omega | assumption | exact trivial)
                          · refine lv_iload B.1 B.2.1 dX7_work_221 (lv_at hl 2 rfl) ?_
                            refine q_bip B dX7_work_223 (by decide) ?_
                            refine q_ceq (tgt := 235) B dX7_work_225 (by decide) (by unfold inr; omega) (by unfold inr; omega) (fun c129 => ?_) (fun c129 => ?_)
                            · refine q_con B dX7_work_235 ?_
                              refine g_zret B hM dX7_work_236 ⟨Nat.le_refl _, Nat.le_refl _⟩ (by omega) (by omega) ?_
                              rw [← hPST]
                              exact ⟨(0), rfl, by omega, rfl, rfl, rfl, rfl, rfl, hF, by omega, by omega, by first | omega | assumption | exact trivial⟩
                            · refine lv_iload B.1 B.2.1 dX7_work_228 (lv_at hl 2 rfl) ?_
                              refine q_bip B dX7_work_230 (by decide) ?_
                              refine q_cne (tgt := 237) B dX7_work_232 (by decide) (by unfold inr; omega) (by unfold inr; omega) (fun c130 => ?_) (fun c130 => ?_)
                              · refine lv_aload_n B.1 B.2.1 dX7_work_237 rfl (lv_at hl 5 rfl) ?_
                                refine c_getn (k := 10) pk_X7 B hM t_this kd8 rfl (by decide) fl_X7_28 dX7_work_238 e88 ?_
                                refine lv_iload B.1 B.2.1 dX7_work_241 (lv_at hl 1 rfl) ?_
                                refine q_con B dX7_work_243 ?_
                                refine q_sub B dX7_work_244 ?_
                                obtain ⟨x131, e132⟩ : ∃ v, I_40 b87 (((v40_7 + (-1)) - (1 : Int)).toNat) = v := ⟨_, rfl⟩
                                have r133 : (-2147483648 : Int) ≤ x131 ∧ x131 ≤ 2147483647 := by rw [← e132]; exact ga74 hM.2.2.2.2.2.2.1 t89 (by omega)
                                refine c_ild B hM t89 kd74 an74 dX7_work_245 (by omega) (by omega) e132 ?_
                                refine lv_istore (lv' := [(11, .int (II x131)), (10, .int (II x91)), (7, .int (II (v40_7 + (-1)))), (9, .int (II x33)), (6, .ref s32_0), (5, .ref s15_0), (0, .ref a_this), (1, .int (II a_st)), (2, .int (II a_v)), (3, .int (II a_a)), (4, .int (II a_b)), (8, .int (II v40_8))]) B.1 B.2.1 dX7_work_246 hl (by decide) rfl (fun ls hl => ?_)
                                refine lv_iload B.1 B.2.1 dX7_work_248 (lv_at hl 3 rfl) ?_
                                have JJ486 : ∀ (v486_11 : Int) (H : Heap) (locs : List Loc) (ls : Array Slot), (CWd D dA eA (cF dA L T N I J R s.heap.size) s.heap L T N I_40 J R H locs) → lv_has ls 12 [(10, .int (II x91)), (7, .int (II (v40_7 + (-1)))), (9, .int (II x33)), (6, .ref s32_0), (5, .ref s15_0), (0, .ref a_this), (1, .int (II a_st)), (2, .int (II a_v)), (3, .int (II a_a)), (4, .int (II a_b)), (8, .int (II v40_8)), (11, .int (II v486_11))] → ((-2147483648 : Int) ≤ v486_11 ∧ v486_11 ≤ 2147483647) → W p l e ({ frames := 0, cells := 0, slots := 0, locals := 0 }) s m args below meth c H locs 0 0 (MQ below (gQ D dA eA (cF dA L T N I J R s.heap.size) s.heap.size (hs s.heap) PST) args s 0 0 (cF dA L T N I J R s.heap.size)) (F0 m 486 ls []) := by
                                  intro v486_11 H locs ls hM hl hJJ486_0
                                  refine lv_aload_n B.1 B.2.1 dX7_work_486 rfl (lv_at hl 5 rfl) ?_
                                  refine c_getn (k := 10) pk_X7 B hM t_this kd8 rfl (by decide) fl_X7_28 dX7_work_487 e88 ?_
                                  refine lv_iload B.1 B.2.1 dX7_work_490 (lv_at hl 1 rfl) ?_
                                  refine q_con B dX7_work_492 ?_
                                  refine q_sub B dX7_work_493 ?_
                                  refine lv_iload B.1 B.2.1 dX7_work_494 (lv_at hl 11 rfl) ?_
                                  refine c_ist B hM t89 kd74 aq74 dX7_work_496 (by omega) (by omega) (show (-2147483648 : Int) ≤ v486_11 from by omega) (show v486_11 ≤ (2147483647 : Int) from by omega) (fun I135 H locs hu134 hM => ?_)
                                  have e136 : I135 b87 (((v40_7 + (-1)) - (1 : Int)).toNat) = v486_11 := w2_at hu134
                                  replace hF : Fr mo_X7_work [] T N I J R T N I135 J R := hF.wi hu134 (fun _ _ => by rw [t89, cd_arr (j := 0) (by decide)]; rfl)
                                  refine q_inc (lv' := [(8, .int (II (v40_8 + 1))), (10, .int (II x91)), (7, .int (II (v40_7 + (-1)))), (9, .int (II x33)), (6, .ref s32_0), (5, .ref s15_0), (0, .ref a_this), (1, .int (II a_st)), (2, .int (II a_v)), (3, .int (II a_a)), (4, .int (II a_b)), (11, .int (II v486_11))]) B dX7_work_497 hl (k := 10) rfl (by decide) rfl (fun ls hl => ?_)
                                  refine lv_goto (tgt := 40) B.1 B.2.1 dX7_work_500 (by decide) ?_
                                  have hv137 : ((-2147483648 : Int) ≤ v40_7 + (-1) ∧ (v40_7 + (-1) : Int) ≤ 2147483647) ∧ ((-2147483648 : Int) ≤ v40_8 + 1 ∧ (v40_8 + 1 : Int) ≤ 2147483647) ∧ (0 ≤ (v40_7 + (-1))) ∧ ((v40_7 + (-1)) ≤ 16) ∧ (0 ≤ (v40_8 + 1)) ∧ ((v40_8 + 1) ≤ 40) ∧ (0 ≤ 41 - (v40_8 + 1)) := by first | omega | exact ⟨by first | omega | assumption | exact trivial, by first | omega | assumption | exact trivial, by first | omega | assumption | exact trivial, by first | omega | assumption | exact trivial, by first | omega | assumption | exact trivial, by first | omega | assumption | exact trivial, by first | omega | assumption | exact trivial⟩
                                  exact IH40 (v40_7 + (-1)) (v40_8 + 1) I135 _ _ ls hM hF (lv_sub hl [4, 5, 6, 7, 8, 9, 10, 2, 0] rfl) hv137.1 hv137.2.1 hv137.2.2.1 hv137.2.2.2.1 hv137.2.2.2.2.1 hv137.2.2.2.2.2.1 hv137.2.2.2.2.2.2 (by omega)
                                by_cases hsw : x33 < 37 ∨ 62 < x33
                                · refine lv_tableOut (tgt := 479) B.1 B.2.1 dX7_work_250 (by rw [II_toInt (by unfold inr; omega)]; omega) (by decide) ?_
                                  refine lv_iload B.1 B.2.1 dX7_work_479 (lv_at hl 0 rfl) ?_
                                  refine lv_iload B.1 B.2.1 dX7_work_481 (lv_at hl 1 rfl) ?_
                                  refine q_or B dX7_work_483 (fun x138 ix138 ex138 => ?_)
                                  unfold inr at ix138
                                  refine lv_istore (lv' := [(11, .int (II x138)), (10, .int (II x91)), (7, .int (II (v40_7 + (-1)))), (9, .int (II x33)), (6, .ref s32_0), (5, .ref s15_0), (0, .ref a_this), (1, .int (II a_st)), (2, .int (II a_v)), (3, .int (II a_a)), (4, .int (II a_b)), (8, .int (II v40_8))]) B.1 B.2.1 dX7_work_484 hl (by decide) rfl (fun ls hl => ?_)
                                  exact JJ486 x138 _ _ ls hM (lv_sub hl [1, 2, 3, 4, 5, 6, 7, 8, 9, 10, 11, 0] rfl) (by first | omega | assumption | exact trivial)
                                have hdj : x33 = 37 ∨ x33 = 38 ∨ x33 = 39 ∨ x33 = 40 ∨ x33 = 41 ∨ x33 = 42 ∨ x33 = 43 ∨ x33 = 44 ∨ x33 = 45 ∨ x33 = 46 ∨ x33 = 47 ∨ x33 = 48 ∨ x33 = 49 ∨ x33 = 50 ∨ x33 = 51 ∨ x33 = 52 ∨ x33 = 53 ∨ x33 = 54 ∨ x33 = 55 ∨ x33 = 56 ∨ x33 = 57 ∨ x33 = 58 ∨ x33 = 59 ∨ x33 = 60 ∨ x33 = 61 ∨ x33 = 62 := by omega
                                clear hsw
                                rcases hdj with hsw0 | hsw1 | hsw2 | hsw3 | hsw4 | hsw5 | hsw6 | hsw7 | hsw8 | hsw9 | hsw10 | hsw11 | hsw12 | hsw13 | hsw14 | hsw15 | hsw16 | hsw17 | hsw18 | hsw19 | hsw20 | hsw21 | hsw22 | hsw23 | hsw24 | hsw25
                                · refine lv_tableIn (off := 158) (tgt := 408) B.1 B.2.1 dX7_work_250 (by rw [II_toInt (by unfold inr; omega)]; omega) (by rw [II_toInt (by unfold inr; omega)]; omega) (by rw [II_toInt (by unfold inr; omega), hsw0]; decide) (by decide) ?_
                                  refine lv_iload B.1 B.2.1 dX7_work_408 (lv_at hl 0 rfl) ?_
                                  refine lv_iload B.1 B.2.1 dX7_work_410 (lv_at hl 1 rfl) ?_
                                  refine q_rem B dX7_work_412 (by unfold inr; omega) (by omega) (fun x139 ix139 => ?_)
                                  unfold inr at ix139
                                  refine lv_istore (lv' := [(11, .int (II x139)), (10, .int (II x91)), (7, .int (II (v40_7 + (-1)))), (9, .int (II x33)), (6, .ref s32_0), (5, .ref s15_0), (0, .ref a_this), (1, .int (II a_st)), (2, .int (II a_v)), (3, .int (II a_a)), (4, .int (II a_b)), (8, .int (II v40_8))]) B.1 B.2.1 dX7_work_413 hl (by decide) rfl (fun ls hl => ?_)
                                  refine lv_goto (tgt := 486) B.1 B.2.1 dX7_work_415 (by decide) ?_
                                  exact JJ486 x139 _ _ ls hM (lv_sub hl [1, 2, 3, 4, 5, 6, 7, 8, 9, 10, 11, 0] rfl) (by first | omega | assumption | exact trivial)
                                · refine lv_tableIn (off := 219) (tgt := 469) B.1 B.2.1 dX7_work_250 (by rw [II_toInt (by unfold inr; omega)]; omega) (by rw [II_toInt (by unfold inr; omega)]; omega) (by rw [II_toInt (by unfold inr; omega), hsw1]; decide) (by decide) ?_
                                  refine lv_iload B.1 B.2.1 dX7_work_469 (lv_at hl 0 rfl) ?_
                                  refine lv_iload B.1 B.2.1 dX7_work_471 (lv_at hl 1 rfl) ?_
                                  refine q_and B dX7_work_473 (fun x140 ix140 ex140 => ?_)
                                  unfold inr at ix140
                                  refine lv_istore (lv' := [(11, .int (II x140)), (10, .int (II x91)), (7, .int (II (v40_7 + (-1)))), (9, .int (II x33)), (6, .ref s32_0), (5, .ref s15_0), (0, .ref a_this), (1, .int (II a_st)), (2, .int (II a_v)), (3, .int (II a_a)), (4, .int (II a_b)), (8, .int (II v40_8))]) B.1 B.2.1 dX7_work_474 hl (by decide) rfl (fun ls hl => ?_)
                                  refine lv_goto (tgt := 486) B.1 B.2.1 dX7_work_476 (by decide) ?_
                                  exact JJ486 x140 _ _ ls hM (lv_sub hl [1, 2, 3, 4, 5, 6, 7, 8, 9, 10, 11, 0] rfl) (by first | omega | assumption | exact trivial)
                                · refine lv_tableIn (off := 229) (tgt := 479) B.1 B.2.1 dX7_work_250 (by rw [II_toInt (by unfold inr; omega)]; omega) (by rw [II_toInt (by unfold inr; omega)]; omega) (by rw [II_toInt (by unfold inr; omega), hsw2]; decide) (by decide) ?_
                                  refine lv_iload B.1 B.2.1 dX7_work_479 (lv_at hl 0 rfl) ?_
                                  refine lv_iload B.1 B.2.1 dX7_work_481 (lv_at hl 1 rfl) ?_
                                  refine q_or B dX7_work_483 (fun x141 ix141 ex141 => ?_)
                                  unfold inr at ix141
                                  refine lv_istore (lv' := [(11, .int (II x141)), (10, .int (II x91)), (7, .int (II (v40_7 + (-1)))), (9, .int (II x33)), (6, .ref s32_0), (5, .ref s15_0), (0, .ref a_this), (1, .int (II a_st)), (2, .int (II a_v)), (3, .int (II a_a)), (4, .int (II a_b)), (8, .int (II v40_8))]) B.1 B.2.1 dX7_work_484 hl (by decide) rfl (fun ls hl => ?_)
                                  exact JJ486 x141 _ _ ls hM (lv_sub hl [1, 2, 3, 4, 5, 6, 7, 8, 9, 10, 11, 0] rfl) (by first | omega | assumption | exact trivial)
                                · refine lv_tableIn (off := 229) (tgt := 479) B.1 B.2.1 dX7_work_250 (by rw [II_toInt (by unfold inr; omega)]; omega) (by rw [II_toInt (by unfold inr; omega)]; omega) (by rw [II_toInt (by unfold inr; omega), hsw3]; decide) (by decide) ?_
                                  refine lv_iload B.1 B.2.1 dX7_work_479 (lv_at hl 0 rfl) ?_
                                  refine lv_iload B.1 B.2.1 dX7_work_481 (lv_at hl 1 rfl) ?_
                                  refine q_or B dX7_work_483 (fun x142 ix142 ex142 => ?_)
                                  unfold inr at ix142
                                  refine lv_istore (lv' := [(11, .int (II x142)), (10, .int (II x91)), (7, .int (II (v40_7 + (-1)))), (9, .int (II x33)), (6, .ref s32_0), (5, .ref s15_0), (0, .ref a_this), (1, .int (II a_st)), (2, .int (II a_v)), (3, .int (II a_a)), (4, .int (II a_b)), (8, .int (II v40_8))]) B.1 B.2.1 dX7_work_484 hl (by decide) rfl (fun ls hl => ?_)
                                  exact JJ486 x142 _ _ ls hM (lv_sub hl [1, 2, 3, 4, 5, 6, 7, 8, 9, 10, 11, 0] rfl) (by first | omega | assumption | exact trivial)
                                · refine lv_tableIn (off := 229) (tgt := 479) B.1 B.2.1 dX7_work_250 (by rw [II_toInt (by unfold inr; omega)]; omega) (by rw [II_toInt (by unfold inr; omega)]; omega) (by rw [II_toInt (by unfold inr; omega), hsw4]; decide) (by decide) ?_
                                  refine lv_iload B.1 B.2.1 dX7_work_479 (lv_at hl 0 rfl) ?_
                                  refine lv_iload B.1 B.2.1 dX7_work_481 (lv_at hl 1 rfl) ?_
                                  refine q_or B dX7_work_483 (fun x143 ix143 ex143 => ?_)
                                  unfold inr at ix143
                                  refine lv_istore (lv' := [(11, .int (II x143)), (10, .int (II x91)), (7, .int (II (v40_7 + (-1)))), (9, .int (II x33)), (6, .ref s32_0), (5, .ref s15_0), (0, .ref a_this), (1, .int (II a_st)), (2, .int (II a_v)), (3, .int (II a_a)), (4, .int (II a_b)), (8, .int (II v40_8))]) B.1 B.2.1 dX7_work_484 hl (by decide) rfl (fun ls hl => ?_)
                                  exact JJ486 x143 _ _ ls hM (lv_sub hl [1, 2, 3, 4, 5, 6, 7, 8, 9, 10, 11, 0] rfl) (by first | omega | assumption | exact trivial)
                                · refine lv_tableIn (off := 138) (tgt := 388) B.1 B.2.1 dX7_work_250 (by rw [II_toInt (by unfold inr; omega)]; omega) (by rw [II_toInt (by unfold inr; omega)]; omega) (by rw [II_toInt (by unfold inr; omega), hsw5]; decide) (by decide) ?_
                                  refine lv_iload B.1 B.2.1 dX7_work_388 (lv_at hl 0 rfl) ?_
                                  refine lv_iload B.1 B.2.1 dX7_work_390 (lv_at hl 1 rfl) ?_
                                  refine q_mul B dX7_work_392 ?_
                                  refine q_wrap (fun x144 ix144 => ?_)
                                  refine lv_istore (lv' := [(11, .int (II x144)), (10, .int (II x91)), (7, .int (II (v40_7 + (-1)))), (9, .int (II x33)), (6, .ref s32_0), (5, .ref s15_0), (0, .ref a_this), (1, .int (II a_st)), (2, .int (II a_v)), (3, .int (II a_a)), (4, .int (II a_b)), (8, .int (II v40_8))]) B.1 B.2.1 dX7_work_393 hl (by decide) rfl (fun ls hl => ?_)
                                  refine lv_goto (tgt := 486) B.1 B.2.1 dX7_work_395 (by decide) ?_
                                  exact JJ486 x144 _ _ ls hM (lv_sub hl [1, 2, 3, 4, 5, 6, 7, 8, 9, 10, 11, 0] rfl) (by first | omega | assumption | exact trivial)
                                · refine lv_tableIn (off := 118) (tgt := 368) B.1 B.2.1 dX7_work_250 (by rw [II_toInt (by unfold inr; omega)]; omega) (by rw [II_toInt (by unfold inr; omega)]; omega) (by rw [II_toInt (by unfold inr; omega), hsw6]; decide) (by decide) ?_
                                  refine lv_iload B.1 B.2.1 dX7_work_368 (lv_at hl 0 rfl) ?_
                                  refine lv_iload B.1 B.2.1 dX7_work_370 (lv_at hl 1 rfl) ?_
                                  refine q_add B dX7_work_372 ?_
                                  refine q_wrap (fun x145 ix145 => ?_)
                                  refine lv_istore (lv' := [(11, .int (II x145)), (10, .int (II x91)), (7, .int (II (v40_7 + (-1)))), (9, .int (II x33)), (6, .ref s32_0), (5, .ref s15_0), (0, .ref a_this), (1, .int (II a_st)), (2, .int (II a_v)), (3, .int (II a_a)), (4, .int (II a_b)), (8, .int (II v40_8))]) B.1 B.2.1 dX7_work_373 hl (by decide) rfl (fun ls hl => ?_)
                                  refine lv_goto (tgt := 486) B.1 B.2.1 dX7_work_375 (by decide) ?_
                                  exact JJ486 x145 _ _ ls hM (lv_sub hl [1, 2, 3, 4, 5, 6, 7, 8, 9, 10, 11, 0] rfl) (by first | omega | assumption | exact trivial)
                                · refine lv_tableIn (off := 229) (tgt := 479) B.1 B.2.1 dX7_work_250 (by rw [II_toInt (by unfold inr; omega)]; omega) (by rw [II_toInt (by unfold inr; omega)]; omega) (by rw [II_toInt (by unfold inr; omega), hsw7]; decide) (by decide) ?_
                                  refine lv_iload B.1 B.2.1 dX7_work_479 (lv_at hl 0 rfl) ?_
                                  refine lv_iload B.1 B.2.1 dX7_work_481 (lv_at hl 1 rfl) ?_
                                  refine q_or B dX7_work_483 (fun x146 ix146 ex146 => ?_)
                                  unfold inr at ix146
                                  refine lv_istore (lv' := [(11, .int (II x146)), (10, .int (II x91)), (7, .int (II (v40_7 + (-1)))), (9, .int (II x33)), (6, .ref s32_0), (5, .ref s15_0), (0, .ref a_this), (1, .int (II a_st)), (2, .int (II a_v)), (3, .int (II a_a)), (4, .int (II a_b)), (8, .int (II v40_8))]) B.1 B.2.1 dX7_work_484 hl (by decide) rfl (fun ls hl => ?_)
                                  exact JJ486 x146 _ _ ls hM (lv_sub hl [1, 2, 3, 4, 5, 6, 7, 8, 9, 10, 11, 0] rfl) (by first | omega | assumption | exact trivial)
                                · refine lv_tableIn (off := 128) (tgt := 378) B.1 B.2.1 dX7_work_250 (by rw [II_toInt (by unfold inr; omega)]; omega) (by rw [II_toInt (by unfold inr; omega)]; omega) (by rw [II_toInt (by unfold inr; omega), hsw8]; decide) (by decide) ?_
                                  refine lv_iload B.1 B.2.1 dX7_work_378 (lv_at hl 0 rfl) ?_
                                  refine lv_iload B.1 B.2.1 dX7_work_380 (lv_at hl 1 rfl) ?_
                                  refine q_sub B dX7_work_382 ?_
                                  refine q_wrap (fun x147 ix147 => ?_)
                                  refine lv_istore (lv' := [(11, .int (II x147)), (10, .int (II x91)), (7, .int (II (v40_7 + (-1)))), (9, .int (II x33)), (6, .ref s32_0), (5, .ref s15_0), (0, .ref a_this), (1, .int (II a_st)), (2, .int (II a_v)), (3, .int (II a_a)), (4, .int (II a_b)), (8, .int (II v40_8))]) B.1 B.2.1 dX7_work_383 hl (by decide) rfl (fun ls hl => ?_)
                                  refine lv_goto (tgt := 486) B.1 B.2.1 dX7_work_385 (by decide) ?_
                                  exact JJ486 x147 _ _ ls hM (lv_sub hl [1, 2, 3, 4, 5, 6, 7, 8, 9, 10, 11, 0] rfl) (by first | omega | assumption | exact trivial)
                                · refine lv_tableIn (off := 229) (tgt := 479) B.1 B.2.1 dX7_work_250 (by rw [II_toInt (by unfold inr; omega)]; omega) (by rw [II_toInt (by unfold inr; omega)]; omega) (by rw [II_toInt (by unfold inr; omega), hsw9]; decide) (by decide) ?_
                                  refine lv_iload B.1 B.2.1 dX7_work_479 (lv_at hl 0 rfl) ?_
                                  refine lv_iload B.1 B.2.1 dX7_work_481 (lv_at hl 1 rfl) ?_
                                  refine q_or B dX7_work_483 (fun x148 ix148 ex148 => ?_)
                                  unfold inr at ix148
                                  refine lv_istore (lv' := [(11, .int (II x148)), (10, .int (II x91)), (7, .int (II (v40_7 + (-1)))), (9, .int (II x33)), (6, .ref s32_0), (5, .ref s15_0), (0, .ref a_this), (1, .int (II a_st)), (2, .int (II a_v)), (3, .int (II a_a)), (4, .int (II a_b)), (8, .int (II v40_8))]) B.1 B.2.1 dX7_work_484 hl (by decide) rfl (fun ls hl => ?_)
                                  exact JJ486 x148 _ _ ls hM (lv_sub hl [1, 2, 3, 4, 5, 6, 7, 8, 9, 10, 11, 0] rfl) (by first | omega | assumption | exact trivial)
                                · refine lv_tableIn (off := 148) (tgt := 398) B.1 B.2.1 dX7_work_250 (by rw [II_toInt (by unfold inr; omega)]; omega) (by rw [II_toInt (by unfold inr; omega)]; omega) (by rw [II_toInt (by unfold inr; omega), hsw10]; decide) (by decide) ?_
                                  refine lv_iload B.1 B.2.1 dX7_work_398 (lv_at hl 0 rfl) ?_
                                  refine lv_iload B.1 B.2.1 dX7_work_400 (lv_at hl 1 rfl) ?_
                                  refine q_div B dX7_work_402 (by unfold inr; omega) (by omega) (fun x149 ix149 => ?_)
                                  unfold inr at ix149
                                  refine lv_istore (lv' := [(11, .int (II x149)), (10, .int (II x91)), (7, .int (II (v40_7 + (-1)))), (9, .int (II x33)), (6, .ref s32_0), (5, .ref s15_0), (0, .ref a_this), (1, .int (II a_st)), (2, .int (II a_v)), (3, .int (II a_a)), (4, .int (II a_b)), (8, .int (II v40_8))]) B.1 B.2.1 dX7_work_403 hl (by decide) rfl (fun ls hl => ?_)
                                  refine lv_goto (tgt := 486) B.1 B.2.1 dX7_work_405 (by decide) ?_
                                  exact JJ486 x149 _ _ ls hM (lv_sub hl [1, 2, 3, 4, 5, 6, 7, 8, 9, 10, 11, 0] rfl) (by first | omega | assumption | exact trivial)
                                · refine lv_tableIn (off := 229) (tgt := 479) B.1 B.2.1 dX7_work_250 (by rw [II_toInt (by unfold inr; omega)]; omega) (by rw [II_toInt (by unfold inr; omega)]; omega) (by rw [II_toInt (by unfold inr; omega), hsw11]; decide) (by decide) ?_
                                  refine lv_iload B.1 B.2.1 dX7_work_479 (lv_at hl 0 rfl) ?_
                                  refine lv_iload B.1 B.2.1 dX7_work_481 (lv_at hl 1 rfl) ?_
                                  refine q_or B dX7_work_483 (fun x150 ix150 ex150 => ?_)
                                  unfold inr at ix150
                                  refine lv_istore (lv' := [(11, .int (II x150)), (10, .int (II x91)), (7, .int (II (v40_7 + (-1)))), (9, .int (II x33)), (6, .ref s32_0), (5, .ref s15_0), (0, .ref a_this), (1, .int (II a_st)), (2, .int (II a_v)), (3, .int (II a_a)), (4, .int (II a_b)), (8, .int (II v40_8))]) B.1 B.2.1 dX7_work_484 hl (by decide) rfl (fun ls hl => ?_)
                                  exact JJ486 x150 _ _ ls hM (lv_sub hl [1, 2, 3, 4, 5, 6, 7, 8, 9, 10, 11, 0] rfl) (by first | omega | assumption | exact trivial)
                                · refine lv_tableIn (off := 229) (tgt := 479) B.1 B.2.1 dX7_work_250 (by rw [II_toInt (by unfold inr; omega)]; omega) (by rw [II_toInt (by unfold inr; omega)]; omega) (by rw [II_toInt (by unfold inr; omega), hsw12]; decide) (by decide) ?_
                                  refine lv_iload B.1 B.2.1 dX7_work_479 (lv_at hl 0 rfl) ?_
                                  refine lv_iload B.1 B.2.1 dX7_work_481 (lv_at hl 1 rfl) ?_
                                  refine q_or B dX7_work_483 (fun x151 ix151 ex151 => ?_)
                                  unfold inr at ix151
                                  refine lv_istore (lv' := [(11, .int (II x151)), (10, .int (II x91)), (7, .int (II (v40_7 + (-1)))), (9, .int (II x33)), (6, .ref s32_0), (5, .ref s15_0), (0, .ref a_this), (1, .int (II a_st)), (2, .int (II a_v)), (3, .int (II a_a)), (4, .int (II a_b)), (8, .int (II v40_8))]) B.1 B.2.1 dX7_work_484 hl (by decide) rfl (fun ls hl => ?_)
                                  exact JJ486 x151 _ _ ls hM (lv_sub hl [1, 2, 3, 4, 5, 6, 7, 8, 9, 10, 11, 0] rfl) (by first | omega | assumption | exact trivial)
                                · refine lv_tableIn (off := 229) (tgt := 479) B.1 B.2.1 dX7_work_250 (by rw [II_toInt (by unfold inr; omega)]; omega) (by rw [II_toInt (by unfold inr; omega)]; omega) (by rw [II_toInt (by unfold inr; omega), hsw13]; decide) (by decide) ?_
                                  refine lv_iload B.1 B.2.1 dX7_work_479 (lv_at hl 0 rfl) ?_
                                  refine lv_iload B.1 B.2.1 dX7_work_481 (lv_at hl 1 rfl) ?_
                                  refine q_or B dX7_work_483 (fun x152 ix152 ex152 => ?_)
                                  unfold inr at ix152
                                  refine lv_istore (lv' := [(11, .int (II x152)), (10, .int (II x91)), (7, .int (II (v40_7 + (-1)))), (9, .int (II x33)), (6, .ref s32_0), (5, .ref s15_0), (0, .ref a_this), (1, .int (II a_st)), (2, .int (II a_v)), (3, .int (II a_a)), (4, .int (II a_b)), (8, .int (II v40_8))]) B.1 B.2.1 dX7_work_484 hl (by decide) rfl (fun ls hl => ?_)
                                  exact JJ486 x152 _ _ ls hM (lv_sub hl [1, 2, 3, 4, 5, 6, 7, 8, 9, 10, 11, 0] rfl) (by first | omega | assumption | exact trivial)
                                · refine lv_tableIn (off := 229) (tgt := 479) B.1 B.2.1 dX7_work_250 (by rw [II_toInt (by unfold inr; omega)]; omega) (by rw [II_toInt (by unfold inr; omega)]; omega) (by rw [II_toInt (by unfold inr; omega), hsw14]; decide) (by decide) ?_
                                  refine lv_iload B.1 B.2.1 dX7_work_479 (lv_at hl 0 rfl) ?_
                                  refine lv_iload B.1 B.2.1 dX7_work_481 (lv_at hl 1 rfl) ?_
                                  refine q_or B dX7_work_483 (fun x153 ix153 ex153 => ?_)
                                  unfold inr at ix153
                                  refine lv_istore (lv' := [(11, .int (II x153)), (10, .int (II x91)), (7, .int (II (v40_7 + (-1)))), (9, .int (II x33)), (6, .ref s32_0), (5, .ref s15_0), (0, .ref a_this), (1, .int (II a_st)), (2, .int (II a_v)), (3, .int (II a_a)), (4, .int (II a_b)), (8, .int (II v40_8))]) B.1 B.2.1 dX7_work_484 hl (by decide) rfl (fun ls hl => ?_)
                                  exact JJ486 x153 _ _ ls hM (lv_sub hl [1, 2, 3, 4, 5, 6, 7, 8, 9, 10, 11, 0] rfl) (by first | omega | assumption | exact trivial)
                                · refine lv_tableIn (off := 229) (tgt := 479) B.1 B.2.1 dX7_work_250 (by rw [II_toInt (by unfold inr; omega)]; omega) (by rw [II_toInt (by unfold inr; omega)]; omega) (by rw [II_toInt (by unfold inr; omega), hsw15]; decide) (by decide) ?_
                                  refine lv_iload B.1 B.2.1 dX7_work_479 (lv_at hl 0 rfl) ?_
                                  refine lv_iload B.1 B.2.1 dX7_work_481 (lv_at hl 1 rfl) ?_
                                  refine q_or B dX7_work_483 (fun x154 ix154 ex154 => ?_)
                                  unfold inr at ix154
                                  refine lv_istore (lv' := [(11, .int (II x154)), (10, .int (II x91)), (7, .int (II (v40_7 + (-1)))), (9, .int (II x33)), (6, .ref s32_0), (5, .ref s15_0), (0, .ref a_this), (1, .int (II a_st)), (2, .int (II a_v)), (3, .int (II a_a)), (4, .int (II a_b)), (8, .int (II v40_8))]) B.1 B.2.1 dX7_work_484 hl (by decide) rfl (fun ls hl => ?_)
                                  exact JJ486 x154 _ _ ls hM (lv_sub hl [1, 2, 3, 4, 5, 6, 7, 8, 9, 10, 11, 0] rfl) (by first | omega | assumption | exact trivial)
                                · refine lv_tableIn (off := 229) (tgt := 479) B.1 B.2.1 dX7_work_250 (by rw [II_toInt (by unfold inr; omega)]; omega) (by rw [II_toInt (by unfold inr; omega)]; omega) (by rw [II_toInt (by unfold inr; omega), hsw16]; decide) (by decide) ?_
                                  refine lv_iload B.1 B.2.1 dX7_work_479 (lv_at hl 0 rfl) ?_
                                  refine lv_iload B.1 B.2.1 dX7_work_481 (lv_at hl 1 rfl) ?_
                                  refine q_or B dX7_work_483 (fun x155 ix155 ex155 => ?_)
                                  unfold inr at ix155
                                  refine lv_istore (lv' := [(11, .int (II x155)), (10, .int (II x91)), (7, .int (II (v40_7 + (-1)))), (9, .int (II x33)), (6, .ref s32_0), (5, .ref s15_0), (0, .ref a_this), (1, .int (II a_st)), (2, .int (II a_v)), (3, .int (II a_a)), (4, .int (II a_b)), (8, .int (II v40_8))]) B.1 B.2.1 dX7_work_484 hl (by decide) rfl (fun ls hl => ?_)
                                  exact JJ486 x155 _ _ ls hM (lv_sub hl [1, 2, 3, 4, 5, 6, 7, 8, 9, 10, 11, 0] rfl) (by first | omega | assumption | exact trivial)
                                · refine lv_tableIn (off := 229) (tgt := 479) B.1 B.2.1 dX7_work_250 (by rw [II_toInt (by unfold inr; omega)]; omega) (by rw [II_toInt (by unfold inr; omega)]; omega) (by rw [II_toInt (by unfold inr; omega), hsw17]; decide) (by decide) ?_
                                  refine lv_iload B.1 B.2.1 dX7_work_479 (lv_at hl 0 rfl) ?_
                                  refine lv_iload B.1 B.2.1 dX7_work_481 (lv_at hl 1 rfl) ?_
                                  refine q_or B dX7_work_483 (fun x156 ix156 ex156 => ?_)
                                  unfold inr at ix156
                                  refine lv_istore (lv' := [(11, .int (II x156)), (10, .int (II x91)), (7, .int (II (v40_7 + (-1)))), (9, .int (II x33)), (6, .ref s32_0), (5, .ref s15_0), (0, .ref a_this), (1, .int (II a_st)), (2, .int (II a_v)), (3, .int (II a_a)), (4, .int (II a_b)), (8, .int (II v40_8))]) B.1 B.2.1 dX7_work_484 hl (by decide) rfl (fun ls hl => ?_)
                                  exact JJ486 x156 _ _ ls hM (lv_sub hl [1, 2, 3, 4, 5, 6, 7, 8, 9, 10, 11, 0] rfl) (by first | omega | assumption | exact trivial)
                                · refine lv_tableIn (off := 229) (tgt := 479) B.1 B.2.1 dX7_work_250 (by rw [II_toInt (by unfold inr; omega)]; omega) (by rw [II_toInt (by unfold inr; omega)]; omega) (by rw [II_toInt (by unfold inr; omega), hsw18]; decide) (by decide) ?_
                                  refine lv_iload B.1 B.2.1 dX7_work_479 (lv_at hl 0 rfl) ?_
                                  refine lv_iload B.1 B.2.1 dX7_work_481 (lv_at hl 1 rfl) ?_
                                  refine q_or B dX7_work_483 (fun x157 ix157 ex157 => ?_)
                                  unfold inr at ix157
                                  refine lv_istore (lv' := [(11, .int (II x157)), (10, .int (II x91)), (7, .int (II (v40_7 + (-1)))), (9, .int (II x33)), (6, .ref s32_0), (5, .ref s15_0), (0, .ref a_this), (1, .int (II a_st)), (2, .int (II a_v)), (3, .int (II a_a)), (4, .int (II a_b)), (8, .int (II v40_8))]) B.1 B.2.1 dX7_work_484 hl (by decide) rfl (fun ls hl => ?_)
                                  exact JJ486 x157 _ _ ls hM (lv_sub hl [1, 2, 3, 4, 5, 6, 7, 8, 9, 10, 11, 0] rfl) (by first | omega | assumption | exact trivial)
                                · refine lv_tableIn (off := 229) (tgt := 479) B.1 B.2.1 dX7_work_250 (by rw [II_toInt (by unfold inr; omega)]; omega) (by rw [II_toInt (by unfold inr; omega)]; omega) (by rw [II_toInt (by unfold inr; omega), hsw19]; decide) (by decide) ?_
                                  refine lv_iload B.1 B.2.1 dX7_work_479 (lv_at hl 0 rfl) ?_
                                  refine lv_iload B.1 B.2.1 dX7_work_481 (lv_at hl 1 rfl) ?_
                                  refine q_or B dX7_work_483 (fun x158 ix158 ex158 => ?_)
                                  unfold inr at ix158
                                  refine lv_istore (lv' := [(11, .int (II x158)), (10, .int (II x91)), (7, .int (II (v40_7 + (-1)))), (9, .int (II x33)), (6, .ref s32_0), (5, .ref s15_0), (0, .ref a_this), (1, .int (II a_st)), (2, .int (II a_v)), (3, .int (II a_a)), (4, .int (II a_b)), (8, .int (II v40_8))]) B.1 B.2.1 dX7_work_484 hl (by decide) rfl (fun ls hl => ?_)
                                  exact JJ486 x158 _ _ ls hM (lv_sub hl [1, 2, 3, 4, 5, 6, 7, 8, 9, 10, 11, 0] rfl) (by first | omega | assumption | exact trivial)
                                · refine lv_tableIn (off := 229) (tgt := 479) B.1 B.2.1 dX7_work_250 (by rw [II_toInt (by unfold inr; omega)]; omega) (by rw [II_toInt (by unfold inr; omega)]; omega) (by rw [II_toInt (by unfold inr; omega), hsw20]; decide) (by decide) ?_
                                  refine lv_iload B.1 B.2.1 dX7_work_479 (lv_at hl 0 rfl) ?_
                                  refine lv_iload B.1 B.2.1 dX7_work_481 (lv_at hl 1 rfl) ?_
                                  refine q_or B dX7_work_483 (fun x159 ix159 ex159 => ?_)
                                  unfold inr at ix159
                                  refine lv_istore (lv' := [(11, .int (II x159)), (10, .int (II x91)), (7, .int (II (v40_7 + (-1)))), (9, .int (II x33)), (6, .ref s32_0), (5, .ref s15_0), (0, .ref a_this), (1, .int (II a_st)), (2, .int (II a_v)), (3, .int (II a_a)), (4, .int (II a_b)), (8, .int (II v40_8))]) B.1 B.2.1 dX7_work_484 hl (by decide) rfl (fun ls hl => ?_)
                                  exact JJ486 x159 _ _ ls hM (lv_sub hl [1, 2, 3, 4, 5, 6, 7, 8, 9, 10, 11, 0] rfl) (by first | omega | assumption | exact trivial)
                                · refine lv_tableIn (off := 229) (tgt := 479) B.1 B.2.1 dX7_work_250 (by rw [II_toInt (by unfold inr; omega)]; omega) (by rw [II_toInt (by unfold inr; omega)]; omega) (by rw [II_toInt (by unfold inr; omega), hsw21]; decide) (by decide) ?_
                                  refine lv_iload B.1 B.2.1 dX7_work_479 (lv_at hl 0 rfl) ?_
                                  refine lv_iload B.1 B.2.1 dX7_work_481 (lv_at hl 1 rfl) ?_
                                  refine q_or B dX7_work_483 (fun x160 ix160 ex160 => ?_)
                                  unfold inr at ix160
                                  refine lv_istore (lv' := [(11, .int (II x160)), (10, .int (II x91)), (7, .int (II (v40_7 + (-1)))), (9, .int (II x33)), (6, .ref s32_0), (5, .ref s15_0), (0, .ref a_this), (1, .int (II a_st)), (2, .int (II a_v)), (3, .int (II a_a)), (4, .int (II a_b)), (8, .int (II v40_8))]) B.1 B.2.1 dX7_work_484 hl (by decide) rfl (fun ls hl => ?_)
                                  exact JJ486 x160 _ _ ls hM (lv_sub hl [1, 2, 3, 4, 5, 6, 7, 8, 9, 10, 11, 0] rfl) (by first | omega | assumption | exact trivial)
                                · refine lv_tableIn (off := 229) (tgt := 479) B.1 B.2.1 dX7_work_250 (by rw [II_toInt (by unfold inr; omega)]; omega) (by rw [II_toInt (by unfold inr; omega)]; omega) (by rw [II_toInt (by unfold inr; omega), hsw22]; decide) (by decide) ?_
                                  refine lv_iload B.1 B.2.1 dX7_work_479 (lv_at hl 0 rfl) ?_
                                  refine lv_iload B.1 B.2.1 dX7_work_481 (lv_at hl 1 rfl) ?_
                                  refine q_or B dX7_work_483 (fun x161 ix161 ex161 => ?_)
                                  unfold inr at ix161
                                  refine lv_istore (lv' := [(11, .int (II x161)), (10, .int (II x91)), (7, .int (II (v40_7 + (-1)))), (9, .int (II x33)), (6, .ref s32_0), (5, .ref s15_0), (0, .ref a_this), (1, .int (II a_st)), (2, .int (II a_v)), (3, .int (II a_a)), (4, .int (II a_b)), (8, .int (II v40_8))]) B.1 B.2.1 dX7_work_484 hl (by decide) rfl (fun ls hl => ?_)
                                  exact JJ486 x161 _ _ ls hM (lv_sub hl [1, 2, 3, 4, 5, 6, 7, 8, 9, 10, 11, 0] rfl) (by first | omega | assumption | exact trivial)
                                · refine lv_tableIn (off := 168) (tgt := 418) B.1 B.2.1 dX7_work_250 (by rw [II_toInt (by unfold inr; omega)]; omega) (by rw [II_toInt (by unfold inr; omega)]; omega) (by rw [II_toInt (by unfold inr; omega), hsw23]; decide) (by decide) ?_
                                  refine lv_iload B.1 B.2.1 dX7_work_418 (lv_at hl 0 rfl) ?_
                                  refine lv_iload B.1 B.2.1 dX7_work_420 (lv_at hl 1 rfl) ?_
                                  refine q_cge (tgt := 429) B dX7_work_422 (by decide) (by unfold inr; omega) (by unfold inr; omega) (fun c162 => ?_) (fun c162 => ?_)
                                  · refine q_con B dX7_work_429 ?_
                                    refine lv_istore (lv' := [(11, .int (II 0)), (10, .int (II x91)), (7, .int (II (v40_7 + (-1)))), (9, .int (II x33)), (6, .ref s32_0), (5, .ref s15_0), (0, .ref a_this), (1, .int (II a_st)), (2, .int (II a_v)), (3, .int (II a_a)), (4, .int (II a_b)), (8, .int (II v40_8))]) B.1 B.2.1 dX7_work_430 hl (by decide) rfl (fun ls hl => ?_)
                                    refine lv_goto (tgt := 486) B.1 B.2.1 dX7_work_432 (by decide) ?_
                                    exact JJ486 0 _ _ ls hM (lv_sub hl [1, 2, 3, 4, 5, 6, 7, 8, 9, 10, 11, 0] rfl) (by first | omega | assumption | exact trivial)
                                  · refine q_con B dX7_work_425 ?_
                                    refine lv_goto (tgt := 430) B.1 B.2.1 dX7_work_426 (by decide) ?_
                                    refine lv_istore (lv' := [(11, .int (II 1)), (10, .int (II x91)), (7, .int (II (v40_7 + (-1)))), (9, .int (II x33)), (6, .ref s32_0), (5, .ref s15_0), (0, .ref a_this), (1, .int (II a_st)), (2, .int (II a_v)), (3, .int (II a_a)), (4, .int (II a_b)), (8, .int (II v40_8))]) B.1 B.2.1 dX7_work_430 hl (by decide) rfl (fun ls hl => ?_)
                                    refine lv_goto (tgt := 486) B.1 B.2.1 dX7_work_432 (by decide) ?_
                                    exact JJ486 1 _ _ ls hM (lv_sub hl [1, 2, 3, 4, 5, 6, 7, 8, 9, 10, 11, 0] rfl) (by first | omega | assumption | exact trivial)
                                · refine lv_tableIn (off := 202) (tgt := 452) B.1 B.2.1 dX7_work_250 (by rw [II_toInt (by unfold inr; omega)]; omega) (by rw [II_toInt (by unfold inr; omega)]; omega) (by rw [II_toInt (by unfold inr; omega), hsw24]; decide) (by decide) ?_
                                  refine lv_iload B.1 B.2.1 dX7_work_452 (lv_at hl 0 rfl) ?_
                                  refine lv_iload B.1 B.2.1 dX7_work_454 (lv_at hl 1 rfl) ?_
                                  refine q_cne (tgt := 463) B dX7_work_456 (by decide) (by unfold inr; omega) (by unfold inr; omega) (fun c163 => ?_) (fun c163 => ?_)
                                  · refine q_con B dX7_work_463 ?_
                                    refine lv_istore (lv' := [(11, .int (II 0)), (10, .int (II x91)), (7, .int (II (v40_7 + (-1)))), (9, .int (II x33)), (6, .ref s32_0), (5, .ref s15_0), (0, .ref a_this), (1, .int (II a_st)), (2, .int (II a_v)), (3, .int (II a_a)), (4, .int (II a_b)), (8, .int (II v40_8))]) B.1 B.2.1 dX7_work_464 hl (by decide) rfl (fun ls hl => ?_)
                                    refine lv_goto (tgt := 486) B.1 B.2.1 dX7_work_466 (by decide) ?_
                                    exact JJ486 0 _ _ ls hM (lv_sub hl [1, 2, 3, 4, 5, 6, 7, 8, 9, 10, 11, 0] rfl) (by first | omega | assumption | exact trivial)
                                  · refine q_con B dX7_work_459 ?_
                                    refine lv_goto (tgt := 464) B.1 B.2.1 dX7_work_460 (by decide) ?_
                                    refine lv_istore (lv' := [(11, .int (II 1)), (10, .int (II x91)), (7, .int (II (v40_7 + (-1)))), (9, .int (II x33)), (6, .ref s32_0), (5, .ref s15_0), (0, .ref a_this), (1, .int (II a_st)), (2, .int (II a_v)), (3, .int (II a_a)), (4, .int (II a_b)), (8, .int (II v40_8))]) B.1 B.2.1 dX7_work_464 hl (by decide) rfl (fun ls hl => ?_)
                                    refine lv_goto (tgt := 486) B.1 B.2.1 dX7_work_466 (by decide) ?_
                                    exact JJ486 1 _ _ ls hM (lv_sub hl [1, 2, 3, 4, 5, 6, 7, 8, 9, 10, 11, 0] rfl) (by first | omega | assumption | exact trivial)
                                · refine lv_tableIn (off := 185) (tgt := 435) B.1 B.2.1 dX7_work_250 (by rw [II_toInt (by unfold inr; omega)]; omega) (by rw [II_toInt (by unfold inr; omega)]; omega) (by rw [II_toInt (by unfold inr; omega), hsw25]; decide) (by decide) ?_
                                  refine lv_iload B.1 B.2.1 dX7_work_435 (lv_at hl 0 rfl) ?_
                                  refine lv_iload B.1 B.2.1 dX7_work_437 (lv_at hl 1 rfl) ?_
                                  refine q_cle (tgt := 446) B dX7_work_439 (by decide) (by unfold inr; omega) (by unfold inr; omega) (fun c164 => ?_) (fun c164 => ?_)
                                  · refine q_con B dX7_work_446 ?_
                                    refine lv_istore (lv' := [(11, .int (II 0)), (10, .int (II x91)), (7, .int (II (v40_7 + (-1)))), (9, .int (II x33)), (6, .ref s32_0), (5, .ref s15_0), (0, .ref a_this), (1, .int (II a_st)), (2, .int (II a_v)), (3, .int (II a_a)), (4, .int (II a_b)), (8, .int (II v40_8))]) B.1 B.2.1 dX7_work_447 hl (by decide) rfl (fun ls hl => ?_)
                                    refine lv_goto (tgt := 486) B.1 B.2.1 dX7_work_449 (by decide) ?_
                                    exact JJ486 0 _ _ ls hM (lv_sub hl [1, 2, 3, 4, 5, 6, 7, 8, 9, 10, 11, 0] rfl) (by first | omega | assumption | exact trivial)
                                  · refine q_con B dX7_work_442 ?_
                                    refine lv_goto (tgt := 447) B.1 B.2.1 dX7_work_443 (by decide) ?_
                                    refine lv_istore (lv' := [(11, .int (II 1)), (10, .int (II x91)), (7, .int (II (v40_7 + (-1)))), (9, .int (II x33)), (6, .ref s32_0), (5, .ref s15_0), (0, .ref a_this), (1, .int (II a_st)), (2, .int (II a_v)), (3, .int (II a_a)), (4, .int (II a_b)), (8, .int (II v40_8))]) B.1 B.2.1 dX7_work_447 hl (by decide) rfl (fun ls hl => ?_)
                                    refine lv_goto (tgt := 486) B.1 B.2.1 dX7_work_449 (by decide) ?_
                                    exact JJ486 1 _ _ ls hM (lv_sub hl [1, 2, 3, 4, 5, 6, 7, 8, 9, 10, 11, 0] rfl) (by first | omega | assumption | exact trivial)
                              · refine q_con B dX7_work_235 ?_
                                refine g_zret B hM dX7_work_236 ⟨Nat.le_refl _, Nat.le_refl _⟩ (by omega) (by omega) ?_
                                rw [← hPST]
                                exact ⟨(0), rfl, by omega, rfl, rfl, rfl, rfl, rfl, hF, by omega, by omega, by first | omega | assumption | exact trivial⟩
                        · refine q_con B dX7_work_202 ?_
                          refine g_zret B hM dX7_work_203 ⟨Nat.le_refl _, Nat.le_refl _⟩ (by omega) (by omega) ?_
                          rw [← hPST]
                          exact ⟨(0), rfl, by omega, rfl, rfl, rfl, rfl, rfl, hF, by omega, by omega, by first | omega | assumption | exact trivial⟩
                      · refine lv_iload B.1 B.2.1 dX7_work_159 (lv_at hl 8 rfl) ?_
                        refine q_con B dX7_work_161 ?_
                        refine q_cge (tgt := 167) B dX7_work_162 (by decide) (by unfold inr; omega) (by unfold inr; omega) (fun c165 => ?_) (fun c165 => ?_)
                        · refine lv_aload_n B.1 B.2.1 dX7_work_167 rfl (lv_at hl 3 rfl) ?_
                          obtain ⟨b166, e167, t168⟩ := g8_10 hC0 t_this
                          refine c_getn (k := 10) pk_X7 B hM t_this kd8 rfl (by decide) fl_X7_28 dX7_work_168 e167 ?_
                          refine lv_iload B.1 B.2.1 dX7_work_171 (lv_at hl 8 rfl) ?_
                          refine q_con B dX7_work_173 ?_
                          refine q_sub B dX7_work_174 ?_
                          refine lv_aload_n B.1 B.2.1 dX7_work_175 rfl (lv_at hl 3 rfl) ?_
                          refine c_getn (k := 10) pk_X7 B hM t_this kd8 rfl (by decide) fl_X7_28 dX7_work_176 e167 ?_
                          refine lv_iload B.1 B.2.1 dX7_work_179 (lv_at hl 8 rfl) ?_
                          refine q_con B dX7_work_181 ?_
                          refine q_sub B dX7_work_182 ?_
                          have n169 : 16 ≤ N b166 ∧ N b166 ≤ 16 := gn74 hM.2.2.2.2.2.2.1 t168
                          obtain ⟨x170, e171⟩ : ∃ v, I_40 b166 ((v40_7 - (1 : Int)).toNat) = v := ⟨_, rfl⟩
                          have r172 : (-2147483648 : Int) ≤ x170 ∧ x170 ≤ 2147483647 := by rw [← e171]; exact ga74 hM.2.2.2.2.2.2.1 t168 (by omega)
                          refine c_ild B hM t168 kd74 an74 dX7_work_183 (by omega) (by omega) e171 ?_
                          refine q_ine (tgt := 191) B dX7_work_184 (by decide) (by unfold inr; omega) (fun c173 => ?_) (fun c173 => ?_)
                          · refine q_con B dX7_work_191 ?_
                            refine c_ist B hM t168 kd74 aq74 dX7_work_192 (by omega) (by omega) (show (-2147483648 : Int) ≤ 0 from by omega) (show 0 ≤ (2147483647 : Int) from by omega) (fun I175 H locs hu174 hM => ?_)
                            have e176 : I175 b166 ((v40_7 - (1 : Int)).toNat) = 0 := w2_at hu174
                            replace hF : Fr mo_X7_work [] T N I J R T N I175 J R := hF.wi hu174 (fun _ _ => by rw [t168, cd_arr (j := 0) (by decide)]; rfl)
                            refine lv_goto (tgt := 497) B.1 B.2.1 dX7_work_193 (by decide) ?_
                            refine q_inc (lv' := [(8, .int (II (v40_8 + 1))), (9, .int (II x33)), (6, .ref s32_0), (5, .ref s15_0), (0, .ref a_this), (1, .int (II a_st)), (2, .int (II a_v)), (3, .int (II a_a)), (4, .int (II a_b)), (7, .int (II v40_7))]) B dX7_work_497 hl (k := 9) rfl (by decide) rfl (fun ls hl => ?_)
                            refine lv_goto (tgt := 40) B.1 B.2.1 dX7_work_500 (by decide) ?_
                            have hv177 : ((-2147483648 : Int) ≤ v40_7 ∧ (v40_7 : Int) ≤ 2147483647) ∧ ((-2147483648 : Int) ≤ v40_8 + 1 ∧ (v40_8 + 1 : Int) ≤ 2147483647) ∧ (0 ≤ v40_7) ∧ (v40_7 ≤ 16) ∧ (0 ≤ (v40_8 + 1)) ∧ ((v40_8 + 1) ≤ 40) ∧ (0 ≤ 41 - (v40_8 + 1)) := by first | omega | exact ⟨by first | omega | assumption | exact trivial, by first | omega | assumption | exact trivial, by first | omega | assumption | exact trivial, by first | omega | assumption | exact trivial, by first | omega | assumption | exact trivial, by first | omega | assumption | exact trivial, by first | omega | assumption | exact trivial⟩
                            exact IH40 v40_7 (v40_8 + 1) I175 _ _ ls hM hF (lv_sub hl [2, 3, 4, 5, 6, 7, 8, 9, 0] rfl) hv177.1 hv177.2.1 hv177.2.2.1 hv177.2.2.2.1 hv177.2.2.2.2.1 hv177.2.2.2.2.2.1 hv177.2.2.2.2.2.2 (by omega)
                          · refine q_con B dX7_work_187 ?_
                            refine lv_goto (tgt := 192) B.1 B.2.1 dX7_work_188 (by decide) ?_
                            refine c_ist B hM t168 kd74 aq74 dX7_work_192 (by omega) (by omega) (show (-2147483648 : Int) ≤ 1 from by omega) (show 1 ≤ (2147483647 : Int) from by omega) (fun I179 H locs hu178 hM => ?_)
                            have e180 : I179 b166 ((v40_7 - (1 : Int)).toNat) = 1 := w2_at hu178
                            replace hF : Fr mo_X7_work [] T N I J R T N I179 J R := hF.wi hu178 (fun _ _ => by rw [t168, cd_arr (j := 0) (by decide)]; rfl)
                            refine lv_goto (tgt := 497) B.1 B.2.1 dX7_work_193 (by decide) ?_
                            refine q_inc (lv' := [(8, .int (II (v40_8 + 1))), (9, .int (II x33)), (6, .ref s32_0), (5, .ref s15_0), (0, .ref a_this), (1, .int (II a_st)), (2, .int (II a_v)), (3, .int (II a_a)), (4, .int (II a_b)), (7, .int (II v40_7))]) B dX7_work_497 hl (k := 9) rfl (by decide) rfl (fun ls hl => ?_)
                            refine lv_goto (tgt := 40) B.1 B.2.1 dX7_work_500 (by decide) ?_
                            have hv181 : ((-2147483648 : Int) ≤ v40_7 ∧ (v40_7 : Int) ≤ 2147483647) ∧ ((-2147483648 : Int) ≤ v40_8 + 1 ∧ (v40_8 + 1 : Int) ≤ 2147483647) ∧ (0 ≤ v40_7) ∧ (v40_7 ≤ 16) ∧ (0 ≤ (v40_8 + 1)) ∧ ((v40_8 + 1) ≤ 40) ∧ (0 ≤ 41 - (v40_8 + 1)) := by first | omega | exact ⟨by first | omega | assumption | exact trivial, by first | omega | assumption | exact trivial, by first | omega | assumption | exact trivial, by first | omega | assumption | exact trivial, by first | omega | assumption | exact trivial, by first | omega | assumption | exact trivial, by first | omega | assumption | exact trivial⟩
                            exact IH40 v40_7 (v40_8 + 1) I179 _ _ ls hM hF (lv_sub hl [2, 3, 4, 5, 6, 7, 8, 9, 0] rfl) hv181.1 hv181.2.1 hv181.2.2.1 hv181.2.2.2.1 hv181.2.2.2.2.1 hv181.2.2.2.2.2.1 hv181.2.2.2.2.2.2 (by omega)
                        · refine q_con B dX7_work_165 ?_
                          refine g_zret B hM dX7_work_166 ⟨Nat.le_refl _, Nat.le_refl _⟩ (by omega) (by omega) ?_
                          rw [← hPST]
                          exact ⟨(0), rfl, by omega, rfl, rfl, rfl, rfl, rfl, hF, by omega, by omega, by first | omega | assumption | exact trivial⟩
                    · refine lv_iload B.1 B.2.1 dX7_work_91 (lv_at hl 8 rfl) ?_
                      refine q_bip B dX7_work_93 (by decide) ?_
                      refine q_clt (tgt := 100) B dX7_work_95 (by decide) (by unfold inr; omega) (by unfold inr; omega) (fun c182 => ?_) (fun c182 => ?_)
                      · refine lv_aload_n B.1 B.2.1 dX7_work_100 rfl (lv_at hl 3 rfl) ?_
                        obtain ⟨b183, e184, t185⟩ := g8_10 hC0 t_this
                        refine c_getn (k := 10) pk_X7 B hM t_this kd8 rfl (by decide) fl_X7_28 dX7_work_101 e184 ?_
                        refine lv_iload B.1 B.2.1 dX7_work_104 (lv_at hl 8 rfl) ?_
                        refine lv_iload B.1 B.2.1 dX7_work_106 (lv_at hl 0 rfl) ?_
                        refine q_bip B dX7_work_108 (by decide) ?_
                        have JJ145 : ∀ (s145_0 : Int) (H : Heap) (locs : List Loc) (ls : Array Slot), (CWd D dA eA (cF dA L T N I J R s.heap.size) s.heap L T N I_40 J R H locs) → lv_has ls 12 [(9, .int (II x33)), (6, .ref s32_0), (5, .ref s15_0), (0, .ref a_this), (1, .int (II a_st)), (2, .int (II a_v)), (3, .int (II a_a)), (4, .int (II a_b)), (7, .int (II v40_7)), (8, .int (II v40_8))] → ((-2147483648 : Int) ≤ s145_0 ∧ s145_0 ≤ 2147483647) → W p l e ({ frames := 0, cells := 0, slots := 0, locals := 0 }) s m args below meth c H locs 0 0 (MQ below (gQ D dA eA (cF dA L T N I J R s.heap.size) s.heap.size (hs s.heap) PST) args s 0 0 (cF dA L T N I J R s.heap.size)) (F0 m 145 ls [.int (II s145_0), .int (II v40_7), .ref b183]) := by
                          intro s145_0 H locs ls hM hl hJJ145_0
                          have n186 : 16 ≤ N b183 ∧ N b183 ≤ 16 := gn74 hM.2.2.2.2.2.2.1 t185
                          refine c_ist B hM t185 kd74 aq74 dX7_work_145 (by omega) (by omega) (show (-2147483648 : Int) ≤ s145_0 from by omega) (show s145_0 ≤ (2147483647 : Int) from by omega) (fun I188 H locs hu187 hM => ?_)
                          have e189 : I188 b183 v40_7.toNat = s145_0 := w2_at hu187
                          replace hF : Fr mo_X7_work [] T N I J R T N I188 J R := hF.wi hu187 (fun _ _ => by rw [t185, cd_arr (j := 0) (by decide)]; rfl)
                          refine q_inc (lv' := [(7, .int (II (v40_7 + 1))), (9, .int (II x33)), (6, .ref s32_0), (5, .ref s15_0), (0, .ref a_this), (1, .int (II a_st)), (2, .int (II a_v)), (3, .int (II a_a)), (4, .int (II a_b)), (8, .int (II v40_8))]) B dX7_work_146 hl (k := 8) rfl (by decide) rfl (fun ls hl => ?_)
                          refine lv_goto (tgt := 497) B.1 B.2.1 dX7_work_149 (by decide) ?_
                          refine q_inc (lv' := [(8, .int (II (v40_8 + 1))), (7, .int (II (v40_7 + 1))), (9, .int (II x33)), (6, .ref s32_0), (5, .ref s15_0), (0, .ref a_this), (1, .int (II a_st)), (2, .int (II a_v)), (3, .int (II a_a)), (4, .int (II a_b))]) B dX7_work_497 hl (k := 9) rfl (by decide) rfl (fun ls hl => ?_)
                          refine lv_goto (tgt := 40) B.1 B.2.1 dX7_work_500 (by decide) ?_
                          have hv190 : ((-2147483648 : Int) ≤ v40_7 + 1 ∧ (v40_7 + 1 : Int) ≤ 2147483647) ∧ ((-2147483648 : Int) ≤ v40_8 + 1 ∧ (v40_8 + 1 : Int) ≤ 2147483647) ∧ (0 ≤ (v40_7 + 1)) ∧ ((v40_7 + 1) ≤ 16) ∧ (0 ≤ (v40_8 + 1)) ∧ ((v40_8 + 1) ≤ 40) ∧ (0 ≤ 41 - (v40_8 + 1)) := by first | omega | exact ⟨by first | omega | assumption | exact trivial, by first | omega | assumption | exact trivial, by first | omega | assumption | exact trivial, by first | omega | assumption | exact trivial, by first | omega | assumption | exact trivial, by first | omega | assumption | exact trivial, by first | omega | assumption | exact trivial⟩
                          exact IH40 (v40_7 + 1) (v40_8 + 1) I188 _ _ ls hM hF (lv_sub hl [3, 4, 5, 6, 7, 8, 9, 1, 0] rfl) hv190.1 hv190.2.1 hv190.2.2.1 hv190.2.2.2.1 hv190.2.2.2.2.1 hv190.2.2.2.2.2.1 hv190.2.2.2.2.2.2 (by omega)
                        refine q_cne (tgt := 121) B dX7_work_110 (by decide) (by unfold inr; omega) (by unfold inr; omega) (fun c191 => ?_) (fun c191 => ?_)
                        · clear c191
                          refine lv_iload B.1 B.2.1 dX7_work_121 (lv_at hl 0 rfl) ?_
                          refine q_bip B dX7_work_123 (by decide) ?_
                          refine q_cne (tgt := 132) B dX7_work_125 (by decide) (by unfold inr; omega) (by unfold inr; omega) (fun c192 => ?_) (fun c192 => ?_)
                          · clear c192
                            refine lv_iload B.1 B.2.1 dX7_work_132 (lv_at hl 0 rfl) ?_
                            refine q_bip B dX7_work_134 (by decide) ?_
                            refine q_cne (tgt := 143) B dX7_work_136 (by decide) (by unfold inr; omega) (by unfold inr; omega) (fun c193 => ?_) (fun c193 => ?_)
                            · clear c193
                              refine lv_iload B.1 B.2.1 dX7_work_143 (lv_at hl 7 rfl) ?_
                              exact JJ145 a_b _ _ ls hM (lv_sub hl [0, 1, 2, 3, 4, 5, 6, 7, 8, 9] rfl) (by first | omega | assumption | exact trivial)
                            · refine lv_iload_n B.1 B.2.1 dX7_work_139 rfl (lv_at hl 6 rfl) ?_
                              refine lv_goto (tgt := 145) B.1 B.2.1 dX7_work_140 (by decide) ?_
                              exact JJ145 a_a _ _ ls hM (lv_sub hl [0, 1, 2, 3, 4, 5, 6, 7, 8, 9] rfl) (by first | omega | assumption | exact trivial)
                          · refine lv_iload_n B.1 B.2.1 dX7_work_128 rfl (lv_at hl 5 rfl) ?_
                            refine lv_goto (tgt := 145) B.1 B.2.1 dX7_work_129 (by decide) ?_
                            exact JJ145 a_v _ _ ls hM (lv_sub hl [0, 1, 2, 3, 4, 5, 6, 7, 8, 9] rfl) (by first | omega | assumption | exact trivial)
                        · refine lv_aload B.1 B.2.1 dX7_work_113 (lv_at hl 1 rfl) ?_
                          refine lv_iload B.1 B.2.1 dX7_work_115 (lv_at hl 9 rfl) ?_
                          obtain ⟨x194, e195⟩ : ∃ v, I_40 s32_0 v40_8.toNat = v := ⟨_, rfl⟩
                          have r196 : (-2147483648 : Int) ≤ x194 ∧ x194 ≤ 2147483647 := by rw [← e195]; exact ga73 hM.2.2.2.2.2.2.1 hJJ32_0 (by omega)
                          refine c_ild B hM hJJ32_0 kd73 an73 dX7_work_117 (by omega) (by omega) e195 ?_
                          refine lv_goto (tgt := 145) B.1 B.2.1 dX7_work_118 (by decide) ?_
                          exact JJ145 x194 _ _ ls hM (lv_sub hl [0, 1, 2, 3, 4, 5, 6, 7, 8, 9] rfl) (by first | omega | assumption | exact trivial)
                      · refine q_con B dX7_work_98 ?_
                        refine g_zret B hM dX7_work_99 ⟨Nat.le_refl _, Nat.le_refl _⟩ (by omega) (by omega) ?_
                        rw [← hPST]
                        exact ⟨(0), rfl, by omega, rfl, rfl, rfl, rfl, rfl, hF, by omega, by omega, by first | omega | assumption | exact trivial⟩
      have hv197 : ((-2147483648 : Int) ≤ 0 ∧ (0 : Int) ≤ 2147483647) ∧ ((-2147483648 : Int) ≤ 0 ∧ (0 : Int) ≤ 2147483647) ∧ (0 ≤ (0 : Int)) ∧ ((0 : Int) ≤ 16) ∧ (0 ≤ (0 : Int)) ∧ ((0 : Int) ≤ 40) ∧ (0 ≤ 41 - (0 : Int)) := by first | omega | exact ⟨by first | omega | assumption | exact trivial, by first | omega | assumption | exact trivial, by first | omega | assumption | exact trivial, by first | omega | assumption | exact trivial, by first | omega | assumption | exact trivial, by first | omega | assumption | exact trivial, by first | omega | assumption | exact trivial⟩
      exact LL40 (Int.toNat (41 - (0 : Int) + 1)) 0 0 I _ _ ls hM hF (lv_sub hl [2, 3, 4, 5, 6, 7, 8, 1, 0] rfl) hv197.1 hv197.2.1 hv197.2.2.1 hv197.2.2.2.1 hv197.2.2.2.2.1 hv197.2.2.2.2.2.1 hv197.2.2.2.2.2.2 (by omega)
    refine q_ieq (tgt := 28) B dX7_work_18 (by decide) (by unfold inr; omega) (fun c198 => ?_) (fun c198 => ?_)
    · refine lv_aload_n B.1 B.2.1 dX7_work_28 rfl (lv_at hl 1 rfl) ?_
      obtain ⟨b199, e200, t201⟩ := g8_4 hC0 t_this
      refine c_getn (k := 4) pk_X7 B hM t_this kd8 rfl (by decide) fl_X7_25 dX7_work_29 e200 ?_
      exact JJ32 b199 _ _ ls hM (lv_sub hl [0, 1, 2, 3, 4, 5] rfl) t201
    · refine lv_aload_n B.1 B.2.1 dX7_work_21 rfl (lv_at hl 1 rfl) ?_
      obtain ⟨b202, e203, t204⟩ := g8_2 hC0 t_this
      refine c_getn (k := 2) pk_X7 B hM t_this kd8 rfl (by decide) fl_X7_19 dX7_work_22 e203 ?_
      refine lv_goto (tgt := 32) B.1 B.2.1 dX7_work_25 (by decide) ?_
      exact JJ32 b202 _ _ ls hM (lv_sub hl [0, 1, 2, 3, 4, 5] rfl) t204
  refine q_ieq (tgt := 11) B dX7_work_1 (by decide) (by unfold inr; omega) (fun c205 => ?_) (fun c205 => ?_)
  · refine lv_aload_n B.1 B.2.1 dX7_work_11 rfl (lv_at hl 0 rfl) ?_
    obtain ⟨b206, e207, t208⟩ := g8_3 hC0 t_this
    refine c_getn (k := 3) pk_X7 B hM t_this kd8 rfl (by decide) fl_X7_22 dX7_work_12 e207 ?_
    exact JJ15 b206 _ _ ls hM (lv_sub hl [0, 1, 2, 3, 4] rfl) t208
  · refine lv_aload_n B.1 B.2.1 dX7_work_4 rfl (lv_at hl 0 rfl) ?_
    obtain ⟨b209, e210, t211⟩ := g8_1 hC0 t_this
    refine c_getn (k := 1) pk_X7 B hM t_this kd8 rfl (by decide) fl_X7_15 dX7_work_5 e210 ?_
    refine lv_goto (tgt := 15) B.1 B.2.1 dX7_work_8 (by decide) ?_
    exact JJ15 b209 _ _ ls hM (lv_sub hl [0, 1, 2, 3, 4] rfl) t211
