def mo_X2_compose : List Nat := [448, 3072, 451]
set_option maxHeartbeats 1000000 in
set_option maxRecDepth 20000 in
theorem k_X2_compose (l : Launch) (D : va_G) (dA : Nat → ClassId) (eA : Nat) (L : List Nat) (T N : Nat → Nat) (I : Nat → Nat → Int) (J : Nat → Nat → Int64) (R : Nat → Nat → Nat) (a_this : Nat) (t_this : T a_this = 13) (a_text : Nat) (q_text : a_text = 0 ∨ ∃ b, a_text = b + 1 ∧ T b = 61) (a_words : Nat) (t_words : T a_words = 14) (g_u : Nat) (p_0 : R a_this 0 = g_u + 1) (p_1 : T g_u = 9) (p_2 : I a_words 3 = 0) : GC l yX2_compose cX2_compose 8 none ({ frames := 6, cells := (70000 - N (R a_words 0 - 1)) / 18 + 1, slots := 2 * (70000 - N (R a_words 0 - 1)), locals := 148 }) D dA eA L T N I J R [.ref a_this, cv a_text, .ref a_words] ((70000 - N (R a_words 0 - 1)) / 18 + 1) (2 * (70000 - N (R a_words 0 - 1))) (gV (fun L' T' N' I' J' R' dz dl => J' = J ∧ Fr mo_X2_compose [] T N I J R T' N' I' J' R' ∧ I' a_words 3 ≤ ((N' (R' a_words 0 - 1) : Nat) : Int) ∧ (dz : Int) * 18 ≤ ((N' (R' a_words 0 - 1) : Nat) : Int) - ((N (R a_words 0 - 1) : Nat) : Int) ∧ (dl : Int) ≤ 2 * (((N' (R' a_words 0 - 1) : Nat) : Int) - ((N (R a_words 0 - 1) : Nat) : Int)))) := by
  generalize hPST : (gV (fun L' T' N' I' J' R' dz dl => J' = J ∧ Fr mo_X2_compose [] T N I J R T' N' I' J' R' ∧ I' a_words 3 ≤ ((N' (R' a_words 0 - 1) : Nat) : Int) ∧ (dz : Int) * 18 ≤ ((N' (R' a_words 0 - 1) : Nat) : Int) - ((N (R a_words 0 - 1) : Nat) : Int) ∧ (dl : Int) ≤ 2 * (((N' (R' a_words 0 - 1) : Nat) : Int) - ((N (R a_words 0 - 1) : Nat) : Int)))) = PST
  refine g_enter (own := RX2) (by decide) rfl (by cases a_text <;> exact Nat.le_of_ble_eq_true rfl) (fun p e s m args below meth c ls hm B hX hM hl => ?_)
  have hC0 := hM.2.2.2.2.2.2.1
  have hW0 := hM.2.2.2
  have hF : Fr mo_X2_compose [] T N I J R T N I J R := Fr.rf
  have hA : ∀ q, s.heap.size ≤ q → cF dA L T N I J R s.heap.size q := fun q h => Or.inr h
  have hl : lv_has ls 8 [(0, .ref a_this), (1, cv a_text), (2, .ref a_words)] := (by cases a_text <;> exact hl)
  obtain ⟨b1, e2, t3⟩ := g14_0 hM.2.2.2.2.2.2.1 t_words
  have n4 : 16 ≤ N b1 ∧ N b1 ≤ 70000 := gn96 hM.2.2.2.2.2.2.1 t3
  have pq5 : N (R a_words 0 - 1) = N b1 := by rw [e2, Nat.add_sub_cancel]
  refine lv_aload_n B.1 B.2.1 dX2_compose_0 rfl (lv_at hl 0 rfl) ?_
  refine c_getn (k := 0) pk_X2 B hM t_this kd13 rfl (by decide) fl_X2_7 dX2_compose_1 p_0 ?_
  obtain ⟨x6, e7⟩ : ∃ v, I g_u 9 = v := ⟨_, rfl⟩
  have r8 : (-2147483648 : Int) ≤ x6 ∧ x6 ≤ 2147483647 := by rw [← e7]; exact g9_9 hM.2.2.2.2.2.2.1 p_1
  refine c_geti (k := 9) pk_X10 B hM p_1 kd9 rfl (by decide) fl_X2_13 dX2_compose_4 e7 ?_
  refine lv_istore_n (i := 3) (lv' := [(3, .int (II x6)), (0, .ref a_this), (1, cv a_text), (2, .ref a_words)]) B.1 B.2.1 dX2_compose_7 rfl hl (by decide) (by first | rfl | simp [cv_cat]) (fun ls hl => ?_)
  refine lv_iload_n B.1 B.2.1 dX2_compose_8 rfl (lv_at hl 0 rfl) ?_
  have JJ16 : ∀  (H : Heap) (locs : List Loc) (ls : Array Slot), (CWd D dA eA (cF dA L T N I J R s.heap.size) s.heap L T N I J R H locs) → lv_has ls 8 [(3, .int (II x6)), (0, .ref a_this), (1, cv a_text), (2, .ref a_words)] → W p l e ({ frames := 6, cells := (70000 - N (R a_words 0 - 1)) / 18 + 1, slots := 2 * (70000 - N (R a_words 0 - 1)), locals := 148 }) s m args below meth c H locs 0 0 (MQ below (gQ D dA eA (cF dA L T N I J R s.heap.size) s.heap.size (hs s.heap) PST) args s ((70000 - N (R a_words 0 - 1)) / 18 + 1) (2 * (70000 - N (R a_words 0 - 1))) (cF dA L T N I J R s.heap.size)) (F0 m 16 ls []) := by
    intro  H locs ls hM hl 
    have pq9 : N (R a_words 0 - 1) = N b1 := by rw [e2, Nat.add_sub_cancel]
    have pq10 : N (R a_words 0 - 1) = N b1 := by rw [e2, Nat.add_sub_cancel]
    refine g_vret B hM dX2_compose_16 ⟨by show 0 ≤ ((70000 - N (R a_words 0 - 1)) / 18 + 1); omega, by show 0 ≤ (2 * (70000 - N (R a_words 0 - 1))); omega⟩ ?_
    rw [← hPST]
    exact ⟨rfl, rfl, hF, by first | omega | assumption | exact trivial, by first | omega | assumption | exact trivial, by first | omega | assumption | exact trivial⟩
  refine q_ilt (tgt := 16) B dX2_compose_9 (by decide) (by unfold inr; omega) (fun c11 => ?_) (fun c11 => ?_)
  · exact JJ16  _ _ ls hM (lv_sub hl [0, 1, 2, 3] rfl)
  · refine c_aload_n B dX2_compose_12 rfl (lv_at hl 2 rfl) ?_
    rcases q_text with rfl | ⟨b12, rfl, t13⟩
    · have hl : lv_has ls 8 [(3, .int (II x6)), (0, .ref a_this), (1, .null), (2, .ref a_words)] := hl
      refine lv_ifnonnullN B.1 B.2.1 dX2_compose_13 ?_
      exact JJ16  _ _ ls hM (lv_sub hl [0, 1, 2, 3] rfl) 
    · have hl : lv_has ls 8 [(3, .int (II x6)), (0, .ref a_this), (1, .ref b12), (2, .ref a_words)] := hl
      refine lv_ifnonnull (tgt := 17) B.1 B.2.1 dX2_compose_13 (by decide) ?_
      refine lv_iload_n B.1 B.2.1 dX2_compose_17 rfl (lv_at hl 0 rfl) ?_
      refine lv_aload_n B.1 B.2.1 dX2_compose_18 rfl (lv_at hl 1 rfl) ?_
      refine c_getn (k := 0) pk_X2 B hM t_this kd13 rfl (by decide) fl_X2_7 dX2_compose_19 p_0 ?_
      obtain ⟨x14, e15⟩ : ∃ v, I g_u 10 = v := ⟨_, rfl⟩
      have r16 : (-2147483648 : Int) ≤ x14 ∧ x14 ≤ 2147483647 := by rw [← e15]; exact g9_10 hM.2.2.2.2.2.2.1 p_1
      refine c_geti (k := 10) pk_X10 B hM p_1 kd9 rfl (by decide) fl_X2_19 dX2_compose_22 e15 ?_
      refine q_add B dX2_compose_25 ?_
      refine q_wrap (fun x17 ix17 => ?_)
      refine lv_aload_n B.1 B.2.1 dX2_compose_26 rfl (lv_at hl 2 rfl) ?_
      have n18 : 0 ≤ N b12 ∧ N b12 ≤ 3000 := gn61 hM.2.2.2.2.2.2.1 t13
      refine c_len B hM t13 kd61 (by decide) dX2_compose_27 rfl ?_
      have hFt := hF
      have hMt := hM
      refine c_mmin B ml_X2_22 hl.1 (by unfold inr; omega) (by unfold inr; omega) (Nat.le_of_ble_eq_true rfl) (Nat.le_of_ble_eq_true rfl) (by show 0 ≤ ((70000 - N (R a_words 0 - 1)) / 18 + 1); omega) (by show 0 ≤ (2 * (70000 - N (R a_words 0 - 1))); omega) dX2_compose_28 (fun x19 ox19 lx19 ux19 => ?_)
      clear hFt hMt
      refine lv_istore (lv' := [(4, .int (II x19)), (3, .int (II x6)), (0, .ref a_this), (1, .ref b12), (2, .ref a_words)]) B.1 B.2.1 dX2_compose_31 hl (by decide) rfl (fun ls hl => ?_)
      refine lv_iload_n B.1 B.2.1 dX2_compose_33 rfl (lv_at hl 1 rfl) ?_
      refine lv_istore (lv' := [(5, .int (II x6)), (4, .int (II x19)), (3, .int (II x6)), (0, .ref a_this), (1, .ref b12), (2, .ref a_words)]) B.1 B.2.1 dX2_compose_34 hl (by decide) rfl (fun ls hl => ?_)
      have LL36 : ∀ NN : Nat, ∀ (v36_5 : Int) (L_36 : List Nat) (T_36 : Nat → Nat) (N_36 : Nat → Nat) (I_36 : Nat → Nat → Int) (R_36 : Nat → Nat → Nat) (zc36 zs36 : Nat) (H : Heap) (locs : List Loc) (ls : Array Slot), (CWd D dA eA (cF dA L T N I J R s.heap.size) s.heap L_36 T_36 N_36 I_36 J R_36 H locs) → (Fr mo_X2_compose [] T N I J R T_36 N_36 I_36 J R_36) → lv_has ls 8 [(4, .int (II x19)), (3, .int (II x6)), (0, .ref a_this), (1, .ref b12), (2, .ref a_words), (5, .int (II v36_5))] → ((-2147483648 : Int) ≤ v36_5 ∧ v36_5 ≤ 2147483647) → (0 ≤ v36_5) → (I_36 a_words 3 ≤ 11 * v36_5) → (I_36 a_words 3 ≤ ((N_36 (R_36 a_words 0 - 1) : Nat) : Int)) → ((zc36 : Int) * 18 ≤ ((N_36 (R_36 a_words 0 - 1) : Nat) : Int) - ((N (R a_words 0 - 1) : Nat) : Int)) → ((zs36 : Int) ≤ 2 * (((N_36 (R_36 a_words 0 - 1) : Nat) : Int) - ((N (R a_words 0 - 1) : Nat) : Int))) → (0 ≤ 2147483647 - v36_5) → (2147483647 - v36_5 < (NN : Int)) → W p l e ({ frames := 6, cells := (70000 - N (R a_words 0 - 1)) / 18 + 1, slots := 2 * (70000 - N (R a_words 0 - 1)), locals := 148 }) s m args below meth c H locs zc36 zs36 (MQ below (gQ D dA eA (cF dA L T N I J R s.heap.size) s.heap.size (hs s.heap) PST) args s ((70000 - N (R a_words 0 - 1)) / 18 + 1) (2 * (70000 - N (R a_words 0 - 1))) (cF dA L T N I J R s.heap.size)) (F0 m 36 ls []) := by
        intro NN
        induction NN with
        | zero => intro v36_5 L_36 T_36 N_36 I_36 R_36 zc36 zs36 H locs ls hM hF hl hLL36_0 hLL36_1 hLL36_2 hLL36_3 hLL36_4 hLL36_5 hLL36_6 hN; exfalso; omega
        | succ NN IH36 =>
          intro v36_5 L_36 T_36 N_36 I_36 R_36 zc36 zs36 H locs ls hM hF hl hLL36_0 hLL36_1 hLL36_2 hLL36_3 hLL36_4 hLL36_5 hLL36_6 hN
          have t20 : T_36 a_words = 14 := hF.tt t_words (by decide) nm0
          obtain ⟨b21, e22, t23⟩ := g14_0 hM.2.2.2.2.2.2.1 t20
          have n24 : 16 ≤ N_36 b21 ∧ N_36 b21 ≤ 70000 := gn96 hM.2.2.2.2.2.2.1 t23
          have pq25 : N_36 (R_36 a_words 0 - 1) = N_36 b21 := by rw [e22, Nat.add_sub_cancel]
          obtain ⟨x26, e27⟩ : ∃ v, I_36 a_words 3 = v := ⟨_, rfl⟩
          have r28 : (0 : Int) ≤ x26 ∧ x26 ≤ 40000 := by rw [← e27]; exact g14_3 hM.2.2.2.2.2.2.1 t20
          refine lv_iload B.1 B.2.1 dX2_compose_36 (lv_at hl 5 rfl) ?_
          refine lv_iload B.1 B.2.1 dX2_compose_38 (lv_at hl 0 rfl) ?_
          refine q_cge (tgt := 170) B dX2_compose_40 (by decide) (by unfold inr; omega) (by unfold inr; omega) (fun c29 => ?_) (fun c29 => ?_)
          · have pq30 : N_36 (R_36 a_words 0 - 1) = N_36 b21 := by rw [e22, Nat.add_sub_cancel]
            refine g_vret B hM dX2_compose_170 ⟨by show zc36 ≤ ((70000 - N (R a_words 0 - 1)) / 18 + 1); omega, by show zs36 ≤ (2 * (70000 - N (R a_words 0 - 1))); omega⟩ ?_
            rw [← hPST]
            exact ⟨rfl, rfl, hF, by first | omega | assumption | exact trivial, by first | omega | assumption | exact trivial, by first | omega | assumption | exact trivial⟩
          · have JJ77 : ∀ (s77_0 : Int) (H : Heap) (locs : List Loc) (ls : Array Slot), (CWd D dA eA (cF dA L T N I J R s.heap.size) s.heap L_36 T_36 N_36 I_36 J R_36 H locs) → lv_has ls 8 [(4, .int (II x19)), (3, .int (II x6)), (0, .ref a_this), (1, .ref b12), (2, .ref a_words), (5, .int (II v36_5))] → ((-2147483648 : Int) ≤ s77_0 ∧ s77_0 ≤ 2147483647) → (s77_0 = 0 ∨ v36_5 + 2 < x19) → W p l e ({ frames := 6, cells := (70000 - N (R a_words 0 - 1)) / 18 + 1, slots := 2 * (70000 - N (R a_words 0 - 1)), locals := 148 }) s m args below meth c H locs zc36 zs36 (MQ below (gQ D dA eA (cF dA L T N I J R s.heap.size) s.heap.size (hs s.heap) PST) args s ((70000 - N (R a_words 0 - 1)) / 18 + 1) (2 * (70000 - N (R a_words 0 - 1))) (cF dA L T N I J R s.heap.size)) (F0 m 77 ls [.int (II s77_0)]) := by
              intro s77_0 H locs ls hM hl hJJ77_0 hJJ77_1
              refine lv_istore (lv' := [(6, .int (II s77_0)), (4, .int (II x19)), (3, .int (II x6)), (0, .ref a_this), (1, .ref b12), (2, .ref a_words), (5, .int (II v36_5))]) B.1 B.2.1 dX2_compose_77 hl (by decide) rfl (fun ls hl => ?_)
              refine lv_iload B.1 B.2.1 dX2_compose_79 (lv_at hl 0 rfl) ?_
              have JJ94 : ∀ (s94_0 : Int) (H : Heap) (locs : List Loc) (ls : Array Slot), (CWd D dA eA (cF dA L T N I J R s.heap.size) s.heap L_36 T_36 N_36 I_36 J R_36 H locs) → lv_has ls 8 [(6, .int (II s77_0)), (4, .int (II x19)), (3, .int (II x6)), (0, .ref a_this), (1, .ref b12), (2, .ref a_words), (5, .int (II v36_5))] → ((-2147483648 : Int) ≤ s94_0 ∧ s94_0 ≤ 2147483647) → (0 ≤ s94_0) → (s94_0 ≤ 127) → W p l e ({ frames := 6, cells := (70000 - N (R a_words 0 - 1)) / 18 + 1, slots := 2 * (70000 - N (R a_words 0 - 1)), locals := 148 }) s m args below meth c H locs zc36 zs36 (MQ below (gQ D dA eA (cF dA L T N I J R s.heap.size) s.heap.size (hs s.heap) PST) args s ((70000 - N (R a_words 0 - 1)) / 18 + 1) (2 * (70000 - N (R a_words 0 - 1))) (cF dA L T N I J R s.heap.size)) (F0 m 94 ls [.int (II s94_0)]) := by
                intro s94_0 H locs ls hM hl hJJ94_0 hJJ94_1 hJJ94_2
                refine lv_istore (lv' := [(7, .int (II s94_0)), (6, .int (II s77_0)), (4, .int (II x19)), (3, .int (II x6)), (0, .ref a_this), (1, .ref b12), (2, .ref a_words), (5, .int (II v36_5))]) B.1 B.2.1 dX2_compose_94 hl (by decide) rfl (fun ls hl => ?_)
                have JJ117 : ∀  (H : Heap) (locs : List Loc) (ls : Array Slot), (CWd D dA eA (cF dA L T N I J R s.heap.size) s.heap L_36 T_36 N_36 I_36 J R_36 H locs) → lv_has ls 8 [(7, .int (II s94_0)), (6, .int (II s77_0)), (4, .int (II x19)), (3, .int (II x6)), (0, .ref a_this), (1, .ref b12), (2, .ref a_words), (5, .int (II v36_5))] → W p l e ({ frames := 6, cells := (70000 - N (R a_words 0 - 1)) / 18 + 1, slots := 2 * (70000 - N (R a_words 0 - 1)), locals := 148 }) s m args below meth c H locs zc36 zs36 (MQ below (gQ D dA eA (cF dA L T N I J R s.heap.size) s.heap.size (hs s.heap) PST) args s ((70000 - N (R a_words 0 - 1)) / 18 + 1) (2 * (70000 - N (R a_words 0 - 1))) (cF dA L T N I J R s.heap.size)) (F0 m 117 ls []) := by
                  intro  H locs ls hM hl 
                  refine lv_aload_n B.1 B.2.1 dX2_compose_117 rfl (lv_at hl 6 rfl) ?_
                  refine lv_iload B.1 B.2.1 dX2_compose_118 (lv_at hl 0 rfl) ?_
                  refine q_bip B dX2_compose_120 (by decide) ?_
                  have JJ144 : ∀ (s144_0 : Int) (H : Heap) (locs : List Loc) (ls : Array Slot), (CWd D dA eA (cF dA L T N I J R s.heap.size) s.heap L_36 T_36 N_36 I_36 J R_36 H locs) → lv_has ls 8 [(7, .int (II s94_0)), (6, .int (II s77_0)), (4, .int (II x19)), (3, .int (II x6)), (0, .ref a_this), (1, .ref b12), (2, .ref a_words), (5, .int (II v36_5))] → ((-2147483648 : Int) ≤ s144_0 ∧ s144_0 ≤ 2147483647) → W p l e ({ frames := 6, cells := (70000 - N (R a_words 0 - 1)) / 18 + 1, slots := 2 * (70000 - N (R a_words 0 - 1)), locals := 148 }) s m args below meth c H locs zc36 zs36 (MQ below (gQ D dA eA (cF dA L T N I J R s.heap.size) s.heap.size (hs s.heap) PST) args s ((70000 - N (R a_words 0 - 1)) / 18 + 1) (2 * (70000 - N (R a_words 0 - 1))) (cF dA L T N I J R s.heap.size)) (F0 m 144 ls [.int (II s144_0), .ref a_words]) := by
                    intro s144_0 H locs ls hM hl hJJ144_0
                    have hFt := hF
                    have hMt := hM
                    have hv31 : ((-2147483648 : Int) ≤ s144_0 ∧ (s144_0 : Int) ≤ 2147483647) ∧ (I_36 a_words 3 ≤ ((N_36 (R_36 a_words 0 - 1) : Nat) : Int)) ∧ (I_36 a_words 3 ≤ 33900) := by first | omega | exact ⟨by first | omega | assumption | exact trivial, by first | omega | assumption | exact trivial, by first | omega | assumption | exact trivial⟩
                    refine g_callr hM hA (c_runV (n := 1) (as := [.int (II s144_0)]) (rest := []) B hX hA hM hl.1 t20 kd14 rfl (k_J4_append_bf812 l D dA eA L_36 T_36 N_36 I_36 J R_36 a_words t20 s144_0 hv31.1 hv31.2.1 hv31.2.2 _ _) ml_X2_35 nm_J4_append_bf812 ⟨rfl, rfl⟩ ⟨Nat.le_of_ble_eq_true rfl, Nat.le_of_ble_eq_true rfl⟩ dX2_compose_144 rfl rfl (Nat.le_of_ble_eq_true rfl) ⟨by show zc36 + ((70000 - N_36 (R_36 a_words 0 - 1)) / 18 + 1) ≤ ((70000 - N (R a_words 0 - 1)) / 18 + 1); omega, by show zs36 + (2 * (70000 - N_36 (R_36 a_words 0 - 1))) ≤ (2 * (70000 - N (R a_words 0 - 1))); omega⟩) (fun b33 L34 T35 N36 I37 J38 R39 dz40 dl41 H locs hp32 hMn => ?_)
                    obtain ⟨yJ38, hFc42, tb33, hp32a⟩ := hp32
                    obtain rfl := yJ38.symm
                    have t43 : T_36 a_this = 13 := hF.tt t_this (by decide) nm0
                    have t44 : T_36 g_u = 9 := hF.tt p_1 (by decide) nm0
                    have t45 : T_36 b12 = 61 := hF.tt t13 (by decide) nm0
                    replace hF : Fr mo_X2_compose [] T N I J R T35 N36 I37 J R39 := hF.trans hFc42 (by decide) e20
                    have hM := hMn
                    clear hMn
                    replace hp32a : I37 a_words 3 ≤ I_36 a_words 3 + 11 ∧ I_36 a_words 3 ≤ I37 a_words 3 ∧ I37 a_words 3 ≤ ((N36 (R39 a_words 0 - 1) : Nat) : Int) ∧ (dz40 : Int) * 18 ≤ ((N36 (R39 a_words 0 - 1) : Nat) : Int) - ((N_36 (R_36 a_words 0 - 1) : Nat) : Int) ∧ (dl41 : Int) ≤ 2 * (((N36 (R39 a_words 0 - 1) : Nat) : Int) - ((N_36 (R_36 a_words 0 - 1) : Nat) : Int)) := hp32a
                    obtain ⟨hp32a_0, hp32a_1, hp32a_2, hp32a_3, hp32a_4⟩ := hp32a
                    obtain ⟨v46, e47⟩ : ∃ v, R39 a_words 0 = v := ⟨_, rfl⟩
                    have t48 : T35 a_words = 14 := hF.tt t_words (by decide) nm0
                    obtain ⟨b49, e50, t51⟩ := g14_0 hM.2.2.2.2.2.2.1 t48
                    have pq52 : N36 (R39 a_words 0 - 1) = N36 b49 := by rw [e50, Nat.add_sub_cancel]
                    have n53 : 16 ≤ N36 b49 ∧ N36 b49 ≤ 70000 := gn96 hM.2.2.2.2.2.2.1 t51
                    have pq54 : N36 (R39 a_words 0 - 1) = N36 b49 := by rw [e50, Nat.add_sub_cancel]
                    obtain ⟨x55, e56⟩ : ∃ v, I37 a_words 3 = v := ⟨_, rfl⟩
                    have r57 : (0 : Int) ≤ x55 ∧ x55 ≤ 40000 := by rw [← e56]; exact g14_3 hM.2.2.2.2.2.2.1 t48
                    clear hFt hMt
                    refine lv_pop B.1 B.2.1 dX2_compose_147 rfl ?_
                    refine q_inc (lv' := [(5, .int (II (v36_5 + 2))), (7, .int (II s94_0)), (6, .int (II s77_0)), (4, .int (II x19)), (3, .int (II x6)), (0, .ref a_this), (1, .ref b12), (2, .ref a_words)]) B dX2_compose_148 hl (k := 7) rfl (by decide) rfl (fun ls hl => ?_)
                    refine lv_goto (tgt := 164) B.1 B.2.1 dX2_compose_151 (by decide) ?_
                    refine q_inc (lv' := [(5, .int (II ((v36_5 + 2) + 1))), (7, .int (II s94_0)), (6, .int (II s77_0)), (4, .int (II x19)), (3, .int (II x6)), (0, .ref a_this), (1, .ref b12), (2, .ref a_words)]) B dX2_compose_164 hl (k := 0) rfl (by decide) rfl (fun ls hl => ?_)
                    refine lv_goto (tgt := 36) B.1 B.2.1 dX2_compose_167 (by decide) ?_
                    have hv58 : ((-2147483648 : Int) ≤ (v36_5 + 2) + 1 ∧ ((v36_5 + 2) + 1 : Int) ≤ 2147483647) ∧ (0 ≤ ((v36_5 + 2) + 1)) ∧ (I37 a_words 3 ≤ 11 * ((v36_5 + 2) + 1)) ∧ (I37 a_words 3 ≤ ((N36 (R39 a_words 0 - 1) : Nat) : Int)) ∧ ((zc36 + dz40 : Int) * 18 ≤ ((N36 (R39 a_words 0 - 1) : Nat) : Int) - ((N (R a_words 0 - 1) : Nat) : Int)) ∧ ((zs36 + dl41 : Int) ≤ 2 * (((N36 (R39 a_words 0 - 1) : Nat) : Int) - ((N (R a_words 0 - 1) : Nat) : Int))) ∧ (0 ≤ 2147483647 - ((v36_5 + 2) + 1)) := by first | omega | exact ⟨by first | omega | assumption | exact trivial, by first | omega | assumption | exact trivial, by first | omega | assumption | exact trivial, by first | omega | assumption | exact trivial, by first | omega | assumption | exact trivial, by first | omega | assumption | exact trivial, by first | omega | assumption | exact trivial⟩
                    exact IH36 ((v36_5 + 2) + 1) L34 T35 N36 I37 R39 (zc36 + dz40) (zs36 + dl41) _ _ ls hM hF (lv_sub hl [3, 4, 5, 6, 7, 0] rfl) hv58.1 hv58.2.1 hv58.2.2.1 hv58.2.2.2.1 hv58.2.2.2.2.1 hv58.2.2.2.2.2.1 hv58.2.2.2.2.2.2 (by omega)
                  refine q_cne (tgt := 132) B dX2_compose_122 (by decide) (by unfold inr; omega) (by unfold inr; omega) (fun c59 => ?_) (fun c59 => ?_)
                  · refine lv_aload_n B.1 B.2.1 dX2_compose_132 rfl (lv_at hl 4 rfl) ?_
                    have t60 : T_36 a_this = 13 := hF.tt t_this (by decide) nm0
                    have e61 : R_36 a_this 0 = g_u + 1 := (hF.r t_this (by decide) nm0 rfl).trans p_0
                    refine c_getn (k := 0) pk_X2 B hM t60 kd13 rfl (by decide) fl_X2_7 dX2_compose_133 e61 ?_
                    refine lv_iload B.1 B.2.1 dX2_compose_136 (lv_at hl 0 rfl) ?_
                    refine q_bip B dX2_compose_138 (by decide) ?_
                    refine q_sub B dX2_compose_140 ?_
                    have hFt := hF
                    have hMt := hM
                    have t62 : T_36 g_u = 9 := hF.tt p_1 (by decide) nm0
                    refine p_calli (c_runV (n := 1) (as := [.int (II (s94_0 - (97 : Int)))]) (rest := [.ref a_words]) B hX hA hM hl.1 t62 kd9 rfl (k_X10_arg l D dA eA L_36 T_36 N_36 I_36 J R_36 g_u t62 (s94_0 - (97 : Int)) (by first | omega | assumption | exact trivial) _ _) ml_X2_31 nm_X10_arg ⟨rfl, rfl⟩ ⟨Nat.le_of_ble_eq_true rfl, Nat.le_of_ble_eq_true rfl⟩ dX2_compose_141 rfl rfl (Nat.le_of_ble_eq_true rfl) ⟨by show zc36 + 0 ≤ ((70000 - N (R a_words 0 - 1)) / 18 + 1); omega, by show zs36 + 0 ≤ (2 * (70000 - N (R a_words 0 - 1))); omega⟩) (fun x64 ix64 hp63 => ?_)
                    have hp63a := hp63
                    clear hp63a
                    clear hFt hMt
                    exact JJ144 x64 _ _ ls hM (lv_sub hl [0, 1, 2, 3, 4, 5, 6, 7] rfl) (by first | omega | assumption | exact trivial)
                  · refine lv_aload_n B.1 B.2.1 dX2_compose_125 rfl (lv_at hl 4 rfl) ?_
                    have t65 : T_36 a_this = 13 := hF.tt t_this (by decide) nm0
                    obtain ⟨x66, e67⟩ : ∃ v, I a_this 5 = v := ⟨_, rfl⟩
                    have e68 : I_36 a_this 5 = x66 := (hF.i t_this (by decide) nm0 rfl).trans e67
                    have r69 : (-2147483648 : Int) ≤ x66 ∧ x66 ≤ 2147483647 := by rw [← e68]; exact g13_5 hM.2.2.2.2.2.2.1 t65
                    refine c_geti (k := 5) pk_X2 B hM t65 kd13 rfl (by decide) fl_X2_28 dX2_compose_126 e68 ?_
                    refine lv_goto (tgt := 144) B.1 B.2.1 dX2_compose_129 (by decide) ?_
                    exact JJ144 x66 _ _ ls hM (lv_sub hl [0, 1, 2, 3, 4, 5, 6, 7] rfl) (by first | omega | assumption | exact trivial)
                refine lv_iload B.1 B.2.1 dX2_compose_96 (lv_at hl 0 rfl) ?_
                refine q_bip B dX2_compose_98 (by decide) ?_
                refine q_ceq (tgt := 117) B dX2_compose_100 (by decide) (by unfold inr; omega) (by unfold inr; omega) (fun c70 => ?_) (fun c70 => ?_)
                · exact JJ117  _ _ ls hM (lv_sub hl [0, 1, 2, 3, 4, 5, 6, 7] rfl)
                · refine lv_iload B.1 B.2.1 dX2_compose_103 (lv_at hl 0 rfl) ?_
                  refine q_bip B dX2_compose_105 (by decide) ?_
                  refine q_ceq (tgt := 117) B dX2_compose_107 (by decide) (by unfold inr; omega) (by unfold inr; omega) (fun c71 => ?_) (fun c71 => ?_)
                  · exact JJ117  _ _ ls hM (lv_sub hl [0, 1, 2, 3, 4, 5, 6, 7] rfl)
                  · refine lv_iload B.1 B.2.1 dX2_compose_110 (lv_at hl 0 rfl) ?_
                    refine q_bip B dX2_compose_112 (by decide) ?_
                    refine q_cne (tgt := 154) B dX2_compose_114 (by decide) (by unfold inr; omega) (by unfold inr; omega) (fun c72 => ?_) (fun c72 => ?_)
                    · refine lv_aload_n B.1 B.2.1 dX2_compose_154 rfl (lv_at hl 6 rfl) ?_
                      refine lv_aload_n B.1 B.2.1 dX2_compose_155 rfl (lv_at hl 5 rfl) ?_
                      refine lv_iload B.1 B.2.1 dX2_compose_156 (lv_at hl 7 rfl) ?_
                      have t73 : T_36 b12 = 61 := hF.tt t13 (by decide) nm0
                      have n74 : 0 ≤ N_36 b12 ∧ N_36 b12 ≤ 3000 := gn61 hM.2.2.2.2.2.2.1 t73
                      have n75 : N_36 b12 = N b12 := hF.n t13 (by decide) nm0
                      obtain ⟨x76, e77⟩ : ∃ v, I b12 v36_5.toNat = v := ⟨_, rfl⟩
                      have e78 : I_36 b12 v36_5.toNat = x76 := (hF.i t13 (by decide) nm0 (by rw [cd_arr (j := 0) (by decide)]; rfl)).trans e77
                      have r79 : (0 : Int) ≤ x76 ∧ x76 ≤ 127 := by rw [← e78]; exact ga61 hM.2.2.2.2.2.2.1 t73 (by omega)
                      refine c_bld B hM t73 kd61 an61 dX2_compose_158 (by omega) (by omega) e78 ?_
                      refine q_i2c B (by unfold inr; omega) dX2_compose_159 (fun x80 lx80 ux80 ex80 => ?_)
                      have hFt := hF
                      have hMt := hM
                      have hv81 : ((0 : Int) ≤ x80 ∧ (x80 : Int) ≤ 65535) ∧ (x80 ≤ 255) ∧ (I_36 a_words 3 ≤ ((N_36 (R_36 a_words 0 - 1) : Nat) : Int)) ∧ (I_36 a_words 3 ≤ 33900) := by first | omega | exact ⟨by first | omega | assumption | exact trivial, by first | omega | assumption | exact trivial, by first | omega | assumption | exact trivial, by first | omega | assumption | exact trivial⟩
                      refine g_callr hM hA (c_runV (n := 1) (as := [.int (II x80)]) (rest := []) B hX hA hM hl.1 t20 kd14 rfl (k_J4_append_cf468 l D dA eA L_36 T_36 N_36 I_36 J R_36 a_words t20 x80 hv81.1 hv81.2.1 hv81.2.2.1 hv81.2.2.2 _ _) ml_X2_41 nm_J4_append_cf468 ⟨rfl, rfl⟩ ⟨Nat.le_of_ble_eq_true rfl, Nat.le_of_ble_eq_true rfl⟩ dX2_compose_160 rfl rfl (Nat.le_of_ble_eq_true rfl) ⟨by show zc36 + ((70000 - N_36 (R_36 a_words 0 - 1)) / 18 + 1) ≤ ((70000 - N (R a_words 0 - 1)) / 18 + 1); omega, by show zs36 + (2 * (70000 - N_36 (R_36 a_words 0 - 1))) ≤ (2 * (70000 - N (R a_words 0 - 1))); omega⟩) (fun b83 L84 T85 N86 I87 J88 R89 dz90 dl91 H locs hp82 hMn => ?_)
                      obtain ⟨yJ88, hFc92, tb83, hp82a⟩ := hp82
                      obtain rfl := yJ88.symm
                      have t93 : T_36 a_this = 13 := hF.tt t_this (by decide) nm0
                      have t94 : T_36 g_u = 9 := hF.tt p_1 (by decide) nm0
                      replace hF : Fr mo_X2_compose [] T N I J R T85 N86 I87 J R89 := hF.trans hFc92 (by decide) e20
                      have hM := hMn
                      clear hMn
                      replace hp82a : I87 a_words 3 = I_36 a_words 3 + 1 ∧ I87 a_words 3 ≤ ((N86 (R89 a_words 0 - 1) : Nat) : Int) ∧ (dz90 : Int) * 18 ≤ ((N86 (R89 a_words 0 - 1) : Nat) : Int) - ((N_36 (R_36 a_words 0 - 1) : Nat) : Int) ∧ (dl91 : Int) ≤ 2 * (((N86 (R89 a_words 0 - 1) : Nat) : Int) - ((N_36 (R_36 a_words 0 - 1) : Nat) : Int)) := hp82a
                      obtain ⟨hp82a_0, hp82a_1, hp82a_2, hp82a_3⟩ := hp82a
                      obtain ⟨v95, e96⟩ : ∃ v, R89 a_words 0 = v := ⟨_, rfl⟩
                      have t97 : T85 a_words = 14 := hF.tt t_words (by decide) nm0
                      obtain ⟨b98, e99, t100⟩ := g14_0 hM.2.2.2.2.2.2.1 t97
                      have pq101 : N86 (R89 a_words 0 - 1) = N86 b98 := by rw [e99, Nat.add_sub_cancel]
                      have n102 : 16 ≤ N86 b98 ∧ N86 b98 ≤ 70000 := gn96 hM.2.2.2.2.2.2.1 t100
                      have pq103 : N86 (R89 a_words 0 - 1) = N86 b98 := by rw [e99, Nat.add_sub_cancel]
                      have r104 : (0 : Int) ≤ I_36 a_words 3 + 1 ∧ I_36 a_words 3 + 1 ≤ 40000 := by rw [← hp82a_0]; exact g14_3 hM.2.2.2.2.2.2.1 t97
                      clear hFt hMt
                      refine lv_pop B.1 B.2.1 dX2_compose_163 rfl ?_
                      refine q_inc (lv' := [(5, .int (II (v36_5 + 1))), (7, .int (II s94_0)), (6, .int (II s77_0)), (4, .int (II x19)), (3, .int (II x6)), (0, .ref a_this), (1, .ref b12), (2, .ref a_words)]) B dX2_compose_164 hl (k := 7) rfl (by decide) rfl (fun ls hl => ?_)
                      refine lv_goto (tgt := 36) B.1 B.2.1 dX2_compose_167 (by decide) ?_
                      have hv105 : ((-2147483648 : Int) ≤ v36_5 + 1 ∧ (v36_5 + 1 : Int) ≤ 2147483647) ∧ (0 ≤ (v36_5 + 1)) ∧ (I87 a_words 3 ≤ 11 * (v36_5 + 1)) ∧ (I87 a_words 3 ≤ ((N86 (R89 a_words 0 - 1) : Nat) : Int)) ∧ ((zc36 + dz90 : Int) * 18 ≤ ((N86 (R89 a_words 0 - 1) : Nat) : Int) - ((N (R a_words 0 - 1) : Nat) : Int)) ∧ ((zs36 + dl91 : Int) ≤ 2 * (((N86 (R89 a_words 0 - 1) : Nat) : Int) - ((N (R a_words 0 - 1) : Nat) : Int))) ∧ (0 ≤ 2147483647 - (v36_5 + 1)) := by first | omega | exact ⟨by first | omega | assumption | exact trivial, by first | omega | assumption | exact trivial, by first | omega | assumption | exact trivial, by first | omega | assumption | exact trivial, by first | omega | assumption | exact trivial, by first | omega | assumption | exact trivial, by first | omega | assumption | exact trivial⟩
                      exact IH36 (v36_5 + 1) L84 T85 N86 I87 R89 (zc36 + dz90) (zs36 + dl91) _ _ ls hM hF (lv_sub hl [3, 4, 5, 6, 7, 0] rfl) hv105.1 hv105.2.1 hv105.2.2.1 hv105.2.2.2.1 hv105.2.2.2.2.1 hv105.2.2.2.2.2.1 hv105.2.2.2.2.2.2 (by omega)
                    · exact JJ117  _ _ ls hM (lv_sub hl [0, 1, 2, 3, 4, 5, 6, 7] rfl)
              refine q_ieq (tgt := 93) B dX2_compose_81 (by decide) (by unfold inr; omega) (fun c106 => ?_) (fun c106 => ?_)
              · refine q_con B dX2_compose_93 ?_
                have hv107 : ((-2147483648 : Int) ≤ 0 ∧ (0 : Int) ≤ 2147483647) ∧ (0 ≤ (0 : Int)) ∧ ((0 : Int) ≤ 127) := by first | omega | exact ⟨by first | omega | assumption | exact trivial, by first | omega | assumption | exact trivial, by first | omega | assumption | exact trivial⟩
                exact JJ94 0 _ _ ls hM (lv_sub hl [0, 1, 2, 3, 4, 5, 6] rfl) hv107.1 hv107.2.1 hv107.2.2
              · refine lv_aload_n B.1 B.2.1 dX2_compose_84 rfl (lv_at hl 4 rfl) ?_
                refine lv_iload B.1 B.2.1 dX2_compose_85 (lv_at hl 6 rfl) ?_
                refine q_con B dX2_compose_87 ?_
                refine q_add B dX2_compose_88 ?_
                have t108 : T_36 b12 = 61 := hF.tt t13 (by decide) nm0
                have n109 : 0 ≤ N_36 b12 ∧ N_36 b12 ≤ 3000 := gn61 hM.2.2.2.2.2.2.1 t108
                have n110 : N_36 b12 = N b12 := hF.n t13 (by decide) nm0
                obtain ⟨x111, e112⟩ : ∃ v, I b12 ((v36_5 + (1 : Int)).toNat) = v := ⟨_, rfl⟩
                have e113 : I_36 b12 ((v36_5 + (1 : Int)).toNat) = x111 := (hF.i t13 (by decide) nm0 (by rw [cd_arr (j := 0) (by decide)]; rfl)).trans e112
                have r114 : (0 : Int) ≤ x111 ∧ x111 ≤ 127 := by rw [← e113]; exact ga61 hM.2.2.2.2.2.2.1 t108 (by omega)
                refine c_bld B hM t108 kd61 an61 dX2_compose_89 (by omega) (by omega) e113 ?_
                refine lv_goto (tgt := 94) B.1 B.2.1 dX2_compose_90 (by decide) ?_
                have hv115 : ((-2147483648 : Int) ≤ x111 ∧ (x111 : Int) ≤ 2147483647) ∧ (0 ≤ x111) ∧ (x111 ≤ 127) := by first | omega | exact ⟨by first | omega | assumption | exact trivial, by first | omega | assumption | exact trivial, by first | omega | assumption | exact trivial⟩
                exact JJ94 x111 _ _ ls hM (lv_sub hl [0, 1, 2, 3, 4, 5, 6] rfl) hv115.1 hv115.2.1 hv115.2.2
            refine lv_aload_n B.1 B.2.1 dX2_compose_43 rfl (lv_at hl 3 rfl) ?_
            refine lv_iload B.1 B.2.1 dX2_compose_44 (lv_at hl 5 rfl) ?_
            have t116 : T_36 b12 = 61 := hF.tt t13 (by decide) nm0
            have n117 : 0 ≤ N_36 b12 ∧ N_36 b12 ≤ 3000 := gn61 hM.2.2.2.2.2.2.1 t116
            have n118 : N_36 b12 = N b12 := hF.n t13 (by decide) nm0
            obtain ⟨x119, e120⟩ : ∃ v, I b12 v36_5.toNat = v := ⟨_, rfl⟩
            have e121 : I_36 b12 v36_5.toNat = x119 := (hF.i t13 (by decide) nm0 (by rw [cd_arr (j := 0) (by decide)]; rfl)).trans e120
            have r122 : (0 : Int) ≤ x119 ∧ x119 ≤ 127 := by rw [← e121]; exact ga61 hM.2.2.2.2.2.2.1 t116 (by omega)
            refine c_bld B hM t116 kd61 an61 dX2_compose_46 (by omega) (by omega) e121 ?_
            refine q_bip B dX2_compose_47 (by decide) ?_
            refine q_cne (tgt := 76) B dX2_compose_49 (by decide) (by unfold inr; omega) (by unfold inr; omega) (fun c123 => ?_) (fun c123 => ?_)
            · refine q_con B dX2_compose_76 ?_
              have hv124 : ((-2147483648 : Int) ≤ 0 ∧ (0 : Int) ≤ 2147483647) ∧ ((0 : Int) = 0 ∨ v36_5 + 2 < x19) := by first | omega | exact ⟨by first | omega | assumption | exact trivial, by first | omega | assumption | exact trivial⟩
              exact JJ77 0 _ _ ls hM (lv_sub hl [0, 1, 2, 3, 4, 5] rfl) hv124.1 hv124.2
            · refine lv_iload B.1 B.2.1 dX2_compose_52 (lv_at hl 5 rfl) ?_
              refine q_con B dX2_compose_54 ?_
              refine q_add B dX2_compose_55 ?_
              refine lv_iload B.1 B.2.1 dX2_compose_56 (lv_at hl 0 rfl) ?_
              refine q_cge (tgt := 76) B dX2_compose_58 (by decide) (by unfold inr; omega) (by unfold inr; omega) (fun c125 => ?_) (fun c125 => ?_)
              · refine q_con B dX2_compose_76 ?_
                have hv126 : ((-2147483648 : Int) ≤ 0 ∧ (0 : Int) ≤ 2147483647) ∧ ((0 : Int) = 0 ∨ v36_5 + 2 < x19) := by first | omega | exact ⟨by first | omega | assumption | exact trivial, by first | omega | assumption | exact trivial⟩
                exact JJ77 0 _ _ ls hM (lv_sub hl [0, 1, 2, 3, 4, 5] rfl) hv126.1 hv126.2
              · refine lv_aload_n B.1 B.2.1 dX2_compose_61 rfl (lv_at hl 3 rfl) ?_
                refine lv_iload B.1 B.2.1 dX2_compose_62 (lv_at hl 5 rfl) ?_
                refine q_con B dX2_compose_64 ?_
                refine q_add B dX2_compose_65 ?_
                obtain ⟨x127, e128⟩ : ∃ v, I b12 ((v36_5 + (2 : Int)).toNat) = v := ⟨_, rfl⟩
                have e129 : I_36 b12 ((v36_5 + (2 : Int)).toNat) = x127 := (hF.i t13 (by decide) nm0 (by rw [cd_arr (j := 0) (by decide)]; rfl)).trans e128
                have r130 : (0 : Int) ≤ x127 ∧ x127 ≤ 127 := by rw [← e129]; exact ga61 hM.2.2.2.2.2.2.1 t116 (by omega)
                refine c_bld B hM t116 kd61 an61 dX2_compose_66 (by omega) (by omega) e129 ?_
                refine q_bip B dX2_compose_67 (by decide) ?_
                refine q_cne (tgt := 76) B dX2_compose_69 (by decide) (by unfold inr; omega) (by unfold inr; omega) (fun c131 => ?_) (fun c131 => ?_)
                · refine q_con B dX2_compose_76 ?_
                  have hv132 : ((-2147483648 : Int) ≤ 0 ∧ (0 : Int) ≤ 2147483647) ∧ ((0 : Int) = 0 ∨ v36_5 + 2 < x19) := by first | omega | exact ⟨by first | omega | assumption | exact trivial, by first | omega | assumption | exact trivial⟩
                  exact JJ77 0 _ _ ls hM (lv_sub hl [0, 1, 2, 3, 4, 5] rfl) hv132.1 hv132.2
                · refine q_con B dX2_compose_72 ?_
                  refine lv_goto (tgt := 77) B.1 B.2.1 dX2_compose_73 (by decide) ?_
                  have hv133 : ((-2147483648 : Int) ≤ 1 ∧ (1 : Int) ≤ 2147483647) ∧ ((1 : Int) = 0 ∨ v36_5 + 2 < x19) := by first | omega | exact ⟨by first | omega | assumption | exact trivial, by first | omega | assumption | exact trivial⟩
                  exact JJ77 1 _ _ ls hM (lv_sub hl [0, 1, 2, 3, 4, 5] rfl) hv133.1 hv133.2
      have pq134 : N (R a_words 0 - 1) = N b1 := by rw [e2, Nat.add_sub_cancel]
      have hv135 : ((-2147483648 : Int) ≤ x6 ∧ (x6 : Int) ≤ 2147483647) ∧ (0 ≤ x6) ∧ (I a_words 3 ≤ 11 * x6) ∧ (I a_words 3 ≤ ((N (R a_words 0 - 1) : Nat) : Int)) ∧ (0 * 18 ≤ ((N (R a_words 0 - 1) : Nat) : Int) - ((N (R a_words 0 - 1) : Nat) : Int)) ∧ (0 ≤ 2 * (((N (R a_words 0 - 1) : Nat) : Int) - ((N (R a_words 0 - 1) : Nat) : Int))) ∧ (0 ≤ 2147483647 - x6) := by first | omega | exact ⟨by first | omega | assumption | exact trivial, by first | omega | assumption | exact trivial, by first | omega | assumption | exact trivial, by first | omega | assumption | exact trivial, by first | omega | assumption | exact trivial, by first | omega | assumption | exact trivial, by first | omega | assumption | exact trivial⟩
      exact LL36 (Int.toNat (2147483647 - x6 + 1)) x6 L T N I R 0 0 _ _ ls hM hF (lv_sub hl [1, 2, 3, 4, 5, 0] rfl) hv135.1 hv135.2.1 hv135.2.2.1 hv135.2.2.2.1 hv135.2.2.2.2.1 hv135.2.2.2.2.2.1 hv135.2.2.2.2.2.2 (by omega)
