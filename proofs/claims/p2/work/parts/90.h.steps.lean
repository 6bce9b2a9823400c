def mo_X6_readSteps : List Nat := [229, 230, 231, 225, 226, 236, 2112, 2144]
set_option maxHeartbeats 1000000 in
set_option maxRecDepth 20000 in
theorem k_X6_readSteps (l : Launch) (D : va_G) (dA : Nat → ClassId) (eA : Nat) (L : List Nat) (T N : Nat → Nat) (I : Nat → Nat → Int) (J : Nat → Nat → Int64) (R : Nat → Nat → Nat) (a_this : Nat) (t_this : T a_this = 7) (a_start : Int) (i_start : (0 : Int) ≤ a_start ∧ a_start ≤ 1) (g_t : Nat) (g_s : Nat) (g_S : Nat → Int) (g_n : Int) (p_0 : R a_this 3 = g_t + 1) (p_1 : T g_t = 3) (p_2 : R g_t 0 = g_s + 1) (p_3 : T g_s = 62) (p_4 : I g_s = g_S) (p_5 : TKz g_S g_n) (p_6 : I a_this 5 ≤ g_n) (p_7 : g_S (I a_this 5).toNat = I a_this 6) : GC l yX6_readSteps cX6_readSteps 5 (some .boolean) ({ frames := 5, cells := 0, slots := 0, locals := 151 }) D dA eA L T N I J R [.ref a_this, .int (II a_start)] 0 0 (gI (fun r L' T' N' I' J' R' dz dl => L' = L ∧ T' = T ∧ N' = N ∧ R' = R ∧ Fr mo_X6_readSteps [] T N I J R T' N' I' J' R' ∧ (0 : Int) ≤ r ∧ r ≤ 1 ∧ (I' a_this 5 ≤ g_n ∧ g_S (I' a_this 5).toNat = I' a_this 6 ∧ I a_this 5 ≤ I' a_this 5 ∧ ((r = 0 ∧ I' a_this 1 ≠ 0) ∨ (r = 1 ∧ I' a_this 1 = I a_this 1 ∧ I a_this 5 + 0 ≤ I' a_this 5))))) := by
  generalize hPST : (gI (fun r L' T' N' I' J' R' dz dl => L' = L ∧ T' = T ∧ N' = N ∧ R' = R ∧ Fr mo_X6_readSteps [] T N I J R T' N' I' J' R' ∧ (0 : Int) ≤ r ∧ r ≤ 1 ∧ (I' a_this 5 ≤ g_n ∧ g_S (I' a_this 5).toNat = I' a_this 6 ∧ I a_this 5 ≤ I' a_this 5 ∧ ((r = 0 ∧ I' a_this 1 ≠ 0) ∨ (r = 1 ∧ I' a_this 1 = I a_this 1 ∧ I a_this 5 + 0 ≤ I' a_this 5))))) = PST
  refine g_enter (own := RX6) (by decide) rfl (Nat.le_of_ble_eq_true rfl) (fun p e s m args below meth c ls hm B hX hM hl => ?_)
  have hC0 := hM.2.2.2.2.2.2.1
  have hW0 := hM.2.2.2
  have hF : Fr mo_X6_readSteps [] T N I J R T N I J R := Fr.rf
  have hA : ∀ q, s.heap.size ≤ q → cF dA L T N I J R s.heap.size q := fun q h => Or.inr h
  have hl : lv_has ls 5 [(0, .ref a_this), (1, .int (II a_start))] := hl
  obtain ⟨x1, e2⟩ : ∃ v, I a_this 5 = v := ⟨_, rfl⟩
  obtain ⟨x3, e4⟩ : ∃ v, I a_this 6 = v := ⟨_, rfl⟩
  have nz5 : g_S (x1).toNat = x3 := by have h9 := p_7; rw [e2, e4] at h9; exact h9
  obtain ⟨x6, e7⟩ : ∃ v, I a_this 1 = v := ⟨_, rfl⟩
  refine q_con B dX6_readSteps_0 ?_
  refine lv_istore_n (lv' := [(2, .int (II 0)), (0, .ref a_this), (1, .int (II a_start))]) B.1 B.2.1 dX6_readSteps_1 rfl hl (by decide) rfl (fun ls hl => ?_)
  refine lv_aload_n B.1 B.2.1 dX6_readSteps_2 rfl (lv_at hl 1 rfl) ?_
  refine q_con B dX6_readSteps_3 ?_
  refine c_puti (k := 12) pk_X6 B hM t_this kd7 rfl (by decide) fl_X6_150 (Or.inl rfl) dX6_readSteps_4 rfl rfl rfl (show (0 : Int) ≤ 0 from by omega) (show 0 ≤ (40 : Int) from by omega) (fun I8 H locs hu9 hM => ?_)
  have e10 : I8 a_this 12 = 0 := w2_at hu9
  replace hF : Fr mo_X6_readSteps [] T N I J R T N I8 J R := hF.wi hu9 (fun _ _ => by rw [t_this]; rfl)
  refine q_con B dX6_readSteps_7 ?_
  refine lv_istore_n (lv' := [(3, .int (II 0)), (2, .int (II 0)), (0, .ref a_this), (1, .int (II a_start))]) B.1 B.2.1 dX6_readSteps_8 rfl hl (by decide) rfl (fun ls hl => ?_)
  have LL9 : ∀ NN : Nat, ∀ (v9_2 : Int) (v9_3 : Int) (I_9 : Nat → Nat → Int) (J_9 : Nat → Nat → Int64) (H : Heap) (locs : List Loc) (ls : Array Slot), (CWd D dA eA (cF dA L T N I J R s.heap.size) s.heap L T N I_9 J_9 R H locs) → (Fr mo_X6_readSteps [] T N I J R T N I_9 J_9 R) → lv_has ls 5 [(0, .ref a_this), (1, .int (II a_start)), (2, .int (II v9_2)), (3, .int (II v9_3))] → ((-2147483648 : Int) ≤ v9_2 ∧ v9_2 ≤ 2147483647) → ((-2147483648 : Int) ≤ v9_3 ∧ v9_3 ≤ 2147483647) → (0 ≤ v9_2) → (v9_2 ≤ 16) → (0 ≤ v9_3) → (v9_3 ≤ 40) → (I_9 a_this 12 = v9_3) → (I a_this 5 + v9_3 ≤ I_9 a_this 5) → (I_9 a_this 5 ≤ g_n) → (g_S (I_9 a_this 5).toNat = I_9 a_this 6) → (I_9 a_this 1 = I a_this 1) → (0 ≤ 41 - v9_3) → (41 - v9_3 < (NN : Int)) → W p l e ({ frames := 5, cells := 0, slots := 0, locals := 151 }) s m args below meth c H locs 0 0 (MQ below (gQ D dA eA (cF dA L T N I J R s.heap.size) s.heap.size (hs s.heap) PST) args s 0 0 (cF dA L T N I J R s.heap.size)) (F0 m 9 ls []) := by
    intro NN
    induction NN with
    | zero => intro v9_2 v9_3 I_9 J_9 H locs ls hM hF hl hLL9_0 hLL9_1 hLL9_2 hLL9_3 hLL9_4 hLL9_5 hLL9_6 hLL9_7 hLL9_8 hLL9_9 hLL9_10 hLL9_11 hN; exfalso; omega
    | succ NN IH9 =>
      intro v9_2 v9_3 I_9 J_9 H locs ls hM hF hl hLL9_0 hLL9_1 hLL9_2 hLL9_3 hLL9_4 hLL9_5 hLL9_6 hLL9_7 hLL9_8 hLL9_9 hLL9_10 hLL9_11 hN
      obtain ⟨x11, e12⟩ : ∃ v, I_9 a_this 5 = v := ⟨_, rfl⟩
      obtain ⟨x13, e14⟩ : ∃ v, I_9 a_this 6 = v := ⟨_, rfl⟩
      have nz15 : g_S (x11).toNat = x13 := by have h9 := hLL9_9; rw [e12, e14] at h9; exact h9
      refine lv_iload_n B.1 B.2.1 dX6_readSteps_9 rfl (lv_at hl 3 rfl) ?_
      refine q_bip B dX6_readSteps_10 (by decide) ?_
      refine q_cgt (tgt := 190) B dX6_readSteps_12 (by decide) (by unfold inr; omega) (by unfold inr; omega) (fun c16 => absurd c16 (by omega)) (fun c16 => ?_)
      refine lv_iload_n B.1 B.2.1 dX6_readSteps_15 rfl (lv_at hl 1 rfl) ?_
      have JJ54 : ∀  (H : Heap) (locs : List Loc) (ls : Array Slot), (CWd D dA eA (cF dA L T N I J R s.heap.size) s.heap L T N I_9 J_9 R H locs) → lv_has ls 5 [(0, .ref a_this), (1, .int (II a_start)), (2, .int (II v9_2)), (3, .int (II v9_3))] → W p l e ({ frames := 5, cells := 0, slots := 0, locals := 151 }) s m args below meth c H locs 0 0 (MQ below (gQ D dA eA (cF dA L T N I J R s.heap.size) s.heap.size (hs s.heap) PST) args s 0 0 (cF dA L T N I J R s.heap.size)) (F0 m 54 ls []) := by
        intro  H locs ls hM hl 
        refine lv_aload_n B.1 B.2.1 dX6_readSteps_54 rfl (lv_at hl 0 rfl) ?_
        refine p_calli (c_runV (n := 0) (as := []) (rest := []) B hX hA hM hl.1 t_this kd7 rfl (k_X6_opHere l D dA eA L T N I_9 J_9 R a_this t_this _ _) ml_X6_182 nm_X6_opHere ⟨rfl, rfl⟩ ⟨Nat.le_of_ble_eq_true rfl, Nat.le_of_ble_eq_true rfl⟩ dX6_readSteps_55 rfl rfl (Nat.le_of_ble_eq_true rfl) ⟨Nat.zero_le _, Nat.zero_le _⟩) (fun x18 ix18 hp17 => ?_)
        have hp17a := hp17
        replace hp17a : x18 = 0 ∨ 2 ≤ I_9 a_this 6 := hp17a
        refine lv_istore (lv' := [(4, .int (II x18)), (0, .ref a_this), (1, .int (II a_start)), (2, .int (II v9_2)), (3, .int (II v9_3))]) B.1 B.2.1 dX6_readSteps_58 hl (by decide) rfl (fun ls hl => ?_)
        refine lv_iload B.1 B.2.1 dX6_readSteps_60 (lv_at hl 0 rfl) ?_
        refine q_ieq (tgt := 74) B dX6_readSteps_62 (by decide) (by unfold inr; omega) (fun c19 => ?_) (fun c19 => ?_)
        · refine lv_aload_n B.1 B.2.1 dX6_readSteps_74 rfl (lv_at hl 1 rfl) ?_
          refine q_con B dX6_readSteps_75 ?_
          have hv20 : ((-2147483648 : Int) ≤ 2 ∧ (2 : Int) ≤ 2147483647) ∧ ((2 : Int) ≠ 0) := by first | omega | exact ⟨by first | omega | assumption | exact trivial, by first | omega | assumption | exact trivial⟩
          refine z_calli hM hA (c_runV (n := 1) (as := [.int (II 2)]) (rest := []) B hX hA hM hl.1 t_this kd7 rfl (k_X6_wrong l D dA eA L T N I_9 J_9 R a_this t_this (2) hv20.1 hv20.2 _ _) ml_X6_84 nm_X6_wrong ⟨rfl, rfl⟩ ⟨Nat.le_of_ble_eq_true rfl, Nat.le_of_ble_eq_true rfl⟩ dX6_readSteps_76 rfl rfl (Nat.le_of_ble_eq_true rfl) ⟨Nat.zero_le _, Nat.zero_le _⟩) (fun x22 ix22 L23 T24 N25 I26 J27 R28 dz29 dl30 H locs hp21 hMn => ?_)
          obtain ⟨yL23, yT24, yN25, yJ27, yR28, hFc31, hp21a⟩ := hp21
          obtain rfl := yL23.symm; obtain rfl := yT24.symm; obtain rfl := yN25.symm; obtain rfl := yJ27.symm; obtain rfl := yR28.symm
          replace hF : Fr mo_X6_readSteps [] T N I J R T N I26 J_9 R := hF.trans hFc31 (by decide) e20
          have hM := hMn
          clear hMn
          replace hp21a : (0 : Int) ≤ x22 ∧ x22 ≤ 1 ∧ (x22 = 0 ∧ I26 a_this 1 ≠ 0) := hp21a
          obtain ⟨hp21a_0, hp21a_1, hp21a_2⟩ := hp21a
          obtain ⟨hp21a_2_0, hp21a_2_1⟩ := hp21a_2
          obtain ⟨x32, e33⟩ : ∃ v, I26 a_this 1 = v := ⟨_, rfl⟩
          have e34 : I26 a_this 5 = x11 := (hFc31.i t_this (by decide) nm0 rfl).trans e12
          have e35 : I26 a_this 6 = x13 := (hFc31.i t_this (by decide) nm0 rfl).trans e14
          refine g_zret B hM dX6_readSteps_79 ⟨Nat.le_refl _, Nat.le_refl _⟩ (by omega) (by omega) ?_
          rw [← hPST]
          exact ⟨x22, rfl, by omega, rfl, rfl, rfl, rfl, hF, by omega, by omega, by first | omega | assumption | exact trivial, by show g_S (I26 a_this 5).toNat = I26 a_this 6; rw [e34, e35]; first | assumption | omega, by first | omega | assumption | exact trivial, by first | omega | assumption | exact trivial⟩
        · refine lv_aload_n B.1 B.2.1 dX6_readSteps_65 rfl (lv_at hl 1 rfl) ?_
          have r36 : (0 : Int) ≤ v9_3 ∧ v9_3 ≤ 40 := by rw [← hLL9_6]; exact g7_12 hM.2.2.2.2.2.2.1 t_this
          refine c_geti (k := 12) pk_X6 B hM t_this kd7 rfl (by decide) fl_X6_150 dX6_readSteps_66 hLL9_6 ?_
          refine q_bip B dX6_readSteps_69 (by decide) ?_
          refine q_clt (tgt := 80) B dX6_readSteps_71 (by decide) (by unfold inr; omega) (by unfold inr; omega) (fun c37 => ?_) (fun c37 => ?_)
          · refine lv_iload B.1 B.2.1 dX6_readSteps_80 (lv_at hl 0 rfl) ?_
            refine q_bip B dX6_readSteps_82 (by decide) ?_
            have JJ104 : ∀  (H : Heap) (locs : List Loc) (ls : Array Slot), (CWd D dA eA (cF dA L T N I J R s.heap.size) s.heap L T N I_9 J_9 R H locs) → lv_has ls 5 [(4, .int (II x18)), (0, .ref a_this), (1, .int (II a_start)), (2, .int (II v9_2)), (3, .int (II v9_3))] → W p l e ({ frames := 5, cells := 0, slots := 0, locals := 151 }) s m args below meth c H locs 0 0 (MQ below (gQ D dA eA (cF dA L T N I J R s.heap.size) s.heap.size (hs s.heap) PST) args s 0 0 (cF dA L T N I J R s.heap.size)) (F0 m 104 ls []) := by
              intro  H locs ls hM hl 
              refine lv_iload B.1 B.2.1 dX6_readSteps_104 (lv_at hl 0 rfl) ?_
              refine lv_iload_n B.1 B.2.1 dX6_readSteps_106 rfl (lv_at hl 3 rfl) ?_
              refine lv_iload_n B.1 B.2.1 dX6_readSteps_107 rfl (lv_at hl 2 rfl) ?_
              have hv38 : ((-2147483648 : Int) ≤ x18 ∧ (x18 : Int) ≤ 2147483647) ∧ ((-2147483648 : Int) ≤ v9_2 ∧ (v9_2 : Int) ≤ 2147483647) ∧ ((0 : Int) ≤ a_start ∧ (a_start : Int) ≤ 1) ∧ (0 ≤ v9_2) ∧ (v9_2 ≤ 16) := by first | omega | exact ⟨by first | omega | assumption | exact trivial, by first | omega | assumption | exact trivial, by first | omega | assumption | exact trivial, by first | omega | assumption | exact trivial, by first | omega | assumption | exact trivial⟩
              refine p_calli (c_runS (n := 3) (as := [.int (II x18), .int (II v9_2), .int (II a_start)]) (rest := []) B hX hA hM hl.1 (k_X6_depthBehind l D dA eA L T N I_9 J_9 R x18 hv38.1 v9_2 hv38.2.1 a_start hv38.2.2.1 hv38.2.2.2.1 hv38.2.2.2.2 _ _) ml_X6_185 nm_X6_depthBehind ⟨rfl, rfl⟩ ⟨Nat.le_of_ble_eq_true rfl, Nat.le_of_ble_eq_true rfl⟩ dX6_readSteps_108 rfl rfl (Nat.le_of_ble_eq_true rfl) ⟨Nat.zero_le _, Nat.zero_le _⟩) (fun x40 ix40 hp39 => ?_)
              have hp39a := hp39
              replace hp39a : x40 = -1 ∨ (0 ≤ x40 ∧ x40 ≤ 16) := hp39a
              refine lv_istore_n (lv' := [(2, .int (II x40)), (4, .int (II x18)), (0, .ref a_this), (1, .int (II a_start)), (3, .int (II v9_3))]) B.1 B.2.1 dX6_readSteps_111 rfl hl (by decide) rfl (fun ls hl => ?_)
              refine lv_iload_n B.1 B.2.1 dX6_readSteps_112 rfl (lv_at hl 0 rfl) ?_
              refine q_con B dX6_readSteps_113 ?_
              refine q_cne (tgt := 123) B dX6_readSteps_114 (by decide) (by unfold inr; omega) (by unfold inr; omega) (fun c41 => ?_) (fun c41 => ?_)
              · refine lv_aload_n B.1 B.2.1 dX6_readSteps_123 rfl (lv_at hl 2 rfl) ?_
                obtain ⟨b42, e43, t44⟩ := g7_10 hC0 t_this
                refine c_getn (k := 10) pk_X6 B hM t_this kd7 rfl (by decide) fl_X6_29 dX6_readSteps_124 e43 ?_
                refine lv_aload_n B.1 B.2.1 dX6_readSteps_127 rfl (lv_at hl 2 rfl) ?_
                refine c_geti (k := 12) pk_X6 B hM t_this kd7 rfl (by decide) fl_X6_150 dX6_readSteps_128 hLL9_6 ?_
                refine lv_iload B.1 B.2.1 dX6_readSteps_131 (lv_at hl 1 rfl) ?_
                have n45 : 40 ≤ N b42 ∧ N b42 ≤ 40 := gn66 hM.2.2.2.2.2.2.1 t44
                refine c_ist B hM t44 kd66 aq66 dX6_readSteps_133 (by omega) (by omega) (show (-2147483648 : Int) ≤ x18 from by omega) (show x18 ≤ (2147483647 : Int) from by omega) (fun I47 H locs hu46 hM => ?_)
                have e48 : I47 b42 v9_3.toNat = x18 := w2_at hu46
                replace hF : Fr mo_X6_readSteps [] T N I J R T N I47 J_9 R := hF.wi hu46 (fun _ _ => by rw [t44, cd_arr (j := 0) (by decide)]; rfl)
                refine lv_aload_n B.1 B.2.1 dX6_readSteps_134 rfl (lv_at hl 2 rfl) ?_
                obtain ⟨b49, e50, t51⟩ := g7_11 hC0 t_this
                refine c_getn (k := 11) pk_X6 B hM t_this kd7 rfl (by decide) fl_X6_32 dX6_readSteps_135 e50 ?_
                refine lv_aload_n B.1 B.2.1 dX6_readSteps_138 rfl (lv_at hl 2 rfl) ?_
                have e52 : I47 a_this 12 = v9_3 := (w2_ne hu46 (Or.inl (tne t_this t44 (by decide)))).trans hLL9_6
                refine c_geti (k := 12) pk_X6 B hM t_this kd7 rfl (by decide) fl_X6_150 dX6_readSteps_139 e52 ?_
                refine lv_iload B.1 B.2.1 dX6_readSteps_142 (lv_at hl 1 rfl) ?_
                refine q_bip B dX6_readSteps_144 (by decide) ?_
                have JJ158 : ∀ (s158_0 : Int) (H : Heap) (locs : List Loc) (ls : Array Slot), (CWd D dA eA (cF dA L T N I J R s.heap.size) s.heap L T N I47 J_9 R H locs) → lv_has ls 5 [(2, .int (II x40)), (4, .int (II x18)), (0, .ref a_this), (1, .int (II a_start)), (3, .int (II v9_3))] → ((-2147483648 : Int) ≤ s158_0 ∧ s158_0 ≤ 2147483647) → W p l e ({ frames := 5, cells := 0, slots := 0, locals := 151 }) s m args below meth c H locs 0 0 (MQ below (gQ D dA eA (cF dA L T N I J R s.heap.size) s.heap.size (hs s.heap) PST) args s 0 0 (cF dA L T N I J R s.heap.size)) (F0 m 158 ls [.int (II s158_0), .int (II v9_3), .ref b49]) := by
                  intro s158_0 H locs ls hM hl hJJ158_0
                  have n53 : 40 ≤ N b49 ∧ N b49 ≤ 40 := gn67 hM.2.2.2.2.2.2.1 t51
                  refine c_ist B hM t51 kd67 aq67 dX6_readSteps_158 (by omega) (by omega) (show (-2147483648 : Int) ≤ s158_0 from by omega) (show s158_0 ≤ (2147483647 : Int) from by omega) (fun I55 H locs hu54 hM => ?_)
                  have e56 : I55 b49 v9_3.toNat = s158_0 := w2_at hu54
                  replace hF : Fr mo_X6_readSteps [] T N I J R T N I55 J_9 R := hF.wi hu54 (fun _ _ => by rw [t51, cd_arr (j := 0) (by decide)]; rfl)
                  refine lv_aload_n B.1 B.2.1 dX6_readSteps_159 rfl (lv_at hl 2 rfl) ?_
                  refine lv_dup B.1 B.2.1 dX6_readSteps_160 rfl ?_
                  have e57 : I55 a_this 12 = v9_3 := (w2_ne hu54 (Or.inl (tne t_this t51 (by decide)))).trans e52
                  refine c_geti (k := 12) pk_X6 B hM t_this kd7 rfl (by decide) fl_X6_150 dX6_readSteps_161 e57 ?_
                  refine q_con B dX6_readSteps_164 ?_
                  refine q_add B dX6_readSteps_165 ?_
                  refine c_puti (k := 12) pk_X6 B hM t_this kd7 rfl (by decide) fl_X6_150 (Or.inl rfl) dX6_readSteps_166 rfl rfl rfl (show (0 : Int) ≤ v9_3 + (1 : Int) from by omega) (show v9_3 + (1 : Int) ≤ (40 : Int) from by omega) (fun I58 H locs hu59 hM => ?_)
                  have e60 : I58 a_this 12 = v9_3 + (1 : Int) := w2_at hu59
                  replace hF : Fr mo_X6_readSteps [] T N I J R T N I58 J_9 R := hF.wi hu59 (fun _ _ => by rw [t_this]; rfl)
                  refine lv_iload B.1 B.2.1 dX6_readSteps_169 (lv_at hl 1 rfl) ?_
                  refine q_bip B dX6_readSteps_171 (by decide) ?_
                  refine q_cne (tgt := 180) B dX6_readSteps_173 (by decide) (by unfold inr; omega) (by unfold inr; omega) (fun c61 => ?_) (fun c61 => ?_)
                  · refine lv_aload_n B.1 B.2.1 dX6_readSteps_180 rfl (lv_at hl 2 rfl) ?_
                    have e62 : I47 a_this 5 = x11 := (w2_ne hu46 (Or.inl (tne t_this t44 (by decide)))).trans e12
                    have e63 : I55 a_this 5 = x11 := (w2_ne hu54 (Or.inl (tne t_this t51 (by decide)))).trans e62
                    have e64 : I58 a_this 5 = x11 := (w2_ne hu59 (Or.inr (by decide))).trans e63
                    have e65 : I47 a_this 6 = x13 := (w2_ne hu46 (Or.inl (tne t_this t44 (by decide)))).trans e14
                    have e66 : I55 a_this 6 = x13 := (w2_ne hu54 (Or.inl (tne t_this t51 (by decide)))).trans e65
                    have e67 : I58 a_this 6 = x13 := (w2_ne hu59 (Or.inr (by decide))).trans e66
                    have hv68 : (TKz g_S g_n) ∧ (I58 a_this 5 ≤ g_n) := by first | omega | exact ⟨by first | omega | assumption | exact trivial, by first | omega | assumption | exact trivial⟩
                    refine z_callv hM hA (c_runV (n := 0) (as := []) (rest := []) B hX hA hM hl.1 t_this kd7 rfl (k_X6_advance l D dA eA L T N I58 J_9 R a_this t_this g_t g_s g_S g_n (show R a_this 3 = g_t + 1 from p_0) (show T g_t = 3 from p_1) (show R g_t 0 = g_s + 1 from p_2) (show T g_s = 62 from p_3) (show I58 g_s = g_S from ((Fr.irow hF p_3 (by decide) nm0 (by decide)).trans p_4)) hv68.1 hv68.2 (show g_S (I58 a_this 5).toNat = I58 a_this 6 from by rw [e64, e67]; first | assumption | omega) _ _) ml_X6_87 nm_X6_advance ⟨rfl, rfl⟩ ⟨Nat.le_of_ble_eq_true rfl, Nat.le_of_ble_eq_true rfl⟩ dX6_readSteps_181 rfl rfl (Nat.le_of_ble_eq_true rfl) ⟨Nat.zero_le _, Nat.zero_le _⟩) (fun L71 T72 N73 I74 J75 R76 dz77 dl78 H locs hp69 hMn => ?_)
                    obtain ⟨yL71, yT72, yN73, yR76, hFc79, hp69a⟩ := hp69
                    obtain rfl := yL71.symm; obtain rfl := yT72.symm; obtain rfl := yN73.symm; obtain rfl := yR76.symm
                    replace hF : Fr mo_X6_readSteps [] T N I J R T N I74 J75 R := hF.trans hFc79 (by decide) e20
                    have hM := hMn
                    clear hMn
                    replace hp69a : I74 a_this 5 ≤ g_n ∧ g_S (I74 a_this 5).toNat = I74 a_this 6 ∧ (((I58 a_this 6 = 0 ∨ I58 a_this 6 = 1) ∧ I74 a_this 5 = I58 a_this 5) ∨ (I74 a_this 5 = I58 a_this 5 + 1)) := hp69a
                    obtain ⟨hp69a_0, hp69a_1, hp69a_2⟩ := hp69a
                    obtain ⟨x80, e81⟩ : ∃ v, I74 a_this 5 = v := ⟨_, rfl⟩
                    obtain ⟨x82, e83⟩ : ∃ v, I74 a_this 6 = v := ⟨_, rfl⟩
                    have nz84 : g_S (x80).toNat = x82 := by have h9 := hp69a_1; rw [e81, e83] at h9; exact h9
                    refine q_inc (lv' := [(3, .int (II (v9_3 + 1))), (2, .int (II x40)), (4, .int (II x18)), (0, .ref a_this), (1, .int (II a_start))]) B dX6_readSteps_184 hl (k := 4) rfl (by decide) rfl (fun ls hl => ?_)
                    refine lv_goto (tgt := 9) B.1 B.2.1 dX6_readSteps_187 (by decide) ?_
                    have e85 : I74 a_this 12 = v9_3 + (1 : Int) := (hFc79.i t_this (by decide) nm0 rfl).trans e60
                    have e86 : I47 a_this 1 = I a_this 1 := (w2_ne hu46 (Or.inl (tne t_this t44 (by decide)))).trans hLL9_10
                    have e87 : I55 a_this 1 = I a_this 1 := (w2_ne hu54 (Or.inl (tne t_this t51 (by decide)))).trans e86
                    have e88 : I58 a_this 1 = I a_this 1 := (w2_ne hu59 (Or.inr (by decide))).trans e87
                    have e89 : I74 a_this 1 = I a_this 1 := (hFc79.i t_this (by decide) nm0 rfl).trans e88
                    have hv90 : ((-2147483648 : Int) ≤ x40 ∧ (x40 : Int) ≤ 2147483647) ∧ ((-2147483648 : Int) ≤ v9_3 + 1 ∧ (v9_3 + 1 : Int) ≤ 2147483647) ∧ (0 ≤ x40) ∧ (x40 ≤ 16) ∧ (0 ≤ (v9_3 + 1)) ∧ ((v9_3 + 1) ≤ 40) ∧ (I74 a_this 12 = (v9_3 + 1)) ∧ (I a_this 5 + (v9_3 + 1) ≤ I74 a_this 5) ∧ (I74 a_this 5 ≤ g_n) ∧ (I74 a_this 1 = I a_this 1) ∧ (0 ≤ 41 - (v9_3 + 1)) := by first | omega | exact ⟨by first | omega | assumption | exact trivial, by first | omega | assumption | exact trivial, by first | omega | assumption | exact trivial, by first | omega | assumption | exact trivial, by first | omega | assumption | exact trivial, by first | omega | assumption | exact trivial, by first | omega | assumption | exact trivial, by first | omega | assumption | exact trivial, by first | omega | assumption | exact trivial, by first | omega | assumption | exact trivial, by first | omega | assumption | exact trivial⟩
                    exact IH9 x40 (v9_3 + 1) I74 J75 _ _ ls hM hF (lv_sub hl [3, 4, 1, 0] rfl) hv90.1 hv90.2.1 hv90.2.2.1 hv90.2.2.2.1 hv90.2.2.2.2.1 hv90.2.2.2.2.2.1 hv90.2.2.2.2.2.2.1 hv90.2.2.2.2.2.2.2.1 hv90.2.2.2.2.2.2.2.2.1 (by rw [e81, e83]; first | assumption | omega) hv90.2.2.2.2.2.2.2.2.2.1 hv90.2.2.2.2.2.2.2.2.2.2 (by omega)
                  · refine lv_aload_n B.1 B.2.1 dX6_readSteps_176 rfl (lv_at hl 2 rfl) ?_
                    have e91 : I47 a_this 5 = x11 := (w2_ne hu46 (Or.inl (tne t_this t44 (by decide)))).trans e12
                    have e92 : I55 a_this 5 = x11 := (w2_ne hu54 (Or.inl (tne t_this t51 (by decide)))).trans e91
                    have e93 : I58 a_this 5 = x11 := (w2_ne hu59 (Or.inr (by decide))).trans e92
                    have e94 : I47 a_this 6 = x13 := (w2_ne hu46 (Or.inl (tne t_this t44 (by decide)))).trans e14
                    have e95 : I55 a_this 6 = x13 := (w2_ne hu54 (Or.inl (tne t_this t51 (by decide)))).trans e94
                    have e96 : I58 a_this 6 = x13 := (w2_ne hu59 (Or.inr (by decide))).trans e95
                    have hv97 : (TKz g_S g_n) ∧ (I58 a_this 5 ≤ g_n) := by first | omega | exact ⟨by first | omega | assumption | exact trivial, by first | omega | assumption | exact trivial⟩
                    refine z_callv hM hA (c_runV (n := 0) (as := []) (rest := []) B hX hA hM hl.1 t_this kd7 rfl (k_X6_advance l D dA eA L T N I58 J_9 R a_this t_this g_t g_s g_S g_n (show R a_this 3 = g_t + 1 from p_0) (show T g_t = 3 from p_1) (show R g_t 0 = g_s + 1 from p_2) (show T g_s = 62 from p_3) (show I58 g_s = g_S from ((Fr.irow hF p_3 (by decide) nm0 (by decide)).trans p_4)) hv97.1 hv97.2 (show g_S (I58 a_this 5).toNat = I58 a_this 6 from by rw [e93, e96]; first | assumption | omega) _ _) ml_X6_87 nm_X6_advance ⟨rfl, rfl⟩ ⟨Nat.le_of_ble_eq_true rfl, Nat.le_of_ble_eq_true rfl⟩ dX6_readSteps_177 rfl rfl (Nat.le_of_ble_eq_true rfl) ⟨Nat.zero_le _, Nat.zero_le _⟩) (fun L100 T101 N102 I103 J104 R105 dz106 dl107 H locs hp98 hMn => ?_)
                    obtain ⟨yL100, yT101, yN102, yR105, hFc108, hp98a⟩ := hp98
                    obtain rfl := yL100.symm; obtain rfl := yT101.symm; obtain rfl := yN102.symm; obtain rfl := yR105.symm
                    replace hF : Fr mo_X6_readSteps [] T N I J R T N I103 J104 R := hF.trans hFc108 (by decide) e20
                    have hM := hMn
                    clear hMn
                    replace hp98a : I103 a_this 5 ≤ g_n ∧ g_S (I103 a_this 5).toNat = I103 a_this 6 ∧ (((I58 a_this 6 = 0 ∨ I58 a_this 6 = 1) ∧ I103 a_this 5 = I58 a_this 5) ∨ (I103 a_this 5 = I58 a_this 5 + 1)) := hp98a
                    obtain ⟨hp98a_0, hp98a_1, hp98a_2⟩ := hp98a
                    obtain ⟨x109, e110⟩ : ∃ v, I103 a_this 5 = v := ⟨_, rfl⟩
                    obtain ⟨x111, e112⟩ : ∃ v, I103 a_this 6 = v := ⟨_, rfl⟩
                    have nz113 : g_S (x109).toNat = x111 := by have h9 := hp98a_1; rw [e110, e112] at h9; exact h9
                    refine lv_aload_n B.1 B.2.1 dX6_readSteps_180 rfl (lv_at hl 2 rfl) ?_
                    have hv114 : (TKz g_S g_n) ∧ (I103 a_this 5 ≤ g_n) := by first | omega | exact ⟨by first | omega | assumption | exact trivial, by first | omega | assumption | exact trivial⟩
                    refine z_callv hM hA (c_runV (n := 0) (as := []) (rest := []) B hX hA hM hl.1 t_this kd7 rfl (k_X6_advance l D dA eA L T N I103 J104 R a_this t_this g_t g_s g_S g_n (show R a_this 3 = g_t + 1 from p_0) (show T g_t = 3 from p_1) (show R g_t 0 = g_s + 1 from p_2) (show T g_s = 62 from p_3) (show I103 g_s = g_S from ((Fr.irow hF p_3 (by decide) nm0 (by decide)).trans p_4)) hv114.1 hv114.2 (show g_S (I103 a_this 5).toNat = I103 a_this 6 from by rw [e110, e112]; first | assumption | omega) _ _) ml_X6_87 nm_X6_advance ⟨rfl, rfl⟩ ⟨Nat.le_of_ble_eq_true rfl, Nat.le_of_ble_eq_true rfl⟩ dX6_readSteps_181 rfl rfl (Nat.le_of_ble_eq_true rfl) ⟨Nat.zero_le _, Nat.zero_le _⟩) (fun L117 T118 N119 I120 J121 R122 dz123 dl124 H locs hp115 hMn => ?_)
                    obtain ⟨yL117, yT118, yN119, yR122, hFc125, hp115a⟩ := hp115
                    obtain rfl := yL117.symm; obtain rfl := yT118.symm; obtain rfl := yN119.symm; obtain rfl := yR122.symm
                    replace hF : Fr mo_X6_readSteps [] T N I J R T N I120 J121 R := hF.trans hFc125 (by decide) e20
                    have hM := hMn
                    clear hMn
                    replace hp115a : I120 a_this 5 ≤ g_n ∧ g_S (I120 a_this 5).toNat = I120 a_this 6 ∧ (((I103 a_this 6 = 0 ∨ I103 a_this 6 = 1) ∧ I120 a_this 5 = I103 a_this 5) ∨ (I120 a_this 5 = I103 a_this 5 + 1)) := hp115a
                    obtain ⟨hp115a_0, hp115a_1, hp115a_2⟩ := hp115a
                    obtain ⟨x126, e127⟩ : ∃ v, I120 a_this 5 = v := ⟨_, rfl⟩
                    obtain ⟨x128, e129⟩ : ∃ v, I120 a_this 6 = v := ⟨_, rfl⟩
                    have nz130 : g_S (x126).toNat = x128 := by have h9 := hp115a_1; rw [e127, e129] at h9; exact h9
                    refine q_inc (lv' := [(3, .int (II (v9_3 + 1))), (2, .int (II x40)), (4, .int (II x18)), (0, .ref a_this), (1, .int (II a_start))]) B dX6_readSteps_184 hl (k := 4) rfl (by decide) rfl (fun ls hl => ?_)
                    refine lv_goto (tgt := 9) B.1 B.2.1 dX6_readSteps_187 (by decide) ?_
                    have e131 : I103 a_this 12 = v9_3 + (1 : Int) := (hFc108.i t_this (by decide) nm0 rfl).trans e60
                    have e132 : I120 a_this 12 = v9_3 + (1 : Int) := (hFc125.i t_this (by decide) nm0 rfl).trans e131
                    have e133 : I47 a_this 1 = I a_this 1 := (w2_ne hu46 (Or.inl (tne t_this t44 (by decide)))).trans hLL9_10
                    have e134 : I55 a_this 1 = I a_this 1 := (w2_ne hu54 (Or.inl (tne t_this t51 (by decide)))).trans e133
                    have e135 : I58 a_this 1 = I a_this 1 := (w2_ne hu59 (Or.inr (by decide))).trans e134
                    have e136 : I103 a_this 1 = I a_this 1 := (hFc108.i t_this (by decide) nm0 rfl).trans e135
                    have e137 : I120 a_this 1 = I a_this 1 := (hFc125.i t_this (by decide) nm0 rfl).trans e136
                    have hv138 : ((-2147483648 : Int) ≤ x40 ∧ (x40 : Int) ≤ 2147483647) ∧ ((-2147483648 : Int) ≤ v9_3 + 1 ∧ (v9_3 + 1 : Int) ≤ 2147483647) ∧ (0 ≤ x40) ∧ (x40 ≤ 16) ∧ (0 ≤ (v9_3 + 1)) ∧ ((v9_3 + 1) ≤ 40) ∧ (I120 a_this 12 = (v9_3 + 1)) ∧ (I a_this 5 + (v9_3 + 1) ≤ I120 a_this 5) ∧ (I120 a_this 5 ≤ g_n) ∧ (I120 a_this 1 = I a_this 1) ∧ (0 ≤ 41 - (v9_3 + 1)) := by first | omega | exact ⟨by first | omega | assumption | exact trivial, by first | omega | assumption | exact trivial, by first | omega | assumption | exact trivial, by first | omega | assumption | exact trivial, by first | omega | assumption | exact trivial, by first | omega | assumption | exact trivial, by first | omega | assumption | exact trivial, by first | omega | assumption | exact trivial, by first | omega | assumption | exact trivial, by first | omega | assumption | exact trivial, by first | omega | assumption | exact trivial⟩
                    exact IH9 x40 (v9_3 + 1) I120 J121 _ _ ls hM hF (lv_sub hl [3, 4, 1, 0] rfl) hv138.1 hv138.2.1 hv138.2.2.1 hv138.2.2.2.1 hv138.2.2.2.2.1 hv138.2.2.2.2.2.1 hv138.2.2.2.2.2.2.1 hv138.2.2.2.2.2.2.2.1 hv138.2.2.2.2.2.2.2.2.1 (by rw [e127, e129]; first | assumption | omega) hv138.2.2.2.2.2.2.2.2.2.1 hv138.2.2.2.2.2.2.2.2.2.2 (by omega)
                refine q_cne (tgt := 157) B dX6_readSteps_146 (by decide) (by unfold inr; omega) (by unfold inr; omega) (fun c139 => ?_) (fun c139 => ?_)
                · refine q_con B dX6_readSteps_157 ?_
                  exact JJ158 0 _ _ ls hM (lv_sub hl [0, 1, 2, 3, 4] rfl) (by first | omega | assumption | exact trivial)
                · refine lv_aload_n B.1 B.2.1 dX6_readSteps_149 rfl (lv_at hl 2 rfl) ?_
                  obtain ⟨w140, e141⟩ : ∃ v, J_9 a_this 7 = v := ⟨_, rfl⟩
                  refine c_getl (k := 7) pk_X6 B hM t_this kd7 rfl (by decide) fl_X6_54 dX6_readSteps_150 e141 ?_
                  refine q_l2i B dX6_readSteps_153 (fun x142 ix142 => ?_)
                  unfold inr at ix142
                  refine lv_goto (tgt := 158) B.1 B.2.1 dX6_readSteps_154 (by decide) ?_
                  exact JJ158 x142 _ _ ls hM (lv_sub hl [0, 1, 2, 3, 4] rfl) (by first | omega | assumption | exact trivial)
              · refine lv_aload_n B.1 B.2.1 dX6_readSteps_117 rfl (lv_at hl 2 rfl) ?_
                refine q_con B dX6_readSteps_118 ?_
                have hv143 : ((-2147483648 : Int) ≤ 4 ∧ (4 : Int) ≤ 2147483647) ∧ ((4 : Int) ≠ 0) := by first | omega | exact ⟨by first | omega | assumption | exact trivial, by first | omega | assumption | exact trivial⟩
                refine z_calli hM hA (c_runV (n := 1) (as := [.int (II 4)]) (rest := []) B hX hA hM hl.1 t_this kd7 rfl (k_X6_wrong l D dA eA L T N I_9 J_9 R a_this t_this (4) hv143.1 hv143.2 _ _) ml_X6_84 nm_X6_wrong ⟨rfl, rfl⟩ ⟨Nat.le_of_ble_eq_true rfl, Nat.le_of_ble_eq_true rfl⟩ dX6_readSteps_119 rfl rfl (Nat.le_of_ble_eq_true rfl) ⟨Nat.zero_le _, Nat.zero_le _⟩) (fun x145 ix145 L146 T147 N148 I149 J150 R151 dz152 dl153 H locs hp144 hMn => ?_)
                obtain ⟨yL146, yT147, yN148, yJ150, yR151, hFc154, hp144a⟩ := hp144
                obtain rfl := yL146.symm; obtain rfl := yT147.symm; obtain rfl := yN148.symm; obtain rfl := yJ150.symm; obtain rfl := yR151.symm
                replace hF : Fr mo_X6_readSteps [] T N I J R T N I149 J_9 R := hF.trans hFc154 (by decide) e20
                have hM := hMn
                clear hMn
                replace hp144a : (0 : Int) ≤ x145 ∧ x145 ≤ 1 ∧ (x145 = 0 ∧ I149 a_this 1 ≠ 0) := hp144a
                obtain ⟨hp144a_0, hp144a_1, hp144a_2⟩ := hp144a
                obtain ⟨hp144a_2_0, hp144a_2_1⟩ := hp144a_2
                obtain ⟨x155, e156⟩ : ∃ v, I149 a_this 1 = v := ⟨_, rfl⟩
                have e157 : I149 a_this 5 = x11 := (hFc154.i t_this (by decide) nm0 rfl).trans e12
                have e158 : I149 a_this 6 = x13 := (hFc154.i t_this (by decide) nm0 rfl).trans e14
                refine g_zret B hM dX6_readSteps_122 ⟨Nat.le_refl _, Nat.le_refl _⟩ (by omega) (by omega) ?_
                rw [← hPST]
                exact ⟨x145, rfl, by omega, rfl, rfl, rfl, rfl, hF, by omega, by omega, by first | omega | assumption | exact trivial, by show g_S (I149 a_this 5).toNat = I149 a_this 6; rw [e157, e158]; first | assumption | omega, by first | omega | assumption | exact trivial, by first | omega | assumption | exact trivial⟩
            refine q_cne (tgt := 104) B dX6_readSteps_84 (by decide) (by unfold inr; omega) (by unfold inr; omega) (fun c159 => ?_) (fun c159 => ?_)
            · exact JJ104  _ _ ls hM (lv_sub hl [0, 1, 2, 3, 4] rfl)
            · refine lv_aload_n B.1 B.2.1 dX6_readSteps_87 rfl (lv_at hl 1 rfl) ?_
              refine p_calli (c_runV (n := 0) (as := []) (rest := []) B hX hA hM hl.1 t_this kd7 rfl (k_X6_twoEquals l D dA eA L T N I_9 J_9 R a_this t_this _ _) ml_X6_175 nm_X6_twoEquals ⟨rfl, rfl⟩ ⟨Nat.le_of_ble_eq_true rfl, Nat.le_of_ble_eq_true rfl⟩ dX6_readSteps_88 rfl rfl (Nat.le_of_ble_eq_true rfl) ⟨Nat.zero_le _, Nat.zero_le _⟩) (fun x161 ix161 hp160 => ?_)
              have hp160a := hp160
              replace hp160a : (0 : Int) ≤ x161 ∧ x161 ≤ 1 ∧ (True) := hp160a
              obtain ⟨hp160a_0, hp160a_1, hp160a_2⟩ := hp160a
              refine q_ine (tgt := 104) B dX6_readSteps_91 (by decide) (by unfold inr; omega) (fun c162 => ?_) (fun c162 => ?_)
              · exact JJ104  _ _ ls hM (lv_sub hl [0, 1, 2, 3, 4] rfl)
              · refine lv_aload_n B.1 B.2.1 dX6_readSteps_94 rfl (lv_at hl 1 rfl) ?_
                have hv163 : (TKz g_S g_n) ∧ (I_9 a_this 5 ≤ g_n) := by first | omega | exact ⟨by first | omega | assumption | exact trivial, by first | omega | assumption | exact trivial⟩
                refine z_callv hM hA (c_runV (n := 0) (as := []) (rest := []) B hX hA hM hl.1 t_this kd7 rfl (k_X6_advance l D dA eA L T N I_9 J_9 R a_this t_this g_t g_s g_S g_n (show R a_this 3 = g_t + 1 from p_0) (show T g_t = 3 from p_1) (show R g_t 0 = g_s + 1 from p_2) (show T g_s = 62 from p_3) (show I_9 g_s = g_S from ((Fr.irow hF p_3 (by decide) nm0 (by decide)).trans p_4)) hv163.1 hv163.2 (show g_S (I_9 a_this 5).toNat = I_9 a_this 6 from by rw [e12, e14]; first | assumption | omega) _ _) ml_X6_87 nm_X6_advance ⟨rfl, rfl⟩ ⟨Nat.le_of_ble_eq_true rfl, Nat.le_of_ble_eq_true rfl⟩ dX6_readSteps_95 rfl rfl (Nat.le_of_ble_eq_true rfl) ⟨Nat.zero_le _, Nat.zero_le _⟩) (fun L166 T167 N168 I169 J170 R171 dz172 dl173 H locs hp164 hMn => ?_)
                obtain ⟨yL166, yT167, yN168, yR171, hFc174, hp164a⟩ := hp164
                obtain rfl := yL166.symm; obtain rfl := yT167.symm; obtain rfl := yN168.symm; obtain rfl := yR171.symm
                replace hF : Fr mo_X6_readSteps [] T N I J R T N I169 J170 R := hF.trans hFc174 (by decide) e20
                have hM := hMn
                clear hMn
                replace hp164a : I169 a_this 5 ≤ g_n ∧ g_S (I169 a_this 5).toNat = I169 a_this 6 ∧ (((I_9 a_this 6 = 0 ∨ I_9 a_this 6 = 1) ∧ I169 a_this 5 = I_9 a_this 5) ∨ (I169 a_this 5 = I_9 a_this 5 + 1)) := hp164a
                obtain ⟨hp164a_0, hp164a_1, hp164a_2⟩ := hp164a
                obtain ⟨x175, e176⟩ : ∃ v, I169 a_this 5 = v := ⟨_, rfl⟩
                obtain ⟨x177, e178⟩ : ∃ v, I169 a_this 6 = v := ⟨_, rfl⟩
                have nz179 : g_S (x175).toNat = x177 := by have h9 := hp164a_1; rw [e176, e178] at h9; exact h9
                refine lv_aload_n B.1 B.2.1 dX6_readSteps_98 rfl (lv_at hl 1 rfl) ?_
                refine q_con B dX6_readSteps_99 ?_
                have hv180 : ((-2147483648 : Int) ≤ 2 ∧ (2 : Int) ≤ 2147483647) ∧ ((2 : Int) ≠ 0) := by first | omega | exact ⟨by first | omega | assumption | exact trivial, by first | omega | assumption | exact trivial⟩
                refine z_calli hM hA (c_runV (n := 1) (as := [.int (II 2)]) (rest := []) B hX hA hM hl.1 t_this kd7 rfl (k_X6_wrong l D dA eA L T N I169 J170 R a_this t_this (2) hv180.1 hv180.2 _ _) ml_X6_84 nm_X6_wrong ⟨rfl, rfl⟩ ⟨Nat.le_of_ble_eq_true rfl, Nat.le_of_ble_eq_true rfl⟩ dX6_readSteps_100 rfl rfl (Nat.le_of_ble_eq_true rfl) ⟨Nat.zero_le _, Nat.zero_le _⟩) (fun x182 ix182 L183 T184 N185 I186 J187 R188 dz189 dl190 H locs hp181 hMn => ?_)
                obtain ⟨yL183, yT184, yN185, yJ187, yR188, hFc191, hp181a⟩ := hp181
                obtain rfl := yL183.symm; obtain rfl := yT184.symm; obtain rfl := yN185.symm; obtain rfl := yJ187.symm; obtain rfl := yR188.symm
                replace hF : Fr mo_X6_readSteps [] T N I J R T N I186 J170 R := hF.trans hFc191 (by decide) e20
                have hM := hMn
                clear hMn
                replace hp181a : (0 : Int) ≤ x182 ∧ x182 ≤ 1 ∧ (x182 = 0 ∧ I186 a_this 1 ≠ 0) := hp181a
                obtain ⟨hp181a_0, hp181a_1, hp181a_2⟩ := hp181a
                obtain ⟨hp181a_2_0, hp181a_2_1⟩ := hp181a_2
                have e192 : I169 a_this 1 = I a_this 1 := (hFc174.i t_this (by decide) nm0 rfl).trans hLL9_10
                obtain ⟨x193, e194⟩ : ∃ v, I186 a_this 1 = v := ⟨_, rfl⟩
                have e195 : I186 a_this 5 = x175 := (hFc191.i t_this (by decide) nm0 rfl).trans e176
                have e196 : I186 a_this 6 = x177 := (hFc191.i t_this (by decide) nm0 rfl).trans e178
                refine g_zret B hM dX6_readSteps_103 ⟨Nat.le_refl _, Nat.le_refl _⟩ (by omega) (by omega) ?_
                rw [← hPST]
                exact ⟨x182, rfl, by omega, rfl, rfl, rfl, rfl, hF, by omega, by omega, by first | omega | assumption | exact trivial, by show g_S (I186 a_this 5).toNat = I186 a_this 6; rw [e195, e196]; first | assumption | omega, by first | omega | assumption | exact trivial, by first | omega | assumption | exact trivial⟩
          · refine lv_aload_n B.1 B.2.1 dX6_readSteps_74 rfl (lv_at hl 1 rfl) ?_
            refine q_con B dX6_readSteps_75 ?_
            have hv197 : ((-2147483648 : Int) ≤ 2 ∧ (2 : Int) ≤ 2147483647) ∧ ((2 : Int) ≠ 0) := by first | omega | exact ⟨by first | omega | assumption | exact trivial, by first | omega | assumption | exact trivial⟩
            refine z_calli hM hA (c_runV (n := 1) (as := [.int (II 2)]) (rest := []) B hX hA hM hl.1 t_this kd7 rfl (k_X6_wrong l D dA eA L T N I_9 J_9 R a_this t_this (2) hv197.1 hv197.2 _ _) ml_X6_84 nm_X6_wrong ⟨rfl, rfl⟩ ⟨Nat.le_of_ble_eq_true rfl, Nat.le_of_ble_eq_true rfl⟩ dX6_readSteps_76 rfl rfl (Nat.le_of_ble_eq_true rfl) ⟨Nat.zero_le _, Nat.zero_le _⟩) (fun x199 ix199 L200 T201 N202 I203 J204 R205 dz206 dl207 H locs hp198 hMn => ?_)
            obtain ⟨yL200, yT201, yN202, yJ204, yR205, hFc208, hp198a⟩ := hp198
            obtain rfl := yL200.symm; obtain rfl := yT201.symm; obtain rfl := yN202.symm; obtain rfl := yJ204.symm; obtain rfl := yR205.symm
            replace hF : Fr mo_X6_readSteps [] T N I J R T N I203 J_9 R := hF.trans hFc208 (by decide) e20
            have hM := hMn
            clear hMn
            replace hp198a : (0 : Int) ≤ x199 ∧ x199 ≤ 1 ∧ (x199 = 0 ∧ I203 a_this 1 ≠ 0) := hp198a
            obtain ⟨hp198a_0, hp198a_1, hp198a_2⟩ := hp198a
            obtain ⟨hp198a_2_0, hp198a_2_1⟩ := hp198a_2
            obtain ⟨x209, e210⟩ : ∃ v, I203 a_this 1 = v := ⟨_, rfl⟩
            have e211 : I203 a_this 5 = x11 := (hFc208.i t_this (by decide) nm0 rfl).trans e12
            have e212 : I203 a_this 6 = x13 := (hFc208.i t_this (by decide) nm0 rfl).trans e14
            refine g_zret B hM dX6_readSteps_79 ⟨Nat.le_refl _, Nat.le_refl _⟩ (by omega) (by omega) ?_
            rw [← hPST]
            exact ⟨x199, rfl, by omega, rfl, rfl, rfl, rfl, hF, by omega, by omega, by first | omega | assumption | exact trivial, by show g_S (I203 a_this 5).toNat = I203 a_this 6; rw [e211, e212]; first | assumption | omega, by first | omega | assumption | exact trivial, by first | omega | assumption | exact trivial⟩
      refine q_ieq (tgt := 38) B dX6_readSteps_16 (by decide) (by unfold inr; omega) (fun c213 => ?_) (fun c213 => ?_)
      · refine lv_aload_n B.1 B.2.1 dX6_readSteps_38 rfl (lv_at hl 0 rfl) ?_
        have r214 : (-2147483648 : Int) ≤ x13 ∧ x13 ≤ 2147483647 := by rw [← e14]; exact g7_6 hM.2.2.2.2.2.2.1 t_this
        refine c_geti (k := 6) pk_X6 B hM t_this kd7 rfl (by decide) fl_X6_47 dX6_readSteps_39 e14 ?_
        refine q_bip B dX6_readSteps_42 (by decide) ?_
        refine q_cne (tgt := 54) B dX6_readSteps_44 (by decide) (by unfold inr; omega) (by unfold inr; omega) (fun c215 => ?_) (fun c215 => ?_)
        · exact JJ54  _ _ ls hM (lv_sub hl [0, 1, 2, 3] rfl)
        · refine lv_aload_n B.1 B.2.1 dX6_readSteps_47 rfl (lv_at hl 0 rfl) ?_
          refine lv_iload_n B.1 B.2.1 dX6_readSteps_48 rfl (lv_at hl 1 rfl) ?_
          refine lv_iload_n B.1 B.2.1 dX6_readSteps_49 rfl (lv_at hl 2 rfl) ?_
          have hv216 : ((0 : Int) ≤ a_start ∧ (a_start : Int) ≤ 1) ∧ ((-2147483648 : Int) ≤ v9_2 ∧ (v9_2 : Int) ≤ 2147483647) := by first | omega | exact ⟨by first | omega | assumption | exact trivial, by first | omega | assumption | exact trivial⟩
          refine z_calli hM hA (c_runV (n := 2) (as := [.int (II a_start), .int (II v9_2)]) (rest := []) B hX hA hM hl.1 t_this kd7 rfl (k_X6_endSteps l D dA eA L T N I_9 J_9 R a_this t_this a_start hv216.1 v9_2 hv216.2 _ _) ml_X6_178 nm_X6_endSteps ⟨rfl, rfl⟩ ⟨Nat.le_of_ble_eq_true rfl, Nat.le_of_ble_eq_true rfl⟩ dX6_readSteps_50 rfl rfl (Nat.le_of_ble_eq_true rfl) ⟨Nat.zero_le _, Nat.zero_le _⟩) (fun x218 ix218 L219 T220 N221 I222 J223 R224 dz225 dl226 H locs hp217 hMn => ?_)
          obtain ⟨yL219, yT220, yN221, yJ223, yR224, hFc227, hp217a⟩ := hp217
          obtain rfl := yL219.symm; obtain rfl := yT220.symm; obtain rfl := yN221.symm; obtain rfl := yJ223.symm; obtain rfl := yR224.symm
          replace hF : Fr mo_X6_readSteps [] T N I J R T N I222 J_9 R := hF.trans hFc227 (by decide) e20
          have hM := hMn
          clear hMn
          replace hp217a : (0 : Int) ≤ x218 ∧ x218 ≤ 1 ∧ (((x218 = 0 ∧ I222 a_this 1 ≠ 0) ∨ (x218 = 1 ∧ I222 a_this 1 = I_9 a_this 1))) := hp217a
          obtain ⟨hp217a_0, hp217a_1, hp217a_2⟩ := hp217a
          obtain ⟨x228, e229⟩ : ∃ v, I222 a_this 1 = v := ⟨_, rfl⟩
          have e230 : I222 a_this 5 = x11 := (hFc227.i t_this (by decide) nm0 rfl).trans e12
          have e231 : I222 a_this 6 = x13 := (hFc227.i t_this (by decide) nm0 rfl).trans e14
          refine g_zret B hM dX6_readSteps_53 ⟨Nat.le_refl _, Nat.le_refl _⟩ (by omega) (by omega) ?_
          rw [← hPST]
          exact ⟨x218, rfl, by omega, rfl, rfl, rfl, rfl, hF, by omega, by omega, by first | omega | assumption | exact trivial, by show g_S (I222 a_this 5).toNat = I222 a_this 6; rw [e230, e231]; first | assumption | omega, by first | omega | assumption | exact trivial, by first | omega | assumption | exact trivial⟩
      · refine lv_aload_n B.1 B.2.1 dX6_readSteps_19 rfl (lv_at hl 0 rfl) ?_
        have r232 : (-2147483648 : Int) ≤ x13 ∧ x13 ≤ 2147483647 := by rw [← e14]; exact g7_6 hM.2.2.2.2.2.2.1 t_this
        refine c_geti (k := 6) pk_X6 B hM t_this kd7 rfl (by decide) fl_X6_47 dX6_readSteps_20 e14 ?_
        refine q_bip B dX6_readSteps_23 (by decide) ?_
        refine q_cne (tgt := 54) B dX6_readSteps_25 (by decide) (by unfold inr; omega) (by unfold inr; omega) (fun c233 => ?_) (fun c233 => ?_)
        · exact JJ54  _ _ ls hM (lv_sub hl [0, 1, 2, 3] rfl)
        · refine lv_aload_n B.1 B.2.1 dX6_readSteps_28 rfl (lv_at hl 0 rfl) ?_
          refine p_calli (c_runV (n := 0) (as := []) (rest := []) B hX hA hM hl.1 t_this kd7 rfl (k_X6_twoEquals l D dA eA L T N I_9 J_9 R a_this t_this _ _) ml_X6_175 nm_X6_twoEquals ⟨rfl, rfl⟩ ⟨Nat.le_of_ble_eq_true rfl, Nat.le_of_ble_eq_true rfl⟩ dX6_readSteps_29 rfl rfl (Nat.le_of_ble_eq_true rfl) ⟨Nat.zero_le _, Nat.zero_le _⟩) (fun x235 ix235 hp234 => ?_)
          have hp234a := hp234
          replace hp234a : (0 : Int) ≤ x235 ∧ x235 ≤ 1 ∧ (True) := hp234a
          obtain ⟨hp234a_0, hp234a_1, hp234a_2⟩ := hp234a
          refine q_ine (tgt := 54) B dX6_readSteps_32 (by decide) (by unfold inr; omega) (fun c236 => ?_) (fun c236 => ?_)
          · exact JJ54  _ _ ls hM (lv_sub hl [0, 1, 2, 3] rfl)
          · refine lv_goto (tgt := 47) B.1 B.2.1 dX6_readSteps_35 (by decide) ?_
            refine lv_aload_n B.1 B.2.1 dX6_readSteps_47 rfl (lv_at hl 0 rfl) ?_
            refine lv_iload_n B.1 B.2.1 dX6_readSteps_48 rfl (lv_at hl 1 rfl) ?_
            refine lv_iload_n B.1 B.2.1 dX6_readSteps_49 rfl (lv_at hl 2 rfl) ?_
            have hv237 : ((0 : Int) ≤ a_start ∧ (a_start : Int) ≤ 1) ∧ ((-2147483648 : Int) ≤ v9_2 ∧ (v9_2 : Int) ≤ 2147483647) := by first | omega | exact ⟨by first | omega | assumption | exact trivial, by first | omega | assumption | exact trivial⟩
            refine z_calli hM hA (c_runV (n := 2) (as := [.int (II a_start), .int (II v9_2)]) (rest := []) B hX hA hM hl.1 t_this kd7 rfl (k_X6_endSteps l D dA eA L T N I_9 J_9 R a_this t_this a_start hv237.1 v9_2 hv237.2 _ _) ml_X6_178 nm_X6_endSteps ⟨rfl, rfl⟩ ⟨Nat.le_of_ble_eq_true rfl, Nat.le_of_ble_eq_true rfl⟩ dX6_readSteps_50 rfl rfl (Nat.le_of_ble_eq_true rfl) ⟨Nat.zero_le _, Nat.zero_le _⟩) (fun x239 ix239 L240 T241 N242 I243 J244 R245 dz246 dl247 H locs hp238 hMn => ?_)
            obtain ⟨yL240, yT241, yN242, yJ244, yR245, hFc248, hp238a⟩ := hp238
            obtain rfl := yL240.symm; obtain rfl := yT241.symm; obtain rfl := yN242.symm; obtain rfl := yJ244.symm; obtain rfl := yR245.symm
            replace hF : Fr mo_X6_readSteps [] T N I J R T N I243 J_9 R := hF.trans hFc248 (by decide) e20
            have hM := hMn
            clear hMn
            replace hp238a : (0 : Int) ≤ x239 ∧ x239 ≤ 1 ∧ (((x239 = 0 ∧ I243 a_this 1 ≠ 0) ∨ (x239 = 1 ∧ I243 a_this 1 = I_9 a_this 1))) := hp238a
            obtain ⟨hp238a_0, hp238a_1, hp238a_2⟩ := hp238a
            obtain ⟨x249, e250⟩ : ∃ v, I243 a_this 1 = v := ⟨_, rfl⟩
            have e251 : I243 a_this 5 = x11 := (hFc248.i t_this (by decide) nm0 rfl).trans e12
            have e252 : I243 a_this 6 = x13 := (hFc248.i t_this (by decide) nm0 rfl).trans e14
            refine g_zret B hM dX6_readSteps_53 ⟨Nat.le_refl _, Nat.le_refl _⟩ (by omega) (by omega) ?_
            rw [← hPST]
            exact ⟨x239, rfl, by omega, rfl, rfl, rfl, rfl, hF, by omega, by omega, by first | omega | assumption | exact trivial, by show g_S (I243 a_this 5).toNat = I243 a_this 6; rw [e251, e252]; first | assumption | omega, by first | omega | assumption | exact trivial, by first | omega | assumption | exact trivial⟩
  have e253 : I8 a_this 5 = x1 := (w2_ne hu9 (Or.inr (by decide))).trans e2
  have e254 : I8 a_this 6 = x3 := (w2_ne hu9 (Or.inr (by decide))).trans e4
  have e255 : I8 a_this 1 = x6 := (w2_ne hu9 (Or.inr (by decide))).trans e7
  have hv256 : ((-2147483648 : Int) ≤ 0 ∧ (0 : Int) ≤ 2147483647) ∧ ((-2147483648 : Int) ≤ 0 ∧ (0 : Int) ≤ 2147483647) ∧ (0 ≤ (0 : Int)) ∧ ((0 : Int) ≤ 16) ∧ (0 ≤ (0 : Int)) ∧ ((0 : Int) ≤ 40) ∧ (I8 a_this 12 = (0 : Int)) ∧ (I a_this 5 + (0 : Int) ≤ I8 a_this 5) ∧ (I8 a_this 5 ≤ g_n) ∧ (I8 a_this 1 = I a_this 1) ∧ (0 ≤ 41 - (0 : Int)) := by first | omega | exact ⟨by first | omega | assumption | exact trivial, by first | omega | assumption | exact trivial, by first | omega | assumption | exact trivial, by first | omega | assumption | exact trivial, by first | omega | assumption | exact trivial, by first | omega | assumption | exact trivial, by first | omega | assumption | exact trivial, by first | omega | assumption | exact trivial, by first | omega | assumption | exact trivial, by first | omega | assumption | exact trivial, by first | omega | assumption | exact trivial⟩
  exact LL9 (Int.toNat (41 - (0 : Int) + 1)) 0 0 I8 J _ _ ls hM hF (lv_sub hl [2, 3, 1, 0] rfl) hv256.1 hv256.2.1 hv256.2.2.1 hv256.2.2.2.1 hv256.2.2.2.2.1 hv256.2.2.2.2.2.1 hv256.2.2.2.2.2.2.1 hv256.2.2.2.2.2.2.2.1 hv256.2.2.2.2.2.2.2.2.1 (by rw [e253, e254]; first | assumption | omega) hv256.2.2.2.2.2.2.2.2.2.1 hv256.2.2.2.2.2.2.2.2.2.2 (by omega)

def mo_X6_readRule : List Nat := [229, 230, 231, 225, 226, 2272, 2304, 203, 236, 2112, 2144, 480, 481, 482, 1600, 257, 258, 259, 260]
set_option maxHeartbeats 1000000 in
set_option maxRecDepth 20000 in
theorem k_X6_readRule (l : Launch) (D : va_G) (dA : Nat → ClassId) (eA : Nat) (L : List Nat) (T N : Nat → Nat) (I : Nat → Nat → Int) (J : Nat → Nat → Int64) (R : Nat → Nat → Nat) (a_this : Nat) (t_this : T a_this = 7) (g_t : Nat) (g_s : Nat) (g_S : Nat → Int) (g_n : Int) (p_0 : R a_this 3 = g_t + 1) (p_1 : T g_t = 3) (p_2 : R g_t 0 = g_s + 1) (p_3 : T g_s = 62) (p_4 : I g_s = g_S) (p_5 : TKz g_S g_n) (p_6 : I a_this 5 ≤ g_n) (p_7 : g_S (I a_this 5).toNat = I a_this 6) : GC l yX6_readRule cX6_readRule 3 (some .boolean) ({ frames := 7, cells := 8, slots := 211, locals := 241 }) D dA eA L T N I J R [.ref a_this] 8 211 (gI (fun r L' T' N' I' J' R' dz dl => Fr mo_X6_readRule [] T N I J R T' N' I' J' R' ∧ (0 : Int) ≤ r ∧ r ≤ 1 ∧ (I' a_this 5 ≤ g_n ∧ g_S (I' a_this 5).toNat = I' a_this 6 ∧ I a_this 5 ≤ I' a_this 5 ∧ ((r = 0 ∧ I' a_this 1 ≠ 0) ∨ (r = 1 ∧ I' a_this 1 = I a_this 1 ∧ I a_this 5 + 1 ≤ I' a_this 5)) ∧ (dz : Int) ≤ 20 * (I' a_this 5 - I a_this 5) ∧ (dl : Int) ≤ 300 * (I' a_this 5 - I a_this 5) ∧ dz ≤ 8 ∧ dl ≤ 211))) := by
  generalize hPST : (gI (fun r L' T' N' I' J' R' dz dl => Fr mo_X6_readRule [] T N I J R T' N' I' J' R' ∧ (0 : Int) ≤ r ∧ r ≤ 1 ∧ (I' a_this 5 ≤ g_n ∧ g_S (I' a_this 5).toNat = I' a_this 6 ∧ I a_this 5 ≤ I' a_this 5 ∧ ((r = 0 ∧ I' a_this 1 ≠ 0) ∨ (r = 1 ∧ I' a_this 1 = I a_this 1 ∧ I a_this 5 + 1 ≤ I' a_this 5)) ∧ (dz : Int) ≤ 20 * (I' a_this 5 - I a_this 5) ∧ (dl : Int) ≤ 300 * (I' a_this 5 - I a_this 5) ∧ dz ≤ 8 ∧ dl ≤ 211))) = PST
  refine g_enter (own := RX6) (by decide) rfl (Nat.le_of_ble_eq_true rfl) (fun p e s m args below meth c ls hm B hX hM hl => ?_)
  have hC0 := hM.2.2.2.2.2.2.1
  have hW0 := hM.2.2.2
  have hF : Fr mo_X6_readRule [] T N I J R T N I J R := Fr.rf
  have hA : ∀ q, s.heap.size ≤ q → cF dA L T N I J R s.heap.size q := fun q h => Or.inr h
  have hl : lv_has ls 3 [(0, .ref a_this)] := hl
  obtain ⟨x1, e2⟩ : ∃ v, I a_this 5 = v := ⟨_, rfl⟩
  obtain ⟨x3, e4⟩ : ∃ v, I a_this 6 = v := ⟨_, rfl⟩
  have nz5 : g_S (x1).toNat = x3 := by have h9 := p_7; rw [e2, e4] at h9; exact h9
  obtain ⟨x6, e7⟩ : ∃ v, I a_this 1 = v := ⟨_, rfl⟩
  refine lv_aload_n B.1 B.2.1 dX6_readRule_0 rfl (lv_at hl 0 rfl) ?_
  obtain ⟨b8, e9, t10⟩ := g7_0 hC0 t_this
  refine c_getn (k := 0) pk_X6 B hM t_this kd7 rfl (by decide) fl_X6_22 dX6_readRule_1 e9 ?_
  obtain ⟨b11, e12, t13⟩ := g6_0 hC0 t10
  refine c_getn (k := 0) pk_X0 B hM t10 kd6 rfl (by decide) fl_X6_131 dX6_readRule_4 e12 ?_
  have hv14 : (15 ≤ 15) ∧ (15 ≤ 23) := by first | omega | exact ⟨by first | omega | assumption | exact trivial, by first | omega | assumption | exact trivial⟩
  refine p_calli (c_runV (n := 0) (as := []) (rest := []) B hX hA hM hl.1 t13 kd15 rfl (k_Jx4a65c_size_8abf5 l D dA eA L T N I J R b11 t13 hv14.1 hv14.2 _ _) ml_X6_135 nm_Jx4a65c_size_8abf5 ⟨rfl, rfl⟩ ⟨Nat.le_of_ble_eq_true rfl, Nat.le_of_ble_eq_true rfl⟩ dX6_readRule_7 rfl rfl (Nat.le_of_ble_eq_true rfl) ⟨by show 0 + 0 ≤ 8; omega, by show 0 + 0 ≤ 211; omega⟩) (fun x16 ix16 hp15 => ?_)
  have hp15a := hp15
  replace hp15a : I b11 2 = x16 ∧ 0 ≤ x16 ∧ x16 ≤ 16 := hp15a
  obtain ⟨hp15a_0, hp15a_1, hp15a_2⟩ := hp15a
  refine lv_istore_n (lv' := [(1, .int (II x16)), (0, .ref a_this)]) B.1 B.2.1 dX6_readRule_10 rfl hl (by decide) rfl (fun ls hl => ?_)
  refine lv_aload_n B.1 B.2.1 dX6_readRule_11 rfl (lv_at hl 1 rfl) ?_
  refine q_con B dX6_readRule_12 ?_
  refine lv_iload_n B.1 B.2.1 dX6_readRule_13 rfl (lv_at hl 0 rfl) ?_
  refine q_bip B dX6_readRule_14 (by decide) ?_
  have hv17 : ((-2147483648 : Int) ≤ 3 ∧ (3 : Int) ≤ 2147483647) ∧ ((-2147483648 : Int) ≤ x16 ∧ (x16 : Int) ≤ 2147483647) ∧ ((-2147483648 : Int) ≤ 16 ∧ (16 : Int) ≤ 2147483647) ∧ (TKz g_S g_n) ∧ (I a_this 5 ≤ g_n) := by first | omega | exact ⟨by first | omega | assumption | exact trivial, by first | omega | assumption | exact trivial, by first | omega | assumption | exact trivial, by first | omega | assumption | exact trivial, by first | omega | assumption | exact trivial⟩
  refine z_calli hM hA (c_runV (n := 3) (as := [.int (II 3), .int (II x16), .int (II 16)]) (rest := []) B hX hA hM hl.1 t_this kd7 rfl (k_X6_readHead l D dA eA L T N I J R a_this t_this (3) hv17.1 x16 hv17.2.1 (16) hv17.2.2.1 g_t g_s g_S g_n (show R a_this 3 = g_t + 1 from p_0) (show T g_t = 3 from p_1) (show R g_t 0 = g_s + 1 from p_2) (show T g_s = 62 from p_3) (show I g_s = g_S from p_4) hv17.2.2.2.1 hv17.2.2.2.2 (show g_S (I a_this 5).toNat = I a_this 6 from by rw [e2, e4]; first | assumption | omega) _ _) ml_X6_111 nm_X6_readHead ⟨rfl, rfl⟩ ⟨Nat.le_of_ble_eq_true rfl, Nat.le_of_ble_eq_true rfl⟩ dX6_readRule_16 rfl rfl (Nat.le_of_ble_eq_true rfl) ⟨by show 0 + 0 ≤ 8; omega, by show 0 + 0 ≤ 211; omega⟩) (fun x19 ix19 L20 T21 N22 I23 J24 R25 dz26 dl27 H locs hp18 hMn => ?_)
  obtain ⟨yL20, yT21, yN22, yR25, hFc28, hp18a⟩ := hp18
  obtain rfl := yL20.symm; obtain rfl := yT21.symm; obtain rfl := yN22.symm; obtain rfl := yR25.symm
  replace hF : Fr mo_X6_readRule [] T N I J R T N I23 J24 R := hF.trans hFc28 (by decide) e20
  have hM := hMn
  clear hMn
  replace hp18a : (0 : Int) ≤ x19 ∧ x19 ≤ 1 ∧ (I23 a_this 5 ≤ g_n ∧ g_S (I23 a_this 5).toNat = I23 a_this 6 ∧ I a_this 5 ≤ I23 a_this 5 ∧ ((x19 = 0 ∧ I23 a_this 1 ≠ 0) ∨ (x19 = 1 ∧ I23 a_this 1 = I a_this 1 ∧ I a_this 5 + 1 ≤ I23 a_this 5)) ∧ (x19 = 0 ∨ x16 < (16 : Int))) := hp18a
  obtain ⟨hp18a_0, hp18a_1, hp18a_2⟩ := hp18a
  obtain ⟨hp18a_2_0, hp18a_2_1, hp18a_2_2, hp18a_2_3, hp18a_2_4⟩ := hp18a_2
  obtain ⟨x29, e30⟩ : ∃ v, I23 a_this 5 = v := ⟨_, rfl⟩
  obtain ⟨x31, e32⟩ : ∃ v, I23 a_this 6 = v := ⟨_, rfl⟩
  have nz33 : g_S (x29).toNat = x31 := by have h9 := hp18a_2_1; rw [e30, e32] at h9; exact h9
  obtain ⟨x34, e35⟩ : ∃ v, I23 a_this 1 = v := ⟨_, rfl⟩
  refine q_ine (tgt := 24) B dX6_readRule_19 (by decide) (by unfold inr; omega) (fun c36 => ?_) (fun c36 => ?_)
  · have hMo := hM
    refine c_new (t := 36) pk_X7 B hX.out hA hM kd36 df_X7 rfl rfl (by decide) cl_X6_141 in_X7 ini_X7 (by show 0 + 1 ≤ 8; omega) (by show 0 + 11 ≤ 211; omega) dX6_readRule_24 (fun b37 L38 T39 N40 H t41 hT42 hN43 hM => ?_)
    have t44 : T39 b37 = 36 := by rw [hT42, va_up_self]
    have n45 : N40 b37 = 11 := by rw [hN43, va_up_self]
    replace hF : Fr mo_X6_readRule [] T N I J R T39 N40 I23 J24 R := hF.new t41 hT42 hN43
    have zz46 := hMo.2.2.2.2.2.1 b37 t41
    clear hMo
    refine lv_dup B.1 B.2.1 dX6_readRule_27 rfl ?_
    refine lv_iload_n B.1 B.2.1 dX6_readRule_28 rfl (lv_at hl 0 rfl) ?_
    refine g_callv hM hA (c_runI (n := 1) (as := [.int (II x16)]) (rest := [.ref b37]) B hX hA hM hl.1 (k_X7_init l D dA eA L38 T39 N40 I23 J24 R b37 t44 x16 (by first | omega | assumption | exact trivial) zz46 _ _) ml_X6_143 nm_X7_init ⟨rfl, rfl⟩ ⟨Nat.le_of_ble_eq_true rfl, Nat.le_of_ble_eq_true rfl⟩ dX6_readRule_29 rfl rfl (Nat.le_of_ble_eq_true rfl) ⟨by show 0 + 1 + 2 ≤ 8; omega, by show 0 + 11 + 16 ≤ 211; omega⟩) (fun L49 T50 N51 I52 J53 R54 dz55 dl56 H locs hp47 hMn => ?_)
    obtain ⟨yJ53, hFc57, hp47a⟩ := hp47
    obtain rfl := yJ53.symm
    have t58 : T39 a_this = 7 := hF.tt t_this (by decide) nm0
    have t59 : T39 g_t = 3 := hF.tt p_1 (by decide) nm0
    have t60 : T39 g_s = 62 := hF.tt p_3 (by decide) nm0
    have t61 : T39 b8 = 6 := hF.tt t10 (by decide) nm0
    have t62 : T39 b11 = 15 := hF.tt t13 (by decide) nm0
    replace hF : Fr mo_X6_readRule [] T N I J R T50 N51 I52 J24 R54 := hF.trans hFc57 (by decide) (e2x (fun h => absurd t41 h))
    have hM := hMn
    clear hMn
    obtain ⟨t63, hp47a⟩ := hp47a
    replace hp47a : dz55 ≤ 2 ∧ dl56 ≤ 16 := hp47a
    obtain ⟨hp47a_0, hp47a_1⟩ := hp47a
    refine lv_astore_n (lv' := [(2, .ref b37), (1, .int (II x16)), (0, .ref a_this)]) B.1 B.2.1 dX6_readRule_32 rfl hl (by decide) rfl (fun ls hl => ?_)
    refine lv_aload_n B.1 B.2.1 dX6_readRule_33 rfl (lv_at hl 2 rfl) ?_
    have t64 : T50 a_this = 7 := hF.tt t_this (by decide) nm0
    have e65 : R54 a_this 0 = b8 + 1 := (hF.r t_this (by decide) nm0 rfl).trans e9
    refine c_getn (k := 0) pk_X6 B hM t64 kd7 rfl (by decide) fl_X6_22 dX6_readRule_34 e65 ?_
    have t66 : T50 b8 = 6 := hF.tt t10 (by decide) nm0
    have e67 : R54 b8 0 = b11 + 1 := (hF.r t10 (by decide) nm0 rfl).trans e12
    refine c_getn (k := 0) pk_X0 B hM t66 kd6 rfl (by decide) fl_X6_131 dX6_readRule_37 e67 ?_
    refine lv_aload_n B.1 B.2.1 dX6_readRule_40 rfl (lv_at hl 0 rfl) ?_
    have t68 : T50 b11 = 15 := hF.tt t13 (by decide) nm0
    have e69 : I23 b11 2 = x16 := (hFc28.i t13 (by decide) nm0 rfl).trans hp15a_0
    have e70 : I52 b11 2 = x16 := (hFc57.i t62 (by decide) (nm1 (tne t62 t44 (by decide))) rfl).trans e69
    obtain ⟨x71, e72⟩ : ∃ v, I52 b37 0 = v := ⟨_, rfl⟩
    have hv73 : (15 ≤ 15) ∧ (15 ≤ 23) ∧ (I52 b11 2 < 16) ∧ (15 = 18 → I52 b37 0 ≤ I52 b11 2) := by first | omega | exact ⟨by first | omega | assumption | exact trivial, by first | omega | assumption | exact trivial, by first | omega | assumption | exact trivial, by first | omega | assumption | exact trivial⟩
    refine g_calli hM hA (c_runV (n := 1) (as := [.ref b37]) (rest := []) B hX hA hM hl.1 t68 kd15 rfl (k_Jx4a65c_add_9ea2d l D dA eA L49 T50 N51 I52 J24 R54 b11 t68 b37 t63 hv73.1 hv73.2.1 hv73.2.2.1 hv73.2.2.2 _ _) ml_X6_146 nm_Jx4a65c_add_9ea2d ⟨rfl, rfl⟩ ⟨Nat.le_of_ble_eq_true rfl, Nat.le_of_ble_eq_true rfl⟩ dX6_readRule_41 rfl rfl (Nat.le_of_ble_eq_true rfl) ⟨by show 0 + 1 + dz55 + 1 ≤ 8; omega, by show 0 + 11 + dl56 + 24 ≤ 211; omega⟩) (fun x75 ix75 L76 T77 N78 I79 J80 R81 dz82 dl83 H locs hp74 hMn => ?_)
    obtain ⟨yJ80, hFc84, hp74a⟩ := hp74
    obtain rfl := yJ80.symm
    have t85 : T50 g_t = 3 := hF.tt p_1 (by decide) nm0
    have t86 : T50 g_s = 62 := hF.tt p_3 (by decide) nm0
    replace hF : Fr mo_X6_readRule [] T N I J R T77 N78 I79 J24 R81 := hF.trans hFc84 (by decide) e20
    have hM := hMn
    clear hMn
    replace hp74a : (0 : Int) ≤ x75 ∧ x75 ≤ 1 ∧ (I79 b11 2 = I52 b11 2 + 1 ∧ R81 (R81 b11 1 - 1) (I52 b11 2).toNat = b37 + 1 ∧ (∀ i : Nat, (i : Int) < I52 b11 2 → R81 (R81 b11 1 - 1) i = R54 (R54 b11 1 - 1) i) ∧ (∀ b, T50 b = 15 → b ≠ b11 → I79 b 2 = I52 b 2) ∧ dz82 ≤ 1 ∧ dl83 ≤ 24 ∧ dl83 + 3 * N51 (R54 b11 1 - 1) ≤ 3 * N78 (R81 b11 1 - 1) + 2) := hp74a
    obtain ⟨hp74a_0, hp74a_1, hp74a_2⟩ := hp74a
    obtain ⟨hp74a_2_0, hp74a_2_1, hp74a_2_2, hp74a_2_3, hp74a_2_4, hp74a_2_5, hp74a_2_6⟩ := hp74a_2
    obtain ⟨v87, e88⟩ : ∃ v, R81 b11 1 = v := ⟨_, rfl⟩
    refine lv_pop B.1 B.2.1 dX6_readRule_44 rfl ?_
    refine lv_aload_n B.1 B.2.1 dX6_readRule_45 rfl (lv_at hl 2 rfl) ?_
    refine q_con B dX6_readRule_46 ?_
    have t89 : T77 a_this = 7 := hF.tt t_this (by decide) nm0
    refine c_puti (k := 12) pk_X6 B hM t89 kd7 rfl (by decide) fl_X6_150 (Or.inl rfl) dX6_readRule_47 rfl rfl rfl (show (0 : Int) ≤ 0 from by omega) (show 0 ≤ (40 : Int) from by omega) (fun I90 H locs hu91 hM => ?_)
    have e92 : I90 a_this 12 = 0 := w2_at hu91
    replace hF : Fr mo_X6_readRule [] T N I J R T77 N78 I90 J24 R81 := hF.wi hu91 (fun _ _ => by rw [t_this]; rfl)
    refine lv_aload_n B.1 B.2.1 dX6_readRule_50 rfl (lv_at hl 2 rfl) ?_
    refine q_con B dX6_readRule_51 ?_
    refine p_calli (c_runV (n := 1) (as := [.int (II 3)]) (rest := []) B hX hA hM hl.1 t89 kd7 rfl (k_X6_isWord l D dA eA L76 T77 N78 I90 J24 R81 a_this t89 (3) (by first | omega | assumption | exact trivial) _ _) ml_X6_64 nm_X6_isWord ⟨rfl, rfl⟩ ⟨Nat.le_of_ble_eq_true rfl, Nat.le_of_ble_eq_true rfl⟩ dX6_readRule_52 rfl rfl (Nat.le_of_ble_eq_true rfl) ⟨by show 0 + 1 + dz55 + dz82 + 0 ≤ 8; omega, by show 0 + 11 + dl56 + dl83 + 0 ≤ 211; omega⟩) (fun x94 ix94 hp93 => ?_)
    have hp93a := hp93
    replace hp93a : (0 : Int) ≤ x94 ∧ x94 ≤ 1 ∧ (True) := hp93a
    obtain ⟨hp93a_0, hp93a_1, hp93a_2⟩ := hp93a
    have e95 : R81 a_this 3 = g_t + 1 := (hF.r t_this (by decide) nm0 rfl).trans p_0
    have e96 : R81 g_t 0 = g_s + 1 := (hF.r p_1 (by decide) nm0 rfl).trans p_2
    have e97 : R81 a_this 0 = b8 + 1 := (hF.r t_this (by decide) nm0 rfl).trans e9
    have e98 : R81 b8 0 = b11 + 1 := (hF.r t10 (by decide) nm0 rfl).trans e12
    have t99 : T77 g_t = 3 := hF.tt p_1 (by decide) nm0
    have t100 : T77 g_s = 62 := hF.tt p_3 (by decide) nm0
    have t101 : T77 b8 = 6 := hF.tt t10 (by decide) nm0
    have t102 : T77 b11 = 15 := hF.tt t13 (by decide) nm0
    have t103 : T77 b37 = 8 := hFc84.tt t63 (by decide) nm0
    have JJ72 : ∀ (I_72 : Nat → Nat → Int) (J_72 : Nat → Nat → Int64) (H : Heap) (locs : List Loc) (ls : Array Slot), (CWd D dA eA (cF dA L T N I J R s.heap.size) s.heap L76 T77 N78 I_72 J_72 R81 H locs) → (Fr mo_X6_readRule [] T N I J R T77 N78 I_72 J_72 R81) → lv_has ls 3 [(2, .ref b37), (1, .int (II x16)), (0, .ref a_this)] → (I a_this 5 + 1 ≤ I_72 a_this 5) → (I_72 a_this 5 ≤ g_n) → (g_S (I_72 a_this 5).toNat = I_72 a_this 6) → (I_72 a_this 1 = I a_this 1) → W p l e ({ frames := 7, cells := 8, slots := 211, locals := 241 }) s m args below meth c H locs (0 + 1 + dz55 + dz82) (0 + 11 + dl56 + dl83) (MQ below (gQ D dA eA (cF dA L T N I J R s.heap.size) s.heap.size (hs s.heap) PST) args s 8 211 (cF dA L T N I J R s.heap.size)) (F0 m 72 ls []) := by
      intro I_72 J_72 H locs ls hM hF hl hJJ72_0 hJJ72_1 hJJ72_2 hJJ72_3
      obtain ⟨x104, e105⟩ : ∃ v, I_72 a_this 5 = v := ⟨_, rfl⟩
      obtain ⟨x106, e107⟩ : ∃ v, I_72 a_this 6 = v := ⟨_, rfl⟩
      have nz108 : g_S (x104).toNat = x106 := by have h9 := hJJ72_2; rw [e105, e107] at h9; exact h9
      refine lv_aload_n B.1 B.2.1 dX6_readRule_72 rfl (lv_at hl 0 rfl) ?_
      refine lv_aload_n B.1 B.2.1 dX6_readRule_73 rfl (lv_at hl 2 rfl) ?_
      obtain ⟨b109, e110, t111⟩ := g7_10 hC0 t_this
      have e112 : R81 a_this 10 = b109 + 1 := (hF.r t_this (by decide) nm0 rfl).trans e110
      refine c_getn (k := 10) pk_X6 B hM t89 kd7 rfl (by decide) fl_X6_29 dX6_readRule_74 e112 ?_
      refine lv_aload_n B.1 B.2.1 dX6_readRule_77 rfl (lv_at hl 2 rfl) ?_
      obtain ⟨x113, e114⟩ : ∃ v, I_72 a_this 12 = v := ⟨_, rfl⟩
      have r115 : (0 : Int) ≤ x113 ∧ x113 ≤ 40 := by rw [← e114]; exact g7_12 hM.2.2.2.2.2.2.1 t89
      refine c_geti (k := 12) pk_X6 B hM t89 kd7 rfl (by decide) fl_X6_150 dX6_readRule_78 e114 ?_
      have t116 : T77 b109 = 66 := hF.tt t111 (by decide) nm0
      have hv117 : ((-2147483648 : Int) ≤ x113 ∧ (x113 : Int) ≤ 2147483647) ∧ (0 ≤ x113) ∧ (0 ≤ x113.toNat) ∧ (x113.toNat ≤ 40) := by first | omega | exact ⟨by first | omega | assumption | exact trivial, by first | omega | assumption | exact trivial, by first | omega | assumption | exact trivial, by first | omega | assumption | exact trivial⟩
      refine g_callr hM hA (c_runS (n := 2) (as := [.ref b109, .int (II x113)]) (rest := [.ref b37]) B hX hA hM hl.1 (k_J7_copyOf_59c91 l D dA eA L76 T77 N78 I_72 J_72 R81 b109 t116 x113 hv117.1 73 kd66 kd73 (by decide +kernel) hv117.2.1 hv117.2.2.1 hv117.2.2.2 _ _) ml_X6_157 nm_J7_copyOf_59c91 ⟨rfl, rfl⟩ ⟨Nat.le_of_ble_eq_true rfl, Nat.le_of_ble_eq_true rfl⟩ dX6_readRule_81 rfl rfl (Nat.le_of_ble_eq_true rfl) ⟨by show 0 + 1 + dz55 + dz82 + 1 ≤ 8; omega, by show 0 + 11 + dl56 + dl83 + x113.toNat ≤ 211; omega⟩) (fun b119 L120 T121 N122 I123 J124 R125 dz126 dl127 H locs hp118 hMn => ?_)
      obtain ⟨yJ124, yR125, hFc128, tb119, hp118a⟩ := hp118
      obtain rfl := yJ124.symm; obtain rfl := yR125.symm
      replace hF : Fr mo_X6_readRule [] T N I J R T121 N122 I123 J_72 R81 := hF.trans hFc128 (by decide) e20
      have hM := hMn
      clear hMn
      replace hp118a : N122 b119 = x113.toNat ∧ T77 b119 = 0 ∧ dz126 ≤ 1 ∧ dl127 ≤ x113.toNat := hp118a
      obtain ⟨hp118a_0, hp118a_1, hp118a_2, hp118a_3⟩ := hp118a
      have t129 : T121 b37 = 8 := hFc128.tt t103 (by decide) nm0
      refine c_putr (k := 1) (v := b119 + 1) pk_X7 B hM t129 kd8 rfl (by decide) fl_X6_163 (Or.inl rfl) dX6_readRule_84 rfl rfl ⟨rfl, fun _ => rfl, rfl, fun _ => rfl⟩ (rokR tb119 rfl) (fun R130 H locs hu131 hM => ?_)
      have e132 : R130 b37 1 = b119 + 1 := w2_at hu131
      replace hF : Fr mo_X6_readRule [] T N I J R T121 N122 I123 J_72 R130 := hF.wr hu131 (fun h _ => absurd t41 h)
      refine lv_aload_n B.1 B.2.1 dX6_readRule_87 rfl (lv_at hl 0 rfl) ?_
      refine lv_aload_n B.1 B.2.1 dX6_readRule_88 rfl (lv_at hl 2 rfl) ?_
      have t133 : T121 a_this = 7 := hF.tt t_this (by decide) nm0
      obtain ⟨b134, e135, t136⟩ := g7_11 hC0 t_this
      have e137 : R130 a_this 11 = b134 + 1 := (hF.r t_this (by decide) nm0 rfl).trans e135
      refine c_getn (k := 11) pk_X6 B hM t133 kd7 rfl (by decide) fl_X6_32 dX6_readRule_89 e137 ?_
      refine lv_aload_n B.1 B.2.1 dX6_readRule_92 rfl (lv_at hl 2 rfl) ?_
      have e138 : I123 a_this 12 = x113 := (hFc128.i t89 (by decide) nm0 rfl).trans e114
      refine c_geti (k := 12) pk_X6 B hM t133 kd7 rfl (by decide) fl_X6_150 dX6_readRule_93 e138 ?_
      have t139 : T121 b134 = 67 := hF.tt t136 (by decide) nm0
      have hv140 : ((-2147483648 : Int) ≤ x113 ∧ (x113 : Int) ≤ 2147483647) ∧ (0 ≤ x113) ∧ (0 ≤ x113.toNat) ∧ (x113.toNat ≤ 40) := by first | omega | exact ⟨by first | omega | assumption | exact trivial, by first | omega | assumption | exact trivial, by first | omega | assumption | exact trivial, by first | omega | assumption | exact trivial⟩
      refine g_callr hM hA (c_runS (n := 2) (as := [.ref b134, .int (II x113)]) (rest := [.ref b37]) B hX hA hM hl.1 (k_J7_copyOf_59c91 l D dA eA L120 T121 N122 I123 J_72 R130 b134 t139 x113 hv140.1 73 kd67 kd73 (by decide +kernel) hv140.2.1 hv140.2.2.1 hv140.2.2.2 _ _) ml_X6_157 nm_J7_copyOf_59c91 ⟨rfl, rfl⟩ ⟨Nat.le_of_ble_eq_true rfl, Nat.le_of_ble_eq_true rfl⟩ dX6_readRule_96 rfl rfl (Nat.le_of_ble_eq_true rfl) ⟨by show 0 + 1 + dz55 + dz82 + dz126 + 1 ≤ 8; omega, by show 0 + 11 + dl56 + dl83 + dl127 + x113.toNat ≤ 211; omega⟩) (fun b142 L143 T144 N145 I146 J147 R148 dz149 dl150 H locs hp141 hMn => ?_)
      obtain ⟨yJ147, yR148, hFc151, tb142, hp141a⟩ := hp141
      obtain rfl := yJ147.symm; obtain rfl := yR148.symm
      have t152 : T121 g_t = 3 := hF.tt p_1 (by decide) nm0
      have t153 : T121 g_s = 62 := hF.tt p_3 (by decide) nm0
      have t154 : T121 b8 = 6 := hF.tt t10 (by decide) nm0
      have t155 : T121 b11 = 15 := hF.tt t13 (by decide) nm0
      have t156 : T121 b109 = 66 := hF.tt t111 (by decide) nm0
      replace hF : Fr mo_X6_readRule [] T N I J R T144 N145 I146 J_72 R130 := hF.trans hFc151 (by decide) e20
      have hM := hMn
      clear hMn
      replace hp141a : N145 b142 = x113.toNat ∧ T121 b142 = 0 ∧ dz149 ≤ 1 ∧ dl150 ≤ x113.toNat := hp141a
      obtain ⟨hp141a_0, hp141a_1, hp141a_2, hp141a_3⟩ := hp141a
      have t157 : T144 b37 = 8 := hFc151.tt t129 (by decide) nm0
      refine c_putr (k := 2) (v := b142 + 1) pk_X7 B hM t157 kd8 rfl (by decide) fl_X6_166 (Or.inl rfl) dX6_readRule_99 rfl rfl ⟨rfl, fun _ => rfl, rfl, fun _ => rfl⟩ (rokR tb142 rfl) (fun R158 H locs hu159 hM => ?_)
      have e160 : R158 b37 2 = b142 + 1 := w2_at hu159
      replace hF : Fr mo_X6_readRule [] T N I J R T144 N145 I146 J_72 R158 := hF.wr hu159 (fun h _ => absurd t41 h)
      refine lv_aload_n B.1 B.2.1 dX6_readRule_102 rfl (lv_at hl 2 rfl) ?_
      refine q_bip B dX6_readRule_103 (by decide) ?_
      have t161 : T144 a_this = 7 := hF.tt t_this (by decide) nm0
      have e162 : R158 a_this 3 = g_t + 1 := (hF.r t_this (by decide) nm0 rfl).trans p_0
      have e163 : R158 g_t 0 = g_s + 1 := (hF.r p_1 (by decide) nm0 rfl).trans p_2
      have t164 : T144 g_t = 3 := hF.tt p_1 (by decide) nm0
      have t165 : T144 g_s = 62 := hF.tt p_3 (by decide) nm0
      have e166 : I123 a_this 5 = x104 := (hFc128.i t89 (by decide) nm0 rfl).trans e105
      have e167 : I146 a_this 5 = x104 := (hFc151.i t133 (by decide) nm0 rfl).trans e166
      have e168 : I123 a_this 6 = x106 := (hFc128.i t89 (by decide) nm0 rfl).trans e107
      have e169 : I146 a_this 6 = x106 := (hFc151.i t133 (by decide) nm0 rfl).trans e168
      have hv170 : ((-2147483648 : Int) ≤ 61 ∧ (61 : Int) ≤ 2147483647) ∧ (TKz g_S g_n) ∧ (I146 a_this 5 ≤ g_n) ∧ ((61 : Int) ≠ 0) ∧ ((61 : Int) ≠ 1) := by first | omega | exact ⟨by first | omega | assumption | exact trivial, by first | omega | assumption | exact trivial, by first | omega | assumption | exact trivial, by first | omega | assumption | exact trivial, by first | omega | assumption | exact trivial⟩
      refine z_calli hM hA (c_runV (n := 1) (as := [.int (II 61)]) (rest := []) B hX hA hM hl.1 t161 kd7 rfl (k_X6_readSign l D dA eA L143 T144 N145 I146 J_72 R158 a_this t161 (61) hv170.1 g_t g_s g_S g_n (show R158 a_this 3 = g_t + 1 from e162) (show T144 g_t = 3 from t164) (show R158 g_t 0 = g_s + 1 from e163) (show T144 g_s = 62 from t165) (show I146 g_s = g_S from ((Fr.irow hF p_3 (by decide) nm0 (by decide)).trans p_4)) hv170.2.1 hv170.2.2.1 (show g_S (I146 a_this 5).toNat = I146 a_this 6 from by rw [e167, e169]; first | assumption | omega) hv170.2.2.2.1 hv170.2.2.2.2 _ _) ml_X6_122 nm_X6_readSign ⟨rfl, rfl⟩ ⟨Nat.le_of_ble_eq_true rfl, Nat.le_of_ble_eq_true rfl⟩ dX6_readRule_105 rfl rfl (Nat.le_of_ble_eq_true rfl) ⟨by show 0 + 1 + dz55 + dz82 + dz126 + dz149 + 0 ≤ 8; omega, by show 0 + 11 + dl56 + dl83 + dl127 + dl150 + 0 ≤ 211; omega⟩) (fun x172 ix172 L173 T174 N175 I176 J177 R178 dz179 dl180 H locs hp171 hMn => ?_)
      obtain ⟨yL173, yT174, yN175, yR178, hFc181, hp171a⟩ := hp171
      obtain rfl := yL173.symm; obtain rfl := yT174.symm; obtain rfl := yN175.symm; obtain rfl := yR178.symm
      replace hF : Fr mo_X6_readRule [] T N I J R T144 N145 I176 J177 R158 := hF.trans hFc181 (by decide) e20
      have hM := hMn
      clear hMn
      replace hp171a : (0 : Int) ≤ x172 ∧ x172 ≤ 1 ∧ (I176 a_this 5 ≤ g_n ∧ g_S (I176 a_this 5).toNat = I176 a_this 6 ∧ I146 a_this 5 ≤ I176 a_this 5 ∧ ((x172 = 0 ∧ I176 a_this 1 ≠ 0) ∨ (x172 = 1 ∧ I176 a_this 1 = I146 a_this 1 ∧ I146 a_this 5 + 1 ≤ I176 a_this 5))) := hp171a
      obtain ⟨hp171a_0, hp171a_1, hp171a_2⟩ := hp171a
      obtain ⟨hp171a_2_0, hp171a_2_1, hp171a_2_2, hp171a_2_3⟩ := hp171a_2
      obtain ⟨x182, e183⟩ : ∃ v, I176 a_this 5 = v := ⟨_, rfl⟩
      obtain ⟨x184, e185⟩ : ∃ v, I176 a_this 6 = v := ⟨_, rfl⟩
      have nz186 : g_S (x182).toNat = x184 := by have h9 := hp171a_2_1; rw [e183, e185] at h9; exact h9
      have e187 : I123 a_this 1 = I a_this 1 := (hFc128.i t89 (by decide) nm0 rfl).trans hJJ72_3
      have e188 : I146 a_this 1 = I a_this 1 := (hFc151.i t133 (by decide) nm0 rfl).trans e187
      obtain ⟨x189, e190⟩ : ∃ v, I176 a_this 1 = v := ⟨_, rfl⟩
      refine q_ieq (tgt := 119) B dX6_readRule_108 (by decide) (by unfold inr; omega) (fun c191 => ?_) (fun c191 => ?_)
      · refine q_con B dX6_readRule_119 ?_
        refine g_zret B hM dX6_readRule_120 ⟨by show 0 + 1 + dz55 + dz82 + dz126 + dz149 ≤ 8; omega, by show 0 + 11 + dl56 + dl83 + dl127 + dl150 ≤ 211; omega⟩ (by omega) (by omega) ?_
        rw [← hPST]
        exact ⟨(0), rfl, by omega, hF, by omega, by omega, by first | omega | assumption | exact trivial, by show g_S (I176 a_this 5).toNat = I176 a_this 6; rw [e183, e185]; first | assumption | omega, by first | omega | assumption | exact trivial, by first | omega | assumption | exact trivial, by first | omega | assumption | exact trivial, by first | omega | assumption | exact trivial, by first | omega | assumption | exact trivial, by first | omega | assumption | exact trivial⟩
      · refine lv_aload_n B.1 B.2.1 dX6_readRule_111 rfl (lv_at hl 2 rfl) ?_
        refine q_con B dX6_readRule_112 ?_
        have hv192 : ((0 : Int) ≤ 0 ∧ (0 : Int) ≤ 1) ∧ (TKz g_S g_n) ∧ (I176 a_this 5 ≤ g_n) := by first | omega | exact ⟨by first | omega | assumption | exact trivial, by first | omega | assumption | exact trivial, by first | omega | assumption | exact trivial⟩
        refine z_calli hM hA (c_runV (n := 1) (as := [.int (II 0)]) (rest := []) B hX hA hM hl.1 t161 kd7 rfl (k_X6_readSteps l D dA eA L143 T144 N145 I176 J177 R158 a_this t161 (0) hv192.1 g_t g_s g_S g_n (show R158 a_this 3 = g_t + 1 from e162) (show T144 g_t = 3 from t164) (show R158 g_t 0 = g_s + 1 from e163) (show T144 g_s = 62 from t165) (show I176 g_s = g_S from ((Fr.irow hF p_3 (by decide) nm0 (by decide)).trans p_4)) hv192.2.1 hv192.2.2 (show g_S (I176 a_this 5).toNat = I176 a_this 6 from by rw [e183, e185]; first | assumption | omega) _ _) ml_X6_153 nm_X6_readSteps ⟨rfl, rfl⟩ ⟨Nat.le_of_ble_eq_true rfl, Nat.le_of_ble_eq_true rfl⟩ dX6_readRule_113 rfl rfl (Nat.le_of_ble_eq_true rfl) ⟨by show 0 + 1 + dz55 + dz82 + dz126 + dz149 + 0 ≤ 8; omega, by show 0 + 11 + dl56 + dl83 + dl127 + dl150 + 0 ≤ 211; omega⟩) (fun x194 ix194 L195 T196 N197 I198 J199 R200 dz201 dl202 H locs hp193 hMn => ?_)
        obtain ⟨yL195, yT196, yN197, yR200, hFc203, hp193a⟩ := hp193
        obtain rfl := yL195.symm; obtain rfl := yT196.symm; obtain rfl := yN197.symm; obtain rfl := yR200.symm
        replace hF : Fr mo_X6_readRule [] T N I J R T144 N145 I198 J199 R158 := hF.trans hFc203 (by decide) e20
        have hM := hMn
        clear hMn
        replace hp193a : (0 : Int) ≤ x194 ∧ x194 ≤ 1 ∧ (I198 a_this 5 ≤ g_n ∧ g_S (I198 a_this 5).toNat = I198 a_this 6 ∧ I176 a_this 5 ≤ I198 a_this 5 ∧ ((x194 = 0 ∧ I198 a_this 1 ≠ 0) ∨ (x194 = 1 ∧ I198 a_this 1 = I176 a_this 1 ∧ I176 a_this 5 + 0 ≤ I198 a_this 5))) := hp193a
        obtain ⟨hp193a_0, hp193a_1, hp193a_2⟩ := hp193a
        obtain ⟨hp193a_2_0, hp193a_2_1, hp193a_2_2, hp193a_2_3⟩ := hp193a_2
        obtain ⟨x204, e205⟩ : ∃ v, I198 a_this 5 = v := ⟨_, rfl⟩
        obtain ⟨x206, e207⟩ : ∃ v, I198 a_this 6 = v := ⟨_, rfl⟩
        have nz208 : g_S (x204).toNat = x206 := by have h9 := hp193a_2_1; rw [e205, e207] at h9; exact h9
        obtain ⟨x209, e210⟩ : ∃ v, I198 a_this 1 = v := ⟨_, rfl⟩
        refine q_ine (tgt := 121) B dX6_readRule_116 (by decide) (by unfold inr; omega) (fun c211 => ?_) (fun c211 => ?_)
        · refine lv_aload_n B.1 B.2.1 dX6_readRule_121 rfl (lv_at hl 0 rfl) ?_
          refine lv_aload_n B.1 B.2.1 dX6_readRule_122 rfl (lv_at hl 2 rfl) ?_
          have e212 : R158 a_this 10 = b109 + 1 := (hF.r t_this (by decide) nm0 rfl).trans e110
          refine c_getn (k := 10) pk_X6 B hM t161 kd7 rfl (by decide) fl_X6_29 dX6_readRule_123 e212 ?_
          refine lv_aload_n B.1 B.2.1 dX6_readRule_126 rfl (lv_at hl 2 rfl) ?_
          have e213 : I146 a_this 12 = x113 := (hFc151.i t133 (by decide) nm0 rfl).trans e138
          have e214 : I176 a_this 12 = x113 := (hFc181.i t161 (by decide) nm0 rfl).trans e213
          obtain ⟨x215, e216⟩ : ∃ v, I198 a_this 12 = v := ⟨_, rfl⟩
          have r217 : (0 : Int) ≤ x215 ∧ x215 ≤ 40 := by rw [← e216]; exact g7_12 hM.2.2.2.2.2.2.1 t161
          refine c_geti (k := 12) pk_X6 B hM t161 kd7 rfl (by decide) fl_X6_150 dX6_readRule_127 e216 ?_
          have t218 : T144 b109 = 66 := hF.tt t111 (by decide) nm0
          have hv219 : ((-2147483648 : Int) ≤ x215 ∧ (x215 : Int) ≤ 2147483647) ∧ (0 ≤ x215) ∧ (0 ≤ x215.toNat) ∧ (x215.toNat ≤ 40) := by first | omega | exact ⟨by first | omega | assumption | exact trivial, by first | omega | assumption | exact trivial, by first | omega | assumption | exact trivial, by first | omega | assumption | exact trivial⟩
          refine g_callr hM hA (c_runS (n := 2) (as := [.ref b109, .int (II x215)]) (rest := [.ref b37]) B hX hA hM hl.1 (k_J7_copyOf_59c91 l D dA eA L143 T144 N145 I198 J199 R158 b109 t218 x215 hv219.1 73 kd66 kd73 (by decide +kernel) hv219.2.1 hv219.2.2.1 hv219.2.2.2 _ _) ml_X6_157 nm_J7_copyOf_59c91 ⟨rfl, rfl⟩ ⟨Nat.le_of_ble_eq_true rfl, Nat.le_of_ble_eq_true rfl⟩ dX6_readRule_130 rfl rfl (Nat.le_of_ble_eq_true rfl) ⟨by show 0 + 1 + dz55 + dz82 + dz126 + dz149 + 1 ≤ 8; omega, by show 0 + 11 + dl56 + dl83 + dl127 + dl150 + x215.toNat ≤ 211; omega⟩) (fun b221 L222 T223 N224 I225 J226 R227 dz228 dl229 H locs hp220 hMn => ?_)
          obtain ⟨yJ226, yR227, hFc230, tb221, hp220a⟩ := hp220
          obtain rfl := yJ226.symm; obtain rfl := yR227.symm
          have t231 : T144 b8 = 6 := hF.tt t10 (by decide) nm0
          have t232 : T144 b11 = 15 := hF.tt t13 (by decide) nm0
          have t233 : T144 b119 = 73 := hFc151.tt tb119 (by decide) nm0
          have t234 : T144 b134 = 67 := hF.tt t136 (by decide) nm0
          replace hF : Fr mo_X6_readRule [] T N I J R T223 N224 I225 J199 R158 := hF.trans hFc230 (by decide) e20
          have hM := hMn
          clear hMn
          replace hp220a : N224 b221 = x215.toNat ∧ T144 b221 = 0 ∧ dz228 ≤ 1 ∧ dl229 ≤ x215.toNat := hp220a
          obtain ⟨hp220a_0, hp220a_1, hp220a_2, hp220a_3⟩ := hp220a
          have t235 : T223 b37 = 8 := hFc230.tt t157 (by decide) nm0
          refine c_putr (k := 3) (v := b221 + 1) pk_X7 B hM t235 kd8 rfl (by decide) fl_X6_169 (Or.inl rfl) dX6_readRule_133 rfl rfl ⟨rfl, fun _ => rfl, rfl, fun _ => rfl⟩ (rokR tb221 rfl) (fun R236 H locs hu237 hM => ?_)
          have e238 : R236 b37 3 = b221 + 1 := w2_at hu237
          replace hF : Fr mo_X6_readRule [] T N I J R T223 N224 I225 J199 R236 := hF.wr hu237 (fun h _ => absurd t41 h)
          refine lv_aload_n B.1 B.2.1 dX6_readRule_136 rfl (lv_at hl 0 rfl) ?_
          refine lv_aload_n B.1 B.2.1 dX6_readRule_137 rfl (lv_at hl 2 rfl) ?_
          have t239 : T223 a_this = 7 := hF.tt t_this (by decide) nm0
          have e240 : R236 a_this 11 = b134 + 1 := (hF.r t_this (by decide) nm0 rfl).trans e135
          refine c_getn (k := 11) pk_X6 B hM t239 kd7 rfl (by decide) fl_X6_32 dX6_readRule_138 e240 ?_
          refine lv_aload_n B.1 B.2.1 dX6_readRule_141 rfl (lv_at hl 2 rfl) ?_
          have e241 : I225 a_this 12 = x215 := (hFc230.i t161 (by decide) nm0 rfl).trans e216
          refine c_geti (k := 12) pk_X6 B hM t239 kd7 rfl (by decide) fl_X6_150 dX6_readRule_142 e241 ?_
          have t242 : T223 b134 = 67 := hF.tt t136 (by decide) nm0
          have hv243 : ((-2147483648 : Int) ≤ x215 ∧ (x215 : Int) ≤ 2147483647) ∧ (0 ≤ x215) ∧ (0 ≤ x215.toNat) ∧ (x215.toNat ≤ 40) := by first | omega | exact ⟨by first | omega | assumption | exact trivial, by first | omega | assumption | exact trivial, by first | omega | assumption | exact trivial, by first | omega | assumption | exact trivial⟩
          refine g_callr hM hA (c_runS (n := 2) (as := [.ref b134, .int (II x215)]) (rest := [.ref b37]) B hX hA hM hl.1 (k_J7_copyOf_59c91 l D dA eA L222 T223 N224 I225 J199 R236 b134 t242 x215 hv243.1 73 kd67 kd73 (by decide +kernel) hv243.2.1 hv243.2.2.1 hv243.2.2.2 _ _) ml_X6_157 nm_J7_copyOf_59c91 ⟨rfl, rfl⟩ ⟨Nat.le_of_ble_eq_true rfl, Nat.le_of_ble_eq_true rfl⟩ dX6_readRule_145 rfl rfl (Nat.le_of_ble_eq_true rfl) ⟨by show 0 + 1 + dz55 + dz82 + dz126 + dz149 + dz228 + 1 ≤ 8; omega, by show 0 + 11 + dl56 + dl83 + dl127 + dl150 + dl229 + x215.toNat ≤ 211; omega⟩) (fun b245 L246 T247 N248 I249 J250 R251 dz252 dl253 H locs hp244 hMn => ?_)
          obtain ⟨yJ250, yR251, hFc254, tb245, hp244a⟩ := hp244
          obtain rfl := yJ250.symm; obtain rfl := yR251.symm
          have t255 : T223 g_t = 3 := hF.tt p_1 (by decide) nm0
          have t256 : T223 g_s = 62 := hF.tt p_3 (by decide) nm0
          have t257 : T223 b8 = 6 := hF.tt t10 (by decide) nm0
          have t258 : T223 b11 = 15 := hF.tt t13 (by decide) nm0
          have t259 : T223 b109 = 66 := hF.tt t111 (by decide) nm0
          have t260 : T223 b119 = 73 := hFc230.tt t233 (by decide) nm0
          have t261 : T223 b142 = 73 := hFc230.tt tb142 (by decide) nm0
          replace hF : Fr mo_X6_readRule [] T N I J R T247 N248 I249 J199 R236 := hF.trans hFc254 (by decide) e20
          have hM := hMn
          clear hMn
          replace hp244a : N248 b245 = x215.toNat ∧ T223 b245 = 0 ∧ dz252 ≤ 1 ∧ dl253 ≤ x215.toNat := hp244a
          obtain ⟨hp244a_0, hp244a_1, hp244a_2, hp244a_3⟩ := hp244a
          have t262 : T247 b37 = 8 := hFc254.tt t235 (by decide) nm0
          refine c_putr (k := 4) (v := b245 + 1) pk_X7 B hM t262 kd8 rfl (by decide) fl_X6_172 (Or.inl rfl) dX6_readRule_148 rfl rfl ⟨rfl, fun _ => rfl, rfl, fun _ => rfl⟩ (rokR tb245 rfl) (fun R263 H locs hu264 hM => ?_)
          have e265 : R263 b37 4 = b245 + 1 := w2_at hu264
          replace hF : Fr mo_X6_readRule [] T N I J R T247 N248 I249 J199 R263 := hF.wr hu264 (fun h _ => absurd t41 h)
          refine lv_aload_n B.1 B.2.1 dX6_readRule_151 rfl (lv_at hl 2 rfl) ?_
          refine q_bip B dX6_readRule_152 (by decide) ?_
          have t266 : T247 a_this = 7 := hF.tt t_this (by decide) nm0
          have e267 : R263 a_this 3 = g_t + 1 := (hF.r t_this (by decide) nm0 rfl).trans p_0
          have e268 : R263 g_t 0 = g_s + 1 := (hF.r p_1 (by decide) nm0 rfl).trans p_2
          have t269 : T247 g_t = 3 := hF.tt p_1 (by decide) nm0
          have t270 : T247 g_s = 62 := hF.tt p_3 (by decide) nm0
          have e271 : I225 a_this 5 = x204 := (hFc230.i t161 (by decide) nm0 rfl).trans e205
          have e272 : I249 a_this 5 = x204 := (hFc254.i t239 (by decide) nm0 rfl).trans e271
          have e273 : I225 a_this 6 = x206 := (hFc230.i t161 (by decide) nm0 rfl).trans e207
          have e274 : I249 a_this 6 = x206 := (hFc254.i t239 (by decide) nm0 rfl).trans e273
          have hv275 : ((-2147483648 : Int) ≤ 59 ∧ (59 : Int) ≤ 2147483647) ∧ (TKz g_S g_n) ∧ (I249 a_this 5 ≤ g_n) ∧ ((59 : Int) ≠ 0) ∧ ((59 : Int) ≠ 1) := by first | omega | exact ⟨by first | omega | assumption | exact trivial, by first | omega | assumption | exact trivial, by first | omega | assumption | exact trivial, by first | omega | assumption | exact trivial, by first | omega | assumption | exact trivial⟩
          refine z_calli hM hA (c_runV (n := 1) (as := [.int (II 59)]) (rest := []) B hX hA hM hl.1 t266 kd7 rfl (k_X6_readSign l D dA eA L246 T247 N248 I249 J199 R263 a_this t266 (59) hv275.1 g_t g_s g_S g_n (show R263 a_this 3 = g_t + 1 from e267) (show T247 g_t = 3 from t269) (show R263 g_t 0 = g_s + 1 from e268) (show T247 g_s = 62 from t270) (show I249 g_s = g_S from ((Fr.irow hF p_3 (by decide) nm0 (by decide)).trans p_4)) hv275.2.1 hv275.2.2.1 (show g_S (I249 a_this 5).toNat = I249 a_this 6 from by rw [e272, e274]; first | assumption | omega) hv275.2.2.2.1 hv275.2.2.2.2 _ _) ml_X6_122 nm_X6_readSign ⟨rfl, rfl⟩ ⟨Nat.le_of_ble_eq_true rfl, Nat.le_of_ble_eq_true rfl⟩ dX6_readRule_154 rfl rfl (Nat.le_of_ble_eq_true rfl) ⟨by show 0 + 1 + dz55 + dz82 + dz126 + dz149 + dz228 + dz252 + 0 ≤ 8; omega, by show 0 + 11 + dl56 + dl83 + dl127 + dl150 + dl229 + dl253 + 0 ≤ 211; omega⟩) (fun x277 ix277 L278 T279 N280 I281 J282 R283 dz284 dl285 H locs hp276 hMn => ?_)
          obtain ⟨yL278, yT279, yN280, yR283, hFc286, hp276a⟩ := hp276
          obtain rfl := yL278.symm; obtain rfl := yT279.symm; obtain rfl := yN280.symm; obtain rfl := yR283.symm
          replace hF : Fr mo_X6_readRule [] T N I J R T247 N248 I281 J282 R263 := hF.trans hFc286 (by decide) e20
          have hM := hMn
          clear hMn
          replace hp276a : (0 : Int) ≤ x277 ∧ x277 ≤ 1 ∧ (I281 a_this 5 ≤ g_n ∧ g_S (I281 a_this 5).toNat = I281 a_this 6 ∧ I249 a_this 5 ≤ I281 a_this 5 ∧ ((x277 = 0 ∧ I281 a_this 1 ≠ 0) ∨ (x277 = 1 ∧ I281 a_this 1 = I249 a_this 1 ∧ I249 a_this 5 + 1 ≤ I281 a_this 5))) := hp276a
          obtain ⟨hp276a_0, hp276a_1, hp276a_2⟩ := hp276a
          obtain ⟨hp276a_2_0, hp276a_2_1, hp276a_2_2, hp276a_2_3⟩ := hp276a_2
          obtain ⟨x287, e288⟩ : ∃ v, I281 a_this 5 = v := ⟨_, rfl⟩
          obtain ⟨x289, e290⟩ : ∃ v, I281 a_this 6 = v := ⟨_, rfl⟩
          have nz291 : g_S (x287).toNat = x289 := by have h9 := hp276a_2_1; rw [e288, e290] at h9; exact h9
          have e292 : I225 a_this 1 = x209 := (hFc230.i t161 (by decide) nm0 rfl).trans e210
          have e293 : I249 a_this 1 = x209 := (hFc254.i t239 (by decide) nm0 rfl).trans e292
          obtain ⟨x294, e295⟩ : ∃ v, I281 a_this 1 = v := ⟨_, rfl⟩
          refine g_zret B hM dX6_readRule_157 ⟨by show 0 + 1 + dz55 + dz82 + dz126 + dz149 + dz228 + dz252 ≤ 8; omega, by show 0 + 11 + dl56 + dl83 + dl127 + dl150 + dl229 + dl253 ≤ 211; omega⟩ (by omega) (by omega) ?_
          rw [← hPST]
          exact ⟨x277, rfl, by omega, hF, by omega, by omega, by first | omega | assumption | exact trivial, by show g_S (I281 a_this 5).toNat = I281 a_this 6; rw [e288, e290]; first | assumption | omega, by first | omega | assumption | exact trivial, by first | omega | assumption | exact trivial, by first | omega | assumption | exact trivial, by first | omega | assumption | exact trivial, by first | omega | assumption | exact trivial, by first | omega | assumption | exact trivial⟩
        · refine q_con B dX6_readRule_119 ?_
          refine g_zret B hM dX6_readRule_120 ⟨by show 0 + 1 + dz55 + dz82 + dz126 + dz149 ≤ 8; omega, by show 0 + 11 + dl56 + dl83 + dl127 + dl150 ≤ 211; omega⟩ (by omega) (by omega) ?_
          rw [← hPST]
          exact ⟨(0), rfl, by omega, hF, by omega, by omega, by first | omega | assumption | exact trivial, by show g_S (I198 a_this 5).toNat = I198 a_this 6; rw [e205, e207]; first | assumption | omega, by first | omega | assumption | exact trivial, by first | omega | assumption | exact trivial, by first | omega | assumption | exact trivial, by first | omega | assumption | exact trivial, by first | omega | assumption | exact trivial, by first | omega | assumption | exact trivial⟩
    refine q_ieq (tgt := 72) B dX6_readRule_55 (by decide) (by unfold inr; omega) (fun c296 => ?_) (fun c296 => ?_)
    · have e297 : I52 a_this 5 = x29 := (hFc57.i t58 (by decide) (nm1 (tne t58 t44 (by decide))) rfl).trans e30
      have e298 : I79 a_this 5 = x29 := (hFc84.i t64 (by decide) nm0 rfl).trans e297
      have e299 : I90 a_this 5 = x29 := (w2_ne hu91 (Or.inr (by decide))).trans e298
      have e300 : I52 a_this 6 = x31 := (hFc57.i t58 (by decide) (nm1 (tne t58 t44 (by decide))) rfl).trans e32
      have e301 : I79 a_this 6 = x31 := (hFc84.i t64 (by decide) nm0 rfl).trans e300
      have e302 : I90 a_this 6 = x31 := (w2_ne hu91 (Or.inr (by decide))).trans e301
      have e303 : I52 a_this 1 = x34 := (hFc57.i t58 (by decide) (nm1 (tne t58 t44 (by decide))) rfl).trans e35
      have e304 : I79 a_this 1 = x34 := (hFc84.i t64 (by decide) nm0 rfl).trans e303
      have e305 : I90 a_this 1 = x34 := (w2_ne hu91 (Or.inr (by decide))).trans e304
      have hv306 : (I a_this 5 + 1 ≤ I90 a_this 5) ∧ (I90 a_this 5 ≤ g_n) ∧ (I90 a_this 1 = I a_this 1) := by first | omega | exact ⟨by first | omega | assumption | exact trivial, by first | omega | assumption | exact trivial, by first | omega | assumption | exact trivial⟩
      exact JJ72 I90 J24 _ _ ls hM hF (lv_sub hl [0, 1, 2] rfl) hv306.1 hv306.2.1 (by rw [e299, e302]; first | assumption | omega) hv306.2.2
    · refine lv_aload_n B.1 B.2.1 dX6_readRule_58 rfl (lv_at hl 2 rfl) ?_
      have e307 : R81 a_this 3 = g_t + 1 := (hF.r t_this (by decide) nm0 rfl).trans p_0
      have e308 : R81 g_t 0 = g_s + 1 := (hF.r p_1 (by decide) nm0 rfl).trans p_2
      have t309 : T77 g_t = 3 := hF.tt p_1 (by decide) nm0
      have t310 : T77 g_s = 62 := hF.tt p_3 (by decide) nm0
      have e311 : I52 a_this 5 = x29 := (hFc57.i t58 (by decide) (nm1 (tne t58 t44 (by decide))) rfl).trans e30
      have e312 : I79 a_this 5 = x29 := (hFc84.i t64 (by decide) nm0 rfl).trans e311
      have e313 : I90 a_this 5 = x29 := (w2_ne hu91 (Or.inr (by decide))).trans e312
      have e314 : I52 a_this 6 = x31 := (hFc57.i t58 (by decide) (nm1 (tne t58 t44 (by decide))) rfl).trans e32
      have e315 : I79 a_this 6 = x31 := (hFc84.i t64 (by decide) nm0 rfl).trans e314
      have e316 : I90 a_this 6 = x31 := (w2_ne hu91 (Or.inr (by decide))).trans e315
      have hv317 : (TKz g_S g_n) ∧ (I90 a_this 5 ≤ g_n) := by first | omega | exact ⟨by first | omega | assumption | exact trivial, by first | omega | assumption | exact trivial⟩
      refine z_callv hM hA (c_runV (n := 0) (as := []) (rest := []) B hX hA hM hl.1 t89 kd7 rfl (k_X6_advance l D dA eA L76 T77 N78 I90 J24 R81 a_this t89 g_t g_s g_S g_n (show R81 a_this 3 = g_t + 1 from e307) (show T77 g_t = 3 from t309) (show R81 g_t 0 = g_s + 1 from e308) (show T77 g_s = 62 from t310) (show I90 g_s = g_S from ((Fr.irow hF p_3 (by decide) nm0 (by decide)).trans p_4)) hv317.1 hv317.2 (show g_S (I90 a_this 5).toNat = I90 a_this 6 from by rw [e313, e316]; first | assumption | omega) _ _) ml_X6_87 nm_X6_advance ⟨rfl, rfl⟩ ⟨Nat.le_of_ble_eq_true rfl, Nat.le_of_ble_eq_true rfl⟩ dX6_readRule_59 rfl rfl (Nat.le_of_ble_eq_true rfl) ⟨by show 0 + 1 + dz55 + dz82 + 0 ≤ 8; omega, by show 0 + 11 + dl56 + dl83 + 0 ≤ 211; omega⟩) (fun L320 T321 N322 I323 J324 R325 dz326 dl327 H locs hp318 hMn => ?_)
      obtain ⟨yL320, yT321, yN322, yR325, hFc328, hp318a⟩ := hp318
      obtain rfl := yL320.symm; obtain rfl := yT321.symm; obtain rfl := yN322.symm; obtain rfl := yR325.symm
      replace hF : Fr mo_X6_readRule [] T N I J R T77 N78 I323 J324 R81 := hF.trans hFc328 (by decide) e20
      have hM := hMn
      clear hMn
      replace hp318a : I323 a_this 5 ≤ g_n ∧ g_S (I323 a_this 5).toNat = I323 a_this 6 ∧ (((I90 a_this 6 = 0 ∨ I90 a_this 6 = 1) ∧ I323 a_this 5 = I90 a_this 5) ∨ (I323 a_this 5 = I90 a_this 5 + 1)) := hp318a
      obtain ⟨hp318a_0, hp318a_1, hp318a_2⟩ := hp318a
      obtain ⟨x329, e330⟩ : ∃ v, I323 a_this 5 = v := ⟨_, rfl⟩
      obtain ⟨x331, e332⟩ : ∃ v, I323 a_this 6 = v := ⟨_, rfl⟩
      have nz333 : g_S (x329).toNat = x331 := by have h9 := hp318a_1; rw [e330, e332] at h9; exact h9
      refine lv_aload_n B.1 B.2.1 dX6_readRule_62 rfl (lv_at hl 2 rfl) ?_
      refine q_con B dX6_readRule_63 ?_
      have hv334 : ((0 : Int) ≤ 1 ∧ (1 : Int) ≤ 1) ∧ (TKz g_S g_n) ∧ (I323 a_this 5 ≤ g_n) := by first | omega | exact ⟨by first | omega | assumption | exact trivial, by first | omega | assumption | exact trivial, by first | omega | assumption | exact trivial⟩
      refine z_calli hM hA (c_runV (n := 1) (as := [.int (II 1)]) (rest := []) B hX hA hM hl.1 t89 kd7 rfl (k_X6_readSteps l D dA eA L76 T77 N78 I323 J324 R81 a_this t89 (1) hv334.1 g_t g_s g_S g_n (show R81 a_this 3 = g_t + 1 from e307) (show T77 g_t = 3 from t309) (show R81 g_t 0 = g_s + 1 from e308) (show T77 g_s = 62 from t310) (show I323 g_s = g_S from ((Fr.irow hF p_3 (by decide) nm0 (by decide)).trans p_4)) hv334.2.1 hv334.2.2 (show g_S (I323 a_this 5).toNat = I323 a_this 6 from by rw [e330, e332]; first | assumption | omega) _ _) ml_X6_153 nm_X6_readSteps ⟨rfl, rfl⟩ ⟨Nat.le_of_ble_eq_true rfl, Nat.le_of_ble_eq_true rfl⟩ dX6_readRule_64 rfl rfl (Nat.le_of_ble_eq_true rfl) ⟨by show 0 + 1 + dz55 + dz82 + 0 ≤ 8; omega, by show 0 + 11 + dl56 + dl83 + 0 ≤ 211; omega⟩) (fun x336 ix336 L337 T338 N339 I340 J341 R342 dz343 dl344 H locs hp335 hMn => ?_)
      obtain ⟨yL337, yT338, yN339, yR342, hFc345, hp335a⟩ := hp335
      obtain rfl := yL337.symm; obtain rfl := yT338.symm; obtain rfl := yN339.symm; obtain rfl := yR342.symm
      replace hF : Fr mo_X6_readRule [] T N I J R T77 N78 I340 J341 R81 := hF.trans hFc345 (by decide) e20
      have hM := hMn
      clear hMn
      replace hp335a : (0 : Int) ≤ x336 ∧ x336 ≤ 1 ∧ (I340 a_this 5 ≤ g_n ∧ g_S (I340 a_this 5).toNat = I340 a_this 6 ∧ I323 a_this 5 ≤ I340 a_this 5 ∧ ((x336 = 0 ∧ I340 a_this 1 ≠ 0) ∨ (x336 = 1 ∧ I340 a_this 1 = I323 a_this 1 ∧ I323 a_this 5 + 0 ≤ I340 a_this 5))) := hp335a
      obtain ⟨hp335a_0, hp335a_1, hp335a_2⟩ := hp335a
      obtain ⟨hp335a_2_0, hp335a_2_1, hp335a_2_2, hp335a_2_3⟩ := hp335a_2
      obtain ⟨x346, e347⟩ : ∃ v, I340 a_this 5 = v := ⟨_, rfl⟩
      obtain ⟨x348, e349⟩ : ∃ v, I340 a_this 6 = v := ⟨_, rfl⟩
      have nz350 : g_S (x346).toNat = x348 := by have h9 := hp335a_2_1; rw [e347, e349] at h9; exact h9
      have e351 : I52 a_this 1 = x34 := (hFc57.i t58 (by decide) (nm1 (tne t58 t44 (by decide))) rfl).trans e35
      have e352 : I79 a_this 1 = x34 := (hFc84.i t64 (by decide) nm0 rfl).trans e351
      have e353 : I90 a_this 1 = x34 := (w2_ne hu91 (Or.inr (by decide))).trans e352
      have e354 : I323 a_this 1 = x34 := (hFc328.i t89 (by decide) nm0 rfl).trans e353
      obtain ⟨x355, e356⟩ : ∃ v, I340 a_this 1 = v := ⟨_, rfl⟩
      refine q_ine (tgt := 72) B dX6_readRule_67 (by decide) (by unfold inr; omega) (fun c357 => ?_) (fun c357 => ?_)
      · have hv358 : (I a_this 5 + 1 ≤ I340 a_this 5) ∧ (I340 a_this 5 ≤ g_n) ∧ (I340 a_this 1 = I a_this 1) := by first | omega | exact ⟨by first | omega | assumption | exact trivial, by first | omega | assumption | exact trivial, by first | omega | assumption | exact trivial⟩
        exact JJ72 I340 J341 _ _ ls hM hF (lv_sub hl [0, 1, 2] rfl) hv358.1 hv358.2.1 (by rw [e347, e349]; first | assumption | omega) hv358.2.2
      · refine q_con B dX6_readRule_70 ?_
        refine g_zret B hM dX6_readRule_71 ⟨by show 0 + 1 + dz55 + dz82 ≤ 8; omega, by show 0 + 11 + dl56 + dl83 ≤ 211; omega⟩ (by omega) (by omega) ?_
        rw [← hPST]
        exact ⟨(0), rfl, by omega, hF, by omega, by omega, by first | omega | assumption | exact trivial, by show g_S (I340 a_this 5).toNat = I340 a_this 6; rw [e347, e349]; first | assumption | omega, by first | omega | assumption | exact trivial, by first | omega | assumption | exact trivial, by first | omega | assumption | exact trivial, by first | omega | assumption | exact trivial, by first | omega | assumption | exact trivial, by first | omega | assumption | exact trivial⟩
  · refine q_con B dX6_readRule_22 ?_
    refine g_zret B hM dX6_readRule_23 ⟨by show 0 ≤ 8; omega, by show 0 ≤ 211; omega⟩ (by omega) (by omega) ?_
    rw [← hPST]
    exact ⟨(0), rfl, by omega, hF, by omega, by omega, by first | omega | assumption | exact trivial, by show g_S (I23 a_this 5).toNat = I23 a_this 6; rw [e30, e32]; first | assumption | omega, by first | omega | assumption | exact trivial, by first | omega | assumption | exact trivial, by first | omega | assumption | exact trivial, by first | omega | assumption | exact trivial, by first | omega | assumption | exact trivial, by first | omega | assumption | exact trivial⟩
