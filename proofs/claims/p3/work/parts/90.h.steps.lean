def mo_X6_readSteps : List Nat := [229, 230, 231, 225, 226, 236, 2112, 2144]
set_option maxHeartbeats 1000000 in
set_option maxRecDepth 20000 in
theorem k_X6_readSteps (l : Launch) (D : va_G) (dA : Nat → ClassId) (eA : Nat) (L : List Nat) (T N : Nat → Nat) (I : Nat → Nat → Int) (J : Nat → Nat → Int64) (R : Nat → Nat → Nat) (a_this : Nat) (t_this : T a_this = 7) (a_start : Int) (i_start : (0 : Int) ≤ a_start ∧ a_start ≤ 1) (g_t : Nat) (g_s : Nat) (g_S : Nat → Int) (g_n : Int) (p_0 : R a_this 3 = g_t + 1) (p_1 : T g_t = 3) (p_2 : R g_t 0 = g_s + 1) (p_3 : T g_s = 62) (p_4 : I g_s = g_S) (p_5 : TKz g_S g_n) (p_6 : I a_this 5 ≤ g_n) (p_7 : g_S (I a_this 5).toNat = I a_this 6) : GC l yX6_readSteps cX6_readSteps 5 (some .boolean) ({ frames := 5, cells := 0, slots := 0, locals := 151 }) D dA eA L T N I J R [.ref a_this, .int (II a_start)] 0 0 (gI (fun r L' T' N' I' J' R' dz dl => L' = L ∧ T' = T ∧ N' = N ∧ R' = R ∧ Fr mo_X6_readSteps [] T N I J R T' N' I' J' R' ∧ (0 : Int) ≤ r ∧ r ≤ 1 ∧ (I' a_this 5 ≤ g_n ∧ g_S (I' a_this 5).toNat = I' a_this 6 ∧ I a_this 5 ≤ I' a_this 5 ∧ ((r = 0 ∧ I' a_this 1 ≠ 0) ∨ (r = 1 ∧ I' a_this 1 = I a_this 1 ∧ I a_this 5 + 0 ≤ I' a_this 5))))) := by
  generalize hPST : (gI (fun r L' T' N' I' J' R' dz dl => L' = L ∧ T' = T ∧ N' = N ∧ R' = R ∧ Fr mo_X6_readSteps [] T N I J R T' N' I' J' R' ∧ (0 : Int) ≤ r ∧ r ≤ 1 ∧ (I' a_this 5 ≤ g_n ∧ g_S (I' a_this 5).toNat = I' a_this 6 ∧ I a_this 5 ≤ I' a_this 5 ∧ ((r = 0 ∧ I' a_this 1 ≠ 0) ∨ (r = 1 ∧ I' a_this 1 = I a_this 1 ∧ I a_this 5 + 0 ≤ I' a_this 5))))) = PST
  refine g_enter (own := RX6) (by decide) rfl (Nat.le_of_ble_eq_true rfl) (fun p e s m args below meth c ls hm B hX hM hl => ?_)
  have hC0 := hM.2.2.2.2.2.2.1
  have hW0 := hM.2.2.2
  have hF : Fr mo_X6_readSteps [] T N I J R T N I J R := Fr.rf
  have hA : ∀ q, s.heap.size ≤ q → cF dA L T N I J R s.heap.size q := fun q h => Or.inr h
  have hl : lv_has ls 5 [(0, .ref a_this), (1, .int (II a_start))] := hl
  obtain ⟨x1, e2⟩ : ∃ v, I a_this 5 = v := ⟨_, rfl⟩
  obtain ⟨x3, e4⟩ : ∃ v, I a_this 6 = v := ⟨_, rfl⟩
  have nz5 : g_S (x1).toNat = x3 := by have h9 := p_7; rw [e2, e4] at h9; exact h9
  obtain ⟨x6, e7⟩ : ∃ v, I a_this 1 = v := ⟨_, rfl⟩
  refine q_con B dX6_readSteps_0 ?_
  refine lv_istore_n (lv' := [(2, .int (II 0)), (0, .ref a_this), (1, .int (II a_start))]) B.1 B.2.1 dX6_readSteps_1 rfl hl (by decide) rfl (fun ls hl => ?_)
  refine lv_aload_n B.1 B.2.1 dX6_readSteps_2 rfl (lv_at hl 1 rfl) ?_
  refine q_con B dX6_readSteps_3 ?_
  refine c_puti (k := 12) pk_X6 B hM t_this kd7 rfl (by decide) fl_X6_150 (Or.inl rfl) dX6_readSteps_4 rfl rfl rfl (show (0 : Int) ≤ 0 from by omega) (show 0 ≤ (40 : Int) from by omega) (fun I8 H locs hu9 hM => ?_)
  have e10 : I8 a_this 12 = 0 := w2_at hu9
  replace hF : Fr mo_X6_readSteps [] T N I J R T N I8 J R := hF.wi hu9 (fun _ _ => by rw [t_this]; rfl)
  refine q_con B dX6_readSteps_7 ?_
  refine lv_istore_n (lv' := [(3, .int (II 0)), (2, .int (II 0)), (0, .ref a_this), (1, .int (II a_start))]) B.1 B.2.1 dX6_readSteps_8 rfl hl (by decide) rfl (fun ls hl => ?_)
  have LL9 : ∀ NN : Nat, ∀ (v9_2 : Int) (v9_3 : Int) (I_9 : Nat → Nat → Int) (J_9 : Nat → Nat → Int64) (H : Heap) (locs : List Loc) (ls : Array Slot), (CWd D dA eA (cF dA L T N I J R s.heap.size) s.heap L T N I_9 J_9 R H locs) → (Fr mo_X6_readSteps [] T N I J R T N I_9 J_9 R) → lv_has ls 5 [(0, .ref a_this), (1, .int (II a_start)), (2, .int (II v9_2)), (3, .int (II v9_3))] → ((-2147483648 : Int) ≤ v9_2 ∧ v9_2 ≤ 2147483647) → ((-2147483648 : Int) ≤ v9_3 ∧ v9_3 ≤ 2147483647) → (0 ≤ v9_2) → (v9_2 ≤ 16) → (0 ≤ v9_3) → (v9_3 ≤ 40) → (I_9 a_this 12 = v9_3) → (I a_this 5 + v9_3 ≤ I_9 a_this 5) → (I_9 a_this 5 ≤ g_n) → (g_S (I_9 a_this 5).toNat = I_9 a_this 6) → (I_9 a_this 1 = I a_this 1) → (0 ≤ 41 - v9_3) → (41 - v9_3 < (NN : Int)) → W p l e ({ frames := 5, cells := 0, slots := 0, locals := 151 }) s m args below meth c H locs 0 0 (MQ below (gQ D dA eA (cF dA L T N I J R s.heap.size) s.heap.size (hs s.heap) PST) args s 0 0 (cF dA L T N I J R s.heap.size)) (F0 m 9 ls []) := by
    intro NN
    induction NN with
    | zero => intro v9_2 v9_3 I_9 J_9 H locs ls hM hF hl hLL9_0 hLL9_1 hLL9_2 hLL9_3 hLL9_4 hLL9_5 hLL9_6 hLL9_7 hLL9_8 hLL9_9 hLL9_10 hLL9_11 hN; exfalso; omega
    | succ NN IH9 =>
      intro v9_2 v9_3 I_9 J_9 H locs ls hM hF hl hLL9_0 hLL9_1 hLL9_2 hLL9_3 hLL9_4 hLL9_5 hLL9_6 hLL9_7 hLL9_8 hLL9_9 hLL9_10 hLL9_11 hN
      obtain ⟨x11, e12⟩ : ∃ v, I_9 a_this 5 = v := ⟨_, rfl⟩
      obtain ⟨x13, e14⟩ : ∃ v, I_9 a_this 6 = v := ⟨_, rfl⟩
      have nz15 : g_S (x11).toNat = x13 := by have h9 := hLL9_9; rw [e12, e14] at h9; exact h9
      refine lv_iload_n B.1 B.2.1 dX6_readSteps_9 rfl (lv_at hl 3 rfl) ?_
      refine q_bip B dX6_readSteps_10 (by decide) ?_
      refine q_cgt (tgt := 190) B dX6_readSteps_12 (by decide) (by unfold inr; omega) (by unfold inr; omega) (fun c16 => absurd c16 (by omega)) (fun c16 => ?_)
      refine lv_iload_n B.1 B.2.1 dX6_readSteps_15 rfl (lv_at hl 1 rfl) ?_
      have JJ54 : ∀  (H : Heap) (locs : List Loc) (ls : Array Slot), (CWd D dA eA (cF dA L T N I J R s.heap.size) s.heap L T N I_9 J_9 R H locs) → lv_has ls 5 [(0, .ref a_this), (1, .int (II a_start)), (2, .int (II v9_2)), (3, .int (II v9_3))] → W p l e ({ frames := 5, cells := 0, slots := 0, locals := 151 }) s m args below meth c H locs 0 0 (MQ below (gQ D dA eA (cF dA L T N I J R s.heap.size) s.heap.size (hs s.heap) PST) args s 0 0 (cF dA L T N I J R s.heap.size)) (F0 m 54 ls []) := by
        intro  H locs ls hM hl 
        refine lv_aload_n B.1 B.2.1 dX6_readSteps_54 rfl (lv_at hl 0 rfl) ?_
        refine p_calli (c_runV (n := 0) (as := []) (rest := []) B hX hA hM hl.1 t_this kd7 rfl (k_X6_opHere l D dA eA L T N I_9 J_9 R a_this t_this _ _) ml_X6_182 nm_X6_opHere ⟨rfl, rfl⟩ ⟨Nat.le_of_ble_eq_true rfl, Nat.le_of_ble_eq_true rfl⟩ dX6_readSteps_55 rfl rfl (Nat.le_of_ble_eq_true rfl) ⟨Nat.zero_le _, Nat.zero_le _⟩) (fun x18 ix18 hp17 => ?_)
        have hp17a := hp17
        replace hp17a : x18 = 0 ∨ 2 ≤ I_9 a_this 6 := hp17a
        refine lv_istore (lv' := [(4, .int (II x18)), (0, .ref a_this), (1, .int (II a_start)), (2, .int (II v9_2)), (3, .int (II v9_3))]) B.1 B.2.1 dX6_readSteps_58 hl (by decide) rfl (fun ls hl => ?_)
        refine lv_iload B.1 B.2.1 dX6_readSteps_60 (lv_at hl 0 rfl) ?_
        refine q_ieq (tgt := 74) B dX6_readSteps_62 (by decide) (by unfold inr; omega) (fun c19 => ?_) (fun c19 => ?_)
        · refine lv_aload_n B.1 B.2.1 dX6_readSteps_74 rfl (lv_at hl 1 rfl) ?_
          refine q_con B dX6_readSteps_75 ?_
          have hv20 : ((-2147483648 : Int) ≤ 2 ∧ (2 : Int) ≤ 2147483647) ∧ ((2 : Int) ≠ 0) := by first | omega | exact ⟨by first | omega | assumption | exact trivial, by first | omega | assumption | exact trivial⟩
          refine z_calli hM hA (c_runV (n := 1) (as := [.int (II 2)]) (rest := []) B hX hA hM hl.1 t_this kd7 rfl (k_X6_wrong l D dA eA L T N I_9 J_9 R a_this t_this (2) hv20.1 hv20.2 _ _) ml_X6_84 nm_X6_wrong ⟨rfl, rfl⟩ ⟨Nat.le_of_ble_eq_true rfl, Nat.le_of_ble_eq_true rfl⟩ dX6_readSteps_76 rfl rfl (Nat.le_of_ble_eq_true rfl) ⟨Nat.zero_le _, Nat.zero_le _⟩) (fun x22 ix22 L23 T24 N25 I26 J27 R28 dz29 dl30 H locs hp21 hMn => ?_)
          obtain ⟨yL23, yT24, yN25, yJ27, yR28, hFc31, hp21a⟩ := hp21
          obtain rfl := yL23.symm; obtain rfl := yT24.symm; obtain rfl := yN25.symm; obtain rfl := yJ27.symm; obtain rfl := yR28.symm
          replace hF : Fr mo_X6_readSteps [] T N I J R T N I26 J_9 R := hF.trans hFc31 (by decide) e20
          have hM := hMn
          clear hMn
          replace hp21a : (0 : Int) ≤ x22 ∧ x22 ≤ 1 ∧ (x22 = 0 ∧ I26 a_this 1 ≠ 0) := hp21a
          obtain ⟨hp21a_0, hp21a_1, hp21a_2⟩ := hp21a
          obtain ⟨hp21a_2_0, hp21a_2_1⟩ := hp21a_2
          obtain ⟨x32, e33⟩ : ∃ v, I26 a_this 1 = v := ⟨_, rfl⟩
          have e34 : I26 a_this 5 = x11 := (hFc31.i t_this (by decide) nm0 rfl).trans e12
          have e35 : I26 a_this 6 = x13 := (hFc31.i t_this (by decide) nm0 rfl).trans e14
          refine g_zret B hM dX6_readSteps_79 ⟨Nat.le_refl _, Nat.le_refl _⟩ (by omega) (by omega) ?_
          rw [← hPST]
          exact ⟨x22, rfl, by omega, rfl, rfl, rfl, rfl, hF, by omega, by omega, by first | omega | assumption | exact trivial, by show g_S (I26 a_this 5).toNat = I26 a_this 6; rw [e34, e35]; first | assumption | omega, by first | omega | assumption | exact trivial, by first | omega | assumption | exact trivial⟩
        · refine lv_aload_n B.1 B.2.1 dX6_readSteps_65 rfl (lv_at hl 1 rfl) ?_
          have r36 : (0 : Int) ≤ v9_3 ∧ v9_3 ≤ 40 := by rw [← hLL9_6]; exact g7_12 hM.2.2.2.2.2.2.1 t_this
          refine c_geti (k := 12) pk_X6 B hM t_this kd7 rfl (by decide) fl_X6_150 dX6_readSteps_66 hLL9_6 ?_
          refine q_bip B dX6_readSteps_69 (by decide) ?_
          refine q_clt (tgt := 80) B dX6_readSteps_71 (by decide) (by unfold inr; omega) (by unfold inr; omega) (fun c37 => ?_) (fun c37 => ?_)
          · refine lv_iload B.1 B.2.1 dX6_readSteps_80 (lv_at hl 0 rfl) ?_
            refine q_bip B dX6_readSteps_82 (by decide) ?_
            have JJ104 : ∀  (H : Heap) (locs : List Loc) (ls : Array Slot), (CWd D dA eA (cF dA L T N I J R s.heap.size) s.heap L T N I_9 J_9 R H locs) → lv_has ls 5 [(4, .int (II x18)), (0, .ref a_this), (1, .int (II a_start)), (2, .int (II v9_2)), (3, .int (II v9_3))] → W p l e ({ frames := 5, cells := 0, slots := 0, locals := 151 }) s m args below meth c H locs 0 0 (MQ below (gQ D dA eA (cF dA L T N I J R s.heap.size) s.heap.size (hs s.heap) PST) args s 0 0 (cF dA L T N I J R s.heap.size)) (F0 m 104 ls []) := by
              intro  H locs ls hM hl 
              refine lv_iload B.1 B.2.1 dX6_readSteps_104 (lv_at hl 0 rfl) ?_
              refine lv_iload_n B.1 B.2.1 dX6_readSteps_106 rfl (lv_at hl 3 rfl) ?_
              refine lv_iload_n B.1 B.2.1 dX6_readSteps_107 rfl (lv_at hl 2 rfl) ?_
              have hv38 : ((-2147483648 : Int) ≤ x18 ∧ (x18 : Int) ≤ 2147483647) ∧ ((-2147483648 : Int) ≤ v9_2 ∧ (v9_2 : Int) ≤ 2147483647) ∧ ((0 : Int) ≤ a_start ∧ (a_start : Int) ≤ 1) ∧ (0 ≤ v9_2) ∧ (v9_2 ≤ 16) := by first | omega | exact ⟨by first | omega | assumption | exact trivial, by first | omega | assumption | exact trivial, by first | omega | assumption | exact trivial, by first | omega | assumption | exact trivial, by first | omega | assumption | exact trivial⟩
              refine p_calli (c_runS (n := 3) (as := [.int (II x18), .int (II v9_2), .int (II a_start)]) (rest := []) B hX hA hM hl.1 (k_X6_depthBehind l D dA eA L T N I_9 J_9 R x18 hv38.1 v9_2 hv38.2.1 a_start hv38.2.2.1 hv38.2.2.2.1 hv38.2.2.2.2 _ _) ml_X6_185 nm_X6_depthBehind ⟨rfl, rfl⟩ ⟨Nat.le_of_ble_eq_true rfl, Nat.le_of_ble_eq_true rfl⟩ dX6_readSteps_108 rfl rfl (Nat.le_of_ble_eq_true rfl) ⟨Nat.zero_le _, Nat.zero_le _⟩) (fun x40 ix40 hp39 => ?_)
              have hp39a := hp39
              replace hp39a : x40 = -1 ∨ (0 ≤ x40 ∧ x40 ≤ 16) := hp39a
              refine lv_istore_n (lv' := [(2, .int (II x40)), (4, .int (II x18)), (0, .ref a_this), (1, .int (II a_start)), (3, .int (II v9_3))]) B.1 B.2.1 dX6_readSteps_111 rfl hl (by decide) rfl (fun ls hl => ?_)
              refine lv_iload_n B.1 B.2.1 dX6_readSteps_112 rfl (lv_at hl 0 rfl) ?_
              refine q_con B dX6_readSteps_113 ?_
              refine q_cne (tgt := 123) B dX6_readSteps_114 (by decide) (by unfold inr; omega) (by unfold inr; omega) (fun c41 => ?_) (fun c41 => ?_)
              · refine lv_aload_n B.1 B.2.1 dX6_readSteps_123 rfl (lv_at hl 2 rfl) ?_
                obtain ⟨b42, e43, t44⟩ := g7_10 hC0 t_this
                refine c_getn (k := 10) pk_X6 B hM t_this kd7 rfl (by decide) fl_X6_29 dX6_readSteps_124 e43 ?_
                refine lv_aload_n B.1 B.2.1 dX6_readSteps_127 rfl (lv_at hl 2 rfl) ?_
                refine c_geti (k := 12) pk_X6 B hM t_this kd7 rfl (by decide) fl_X6_150 dX6_readSteps_128 hLL9_6 ?_
                refine lv_iload B.1 B.2.1 dX6_readSteps_131 (lv_at hl 1 rfl) ?_
                have n45 : 40 ≤ N b42 ∧ N b42 ≤ 40 := gn66 hM.2.2.2.2.2.2.1 t44
                refine c_ist B hM t44 kd66 aq66 dX6_readSteps_133 (by omega) (by omega) (show (-2147483648 : Int) ≤ x18 from by omega) (show x18 ≤ (2147483647 : Int) from by omega) (fun I47 H locs hu46 hM => ?_)
                have e48 : I47 b42 v9_3.toNat = x18 := w2_at hu46
                replace hF : Fr mo_X6_readSteps [] T N I J R T N I47 J_9 R := hF.wi hu46 (fun _ _ => by rw [t44, cd_arr (j := 0) (by decide)]; rfl)
                refine lv_aload_n B.1 B.2.1 dX6_readSteps_134 rfl (lv_at hl 2 rfl) ?_
                obtain ⟨b49, e50, t51⟩ := g7_11 hC0 t_this
                refine c_getn (k := 11) pk_X6 B hM t_this kd7 rfl (by decide) fl_X6_32 dX6_readSteps_135 e50 ?_
                refine lv_aload_n B.1 B.2.1 dX6_readSteps_138 rfl (lv_at hl 2 rfl) ?_
                have e52 : I47 a_this 12 = v9_3 := (w2_ne hu46 (Or.inl (tne t_this t44 (by decide)))).trans hLL9_6
                refine c_geti (k := 12) pk_X6 B hM t_this kd7 rfl (by decide) fl_X6_150 dX6_readSteps_139 e52 ?_
                refine lv_iload B.1 B.2.1 dX6_readSteps_142 (lv_at hl 1 rfl) ?_
                refine q_bip B dX6_readSteps_144 (by decide) ?_
                have JJ158 : ∀ (s158_0 : Int) (H : Heap) (locs : List Loc) (ls : Array Slot), (CWd D dA eA (cF dA L T N I J R s.heap.size) s.heap L T N I47 J_9 R H locs) → lv_has ls 5 [(2, .int (II x40)), (4, .int (II x18)), (0, .ref a_this), (1, .int (II a_start)), (3, .int (II v9_3))] → ((-2147483648 : Int) ≤ s158_0 ∧ s158_0 ≤ 2147483647) → W p l e ({ frames := 5, cells := 0, slots := 0, locals := 151 }) s m args below meth c H locs 0 0 (MQ below (gQ D dA eA (cF dA L T N I J R s.heap.size) s.heap.size (hs s.heap) PST) args s 0 0 (cF dA L T N I J R s.heap.size)) (F0 m 158 ls [.int (II s158_0), .int (II v9_3), .ref b49]) := by
                  intro s158_0 H locs ls hM hl hJJ158_0
                  have n53 : 40 ≤ N b49 ∧ N b49 ≤ 40 := gn67 hM.2.2.2.2.2.2.1 t51
                  refine c_ist B hM t51 kd67 aq67 dX6_readSteps_158 (by omega) (by omega) (show (-2147483648 : Int) ≤ s158_0 from by omega) (show s158_0 ≤ (2147483647 : Int) from by omega) (fun I55 H locs hu54 hM => ?_)
                  have e56 : I55 b49 v9_3.toNat = s158_0 := w2_at hu54
                  replace hF : Fr mo_X6_readSteps [] T N I J R T N I55 J_9 R := hF.wi hu54 (fun _ _ => by rw [t51, cd_arr (j := 0) (by decide)]; rfl)
                  refine lv_aload_n B.1 B.2.1 dX6_readSteps_159 rfl (lv_at hl 2 rfl) ?_
                  refine lv_dup B.1 B.2.1 dX6_readSteps_160 rfl ?_
                  have e57 : I55 a_this 12 = v9_3 := (w2_ne hu54 (Or.inl (tne t_this t51 (by decide)))).trans e52
                  refine c_geti (k := 12) pk_X6 B hM t_this kd7 rfl (by decide) fl_X6_150 dX6_readSteps_161 e57 ?_
                  refine q_con B dX6_readSteps_164 ?_
                  refine q_add B dX6_readSteps_165 ?_
                  refine c_puti (k := 12) pk_X6 B hM t_this kd7 rfl (by decide) fl_X6_150 (Or.inl rfl) dX6_readSteps_166 rfl rfl rfl (show (0 : Int) ≤ v9_3 + (1 : Int) from by omega) (show v9_3 + (1 : Int) ≤ (40 : Int) from by omega) (fun I58 H locs hu59 hM => ?_)
                  have e60 : I58 a_this 12 = v9_3 + (1 : Int) := w2_at hu59
                  replace hF : Fr mo_X6_readSteps [] T N I J R T N I58 J_9 R := hF.wi hu59 (fun _ _ => by rw [t_this]; rfl)
                  refine lv_iload B.1 B.2.1 dX6_readSteps_169 (lv_at hl 1 rfl) ?_
                  refine q_bip B dX6_readSteps_171 (by decide) ?_
                  refine q_cne (tgt := 180) B dX6_readSteps_173 (by decide) (by unfold inr; omega) (by unfold inr; omega) (fun c61 => ?_) (fun c61 => ?_)
                  · refine lv_aload_n B.1 B.2.1 dX6_readSteps_180 rfl (lv_at hl 2 rfl) ?_
                    have e62 : I47 a_this 5 = x11 := (w2_ne hu46 (Or.inl (tne t_this t44 (by decide)))).trans e12
                    have e63 : I55 a_this 5 = x11 := (w2_ne hu54 (Or.inl (tne t_this t51 (by decide)))).trans e62
                    have e64 : I58 a_this 5 = x11 := (w2_ne hu59 (Or.inr (by decide))).trans e63
                    have e65 : I47 a_this 6 = x13 := (w2_ne hu46 (Or.inl (tne t_this t44 (by decide)))).trans e14
                    have e66 : I55 a_this 6 = x13 := (w2_ne hu54 (Or.inl (tne t_this t51 (by decide)))).trans e65
                    have e67 : I58 a_this 6 = x13 := (w2_ne hu59 (Or.inr (by decide))).trans e66
                    have hv68 : (TKz g_S g_n) ∧ (I58 a_this 5 ≤ g_n) := by first | omega | exact ⟨by first | omega | assumption | exact trivial, by first | omega | assumption | exact trivial⟩
                    refine z_callv hM hA (c_runV (n := 0) (as := []) (rest := []) B hX hA hM hl.1 t_this kd7 rfl (k_X6_advance l D dA eA L T N I58 J_9 R a_this t_this g_t g_s g_S g_n (show R a_this 3 = g_t + 1 from p_0) (show T g_t = 3 from p_1) (show R g_t 0 = g_s + 1 from p_2) (show T g_s = 62 from p_3) (show I58 g_s = g_S from ((Fr.irow hF p_3 (by decide) nm0 (by decide)).trans p_4)) hv68.1 hv68.2 (show g_S (I58 a_this 5).toNat = I58 a_this 6 from by rw [e64, e67]; first | assumption | omega) _ _) ml_X6_87 nm_X6_advance ⟨rfl, rfl⟩ ⟨Nat.le_of_ble_eq_true rfl, Nat.le_of_ble_eq_true rfl⟩ dX6_readSteps_181 rfl rfl (Nat.le_of_ble_eq_true rfl) ⟨Nat.zero_le _, Nat.zero_le _⟩) (fun L71 T72 N73 I74 J75 R76 dz77 dl78 H locs hp69 hMn => ?_)
                    obtain ⟨yL71, yT72, yN73, yR76, hFc79, hp69a⟩ := hp69
                    obtain rfl := yL71.symm; obtain rfl := yT72.symm; obtain rfl := yN73.symm; obtain rfl := yR76.symm
                    replace hF : Fr mo_X6_readSteps [] T N I J R T N I74 J75 R := hF.trans hFc79 (by decide) e20
                    have hM := hMn
                    clear hMn
                    replace hp69a : I74 a_this 5 ≤ g_n ∧ g_S (I74 a_this 5).toNat = I74 a_this 6 ∧ (((I58 a_this 6 = 0 ∨ I58 a_this 6 = 1) ∧ I74 a_this 5 = I58 a_this 5) ∨ (I74 a_this 5 = I58 a_this 5 + 1)) := hp69a
                    obtain ⟨hp69a_0, hp69a_1, hp69a_2⟩ := hp69a
                    obtain ⟨x80, e81⟩ : ∃ v, I74 a_this 5 = v := ⟨_, rfl⟩
                    obtain ⟨x82, e83⟩ : ∃ v, I74 a_this 6 = v := ⟨_, rfl⟩
                    have nz84 : g_S (x80).toNat = x82 := by have h9 := hp69a_1; rw [e81, e83] at h9; exact h9
                    refine q_inc (lv' := [(3, .int (II (v9_3 + 1))), (2, .int (II x40)), (4, .int (II x18)), (0, .ref a_this), (1, .int (II a_start))]) B dX6_readSteps_184 hl (k := 4) rfl (by decide) rfl (fun ls hl => ?_)
                    refine lv_goto (tgt := 9) B.1 B.2.1 dX6_readSteps_187 (by decide) ?_
                    have e85 : I74 a_this 12 = v9_3 + (1 : Int) := (hFc79.i t_this (by decide) nm0 rfl).trans e60
                    have e86 : I47 a_this 1 = I a_this 1 := (w2_ne hu46 (Or.inl (tne t_this t44 (by decide)))).trans hLL9_10
                    have e87 : I55 a_this 1 = I a_this 1 := (w2_ne hu54 (Or.inl (tne t_this t51 (by decide)))).trans e86
                    have e88 : I58 a_this 1 = I a_this 1 := (w2_ne hu59 (Or.inr (by decide))).trans e87
                    have e89 : I74 a_this 1 = I a_this 1 := (hFc79.i t_this (by decide) nm0 rfl).trans e88
                    have hv90 : ((-2147483648 : Int) ≤ x40 ∧ (x40 : Int) ≤ 2147483647) ∧ ((-2147483648 : Int) ≤ v9_3 + 1 ∧ (v9_3 + 1 : Int) ≤ 2147483647) ∧ (0 ≤ x40) ∧ (x40 ≤ 16) ∧ (0 ≤ (v9_3 + 1)) ∧ ((v9_3 + 1) ≤ 40) ∧ (I74 a_this 12 = (v9_3 + 1)) ∧ (I a_this 5 + (v9_3 + 1) ≤ I74 a_this 5) ∧ (I74 a_this 5 ≤ g_n) ∧ (I74 a_this 1 = I a_this 1) ∧ (0 ≤ 41 - (v9_3 + 1)) := by first | omega | exact ⟨by first | omega | assumption | exact trivial, by first | omega | assumption | exact trivial, by first | omega | assumption | exact trivial, by first | omega | assumption | exact trivial, by first | omega | assumption | exact trivial, by first | omega | assumption | exact trivial, by first | omega | assumption | exact trivial, by first | omega | assumption | exact trivial, by first | omega | assumption | exact trivial, by first | omega | assumption | exact trivial, by first | omega | assumption | exact trivial⟩
                    exact IH9 x40 (v9_3 + 1) I74 J75 _ _ ls hM hF (lv_sub hl [3, 4, 1, 0] rfl) hv90.1 hv90.2.1 hv90.2.2.1 hv90.2.2.2.1 hv90.2.2.2.2.1 hv90.2.2.2.2.2.1 hv90.2.2.2.2.2.2.1 hv90.2.2.2.2.2.2.2.1 hv90.2.2.2.2.2.2.2.2.1 (by rw [e81, e83]; first | assumption | omega) hv90.2.2.2.2.2.2.2.2.2.1 hv90.2.2.2.2.2.2.2.2.2.2 (by omega)
                  · refine lv_aload_n B.1 B.2.1 dX6_readSteps_176 rfl (lv_at hl 2 rfl) ?_
                    have e91 : I47 a_this 5 = x11 := (w2_ne hu46 (Or.inl (tne t_this t44 (by decide)))).trans e12
                    have e92 : I55 a_this 5 = x11 := (w2_ne hu54 (Or.inl (tne t_this t51 (by decide)))).trans e91
                    have e93 : I58 a_this 5 = x11 := (w2_ne hu59 (Or.inr (by decide))).trans e92
                    have e94 : I47 a_this 6 = x13 := (w2_ne hu46 (Or.inl (tne t_this t44 (by decide)))).trans e14
                    have e95 : I55 a_this 6 = x13 := (w2_ne hu54 (Or.inl (tne t_this t51 (by decide)))).trans e94
                    have e96 : I58 a_this 6 = x13 := (w2_ne hu59 (Or.inr (by decide))).trans e95
                    have hv97 : (TKz g_S g_n) ∧ (I58 a_this 5 ≤ g_n) := by first | omega | exact ⟨by first | omega | assumption | exact trivial, by first | omega | assumption | exact trivial⟩
                    refine z_callv hM hA (c_runV (n := 0) (as := []) (rest := []) B hX hA hM hl.1 t_this kd7 rfl (k_X6_advance l D dA eA L T N I58 J_9 R a_this t_this g_t g_s g_S g_n (show R a_this 3 = g_t + 1 from p_0) (show T g_t = 3 from p_1) (show R g_t 0 = g_s + 1 from p_2) (show T g_s = 62 from p_3) (show I58 g_s = g_S from ((Fr.irow hF p_3 (by decide) nm0 (by decide)).trans p_4)) hv97.1 hv97.2 (show g_S (I58 a_this 5).toNat = I58 a_this 6 from by rw [e93, e96]; first | assumption | omega) _ _) ml_X6_87 nm_X6_advance ⟨rfl, rfl⟩ ⟨Nat.le_of_ble_eq_true rfl, Nat.le_of_ble_eq_true rfl⟩ dX6_readSteps_177 rfl rfl (Nat.le_of_ble_eq_true rfl) ⟨Nat.zero_le _, Nat.zero_le _⟩) (fun L100 T101 N102 I103 J104 R105 dz106 dl107 H locs hp98 hMn => ?_)
                    obtain ⟨yL100, yT101, yN102, yR105, hFc108, hp98a⟩ := hp98
                    obtain rfl := yL100.symm; obtain rfl := yT101.symm; obtain rfl := yN102.symm; obtain rfl := yR105.symm
                    replace hF : Fr mo_X6_readSteps [] T N I J R T N I103 J104 R := hF.trans hFc108 (by decide) e20
                    have hM := hMn
                    clear hMn
                    replace hp98a : I103 a_this 5 ≤ g_n ∧ g_S (I103 a_this 5).toNat = I103 a_this 6 ∧ (((I58 a_this 6 = 0 ∨ I58 a_this 6 = 1) ∧ I103 a_this 5 = I58 a_this 5) ∨ (I103 a_this 5 = I58 a_this 5 + 1)) := hp98a
                    obtain ⟨hp98a_0, hp98a_1, hp98a_2⟩ := hp98a
                    obtain ⟨x109, e110⟩ : ∃ v, I103 a_this 5 = v := ⟨_, rfl⟩
                    obtain ⟨x111, e112⟩ : ∃ v, I103 a_this 6 = v := ⟨_, rfl⟩
                    have nz113 : g_S (x109).toNat = x111 := by have h9 := hp98a_1; rw [e110, e112] at h9; exact h9
                    refine lv_aload_n B.1 B.2.1 dX6_readSteps_180 rfl (lv_at hl 2 rfl) ?_
                    have hv114 : (TKz g_S g_n) ∧ (I103 a_this 5 ≤ g_n) := by first | omega | exact ⟨by first | omega | assumption | exact trivial, by first | omega | assumption | exact trivial⟩
                    refine z_callv hM hA (c_runV (n := 0) (as := []) (rest := []) B hX hA hM hl.1 t_this kd7 rfl (k_X6_advance l D dA eA L T N I103 J104 R a_this t_this g_t g_s g_S g_n (show R a_this 3 = g_t + 1 from p_0) (show T g_t = 3 from p_1) (show R g_t 0 = g_s + 1 from p_2) (show T g_s = 62 from p_3) (show I103 g_s = g_S from ((Fr.irow hF p_3 (by decide) nm0 (by decide)).trans p_4)) hv114.1 hv114.2 (show g_S (I103 a_this 5).toNat = I103 a_this 6 from by rw [e110, e112]; first | assumption | omega) _ _) ml_X6_87 nm_X6_advance ⟨rfl, rfl⟩ ⟨Nat.le_of_ble_eq_true rfl, Nat.le_of_ble_eq_true rfl⟩ dX6_readSteps_181 rfl rfl (Nat.le_of_ble_eq_true rfl) ⟨Nat.zero_le _, Nat.zero_le _⟩) (fun L117 T118 N119 I120 J121 R122 dz123 dl124 H locs hp115 hMn => ?_)
                    obtain ⟨yL117, yT118, yN119, yR122, hFc125, hp115a⟩ := hp115
                    obtain rfl := yL117.symm; obtain rfl := yT118.symm; obtain rfl := yN119.symm; obtain rfl := yR122.symm
                    replace hF : Fr mo_X6_readSteps [] T N I J R T N I120 J121 R := hF.trans hFc125 (by decide) e20
                    have hM := hMn
                    clear hMn
                    replace hp115a : I120 a_this 5 ≤ g_n ∧ g_S (I120 a_this 5).toNat = I120 a_this 6 ∧ (((I103 a_this 6 = 0 ∨ I103 a_this 6 = 1) ∧ I120 a_this 5 = I103 a_this 5) ∨ (I120 a_this 5 = I103 a_this 5 + 1)) := hp115a
                    obtain ⟨hp115a_0, hp115a_1, hp115a_2⟩ := hp115a
                    obtain ⟨x126, e127⟩ : ∃ v, I120 a_this 5 = v := ⟨_, rfl⟩
                    obtain ⟨x128, e129⟩ : ∃ v, I120 a_this 6 = v := ⟨_, rfl⟩
                    have nz130 : g_S (x126).toNat = x128 := by have h9 := hp115a_1; rw [e127, e129] at h9; exact h9
                    refine q_inc (lv' := [(3, .int (II (v9_3 + 1))), (2, .int (II x40)), (4, .int (II x18)), (0, .ref a_this), (1, .int (II a_start))]) B dX6_readSteps_184 hl (k := 4) rfl (by decide) rfl (fun ls hl => ?_)
                    refine lv_goto (tgt := 9) B.1 B.2.1 dX6_readSteps_187 (by decide) ?_
                    have e131 : I103 a_this 12 = v9_3 + (1 : Int) := (hFc108.i t_this (by decide) nm0 rfl).trans e60
                    have e132 : I120 a_this 12 = v9_3 + (1 : Int) := (hFc125.i t_this (by decide) nm0 rfl).trans e131
                    have e133 : I47 a_this 1 = I a_this 1 := (w2_ne hu46 (Or.inl (tne t_this t44 (by decide)))).trans hLL9_10
                    have e134 : I55 a_this 1 = I a_this 1 := (w2_ne hu54 (Or.inl (tne t_this t51 (by decide)))).trans e133
                    have e135 : I58 a_this 1 = I a_this 1 := (w2_ne hu59 (Or.inr (by decide))).trans e134
                    have e136 : I103 a_this 1 = I a_this 1 := (hFc108.i t_this (by decide) nm0 rfl).trans e135
                    have e137 : I120 a_this 1 = I a_this 1 := (hFc125.i t_this (by decide) nm0 rfl).trans e136
                    have hv138 : ((-2147483648 : Int) ≤ x40 ∧ (x40 : Int) ≤ 2147483647) ∧ ((-2147483648 : Int) ≤ v9_3 + 1 ∧ (v9_3 + 1 : Int) ≤ 2147483647) ∧ (0 ≤ x40) ∧ (x40 ≤ 16) ∧ (0 ≤ (v9_3 + 1)) ∧ ((v9_3 + 1) ≤ 40) ∧ (I120 a_this 12 = (v9_3 + 1)) ∧ (I a_this 5 + (v9_3 + 1) ≤ I120 a_this 5) ∧ (I120 a_this 5 ≤ g_n) ∧ (I120 a_this 1 = I a_this 1) ∧ (0 ≤ 41 - (v9_3 + 1)) := by first | omega | exact ⟨by first | omega | assumption | exact trivial, by first | omega | assumption | exact trivial, by first | omega | assumption | exact trivial, by first | omega | assumption | exact trivial, by first | omega | assumption | exact trivial, by first | omega | assumption | exact trivial, by first | omega | assumption | exact trivial, by first | omega | assumption | exact trivial, by first | omega | assumption | exact trivial, by first | omega | assumption | exact trivial, by first | omega | assumption | exact trivial⟩
                    exact IH9 x40 (v9_3 + 1) I120 J121 _ _ ls hM hF (lv_sub hl [3, 4, 1, 0] rfl) hv138.1 hv138.2.1 hv138.2.2.1 hv138.2.2.2.1 hv138.2.2.2.2.1 hv138.2.2.2.2.2.1 hv138.2.2.2.2.2.2.1 hv138.2.2.2.2.2.2.2.1 hv138.2.2.2.2.2.2.2.2.1 (by rw [e127, e129]; first | assumption | omega) hv138.2.2.2.2.2.2.2.2.2.1 hv138.2.2.2.2.2.2.2.2.2.2 (by omega)
                refine q_cne (tgt := 157) B dX6_readSteps_146 (by decide) (by unfold inr; omega) (by unfold inr; omega) (fun c139 => ?_) (fun c139 => ?_)
                · refine q_con B dX6_readSteps_157 ?_
                  exact JJ158 0 _ _ ls hM (lv_sub hl [0, 1, 2, 3, 4] rfl) (by first | omega | assumption | exact trivial)
                · refine lv_aload_n B.1 B.2.1 dX6_readSteps_149 rfl (lv_at hl 2 rfl) ?_
                  obtain ⟨w140, e141⟩ : ∃ v, J_9 a_this 7 = v := ⟨_, rfl⟩
                  refine c_getl (k := 7) pk_X6 B hM t_this kd7 rfl (by decide) fl_X6_54 dX6_readSteps_150 e141 ?_
                  refine q_l2i B dX6_readSteps_153 (fun x142 ix142 => ?_)
                  unfold inr at ix142
                  refine lv_goto (tgt := 158) B.1 B.2.1 dX6_readSteps_154 (by decide) ?_
                  exact JJ158 x142 _ _ ls hM (lv_sub hl [0, 1, 2, 3, 4] rfl) (by first | omega | assumption | exact trivial)
              · refine lv_aload_n B.1 B.2.1 dX6_readSteps_117 rfl (lv_at hl 2 rfl) ?_
                refine q_con B dX6_readSteps_118 ?_
                have hv143 : ((-2147483648 : Int) ≤ 4 ∧ (4 : Int) ≤ 2147483647) ∧ ((4 : Int) ≠ 0) := by first | omega | exact ⟨by first | omega | assumption | exact trivial, by first | omega | assumption | exact trivial⟩
                refine z_calli hM hA (c_runV (n := 1) (as := [.int (II 4)]) (rest := []) B hX hA hM hl.1 t_this kd7 rfl (k_X6_wrong l D dA eA L T N I_9 J_9 R a_this t_this (4) hv143.1 hv143.2 _ _) ml_X6_84 nm_X6_wrong ⟨rfl, rfl⟩ ⟨Nat.le_of_ble_eq_true rfl, Nat.le_of_ble_eq_true rfl⟩ dX6_readSteps_119 rfl rfl (Nat.le_of_ble_eq_true rfl) ⟨Nat.zero_le _, Nat.zero_le _⟩) (fun x145 ix145 L146 T147 N148 I149 J150 R151 dz152 dl153 H locs hp144 hMn => ?_)
                obtain ⟨yL146, yT147, yN148, yJ150, yR151, hFc154, hp144a⟩ := hp144
                obtain rfl := yL146.symm; obtain rfl := yT147.symm; obtain rfl := yN148.symm; obtain rfl := yJ150.symm; obtain rfl := yR151.symm
                replace hF : Fr mo_X6_readSteps [] T N I J R T N I149 J_9 R := hF.trans hFc154 (by decide) e20
                have hM := hMn
                clear hMn
                replace hp144a : (0 : Int) ≤ x145 ∧ x145 ≤ 1 ∧ (x145 = 0 ∧ I149 a_this 1 ≠ 0) := hp144a
                obtain ⟨hp144a_0, hp144a_1, hp144a_2⟩ := hp144a
                obtain ⟨hp144a_2_0, hp144a_2_1⟩ := hp144a_2
                obtain ⟨x155, e156⟩ : ∃ v, I149 a_this 1 = v := ⟨_, rfl⟩
                have e157 : I149 a_this 5 = x11 := (hFc154.i t_this (by decide) nm0 rfl).trans e12
                have e158 : I149 a_this 6 = x13 := (hFc154.i t_this (by decide) nm0 rfl).trans e14
                refine g_zret B hM dX6_readSteps_122 ⟨Nat.le_refl _, Nat.le_refl _⟩ (by omega) (by omega) ?_
                rw [← hPST]
                exact ⟨x145, rfl, by omega, rfl, rfl, rfl, rfl, hF, by omega, by omega, by first | omega | assumption | exact trivial, by show g_S (I149 a_this 5).toNat = I149 a_this 6; rw [e157, e158]; first | assumption | omega, by first | omega | assumption | exact trivial, by first | omega | assumption | exact trivial⟩
            refine q_cne (tgt := 104) B dX6_readSteps_84 (by decide) (by unfold inr; omega) (by unfold inr; omega) (fun c159 => ?_) (fun c159 => ?_)
            · exact JJ104  _ _ ls hM (lv_sub hl [0, 1, 2, 3, 4] rfl)
            · refine lv_aload_n B.1 B.2.1 dX6_readSteps_87 rfl (lv_at hl 1 rfl) ?_
              refine p_calli (c_runV (n := 0) (as := []) (rest := []) B hX hA hM hl.1 t_this kd7 rfl (k_X6_twoEquals l D dA eA L T N I_9 J_9 R a_this t_this _ _) ml_X6_175 nm_X6_twoEquals ⟨rfl, rfl⟩ ⟨Nat.le_of_ble_eq_true rfl, Nat.le_of_ble_eq_true rfl⟩ dX6_readSteps_88 rfl rfl (Nat.le_of_ble_eq_true rfl) ⟨Nat.zero_le _, Nat.zero_le _⟩) (fun x161 ix161 hp160 => ?_)
              have hp160a := hp160
              replace hp160a : (0 : Int) ≤ x161 ∧ x161 ≤ 1 ∧ (True) := hp160a
              obtain ⟨hp160a_0, hp160a_1, hp160a_2⟩ := hp160a
              refine q_ine (tgt := 104) B dX6_readSteps_91 (by decide) (by unfold inr; omega) (fun c162 => ?_) (fun c162 => ?_)
              · exact JJ104  _ _ ls hM (lv_sub hl [0, 1, 2, 3, 4] rfl)
              · refine lv_aload_n B.1 B.2.1 dX6_readSteps_94 rfl (lv_at hl 1 rfl) ?_
                have hv163 : (TKz g_S g_n) ∧ (I_9 a_this 5 ≤ g_n) := by first | omega | exact ⟨by first | omega | assumption | exact trivial, by first | omega | assumption | exact trivial⟩
                refine z_callv hM hA (c_runV (n := 0) (as := []) (rest := []) B hX hA hM hl.1 t_this kd7 rfl (k_X6_advance l D dA eA L T N I_9 J_9 R a_this t_this g_t g_s g_S g_n (show R a_this 3 = g_t + 1 from p_0) (show T g_t = 3 from p_1) (show R g_t 0 = g_s + 1 from p_2) (show T g_s = 62 from p_3) (show I_9 g_s = g_S from ((Fr.irow hF p_3 (by decide) nm0 (by decide)).trans p_4)) hv163.1 hv163.2 (show g_S (I_9 a_this 5).toNat = I_9 a_this 6 from by rw [e12, e14]; first | assumption | omega) _ _) ml_X6_87 nm_X6_advance ⟨rfl, rfl⟩ ⟨Nat.le_of_ble_eq_true rfl, Nat.le_of_ble_eq_true rfl⟩ dX6_readSteps_95 rfl rfl (Nat.le_of_ble_eq_true rfl) ⟨Nat.zero_le _, Nat.zero_le _⟩) (fun L166 T167 N168 I169 J170 R171 dz172 dl173 H locs hp164 hMn => ?_)
                obtain ⟨yL166, yT167, yN168, yR171, hFc174, hp164a⟩ := hp164
                obtain rfl := yL166.symm; obtain rfl := yT167.symm; obtain rfl := yN168.symm; obtain rfl := yR171.symm
                replace hF : Fr mo_X6_readSteps [] T N I J R T N I169 J170 R := hF.trans hFc174 (by decide) e20
                have hM := hMn
                clear hMn
                replace hp164a : I169 a_this 5 ≤ g_n ∧ g_S (I169 a_this 5).toNat = I169 a_this 6 ∧ (((I_9 a_this 6 = 0 ∨ I_9 a_this 6 = 1) ∧ I169 a_this 5 = I_9 a_this 5) ∨ (I169 a_this 5 = I_9 a_this 5 + 1)) := hp164a
                obtain ⟨hp164a_0, hp164a_1, hp164a_2⟩ := hp164a
                obtain ⟨x175, e176⟩ : ∃ v, I169 a_this 5 = v := ⟨_, rfl⟩
                obtain ⟨x177, e178⟩ : ∃ v, I169 a_this 6 = v := ⟨_, rfl⟩
                have nz179 : g_S (x175).toNat = x177 := by have h9 := hp164a_1; rw [e176, e178] at h9; exact h9
                refine lv_aload_n B.1 B.2.1 dX6_readSteps_98 rfl (lv_at hl 1 rfl) ?_
                refine q_con B dX6_readSteps_99 ?_
                have hv180 : ((-2147483648 : Int) ≤ 2 ∧ (2 : Int) ≤ 2147483647) ∧ ((2 : Int) ≠ 0) := by first | omega | exact ⟨by first | omega | assumption | exact trivial, by first | omega | assumption | exact trivial⟩
                refine z_calli hM hA (c_runV (n := 1) (as := [.int (II 2)]) (rest := []) B hX hA hM hl.1 t_this kd7 rfl (k_X6_wrong l D dA eA L T N I169 J170 R a_this t_this (2) hv180.1 hv180.2 _ _) ml_X6_84 nm_X6_wrong ⟨rfl, rfl⟩ ⟨Nat.le_of_ble_eq_true rfl, Nat.le_of_ble_eq_true rfl⟩ dX6_readSteps_100 rfl rfl (Nat.le_of_ble_eq_true rfl) ⟨Nat.zero_le _, Nat.zero_le _⟩) (fun x182 ix182 L183 T184 N185 I186 J187 R188 dz189 dl190 H locs hp181 hMn => ?_)
                obtain ⟨yL183, yT184, yN185, yJ187, yR188, hFc191, hp181a⟩ := hp181
                obtain rfl := yL183.symm; obtain rfl := yT184.symm; obtain rfl := yN185.symm; obtain rfl := yJ187.symm; obtain rfl := yR188.symm
                replace hF : Fr mo_X6_readSteps [] T N I J R T N I186 J170 R := hF.trans hFc191 (by decide) e20
                have hM := hMn
                clear hMn
                replace hp181a : (0 : Int) ≤ x182 ∧ x182 ≤ 1 ∧ (x182 = 0 ∧ I186 a_this 1 ≠ 0) := hp181a
                obtain ⟨hp181a_0, hp181a_1, hp181a_2⟩ := hp181a
                obtain ⟨hp181a_2_0, hp181a_2_1⟩ := hp181a_2
                have e192 : I169 a_this 1 = I a_this 1 := (hFc174.i t_this (by decide) nm0 rfl).trans hLL9_10
                obtain ⟨x193, e194⟩ : ∃ v, I186 a_this 1 = v := ⟨_, rfl⟩
                have e195 : I186 a_this 5 = x175 := (hFc191.i t_this (by decide) nm0 rfl).trans e176
                have e196 : I186 a_this 6 = x177 := (hFc191.i t_this (by decide) nm0 rfl).trans e178
                refine g_zret B hM dX6_readSteps_103 ⟨Nat.le_refl _, Nat.le_refl _⟩ (by omega) (by omega) ?_
                rw [← hPST]
                exact ⟨x182, rfl, by omega, rfl, rfl, rfl, rfl, hF, by omega, by omega, by first | omega | assumption | exact trivial, by show g_S (I186 a_this 5).toNat = I186 a_this 6; rw [e195, e196]; first | assumption | omega, by first | omega | assumption | exact trivial, by first | omega | assumption | exact trivial⟩
          · refine lv_aload_n B.1 B.2.1 dX6_readSteps_74 rfl (lv_at hl 1 rfl) ?_
            refine q_con B dX6_readSteps_75 ?_
            have hv197 : ((-2147483648 : Int) ≤ 2 ∧ (2 : Int) ≤ 2147483647) ∧ ((2 : Int) ≠ 0) := by first | omega | exact ⟨by first | omega | assumption | exact trivial, by first | omega | assumption | exact trivial⟩
            refine z_calli hM hA (c_runV (n := 1) (as := [.int (II 2)]) (rest := []) B hX hA hM hl.1 t_this kd7 rfl (k_X6_wrong l D dA eA L T N I_9 J_9 R a_this t_this (2) hv197.1 hv197.2 _ _) ml_X6_84 nm_X6_wrong ⟨rfl, rfl⟩ ⟨Nat.le_of_ble_eq_true rfl, Nat.le_of_ble_eq_true rfl⟩ dX6_readSteps_76 rfl rfl (Nat.le_of_ble_eq_true rfl) ⟨Nat.zero_le _, Nat.zero_le _⟩) (fun x199 ix199 L200 T201 N202 I203 J204 R205 dz206 dl207 H locs hp198 hMn => ?_)
            obtain ⟨yL200, yT201, yN202, yJ204, yR205, hFc208, hp198a⟩ := hp198
            obtain rfl := yL200.symm; obtain rfl := yT201.symm; obtain rfl := yN202.symm; obtain rfl := yJ204.symm; obtain rfl := yR205.symm
            replace hF : Fr mo_X6_readSteps [] T N I J R T N I203 J_9 R := hF.trans hFc208 (by decide) e20
            have hM := hMn
            clear hMn
            replace hp198a : (0 : Int) ≤ x199 ∧ x199 ≤ 1 ∧ (x199 = 0 ∧ I203 a_this 1 ≠ 0) := hp198a
            obtain ⟨hp198a_0, hp198a_1, hp198a_2⟩ := hp198a
            obtain ⟨hp198a_2_0, hp198a_2_1⟩ := hp198a_2
            obtain ⟨x209, e210⟩ : ∃ v, I203 a_this 1 = v := ⟨_, rfl⟩
            have e211 : I203 a_this 5 = x11 := (hFc208.i t_this (by decide) nm0 rfl).trans e12
            have e212 : I203 a_this 6 = x13 := (hFc208.i t_this (by decide) nm0 rfl).trans e14
            refine g_zret B hM dX6_readSteps_79 ⟨Nat.le_refl _, Nat.le_refl _⟩ (by omega) (by omega) ?_
            rw [← hPST]
            exact ⟨x199, rfl, by omega, rfl, rfl, rfl, rfl, hF, by omega, by omega, by first | omega | assumption | exact trivial, by show g_S (I203 a_this 5).toNat = I203 a_this 6; rw [e211, e212]; first | assumption | omega, by first | omega | assumption | exact trivial, by first | omega | assumption | exact trivial⟩
      refine q_ieq (tgt := 38) B dX6_readSteps_16 (by decide) (by unfold inr; omega) (fun c213 => ?_) (fun c213 => ?_)
      · refine lv_aload_n B.1 B.2.1 dX6_readSteps_38 rfl (lv_at hl 0 rfl) ?_
        have r214 : (-2147483648 : Int) ≤ x13 ∧ x13 ≤ 2147483647 := by rw [← e14]; exact g7_6 hM.2.2.2.2.2.2.1 t_this
        refine c_geti (k := 6) pk_X6 B hM t_this kd7 rfl (by decide) fl_X6_47 dX6_readSteps_39 e14 ?_
        refine q_bip B dX6_readSteps_42 (by decide) ?_
        refine q_cne (tgt := 54) B dX6_readSteps_44 (by decide) (by unfold inr; omega) (by unfold inr; omega) (fun c215 => ?_) (fun c215 => ?_)
        · exact JJ54  _ _ ls hM (lv_sub hl [0, 1, 2, 3] rfl)
        · refine lv_aload_n B.1 B.2.1 dX6_readSteps_47 rfl (lv_at hl 0 rfl) ?_
          refine lv_iload_n B.1 B.2.1 dX6_readSteps_48 rfl (lv_at hl 1 rfl) ?_
          refine lv_iload_n B.1 B.2.1 dX6_readSteps_49 rfl (lv_at hl 2 rfl) ?_
          have hv216 : ((0 : Int) ≤ a_start ∧ (a_start : Int) ≤ 1) ∧ ((-2147483648 : Int) ≤ v9_2 ∧ (v9_2 : Int) ≤ 2147483647) := by first | omega | exact ⟨by first | omega | assumption | exact trivial, by first | omega | assumption | exact trivial⟩
          refine z_calli hM hA (c_runV (n := 2) (as := [.int (II a_start), .int (II v9_2)]) (rest := []) B hX hA hM hl.1 t_this kd7 rfl (k_X6_endSteps l D dA eA L T N I_9 J_9 R a_this t_this a_start hv216.1 v9_2 hv216.2 _ _) ml_X6_178 nm_X6_endSteps ⟨rfl, rfl⟩ ⟨Nat.le_of_ble_eq_true rfl, Nat.le_of_ble_eq_true rfl⟩ dX6_readSteps_50 rfl rfl (Nat.le_of_ble_eq_true rfl) ⟨Nat.zero_le _, Nat.zero_le _⟩) (fun x218 ix218 L219 T220 N221 I222 J223 R224 dz225 dl226 H locs hp217 hMn => ?_)
          obtain ⟨yL219, yT220, yN221, yJ223, yR224, hFc227, hp217a⟩ := hp217
          obtain rfl := yL219.symm; obtain rfl := yT220.symm; obtain rfl := yN221.symm; obtain rfl := yJ223.symm; obtain rfl := yR224.symm
          replace hF : Fr mo_X6_readSteps [] T N I J R T N I222 J_9 R := hF.trans hFc227 (by decide) e20
          have hM := hMn
          clear hMn
          replace hp217a : (0 : Int) ≤ x218 ∧ x218 ≤ 1 ∧ (((x218 = 0 ∧ I222 a_this 1 ≠ 0) ∨ (x218 = 1 ∧ I222 a_this 1 = I_9 a_this 1))) := hp217a
          obtain ⟨hp217a_0, hp217a_1, hp217a_2⟩ := hp217a
          obtain ⟨x228, e229⟩ : ∃ v, I222 a_this 1 = v := ⟨_, rfl⟩
          have e230 : I222 a_this 5 = x11 := (hFc227.i t_this (by decide) nm0 rfl).trans e12
          have e231 : I222 a_this 6 = x13 := (hFc227.i t_this (by decide) nm0 rfl).trans e14
          refine g_zret B hM dX6_readSteps_53 ⟨Nat.le_refl _, Nat.le_refl _⟩ (by omega) (by omega) ?_
          rw [← hPST]
          exact ⟨x218, rfl, by omega, rfl, rfl, rfl, rfl, hF, by omega, by omega, by first | omega | assumption | exact trivial, by show g_S (I222 a_this 5).toNat = I222 a_this 6; rw [e230, e231]; first | assumption | omega, by first | omega | assumption | exact trivial, by first | omega | assumption | exact trivial⟩
      · refine lv_aload_n B.1 B.2.1 dX6_readSteps_19 rfl (lv_at hl 0 rfl) ?_
        have r232 : (-2147483648 : Int) ≤ x13 ∧ x13 ≤ 2147483647 := by rw [← e14]; exact g7_6 hM.2.2.2.2.2.2.1 t_this
        refine c_geti (k := 6) pk_X6 B hM t_this kd7 rfl (by decide) fl_X6_47 dX6_readSteps_20 e14 ?_
        refine q_bip B dX6_readSteps_23 (by decide) ?_
        refine q_cne (tgt := 54) B dX6_readSteps_25 (by decide) (by unfold inr; omega) (by unfold inr; omega) (fun c233 => ?_) (fun c233 => ?_)
        · exact JJ54  _ _ ls hM (lv_sub hl [0, 1, 2, 3] rfl)
        · refine lv_aload_n B.1 B.2.1 dX6_readSteps_28 rfl (lv_at hl 0 rfl) ?_
          refine p_calli (c_runV (n := 0) (as := []) (rest := []) B hX hA hM hl.1 t_this kd7 rfl (k_X6_twoEquals l D dA eA L T N I_9 J_9 R a_this t_this _ _) ml_X6_175 nm_X6_twoEquals ⟨rfl, rfl⟩ ⟨Nat.le_of_ble_eq_true rfl, Nat.le_of_ble_eq_true rfl⟩ dX6_readSteps_29 rfl rfl (Nat.le_of_ble_eq_true rfl) ⟨Nat.zero_le _, Nat.zero_le _⟩) (fun x235 ix235 hp234 => ?_)
          have hp234a := hp234
          replace hp234a : (0 : Int) ≤ x235 ∧ x235 ≤ 1 ∧ (True) := hp234a
          obtain ⟨hp234a_0, hp234a_1, hp234a_2⟩ := hp234a
          refine q_ine (tgt := 54) B dX6_readSteps_32 (by decide) (by unfold inr; omega) (fun c236 => ?_) (fun c236 => ?_)
          · exact JJ54  _ _ ls hM (lv_sub hl [0, 1, 2, 3] rfl)
          · refine lv_goto (tgt := 47) B.1 B.2.1 dX6_readSteps_35 (by decide) ?_
            refine lv_aload_n B.1 B.2.1 dX6_readSteps_47 rfl (lv_at hl 0 rfl) ?_
            refine lv_iload_n B.1 B.2.1 dX6_readSteps_48 rfl (lv_at hl 1 rfl) ?_
            refine lv_iload_n B.1 B.2.1 dX6_readSteps_49 rfl (lv_at hl 2 rfl) ?_
            have hv237 : ((0 : Int) ≤ a_start ∧ (a_start : Int) ≤ 1) ∧ ((-2147483648 : Int) ≤ v9_2 ∧ (v9_2 : Int) ≤ 2147483647) := by first | omega | exact ⟨by first | omega | assumption | exact trivial, by first | omega | assumption | exact trivial⟩
            refine z_calli hM hA (c_runV (n := 2) (as := [.int (II a_start), .int (II v9_2)]) (rest := []) B hX hA hM hl.1 t_this kd7 rfl (k_X6_endSteps l D dA eA L T N I_9 J_9 R a_this t_this a_start hv237.1 v9_2 hv237.2 _ _) ml_X6_178 nm_X6_endSteps ⟨rfl, rfl⟩ ⟨Nat.le_of_ble_eq_true rfl, Nat.le_of_ble_eq_true rfl⟩ dX6_readSteps_50 rfl rfl (Nat.le_of_ble_eq_true rfl) ⟨Nat.zero_le _, Nat.zero_le _⟩) (fun x239 ix239 L240 T241 N242 I243 J244 R245 dz246 dl247 H locs hp238 hMn => ?_)
            obtain ⟨yL240, yT241, yN242, yJ244, yR245, hFc248, hp238a⟩ := hp238
            obtain rfl := yL240.symm; obtain rfl := yT241.symm; obtain rfl := yN242.symm; obtain rfl := yJ244.symm; obtain rfl := yR245.symm
            replace hF : Fr mo_X6_readSteps [] T N I J R T N I243 J_9 R := hF.trans hFc248 (by decide) e20
            have hM := hMn
            clear hMn
            replace hp238a : (0 : Int) ≤ x239 ∧ x239 ≤ 1 ∧ (((x239 = 0 ∧ I243 a_this 1 ≠ 0) ∨ (x239 = 1 ∧ I243 a_this 1 = I_9 a_this 1))) := hp238a
            obtain ⟨hp238a_0, hp238a_1, hp238a_2⟩ := hp238a
            obtain ⟨x249, e250⟩ : ∃ v, I243 a_this 1 = v := ⟨_, rfl⟩
            have e251 : I243 a_this 5 = x11 := (hFc248.i t_this (by decide) nm0 rfl).trans e12
            have e252 : I243 a_this 6 = x13 := (hFc248.i t_this (by decide) nm0 rfl).trans e14
            refine g_zret B hM dX6_readSteps_53 ⟨Nat.le_refl _, Nat.le_refl _⟩ (by omega) (by omega) ?_
            rw [← hPST]
            exact ⟨x239, rfl, by omega, rfl, rfl, rfl, rfl, hF, by omega, by omega, by first | omega | assumption | exact trivial, by show g_S (I243 a_this 5).toNat = I243 a_this 6; rw [e251, e252]; first | assumption | omega, by first | omega | assumption | exact trivial, by first | omega | assumption | exact trivial⟩
  have e253 : I8 a_this 5 = x1 := (w2_ne hu9 (Or.inr (by decide))).trans e2
  have e254 : I8 a_this 6 = x3 := (w2_ne hu9 (Or.inr (by decide))).trans e4
  have e255 : I8 a_this 1 = x6 := (w2_ne hu9 (Or.inr (by decide))).trans e7
  have hv256 : ((-2147483648 : Int) ≤ 0 ∧ (0 : Int) ≤ 2147483647) ∧ ((-2147483648 : Int) ≤ 0 ∧ (0 : Int) ≤ 2147483647) ∧ (0 ≤ (0 : Int)) ∧ ((0 : Int) ≤ 16) ∧ (0 ≤ (0 : Int)) ∧ ((0 : Int) ≤ 40) ∧ (I8 a_this 12 = (0 : Int)) ∧ (I a_this 5 + (0 : Int) ≤ I8 a_this 5) ∧ (I8 a_this 5 ≤ g_n) ∧ (I8 a_this 1 = I a_this 1) ∧ (0 ≤ 41 - (0 : Int)) := by first | omega | exact ⟨by first | omega | assumption | exact trivial, by first | omega | assumption | exact trivial, by first | omega | assumption | exact trivial, by first | omega | assumption | exact trivial, by first | omega | assumption | exact trivial, by first | omega | assumption | exact trivial, by first | omega | assumption | exact trivial, by first | omega | assumption | exact trivial, by first | omega | assumption | exact trivial, by first | omega | assumption | exact trivial, by first | omega | assumption | exact trivial⟩
  exact LL9 (Int.toNat (41 - (0 : Int) + 1)) 0 0 I8 J _ _ ls hM hF (lv_sub hl [2, 3, 1, 0] rfl) hv256.1 hv256.2.1 hv256.2.2.1 hv256.2.2.2.1 hv256.2.2.2.2.1 hv256.2.2.2.2.2.1 hv256.2.2.2.2.2.2.1 hv256.2.2.2.2.2.2.2.1 hv256.2.2.2.2.2.2.2.2.1 (by rw [e253, e254]; first | assumption | omega) hv256.2.2.2.2.2.2.2.2.2.1 hv256.2.2.2.2.2.2.2.2.2.2 (by omega)
