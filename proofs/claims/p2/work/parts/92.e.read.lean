def mo_X6_read : List Nat := [229, 230, 231, 225, 226, 2272, 2304, 203, 290, 291, 289, 2400, 2432, 640, 641, 642, 1760, 293, 294, 295, 296, 297, 298, 576, 577, 578, 1696, 608, 609, 610, 1728, 321, 322, 2080, 233, 2240, 198, 2176, 197, 236, 2112, 2144, 480, 481, 482, 1600, 257, 258, 259, 260, 544, 545, 546, 1664]
set_option maxHeartbeats 4000000 in
set_option maxRecDepth 20000 in
theorem k_X6_read (l : Launch) (D : va_G) (dA : Nat → ClassId) (eA : Nat) (L : List Nat) (T N : Nat → Nat) (I : Nat → Nat → Int) (J : Nat → Nat → Int64) (R : Nat → Nat → Nat) (a_this : Nat) (t_this : T a_this = 7) (g_t : Nat) (g_s : Nat) (g_S : Nat → Int) (g_n : Int) (g_b : Nat) (g_k : Nat) (p_0 : R a_this 3 = g_t + 1) (p_1 : T g_t = 3) (p_2 : R g_t 0 = g_s + 1) (p_3 : T g_s = 62) (p_4 : I g_s = g_S) (p_5 : TKz g_S g_n) (p_6 : I a_this 5 ≤ g_n) (p_7 : g_S (I a_this 5).toNat = I a_this 6) (p_8 : R a_this 0 = g_b + 1) (p_9 : T g_b = 6) (p_10 : R g_b 3 = g_k + 1) (p_11 : T g_k = 18) (p_12 : I g_k 2 = 0) (p_13 : 0 = I a_this 1) (p_14 : 0 = I a_this 5) : GC l yX6_read cX6_read 3 none ({ frames := 11, cells := 5 * g_n.toNat + 100, slots := 75 * g_n.toNat + 1100, locals := 332 }) D dA eA L T N I J R [.ref a_this] (5 * g_n.toNat + 100) (75 * g_n.toNat + 1100) (gV (fun L' T' N' I' J' R' dz dl => Fr mo_X6_read [] T N I J R T' N' I' J' R' ∧ I' a_this 5 ≤ g_n ∧ g_S (I' a_this 5).toNat = I' a_this 6 ∧ (I' a_this 1 ≠ 0 ∨ (I' a_this 6 = 0 ∧ 4 * spn I' R' g_k (I' g_k 2).toNat ≤ g_n)) ∧ (dz : Int) ≤ 5 * g_n + 20 ∧ (dl : Int) ≤ 75 * g_n + 300)) := by
  generalize hPST : (gV (fun L' T' N' I' J' R' dz dl => Fr mo_X6_read [] T N I J R T' N' I' J' R' ∧ I' a_this 5 ≤ g_n ∧ g_S (I' a_this 5).toNat = I' a_this 6 ∧ (I' a_this 1 ≠ 0 ∨ (I' a_this 6 = 0 ∧ 4 * spn I' R' g_k (I' g_k 2).toNat ≤ g_n)) ∧ (dz : Int) ≤ 5 * g_n + 20 ∧ (dl : Int) ≤ 75 * g_n + 300)) = PST
  refine g_enter (own := RX6) (by decide) rfl (Nat.le_of_ble_eq_true rfl) (fun p e s m args below meth c ls hm B hX hM hl => ?_)
  have hC0 := hM.2.2.2.2.2.2.1
  have hW0 := hM.2.2.2
  have hF : Fr mo_X6_read [] T N I J R T N I J R := Fr.rf
  have hA : ∀ q, s.heap.size ≤ q → cF dA L T N I J R s.heap.size q := fun q h => Or.inr h
  have hl : lv_has ls 3 [(0, .ref a_this)] := hl
  obtain ⟨x1, e2⟩ : ∃ v, I a_this 5 = v := ⟨_, rfl⟩
  obtain ⟨x3, e4⟩ : ∃ v, I a_this 6 = v := ⟨_, rfl⟩
  have nz5 : g_S (x1).toNat = x3 := by have h9 := p_7; rw [e2, e4] at h9; exact h9
  have hn3 := p_5.2.1
  have hn0 := p_5.1
  have hsp0 : spn I R g_k (I g_k 2).toNat = 0 := by rw [p_12]; rfl
  refine q_con B dX6_read_0 ?_
  refine lv_istore_n (lv' := [(1, .int (II 1)), (0, .ref a_this)]) B.1 B.2.1 dX6_read_1 rfl hl (by decide) rfl (fun ls hl => ?_)
  refine q_con B dX6_read_2 ?_
  refine lv_istore_n (lv' := [(2, .int (II 0)), (1, .int (II 1)), (0, .ref a_this)]) B.1 B.2.1 dX6_read_3 rfl hl (by decide) rfl (fun ls hl => ?_)
  have LL4 : ∀ NN : Nat, ∀ (v4_1 : Int) (v4_2 : Int) (L_4 : List Nat) (T_4 : Nat → Nat) (N_4 : Nat → Nat) (I_4 : Nat → Nat → Int) (J_4 : Nat → Nat → Int64) (R_4 : Nat → Nat → Nat) (zc4 zs4 : Nat) (H : Heap) (locs : List Loc) (ls : Array Slot), (CWd D dA eA (cF dA L T N I J R s.heap.size) s.heap L_4 T_4 N_4 I_4 J_4 R_4 H locs) → (Fr mo_X6_read [] T N I J R T_4 N_4 I_4 J_4 R_4) → lv_has ls 3 [(0, .ref a_this), (1, .int (II v4_1)), (2, .int (II v4_2))] → ((-2147483648 : Int) ≤ v4_1 ∧ v4_1 ≤ 2147483647) → ((-2147483648 : Int) ≤ v4_2 ∧ v4_2 ≤ 2147483647) → (0 ≤ v4_2) → (v4_2 ≤ 3001) → (0 ≤ v4_1) → (v4_1 ≤ 1) → (0 ≤ I_4 a_this 5) → (v4_2 ≤ I_4 a_this 5 + 4000 * (1 - v4_1)) → ((zc4 : Int) ≤ 5 * I_4 a_this 5 + 20 * (1 - v4_1)) → ((zs4 : Int) ≤ 75 * I_4 a_this 5 + 300 * (1 - v4_1)) → ((v4_1 = 1 ∧ I_4 a_this 1 = 0) ∨ (v4_1 = 0 ∧ I_4 a_this 1 ≠ 0)) → (I_4 a_this 5 ≤ g_n) → (g_S (I_4 a_this 5).toNat = I_4 a_this 6) → (v4_1 = 0 ∨ 4 * spn I_4 R_4 g_k (I_4 g_k 2).toNat ≤ I_4 a_this 5) → (0 ≤ 3001 - v4_2) → (3001 - v4_2 < (NN : Int)) → W p l e ({ frames := 11, cells := 5 * g_n.toNat + 100, slots := 75 * g_n.toNat + 1100, locals := 332 }) s m args below meth c H locs zc4 zs4 (MQ below (gQ D dA eA (cF dA L T N I J R s.heap.size) s.heap.size (hs s.heap) PST) args s (5 * g_n.toNat + 100) (75 * g_n.toNat + 1100) (cF dA L T N I J R s.heap.size)) (F0 m 4 ls []) := by
    intro NN
    induction NN with
    | zero => intro v4_1 v4_2 L_4 T_4 N_4 I_4 J_4 R_4 zc4 zs4 H locs ls hM hF hl hLL4_0 hLL4_1 hLL4_2 hLL4_3 hLL4_4 hLL4_5 hLL4_6 hLL4_7 hLL4_8 hLL4_9 hLL4_10 hLL4_11 hLL4_12 hLL4_13 hLL4_14 hN; exfalso; omega
    | succ NN IH4 =>
      intro v4_1 v4_2 L_4 T_4 N_4 I_4 J_4 R_4 zc4 zs4 H locs ls hM hF hl hLL4_0 hLL4_1 hLL4_2 hLL4_3 hLL4_4 hLL4_5 hLL4_6 hLL4_7 hLL4_8 hLL4_9 hLL4_10 hLL4_11 hLL4_12 hLL4_13 hLL4_14 hN
      obtain ⟨x6, e7⟩ : ∃ v, I_4 a_this 5 = v := ⟨_, rfl⟩
      obtain ⟨x8, e9⟩ : ∃ v, I_4 a_this 6 = v := ⟨_, rfl⟩
      have nz10 : g_S (x6).toNat = x8 := by have h9 := hLL4_12; rw [e7, e9] at h9; exact h9
      refine lv_iload_n B.1 B.2.1 dX6_read_4 rfl (lv_at hl 2 rfl) ?_
      refine q_sip B dX6_read_5 (by decide) ?_
      refine q_cgt (tgt := 114) B dX6_read_8 (by decide) (by unfold inr; omega) (by unfold inr; omega) (fun c11 => ?_) (fun c11 => ?_)
      · obtain ⟨x12, e13⟩ : ∃ v, I_4 a_this 1 = v := ⟨_, rfl⟩
        obtain ⟨x14, e15⟩ : ∃ v, I_4 g_k 2 = v := ⟨_, rfl⟩
        refine g_vret B hM dX6_read_114 ⟨by show zc4 ≤ (5 * g_n.toNat + 100); omega, by show zs4 ≤ (75 * g_n.toNat + 1100); omega⟩ ?_
        rw [← hPST]
        exact ⟨rfl, hF, by first | omega | assumption | exact trivial, by show g_S (I_4 a_this 5).toNat = I_4 a_this 6; rw [e7, e9]; first | assumption | omega, by first | omega | assumption | exact trivial, by first | omega | assumption | exact trivial, by first | omega | assumption | exact trivial⟩
      · refine lv_iload_n B.1 B.2.1 dX6_read_11 rfl (lv_at hl 1 rfl) ?_
        refine q_ieq (tgt := 114) B dX6_read_12 (by decide) (by unfold inr; omega) (fun c16 => ?_) (fun c16 => ?_)
        · obtain ⟨x17, e18⟩ : ∃ v, I_4 a_this 1 = v := ⟨_, rfl⟩
          obtain ⟨x19, e21⟩ : ∃ v, I_4 g_k 2 = v := ⟨_, rfl⟩
          refine g_vret B hM dX6_read_114 ⟨by show zc4 ≤ (5 * g_n.toNat + 100); omega, by show zs4 ≤ (75 * g_n.toNat + 1100); omega⟩ ?_
          rw [← hPST]
          exact ⟨rfl, hF, by first | omega | assumption | exact trivial, by show g_S (I_4 a_this 5).toNat = I_4 a_this 6; rw [e7, e9]; first | assumption | omega, by first | omega | assumption | exact trivial, by first | omega | assumption | exact trivial, by first | omega | assumption | exact trivial⟩
        · have hw1 : v4_1 = 1 := by omega
          obtain ⟨x22, e23⟩ : ∃ v, I_4 a_this 1 = v := ⟨_, rfl⟩
          have hf1 : I_4 a_this 1 = 0 := by omega
          obtain ⟨x24, e25⟩ : ∃ v, I_4 g_k 2 = v := ⟨_, rfl⟩
          have hs1 : 4 * spn I_4 R_4 g_k (I_4 g_k 2).toNat ≤ I_4 a_this 5 := by omega
          clear hLL4_10 hLL4_13
          refine lv_aload_n B.1 B.2.1 dX6_read_15 rfl (lv_at hl 0 rfl) ?_
          have t26 : T_4 a_this = 7 := hF.tt t_this (by decide) nm0
          have r27 : (-2147483648 : Int) ≤ x8 ∧ x8 ≤ 2147483647 := by rw [← e9]; exact g7_6 hM.2.2.2.2.2.2.1 t26
          refine c_geti (k := 6) pk_X6 B hM t26 kd7 rfl (by decide) fl_X6_47 dX6_read_16 e9 ?_
          refine q_ieq (tgt := 114) B dX6_read_19 (by decide) (by unfold inr; omega) (fun c28 => ?_) (fun c28 => ?_)
          · refine g_vret B hM dX6_read_114 ⟨by show zc4 ≤ (5 * g_n.toNat + 100); omega, by show zs4 ≤ (75 * g_n.toNat + 1100); omega⟩ ?_
            rw [← hPST]
            exact ⟨rfl, hF, by first | omega | assumption | exact trivial, by show g_S (I_4 a_this 5).toNat = I_4 a_this 6; rw [e7, e9]; first | assumption | omega, by first | omega | assumption | exact trivial, by first | omega | assumption | exact trivial, by first | omega | assumption | exact trivial⟩
          · refine lv_aload_n B.1 B.2.1 dX6_read_22 rfl (lv_at hl 0 rfl) ?_
            refine q_con B dX6_read_23 ?_
            have hFt := hF
            have hMt := hM
            refine p_calli (c_runV (n := 1) (as := [.int (II 0)]) (rest := []) B hX hA hM hl.1 t26 kd7 rfl (k_X6_isWordb l D dA eA L_4 T_4 N_4 I_4 J_4 R_4 a_this t26 (0) (by first | omega | assumption | exact trivial) _ _) ml_X6_64 nm_X6_isWord ⟨rfl, rfl⟩ ⟨Nat.le_of_ble_eq_true rfl, Nat.le_of_ble_eq_true rfl⟩ dX6_read_24 rfl rfl (Nat.le_of_ble_eq_true rfl) ⟨by show zc4 + 0 ≤ (5 * g_n.toNat + 100); omega, by show zs4 + 0 ≤ (75 * g_n.toNat + 1100); omega⟩) (fun x30 ix30 hp29 => ?_)
            have hp29a := hp29
            replace hp29a : (0 : Int) ≤ x30 ∧ x30 ≤ 1 ∧ (x30 = 0 ∨ I_4 a_this 6 = 5) := hp29a
            obtain ⟨hp29a_0, hp29a_1, hp29a_2⟩ := hp29a
            clear hFt hMt
            refine q_ieq (tgt := 38) B dX6_read_27 (by decide) (by unfold inr; omega) (fun c31 => ?_) (fun c31 => ?_)
            · refine lv_aload_n B.1 B.2.1 dX6_read_38 rfl (lv_at hl 0 rfl) ?_
              refine q_con B dX6_read_39 ?_
              have hFt := hF
              have hMt := hM
              refine p_calli (c_runV (n := 1) (as := [.int (II 1)]) (rest := []) B hX hA hM hl.1 t26 kd7 rfl (k_X6_isWordb l D dA eA L_4 T_4 N_4 I_4 J_4 R_4 a_this t26 (1) (by first | omega | assumption | exact trivial) _ _) ml_X6_64 nm_X6_isWord ⟨rfl, rfl⟩ ⟨Nat.le_of_ble_eq_true rfl, Nat.le_of_ble_eq_true rfl⟩ dX6_read_40 rfl rfl (Nat.le_of_ble_eq_true rfl) ⟨by show zc4 + 0 ≤ (5 * g_n.toNat + 100); omega, by show zs4 + 0 ≤ (75 * g_n.toNat + 1100); omega⟩) (fun x33 ix33 hp32 => ?_)
              have hp32a := hp32
              replace hp32a : (0 : Int) ≤ x33 ∧ x33 ≤ 1 ∧ (x33 = 0 ∨ I_4 a_this 6 = 5) := hp32a
              obtain ⟨hp32a_0, hp32a_1, hp32a_2⟩ := hp32a
              clear hFt hMt
              refine q_ieq (tgt := 54) B dX6_read_43 (by decide) (by unfold inr; omega) (fun c34 => ?_) (fun c34 => ?_)
              · refine lv_aload_n B.1 B.2.1 dX6_read_54 rfl (lv_at hl 0 rfl) ?_
                refine q_con B dX6_read_55 ?_
                have hFt := hF
                have hMt := hM
                refine p_calli (c_runV (n := 1) (as := [.int (II 2)]) (rest := []) B hX hA hM hl.1 t26 kd7 rfl (k_X6_isWordb l D dA eA L_4 T_4 N_4 I_4 J_4 R_4 a_this t26 (2) (by first | omega | assumption | exact trivial) _ _) ml_X6_64 nm_X6_isWord ⟨rfl, rfl⟩ ⟨Nat.le_of_ble_eq_true rfl, Nat.le_of_ble_eq_true rfl⟩ dX6_read_56 rfl rfl (Nat.le_of_ble_eq_true rfl) ⟨by show zc4 + 0 ≤ (5 * g_n.toNat + 100); omega, by show zs4 + 0 ≤ (75 * g_n.toNat + 1100); omega⟩) (fun x36 ix36 hp35 => ?_)
                have hp35a := hp35
                replace hp35a : (0 : Int) ≤ x36 ∧ x36 ≤ 1 ∧ (x36 = 0 ∨ I_4 a_this 6 = 5) := hp35a
                obtain ⟨hp35a_0, hp35a_1, hp35a_2⟩ := hp35a
                clear hFt hMt
                refine q_ieq (tgt := 70) B dX6_read_59 (by decide) (by unfold inr; omega) (fun c37 => ?_) (fun c37 => ?_)
                · refine lv_aload_n B.1 B.2.1 dX6_read_70 rfl (lv_at hl 0 rfl) ?_
                  refine q_con B dX6_read_71 ?_
                  have hFt := hF
                  have hMt := hM
                  refine p_calli (c_runV (n := 1) (as := [.int (II 4)]) (rest := []) B hX hA hM hl.1 t26 kd7 rfl (k_X6_isWordb l D dA eA L_4 T_4 N_4 I_4 J_4 R_4 a_this t26 (4) (by first | omega | assumption | exact trivial) _ _) ml_X6_64 nm_X6_isWord ⟨rfl, rfl⟩ ⟨Nat.le_of_ble_eq_true rfl, Nat.le_of_ble_eq_true rfl⟩ dX6_read_72 rfl rfl (Nat.le_of_ble_eq_true rfl) ⟨by show zc4 + 0 ≤ (5 * g_n.toNat + 100); omega, by show zs4 + 0 ≤ (75 * g_n.toNat + 1100); omega⟩) (fun x39 ix39 hp38 => ?_)
                  have hp38a := hp38
                  replace hp38a : (0 : Int) ≤ x39 ∧ x39 ≤ 1 ∧ (x39 = 0 ∨ I_4 a_this 6 = 5) := hp38a
                  obtain ⟨hp38a_0, hp38a_1, hp38a_2⟩ := hp38a
                  clear hFt hMt
                  refine q_ieq (tgt := 86) B dX6_read_75 (by decide) (by unfold inr; omega) (fun c40 => ?_) (fun c40 => ?_)
                  · refine lv_aload_n B.1 B.2.1 dX6_read_86 rfl (lv_at hl 0 rfl) ?_
                    refine q_con B dX6_read_87 ?_
                    have hFt := hF
                    have hMt := hM
                    refine p_calli (c_runV (n := 1) (as := [.int (II 5)]) (rest := []) B hX hA hM hl.1 t26 kd7 rfl (k_X6_isWordb l D dA eA L_4 T_4 N_4 I_4 J_4 R_4 a_this t26 (5) (by first | omega | assumption | exact trivial) _ _) ml_X6_64 nm_X6_isWord ⟨rfl, rfl⟩ ⟨Nat.le_of_ble_eq_true rfl, Nat.le_of_ble_eq_true rfl⟩ dX6_read_88 rfl rfl (Nat.le_of_ble_eq_true rfl) ⟨by show zc4 + 0 ≤ (5 * g_n.toNat + 100); omega, by show zs4 + 0 ≤ (75 * g_n.toNat + 1100); omega⟩) (fun x42 ix42 hp41 => ?_)
                    have hp41a := hp41
                    replace hp41a : (0 : Int) ≤ x42 ∧ x42 ≤ 1 ∧ (x42 = 0 ∨ I_4 a_this 6 = 5) := hp41a
                    obtain ⟨hp41a_0, hp41a_1, hp41a_2⟩ := hp41a
                    clear hFt hMt
                    refine q_ieq (tgt := 102) B dX6_read_91 (by decide) (by unfold inr; omega) (fun c43 => ?_) (fun c43 => ?_)
                    · refine lv_aload_n B.1 B.2.1 dX6_read_102 rfl (lv_at hl 0 rfl) ?_
                      refine q_con B dX6_read_103 ?_
                      have hFt := hF
                      have hMt := hM
                      have hv44 : ((-2147483648 : Int) ≤ 2 ∧ (2 : Int) ≤ 2147483647) ∧ ((2 : Int) ≠ 0) := by first | omega | exact ⟨by first | omega | assumption | exact trivial, by first | omega | assumption | exact trivial⟩
                      refine z_calli hM hA (c_runV (n := 1) (as := [.int (II 2)]) (rest := []) B hX hA hM hl.1 t26 kd7 rfl (k_X6_wrong l D dA eA L_4 T_4 N_4 I_4 J_4 R_4 a_this t26 (2) hv44.1 hv44.2 _ _) ml_X6_84 nm_X6_wrong ⟨rfl, rfl⟩ ⟨Nat.le_of_ble_eq_true rfl, Nat.le_of_ble_eq_true rfl⟩ dX6_read_104 rfl rfl (Nat.le_of_ble_eq_true rfl) ⟨by show zc4 + 0 ≤ (5 * g_n.toNat + 100); omega, by show zs4 + 0 ≤ (75 * g_n.toNat + 1100); omega⟩) (fun x46 ix46 L47 T48 N49 I50 J51 R52 dz53 dl54 H locs hp45 hMn => ?_)
                      obtain ⟨yL47, yT48, yN49, yJ51, yR52, hFc55, hp45a⟩ := hp45
                      obtain rfl := yL47.symm; obtain rfl := yT48.symm; obtain rfl := yN49.symm; obtain rfl := yJ51.symm; obtain rfl := yR52.symm
                      replace hF : Fr mo_X6_read [] T N I J R T_4 N_4 I50 J_4 R_4 := hF.trans hFc55 (by decide) e20
                      have hM := hMn
                      clear hMn
                      replace hp45a : (0 : Int) ≤ x46 ∧ x46 ≤ 1 ∧ (x46 = 0 ∧ I50 a_this 1 ≠ 0) := hp45a
                      obtain ⟨hp45a_0, hp45a_1, hp45a_2⟩ := hp45a
                      obtain ⟨hp45a_2_0, hp45a_2_1⟩ := hp45a_2
                      obtain ⟨x56, e57⟩ : ∃ v, I50 a_this 1 = v := ⟨_, rfl⟩
                      have t58 : T_4 g_k = 18 := hF.tt p_11 (by decide) nm0
                      have hsp := spn_fr hMt.2.2.2.2.2.2.1 hMt.2.2.2.2.2.2.2 t58 hFc55 (by decide)
                      clear hFt hMt
                      refine lv_istore_n (lv' := [(1, .int (II x46)), (0, .ref a_this), (2, .int (II v4_2))]) B.1 B.2.1 dX6_read_107 rfl hl (by decide) rfl (fun ls hl => ?_)
                      refine q_inc (lv' := [(2, .int (II (v4_2 + 1))), (1, .int (II x46)), (0, .ref a_this)]) B dX6_read_108 hl (k := 2) rfl (by decide) rfl (fun ls hl => ?_)
                      refine lv_goto (tgt := 4) B.1 B.2.1 dX6_read_111 (by decide) ?_
                      have e59 : I50 a_this 5 = x6 := (hFc55.i t26 (by decide) nm0 rfl).trans e7
                      have e60 : I50 a_this 6 = x8 := (hFc55.i t26 (by decide) nm0 rfl).trans e9
                      have e61 : I50 g_k 2 = x24 := (hFc55.i t58 (by decide) nm0 rfl).trans e25
                      have hv62 : ((-2147483648 : Int) ≤ x46 ∧ (x46 : Int) ≤ 2147483647) ∧ ((-2147483648 : Int) ≤ v4_2 + 1 ∧ (v4_2 + 1 : Int) ≤ 2147483647) ∧ (0 ≤ (v4_2 + 1)) ∧ ((v4_2 + 1) ≤ 3001) ∧ (0 ≤ x46) ∧ (x46 ≤ 1) ∧ (0 ≤ I50 a_this 5) ∧ ((v4_2 + 1) ≤ I50 a_this 5 + 4000 * (1 - x46)) ∧ ((zc4 : Int) ≤ 5 * I50 a_this 5 + 20 * (1 - x46)) ∧ ((zs4 : Int) ≤ 75 * I50 a_this 5 + 300 * (1 - x46)) ∧ (I50 a_this 5 ≤ g_n) ∧ (x46 = 0 ∨ 4 * spn I50 R_4 g_k (I50 g_k 2).toNat ≤ I50 a_this 5) ∧ (0 ≤ 3001 - (v4_2 + 1)) := by first | omega | exact ⟨by first | omega | assumption | exact trivial, by first | omega | assumption | exact trivial, by first | omega | assumption | exact trivial, by first | omega | assumption | exact trivial, by first | omega | assumption | exact trivial, by first | omega | assumption | exact trivial, by first | omega | assumption | exact trivial, by first | omega | assumption | exact trivial, by first | omega | assumption | exact trivial, by first | omega | assumption | exact trivial, by first | omega | assumption | exact trivial, by first | omega | assumption | exact trivial, by first | omega | assumption | exact trivial⟩
                      exact IH4 x46 (v4_2 + 1) L_4 T_4 N_4 I50 J_4 R_4 zc4 zs4 _ _ ls hM hF (lv_sub hl [2, 1, 0] rfl) hv62.1 hv62.2.1 hv62.2.2.1 hv62.2.2.2.1 hv62.2.2.2.2.1 hv62.2.2.2.2.2.1 hv62.2.2.2.2.2.2.1 hv62.2.2.2.2.2.2.2.1 hv62.2.2.2.2.2.2.2.2.1 hv62.2.2.2.2.2.2.2.2.2.1 (by first | exact Or.inl ⟨by omega, by omega⟩ | exact Or.inr ⟨by omega, by first | assumption | omega⟩ | omega) hv62.2.2.2.2.2.2.2.2.2.2.1 (by rw [e59, e60]; first | assumption | omega) hv62.2.2.2.2.2.2.2.2.2.2.2.1 hv62.2.2.2.2.2.2.2.2.2.2.2.2 (by omega)
                    · refine lv_aload_n B.1 B.2.1 dX6_read_94 rfl (lv_at hl 0 rfl) ?_
                      have hFt := hF
                      have hMt := hM
                      have e63 : R_4 a_this 3 = g_t + 1 := (hF.r t_this (by decide) nm0 rfl).trans p_0
                      have e64 : R_4 g_t 0 = g_s + 1 := (hF.r p_1 (by decide) nm0 rfl).trans p_2
                      have e65 : R_4 a_this 0 = g_b + 1 := (hF.r t_this (by decide) nm0 rfl).trans p_8
                      have e66 : R_4 g_b 3 = g_k + 1 := (hF.r p_9 (by decide) nm0 rfl).trans p_10
                      have t67 : T_4 g_t = 3 := hF.tt p_1 (by decide) nm0
                      have t68 : T_4 g_s = 62 := hF.tt p_3 (by decide) nm0
                      have t69 : T_4 g_b = 6 := hF.tt p_9 (by decide) nm0
                      have t70 : T_4 g_k = 18 := hF.tt p_11 (by decide) nm0
                      have hv71 : (TKz g_S g_n) ∧ (I_4 a_this 5 ≤ g_n) := by first | omega | exact ⟨by first | omega | assumption | exact trivial, by first | omega | assumption | exact trivial⟩
                      refine g_calli hM hA (c_runV (n := 0) (as := []) (rest := []) B hX hA hM hl.1 t26 kd7 rfl (k_X6_readKindb l D dA eA L_4 T_4 N_4 I_4 J_4 R_4 a_this t26 g_t g_s g_S g_n g_b g_k (show R_4 a_this 3 = g_t + 1 from e63) (show T_4 g_t = 3 from t67) (show R_4 g_t 0 = g_s + 1 from e64) (show T_4 g_s = 62 from t68) (show I_4 g_s = g_S from ((Fr.irow hF p_3 (by decide) nm0 (by decide)).trans p_4)) hv71.1 hv71.2 (show g_S (I_4 a_this 5).toNat = I_4 a_this 6 from by rw [e7, e9]; first | assumption | omega) (show R_4 a_this 0 = g_b + 1 from e65) (show T_4 g_b = 6 from t69) (show R_4 g_b 3 = g_k + 1 from e66) (show T_4 g_k = 18 from t70) _ _) ml_X6_81 nm_X6_readKind ⟨rfl, rfl⟩ ⟨Nat.le_of_ble_eq_true rfl, Nat.le_of_ble_eq_true rfl⟩ dX6_read_95 rfl rfl (Nat.le_of_ble_eq_true rfl) ⟨by show zc4 + (5 * (g_n - I_4 a_this 5).toNat + 60) ≤ (5 * g_n.toNat + 100); omega, by show zs4 + (75 * (g_n - I_4 a_this 5).toNat + 700) ≤ (75 * g_n.toNat + 1100); omega⟩) (fun x73 ix73 L74 T75 N76 I77 J78 R79 dz80 dl81 H locs hp72 hMn => ?_)
                      obtain ⟨hFc82, hp72a⟩ := hp72
                      replace hF : Fr mo_X6_read [] T N I J R T75 N76 I77 J78 R79 := hF.trans hFc82 (by decide) e20
                      have hM := hMn
                      clear hMn
                      replace hp72a : (0 : Int) ≤ x73 ∧ x73 ≤ 1 ∧ (I77 a_this 5 ≤ g_n ∧ g_S (I77 a_this 5).toNat = I77 a_this 6 ∧ I_4 a_this 5 ≤ I77 a_this 5 ∧ ((x73 = 0 ∧ I77 a_this 1 ≠ 0) ∨ (x73 = 1 ∧ I77 a_this 1 = I_4 a_this 1 ∧ I_4 a_this 5 + 4 ≤ I77 a_this 5)) ∧ (dz80 : Int) ≤ 5 * (I77 a_this 5 - I_4 a_this 5) + 20 * (1 - x73) ∧ (dl81 : Int) ≤ 75 * (I77 a_this 5 - I_4 a_this 5) + 300 * (1 - x73) ∧ (x73 = 0 ∨ 4 * spn I77 R79 g_k (I77 g_k 2).toNat ≤ 4 * spn I_4 R_4 g_k (I_4 g_k 2).toNat + (I77 a_this 5 - I_4 a_this 5))) := hp72a
                      obtain ⟨hp72a_0, hp72a_1, hp72a_2⟩ := hp72a
                      obtain ⟨hp72a_2_0, hp72a_2_1, hp72a_2_2, hp72a_2_3, hp72a_2_4, hp72a_2_5, hp72a_2_6⟩ := hp72a_2
                      obtain ⟨x83, e84⟩ : ∃ v, I77 a_this 5 = v := ⟨_, rfl⟩
                      obtain ⟨x85, e86⟩ : ∃ v, I77 a_this 6 = v := ⟨_, rfl⟩
                      have nz87 : g_S (x83).toNat = x85 := by have h9 := hp72a_2_1; rw [e84, e86] at h9; exact h9
                      obtain ⟨x88, e89⟩ : ∃ v, I77 a_this 1 = v := ⟨_, rfl⟩
                      obtain ⟨x90, e91⟩ : ∃ v, I77 g_k 2 = v := ⟨_, rfl⟩
                      clear hFt hMt
                      refine lv_istore_n (lv' := [(1, .int (II x73)), (0, .ref a_this), (2, .int (II v4_2))]) B.1 B.2.1 dX6_read_98 rfl hl (by decide) rfl (fun ls hl => ?_)
                      refine lv_goto (tgt := 108) B.1 B.2.1 dX6_read_99 (by decide) ?_
                      refine q_inc (lv' := [(2, .int (II (v4_2 + 1))), (1, .int (II x73)), (0, .ref a_this)]) B dX6_read_108 hl (k := 2) rfl (by decide) rfl (fun ls hl => ?_)
                      refine lv_goto (tgt := 4) B.1 B.2.1 dX6_read_111 (by decide) ?_
                      have hv92 : ((-2147483648 : Int) ≤ x73 ∧ (x73 : Int) ≤ 2147483647) ∧ ((-2147483648 : Int) ≤ v4_2 + 1 ∧ (v4_2 + 1 : Int) ≤ 2147483647) ∧ (0 ≤ (v4_2 + 1)) ∧ ((v4_2 + 1) ≤ 3001) ∧ (0 ≤ x73) ∧ (x73 ≤ 1) ∧ (0 ≤ I77 a_this 5) ∧ ((v4_2 + 1) ≤ I77 a_this 5 + 4000 * (1 - x73)) ∧ ((zc4 + dz80 : Int) ≤ 5 * I77 a_this 5 + 20 * (1 - x73)) ∧ ((zs4 + dl81 : Int) ≤ 75 * I77 a_this 5 + 300 * (1 - x73)) ∧ (I77 a_this 5 ≤ g_n) ∧ (x73 = 0 ∨ 4 * spn I77 R79 g_k (I77 g_k 2).toNat ≤ I77 a_this 5) ∧ (0 ≤ 3001 - (v4_2 + 1)) := by first | omega | exact ⟨by first | omega | assumption | exact trivial, by first | omega | assumption | exact trivial, by first | omega | assumption | exact trivial, by first | omega | assumption | exact trivial, by first | omega | assumption | exact trivial, by first | omega | assumption | exact trivial, by first | omega | assumption | exact trivial, by first | omega | assumption | exact trivial, by first | omega | assumption | exact trivial, by first | omega | assumption | exact trivial, by first | omega | assumption | exact trivial, by first | omega | assumption | exact trivial, by first | omega | assumption | exact trivial⟩
                      exact IH4 x73 (v4_2 + 1) L74 T75 N76 I77 J78 R79 (zc4 + dz80) (zs4 + dl81) _ _ ls hM hF (lv_sub hl [2, 1, 0] rfl) hv92.1 hv92.2.1 hv92.2.2.1 hv92.2.2.2.1 hv92.2.2.2.2.1 hv92.2.2.2.2.2.1 hv92.2.2.2.2.2.2.1 hv92.2.2.2.2.2.2.2.1 hv92.2.2.2.2.2.2.2.2.1 hv92.2.2.2.2.2.2.2.2.2.1 (by first | exact Or.inl ⟨by omega, by omega⟩ | exact Or.inr ⟨by omega, by first | assumption | omega⟩ | omega) hv92.2.2.2.2.2.2.2.2.2.2.1 (by rw [e84, e86]; first | assumption | omega) hv92.2.2.2.2.2.2.2.2.2.2.2.1 hv92.2.2.2.2.2.2.2.2.2.2.2.2 (by omega)
                  · refine lv_aload_n B.1 B.2.1 dX6_read_78 rfl (lv_at hl 0 rfl) ?_
                    have hFt := hF
                    have hMt := hM
                    have e93 : R_4 a_this 3 = g_t + 1 := (hF.r t_this (by decide) nm0 rfl).trans p_0
                    have e94 : R_4 g_t 0 = g_s + 1 := (hF.r p_1 (by decide) nm0 rfl).trans p_2
                    have t95 : T_4 g_t = 3 := hF.tt p_1 (by decide) nm0
                    have t96 : T_4 g_s = 62 := hF.tt p_3 (by decide) nm0
                    have hv97 : (TKz g_S g_n) ∧ (I_4 a_this 5 ≤ g_n) := by first | omega | exact ⟨by first | omega | assumption | exact trivial, by first | omega | assumption | exact trivial⟩
                    refine g_calli hM hA (c_runV (n := 0) (as := []) (rest := []) B hX hA hM hl.1 t26 kd7 rfl (k_X6_readMarkb l D dA eA L_4 T_4 N_4 I_4 J_4 R_4 a_this t26 g_t g_s g_S g_n (show R_4 a_this 3 = g_t + 1 from e93) (show T_4 g_t = 3 from t95) (show R_4 g_t 0 = g_s + 1 from e94) (show T_4 g_s = 62 from t96) (show I_4 g_s = g_S from ((Fr.irow hF p_3 (by decide) nm0 (by decide)).trans p_4)) hv97.1 hv97.2 (show g_S (I_4 a_this 5).toNat = I_4 a_this 6 from by rw [e7, e9]; first | assumption | omega) _ _) ml_X6_78 nm_X6_readMark ⟨rfl, rfl⟩ ⟨Nat.le_of_ble_eq_true rfl, Nat.le_of_ble_eq_true rfl⟩ dX6_read_79 rfl rfl (Nat.le_of_ble_eq_true rfl) ⟨by show zc4 + 40 ≤ (5 * g_n.toNat + 100); omega, by show zs4 + 315 ≤ (75 * g_n.toNat + 1100); omega⟩) (fun x99 ix99 L100 T101 N102 I103 J104 R105 dz106 dl107 H locs hp98 hMn => ?_)
                    obtain ⟨hFc108, hp98a⟩ := hp98
                    have t109 : T_4 g_b = 6 := hF.tt p_9 (by decide) nm0
                    have t110 : T_4 g_k = 18 := hF.tt p_11 (by decide) nm0
                    replace hF : Fr mo_X6_read [] T N I J R T101 N102 I103 J104 R105 := hF.trans hFc108 (by decide) e20
                    have hM := hMn
                    clear hMn
                    replace hp98a : (0 : Int) ≤ x99 ∧ x99 ≤ 1 ∧ (I103 a_this 5 ≤ g_n ∧ g_S (I103 a_this 5).toNat = I103 a_this 6 ∧ I_4 a_this 5 ≤ I103 a_this 5 ∧ ((x99 = 0 ∧ I103 a_this 1 ≠ 0) ∨ (x99 = 1 ∧ I103 a_this 1 = I_4 a_this 1 ∧ I_4 a_this 5 + 1 ≤ I103 a_this 5)) ∧ (dz106 : Int) ≤ 5 * (I103 a_this 5 - I_4 a_this 5) + 20 * (1 - x99) ∧ (dl107 : Int) ≤ 75 * (I103 a_this 5 - I_4 a_this 5) + 300 * (1 - x99) ∧ dz106 ≤ 40 ∧ dl107 ≤ 315) := hp98a
                    obtain ⟨hp98a_0, hp98a_1, hp98a_2⟩ := hp98a
                    obtain ⟨hp98a_2_0, hp98a_2_1, hp98a_2_2, hp98a_2_3, hp98a_2_4, hp98a_2_5, hp98a_2_6, hp98a_2_7⟩ := hp98a_2
                    obtain ⟨x111, e112⟩ : ∃ v, I103 a_this 5 = v := ⟨_, rfl⟩
                    obtain ⟨x113, e114⟩ : ∃ v, I103 a_this 6 = v := ⟨_, rfl⟩
                    have nz115 : g_S (x111).toNat = x113 := by have h9 := hp98a_2_1; rw [e112, e114] at h9; exact h9
                    obtain ⟨x116, e117⟩ : ∃ v, I103 a_this 1 = v := ⟨_, rfl⟩
                    have hsp := spn_fr hMt.2.2.2.2.2.2.1 hMt.2.2.2.2.2.2.2 t110 hFc108 (by decide)
                    clear hFt hMt
                    refine lv_istore_n (lv' := [(1, .int (II x99)), (0, .ref a_this), (2, .int (II v4_2))]) B.1 B.2.1 dX6_read_82 rfl hl (by decide) rfl (fun ls hl => ?_)
                    refine lv_goto (tgt := 108) B.1 B.2.1 dX6_read_83 (by decide) ?_
                    refine q_inc (lv' := [(2, .int (II (v4_2 + 1))), (1, .int (II x99)), (0, .ref a_this)]) B dX6_read_108 hl (k := 2) rfl (by decide) rfl (fun ls hl => ?_)
                    refine lv_goto (tgt := 4) B.1 B.2.1 dX6_read_111 (by decide) ?_
                    have e118 : I103 g_k 2 = x24 := (hFc108.i t110 (by decide) nm0 rfl).trans e25
                    have hv119 : ((-2147483648 : Int) ≤ x99 ∧ (x99 : Int) ≤ 2147483647) ∧ ((-2147483648 : Int) ≤ v4_2 + 1 ∧ (v4_2 + 1 : Int) ≤ 2147483647) ∧ (0 ≤ (v4_2 + 1)) ∧ ((v4_2 + 1) ≤ 3001) ∧ (0 ≤ x99) ∧ (x99 ≤ 1) ∧ (0 ≤ I103 a_this 5) ∧ ((v4_2 + 1) ≤ I103 a_this 5 + 4000 * (1 - x99)) ∧ ((zc4 + dz106 : Int) ≤ 5 * I103 a_this 5 + 20 * (1 - x99)) ∧ ((zs4 + dl107 : Int) ≤ 75 * I103 a_this 5 + 300 * (1 - x99)) ∧ (I103 a_this 5 ≤ g_n) ∧ (x99 = 0 ∨ 4 * spn I103 R105 g_k (I103 g_k 2).toNat ≤ I103 a_this 5) ∧ (0 ≤ 3001 - (v4_2 + 1)) := by first | omega | exact ⟨by first | omega | assumption | exact trivial, by first | omega | assumption | exact trivial, by first | omega | assumption | exact trivial, by first | omega | assumption | exact trivial, by first | omega | assumption | exact trivial, by first | omega | assumption | exact trivial, by first | omega | assumption | exact trivial, by first | omega | assumption | exact trivial, by first | omega | assumption | exact trivial, by first | omega | assumption | exact trivial, by first | omega | assumption | exact trivial, by first | omega | assumption | exact trivial, by first | omega | assumption | exact trivial⟩
                    exact IH4 x99 (v4_2 + 1) L100 T101 N102 I103 J104 R105 (zc4 + dz106) (zs4 + dl107) _ _ ls hM hF (lv_sub hl [2, 1, 0] rfl) hv119.1 hv119.2.1 hv119.2.2.1 hv119.2.2.2.1 hv119.2.2.2.2.1 hv119.2.2.2.2.2.1 hv119.2.2.2.2.2.2.1 hv119.2.2.2.2.2.2.2.1 hv119.2.2.2.2.2.2.2.2.1 hv119.2.2.2.2.2.2.2.2.2.1 (by first | exact Or.inl ⟨by omega, by omega⟩ | exact Or.inr ⟨by omega, by first | assumption | omega⟩ | omega) hv119.2.2.2.2.2.2.2.2.2.2.1 (by rw [e112, e114]; first | assumption | omega) hv119.2.2.2.2.2.2.2.2.2.2.2.1 hv119.2.2.2.2.2.2.2.2.2.2.2.2 (by omega)
                · refine lv_aload_n B.1 B.2.1 dX6_read_62 rfl (lv_at hl 0 rfl) ?_
                  have hFt := hF
                  have hMt := hM
                  have e120 : R_4 a_this 3 = g_t + 1 := (hF.r t_this (by decide) nm0 rfl).trans p_0
                  have e121 : R_4 g_t 0 = g_s + 1 := (hF.r p_1 (by decide) nm0 rfl).trans p_2
                  have t122 : T_4 g_t = 3 := hF.tt p_1 (by decide) nm0
                  have t123 : T_4 g_s = 62 := hF.tt p_3 (by decide) nm0
                  have hv124 : (TKz g_S g_n) ∧ (I_4 a_this 5 ≤ g_n) := by first | omega | exact ⟨by first | omega | assumption | exact trivial, by first | omega | assumption | exact trivial⟩
                  refine g_calli hM hA (c_runV (n := 0) (as := []) (rest := []) B hX hA hM hl.1 t26 kd7 rfl (k_X6_readRuleb l D dA eA L_4 T_4 N_4 I_4 J_4 R_4 a_this t26 g_t g_s g_S g_n (show R_4 a_this 3 = g_t + 1 from e120) (show T_4 g_t = 3 from t122) (show R_4 g_t 0 = g_s + 1 from e121) (show T_4 g_s = 62 from t123) (show I_4 g_s = g_S from ((Fr.irow hF p_3 (by decide) nm0 (by decide)).trans p_4)) hv124.1 hv124.2 (show g_S (I_4 a_this 5).toNat = I_4 a_this 6 from by rw [e7, e9]; first | assumption | omega) _ _) ml_X6_75 nm_X6_readRule ⟨rfl, rfl⟩ ⟨Nat.le_of_ble_eq_true rfl, Nat.le_of_ble_eq_true rfl⟩ dX6_read_63 rfl rfl (Nat.le_of_ble_eq_true rfl) ⟨by show zc4 + 8 ≤ (5 * g_n.toNat + 100); omega, by show zs4 + 211 ≤ (75 * g_n.toNat + 1100); omega⟩) (fun x126 ix126 L127 T128 N129 I130 J131 R132 dz133 dl134 H locs hp125 hMn => ?_)
                  obtain ⟨hFc135, hp125a⟩ := hp125
                  have t136 : T_4 g_b = 6 := hF.tt p_9 (by decide) nm0
                  have t137 : T_4 g_k = 18 := hF.tt p_11 (by decide) nm0
                  replace hF : Fr mo_X6_read [] T N I J R T128 N129 I130 J131 R132 := hF.trans hFc135 (by decide) e20
                  have hM := hMn
                  clear hMn
                  replace hp125a : (0 : Int) ≤ x126 ∧ x126 ≤ 1 ∧ (I130 a_this 5 ≤ g_n ∧ g_S (I130 a_this 5).toNat = I130 a_this 6 ∧ I_4 a_this 5 ≤ I130 a_this 5 ∧ ((x126 = 0 ∧ I130 a_this 1 ≠ 0) ∨ (x126 = 1 ∧ I130 a_this 1 = I_4 a_this 1 ∧ I_4 a_this 5 + 4 ≤ I130 a_this 5)) ∧ (dz133 : Int) ≤ 5 * (I130 a_this 5 - I_4 a_this 5) + 20 * (1 - x126) ∧ (dl134 : Int) ≤ 75 * (I130 a_this 5 - I_4 a_this 5) + 300 * (1 - x126) ∧ dz133 ≤ 8 ∧ dl134 ≤ 211) := hp125a
                  obtain ⟨hp125a_0, hp125a_1, hp125a_2⟩ := hp125a
                  obtain ⟨hp125a_2_0, hp125a_2_1, hp125a_2_2, hp125a_2_3, hp125a_2_4, hp125a_2_5, hp125a_2_6, hp125a_2_7⟩ := hp125a_2
                  obtain ⟨x138, e139⟩ : ∃ v, I130 a_this 5 = v := ⟨_, rfl⟩
                  obtain ⟨x140, e141⟩ : ∃ v, I130 a_this 6 = v := ⟨_, rfl⟩
                  have nz142 : g_S (x138).toNat = x140 := by have h9 := hp125a_2_1; rw [e139, e141] at h9; exact h9
                  obtain ⟨x143, e144⟩ : ∃ v, I130 a_this 1 = v := ⟨_, rfl⟩
                  have hsp := spn_fr hMt.2.2.2.2.2.2.1 hMt.2.2.2.2.2.2.2 t137 hFc135 (by decide)
                  clear hFt hMt
                  refine lv_istore_n (lv' := [(1, .int (II x126)), (0, .ref a_this), (2, .int (II v4_2))]) B.1 B.2.1 dX6_read_66 rfl hl (by decide) rfl (fun ls hl => ?_)
                  refine lv_goto (tgt := 108) B.1 B.2.1 dX6_read_67 (by decide) ?_
                  refine q_inc (lv' := [(2, .int (II (v4_2 + 1))), (1, .int (II x126)), (0, .ref a_this)]) B dX6_read_108 hl (k := 2) rfl (by decide) rfl (fun ls hl => ?_)
                  refine lv_goto (tgt := 4) B.1 B.2.1 dX6_read_111 (by decide) ?_
                  have e145 : I130 g_k 2 = x24 := (hFc135.i t137 (by decide) nm0 rfl).trans e25
                  have hv146 : ((-2147483648 : Int) ≤ x126 ∧ (x126 : Int) ≤ 2147483647) ∧ ((-2147483648 : Int) ≤ v4_2 + 1 ∧ (v4_2 + 1 : Int) ≤ 2147483647) ∧ (0 ≤ (v4_2 + 1)) ∧ ((v4_2 + 1) ≤ 3001) ∧ (0 ≤ x126) ∧ (x126 ≤ 1) ∧ (0 ≤ I130 a_this 5) ∧ ((v4_2 + 1) ≤ I130 a_this 5 + 4000 * (1 - x126)) ∧ ((zc4 + dz133 : Int) ≤ 5 * I130 a_this 5 + 20 * (1 - x126)) ∧ ((zs4 + dl134 : Int) ≤ 75 * I130 a_this 5 + 300 * (1 - x126)) ∧ (I130 a_this 5 ≤ g_n) ∧ (x126 = 0 ∨ 4 * spn I130 R132 g_k (I130 g_k 2).toNat ≤ I130 a_this 5) ∧ (0 ≤ 3001 - (v4_2 + 1)) := by first | omega | exact ⟨by first | omega | assumption | exact trivial, by first | omega | assumption | exact trivial, by first | omega | assumption | exact trivial, by first | omega | assumption | exact trivial, by first | omega | assumption | exact trivial, by first | omega | assumption | exact trivial, by first | omega | assumption | exact trivial, by first | omega | assumption | exact trivial, by first | omega | assumption | exact trivial, by first | omega | assumption | exact trivial, by first | omega | assumption | exact trivial, by first | omega | assumption | exact trivial, by first | omega | assumption | exact trivial⟩
                  exact IH4 x126 (v4_2 + 1) L127 T128 N129 I130 J131 R132 (zc4 + dz133) (zs4 + dl134) _ _ ls hM hF (lv_sub hl [2, 1, 0] rfl) hv146.1 hv146.2.1 hv146.2.2.1 hv146.2.2.2.1 hv146.2.2.2.2.1 hv146.2.2.2.2.2.1 hv146.2.2.2.2.2.2.1 hv146.2.2.2.2.2.2.2.1 hv146.2.2.2.2.2.2.2.2.1 hv146.2.2.2.2.2.2.2.2.2.1 (by first | exact Or.inl ⟨by omega, by omega⟩ | exact Or.inr ⟨by omega, by first | assumption | omega⟩ | omega) hv146.2.2.2.2.2.2.2.2.2.2.1 (by rw [e139, e141]; first | assumption | omega) hv146.2.2.2.2.2.2.2.2.2.2.2.1 hv146.2.2.2.2.2.2.2.2.2.2.2.2 (by omega)
              · refine lv_aload_n B.1 B.2.1 dX6_read_46 rfl (lv_at hl 0 rfl) ?_
                have hFt := hF
                have hMt := hM
                have e147 : R_4 a_this 3 = g_t + 1 := (hF.r t_this (by decide) nm0 rfl).trans p_0
                have e148 : R_4 g_t 0 = g_s + 1 := (hF.r p_1 (by decide) nm0 rfl).trans p_2
                have t149 : T_4 g_t = 3 := hF.tt p_1 (by decide) nm0
                have t150 : T_4 g_s = 62 := hF.tt p_3 (by decide) nm0
                have hv151 : (TKz g_S g_n) ∧ (I_4 a_this 5 ≤ g_n) := by first | omega | exact ⟨by first | omega | assumption | exact trivial, by first | omega | assumption | exact trivial⟩
                refine g_calli hM hA (c_runV (n := 0) (as := []) (rest := []) B hX hA hM hl.1 t26 kd7 rfl (k_X6_readChainb l D dA eA L_4 T_4 N_4 I_4 J_4 R_4 a_this t26 g_t g_s g_S g_n (show R_4 a_this 3 = g_t + 1 from e147) (show T_4 g_t = 3 from t149) (show R_4 g_t 0 = g_s + 1 from e148) (show T_4 g_s = 62 from t150) (show I_4 g_s = g_S from ((Fr.irow hF p_3 (by decide) nm0 (by decide)).trans p_4)) hv151.1 hv151.2 (show g_S (I_4 a_this 5).toNat = I_4 a_this 6 from by rw [e7, e9]; first | assumption | omega) _ _) ml_X6_72 nm_X6_readChain ⟨rfl, rfl⟩ ⟨Nat.le_of_ble_eq_true rfl, Nat.le_of_ble_eq_true rfl⟩ dX6_read_47 rfl rfl (Nat.le_of_ble_eq_true rfl) ⟨by show zc4 + 1 ≤ (5 * g_n.toNat + 100); omega, by show zs4 + 8 ≤ (75 * g_n.toNat + 1100); omega⟩) (fun x153 ix153 L154 T155 N156 I157 J158 R159 dz160 dl161 H locs hp152 hMn => ?_)
                obtain ⟨hFc162, hp152a⟩ := hp152
                have t163 : T_4 g_b = 6 := hF.tt p_9 (by decide) nm0
                have t164 : T_4 g_k = 18 := hF.tt p_11 (by decide) nm0
                replace hF : Fr mo_X6_read [] T N I J R T155 N156 I157 J158 R159 := hF.trans hFc162 (by decide) e20
                have hM := hMn
                clear hMn
                replace hp152a : (0 : Int) ≤ x153 ∧ x153 ≤ 1 ∧ (I157 a_this 5 ≤ g_n ∧ g_S (I157 a_this 5).toNat = I157 a_this 6 ∧ I_4 a_this 5 ≤ I157 a_this 5 ∧ ((x153 = 0 ∧ I157 a_this 1 ≠ 0) ∨ (x153 = 1 ∧ I157 a_this 1 = I_4 a_this 1 ∧ I_4 a_this 5 + 1 ≤ I157 a_this 5)) ∧ (dz160 : Int) ≤ 5 * (I157 a_this 5 - I_4 a_this 5) + 20 * (1 - x153) ∧ (dl161 : Int) ≤ 75 * (I157 a_this 5 - I_4 a_this 5) + 300 * (1 - x153) ∧ dz160 ≤ 1 ∧ dl161 ≤ 8) := hp152a
                obtain ⟨hp152a_0, hp152a_1, hp152a_2⟩ := hp152a
                obtain ⟨hp152a_2_0, hp152a_2_1, hp152a_2_2, hp152a_2_3, hp152a_2_4, hp152a_2_5, hp152a_2_6, hp152a_2_7⟩ := hp152a_2
                obtain ⟨x165, e166⟩ : ∃ v, I157 a_this 5 = v := ⟨_, rfl⟩
                obtain ⟨x167, e168⟩ : ∃ v, I157 a_this 6 = v := ⟨_, rfl⟩
                have nz169 : g_S (x165).toNat = x167 := by have h9 := hp152a_2_1; rw [e166, e168] at h9; exact h9
                obtain ⟨x170, e171⟩ : ∃ v, I157 a_this 1 = v := ⟨_, rfl⟩
                have hsp := spn_fr hMt.2.2.2.2.2.2.1 hMt.2.2.2.2.2.2.2 t164 hFc162 (by decide)
                clear hFt hMt
                refine lv_istore_n (lv' := [(1, .int (II x153)), (0, .ref a_this), (2, .int (II v4_2))]) B.1 B.2.1 dX6_read_50 rfl hl (by decide) rfl (fun ls hl => ?_)
                refine lv_goto (tgt := 108) B.1 B.2.1 dX6_read_51 (by decide) ?_
                refine q_inc (lv' := [(2, .int (II (v4_2 + 1))), (1, .int (II x153)), (0, .ref a_this)]) B dX6_read_108 hl (k := 2) rfl (by decide) rfl (fun ls hl => ?_)
                refine lv_goto (tgt := 4) B.1 B.2.1 dX6_read_111 (by decide) ?_
                have e172 : I157 g_k 2 = x24 := (hFc162.i t164 (by decide) nm0 rfl).trans e25
                have hv173 : ((-2147483648 : Int) ≤ x153 ∧ (x153 : Int) ≤ 2147483647) ∧ ((-2147483648 : Int) ≤ v4_2 + 1 ∧ (v4_2 + 1 : Int) ≤ 2147483647) ∧ (0 ≤ (v4_2 + 1)) ∧ ((v4_2 + 1) ≤ 3001) ∧ (0 ≤ x153) ∧ (x153 ≤ 1) ∧ (0 ≤ I157 a_this 5) ∧ ((v4_2 + 1) ≤ I157 a_this 5 + 4000 * (1 - x153)) ∧ ((zc4 + dz160 : Int) ≤ 5 * I157 a_this 5 + 20 * (1 - x153)) ∧ ((zs4 + dl161 : Int) ≤ 75 * I157 a_this 5 + 300 * (1 - x153)) ∧ (I157 a_this 5 ≤ g_n) ∧ (x153 = 0 ∨ 4 * spn I157 R159 g_k (I157 g_k 2).toNat ≤ I157 a_this 5) ∧ (0 ≤ 3001 - (v4_2 + 1)) := by first | omega | exact ⟨by first | omega | assumption | exact trivial, by first | omega | assumption | exact trivial, by first | omega | assumption | exact trivial, by first | omega | assumption | exact trivial, by first | omega | assumption | exact trivial, by first | omega | assumption | exact trivial, by first | omega | assumption | exact trivial, by first | omega | assumption | exact trivial, by first | omega | assumption | exact trivial, by first | omega | assumption | exact trivial, by first | omega | assumption | exact trivial, by first | omega | assumption | exact trivial, by first | omega | assumption | exact trivial⟩
                exact IH4 x153 (v4_2 + 1) L154 T155 N156 I157 J158 R159 (zc4 + dz160) (zs4 + dl161) _ _ ls hM hF (lv_sub hl [2, 1, 0] rfl) hv173.1 hv173.2.1 hv173.2.2.1 hv173.2.2.2.1 hv173.2.2.2.2.1 hv173.2.2.2.2.2.1 hv173.2.2.2.2.2.2.1 hv173.2.2.2.2.2.2.2.1 hv173.2.2.2.2.2.2.2.2.1 hv173.2.2.2.2.2.2.2.2.2.1 (by first | exact Or.inl ⟨by omega, by omega⟩ | exact Or.inr ⟨by omega, by first | assumption | omega⟩ | omega) hv173.2.2.2.2.2.2.2.2.2.2.1 (by rw [e166, e168]; first | assumption | omega) hv173.2.2.2.2.2.2.2.2.2.2.2.1 hv173.2.2.2.2.2.2.2.2.2.2.2.2 (by omega)
            · refine lv_aload_n B.1 B.2.1 dX6_read_30 rfl (lv_at hl 0 rfl) ?_
              have hFt := hF
              have hMt := hM
              have e174 : R_4 a_this 3 = g_t + 1 := (hF.r t_this (by decide) nm0 rfl).trans p_0
              have e175 : R_4 g_t 0 = g_s + 1 := (hF.r p_1 (by decide) nm0 rfl).trans p_2
              have t176 : T_4 g_t = 3 := hF.tt p_1 (by decide) nm0
              have t177 : T_4 g_s = 62 := hF.tt p_3 (by decide) nm0
              have hv178 : (TKz g_S g_n) ∧ (I_4 a_this 5 ≤ g_n) := by first | omega | exact ⟨by first | omega | assumption | exact trivial, by first | omega | assumption | exact trivial⟩
              refine z_calli hM hA (c_runV (n := 0) (as := []) (rest := []) B hX hA hM hl.1 t26 kd7 rfl (k_X6_readGroup l D dA eA L_4 T_4 N_4 I_4 J_4 R_4 a_this t26 g_t g_s g_S g_n (show R_4 a_this 3 = g_t + 1 from e174) (show T_4 g_t = 3 from t176) (show R_4 g_t 0 = g_s + 1 from e175) (show T_4 g_s = 62 from t177) (show I_4 g_s = g_S from ((Fr.irow hF p_3 (by decide) nm0 (by decide)).trans p_4)) hv178.1 hv178.2 (show g_S (I_4 a_this 5).toNat = I_4 a_this 6 from by rw [e7, e9]; first | assumption | omega) _ _) ml_X6_68 nm_X6_readGroup ⟨rfl, rfl⟩ ⟨Nat.le_of_ble_eq_true rfl, Nat.le_of_ble_eq_true rfl⟩ dX6_read_31 rfl rfl (Nat.le_of_ble_eq_true rfl) ⟨by show zc4 + 0 ≤ (5 * g_n.toNat + 100); omega, by show zs4 + 0 ≤ (75 * g_n.toNat + 1100); omega⟩) (fun x180 ix180 L181 T182 N183 I184 J185 R186 dz187 dl188 H locs hp179 hMn => ?_)
              obtain ⟨yL181, yT182, yN183, yR186, hFc189, hp179a⟩ := hp179
              obtain rfl := yL181.symm; obtain rfl := yT182.symm; obtain rfl := yN183.symm; obtain rfl := yR186.symm
              replace hF : Fr mo_X6_read [] T N I J R T_4 N_4 I184 J185 R_4 := hF.trans hFc189 (by decide) e20
              have hM := hMn
              clear hMn
              replace hp179a : (0 : Int) ≤ x180 ∧ x180 ≤ 1 ∧ (I184 a_this 5 ≤ g_n ∧ g_S (I184 a_this 5).toNat = I184 a_this 6 ∧ I_4 a_this 5 ≤ I184 a_this 5 ∧ ((x180 = 0 ∧ I184 a_this 1 ≠ 0) ∨ (x180 = 1 ∧ I184 a_this 1 = I_4 a_this 1 ∧ I_4 a_this 5 + 1 ≤ I184 a_this 5))) := hp179a
              obtain ⟨hp179a_0, hp179a_1, hp179a_2⟩ := hp179a
              obtain ⟨hp179a_2_0, hp179a_2_1, hp179a_2_2, hp179a_2_3⟩ := hp179a_2
              obtain ⟨x190, e191⟩ : ∃ v, I184 a_this 5 = v := ⟨_, rfl⟩
              obtain ⟨x192, e193⟩ : ∃ v, I184 a_this 6 = v := ⟨_, rfl⟩
              have nz194 : g_S (x190).toNat = x192 := by have h9 := hp179a_2_1; rw [e191, e193] at h9; exact h9
              obtain ⟨x195, e196⟩ : ∃ v, I184 a_this 1 = v := ⟨_, rfl⟩
              have t197 : T_4 g_k = 18 := hF.tt p_11 (by decide) nm0
              have hsp := spn_fr hMt.2.2.2.2.2.2.1 hMt.2.2.2.2.2.2.2 t197 hFc189 (by decide)
              clear hFt hMt
              refine lv_istore_n (lv' := [(1, .int (II x180)), (0, .ref a_this), (2, .int (II v4_2))]) B.1 B.2.1 dX6_read_34 rfl hl (by decide) rfl (fun ls hl => ?_)
              refine lv_goto (tgt := 108) B.1 B.2.1 dX6_read_35 (by decide) ?_
              refine q_inc (lv' := [(2, .int (II (v4_2 + 1))), (1, .int (II x180)), (0, .ref a_this)]) B dX6_read_108 hl (k := 2) rfl (by decide) rfl (fun ls hl => ?_)
              refine lv_goto (tgt := 4) B.1 B.2.1 dX6_read_111 (by decide) ?_
              have e198 : I184 g_k 2 = x24 := (hFc189.i t197 (by decide) nm0 rfl).trans e25
              have hv199 : ((-2147483648 : Int) ≤ x180 ∧ (x180 : Int) ≤ 2147483647) ∧ ((-2147483648 : Int) ≤ v4_2 + 1 ∧ (v4_2 + 1 : Int) ≤ 2147483647) ∧ (0 ≤ (v4_2 + 1)) ∧ ((v4_2 + 1) ≤ 3001) ∧ (0 ≤ x180) ∧ (x180 ≤ 1) ∧ (0 ≤ I184 a_this 5) ∧ ((v4_2 + 1) ≤ I184 a_this 5 + 4000 * (1 - x180)) ∧ ((zc4 : Int) ≤ 5 * I184 a_this 5 + 20 * (1 - x180)) ∧ ((zs4 : Int) ≤ 75 * I184 a_this 5 + 300 * (1 - x180)) ∧ (I184 a_this 5 ≤ g_n) ∧ (x180 = 0 ∨ 4 * spn I184 R_4 g_k (I184 g_k 2).toNat ≤ I184 a_this 5) ∧ (0 ≤ 3001 - (v4_2 + 1)) := by first | omega | exact ⟨by first | omega | assumption | exact trivial, by first | omega | assumption | exact trivial, by first | omega | assumption | exact trivial, by first | omega | assumption | exact trivial, by first | omega | assumption | exact trivial, by first | omega | assumption | exact trivial, by first | omega | assumption | exact trivial, by first | omega | assumption | exact trivial, by first | omega | assumption | exact trivial, by first | omega | assumption | exact trivial, by first | omega | assumption | exact trivial, by first | omega | assumption | exact trivial, by first | omega | assumption | exact trivial⟩
              exact IH4 x180 (v4_2 + 1) L_4 T_4 N_4 I184 J185 R_4 zc4 zs4 _ _ ls hM hF (lv_sub hl [2, 1, 0] rfl) hv199.1 hv199.2.1 hv199.2.2.1 hv199.2.2.2.1 hv199.2.2.2.2.1 hv199.2.2.2.2.2.1 hv199.2.2.2.2.2.2.1 hv199.2.2.2.2.2.2.2.1 hv199.2.2.2.2.2.2.2.2.1 hv199.2.2.2.2.2.2.2.2.2.1 (by first | exact Or.inl ⟨by omega, by omega⟩ | exact Or.inr ⟨by omega, by first | assumption | omega⟩ | omega) hv199.2.2.2.2.2.2.2.2.2.2.1 (by rw [e191, e193]; first | assumption | omega) hv199.2.2.2.2.2.2.2.2.2.2.2.1 hv199.2.2.2.2.2.2.2.2.2.2.2.2 (by omega)
  obtain ⟨x200, e201⟩ : ∃ v, I a_this 1 = v := ⟨_, rfl⟩
  have hv202 : ((-2147483648 : Int) ≤ 1 ∧ (1 : Int) ≤ 2147483647) ∧ ((-2147483648 : Int) ≤ 0 ∧ (0 : Int) ≤ 2147483647) ∧ (0 ≤ (0 : Int)) ∧ ((0 : Int) ≤ 3001) ∧ (0 ≤ (1 : Int)) ∧ ((1 : Int) ≤ 1) ∧ (0 ≤ I a_this 5) ∧ ((0 : Int) ≤ I a_this 5 + 4000 * (1 - (1 : Int))) ∧ (0 ≤ 5 * I a_this 5 + 20 * (1 - (1 : Int))) ∧ (0 ≤ 75 * I a_this 5 + 300 * (1 - (1 : Int))) ∧ (I a_this 5 ≤ g_n) ∧ ((1 : Int) = 0 ∨ 4 * spn I R g_k (I g_k 2).toNat ≤ I a_this 5) ∧ (0 ≤ 3001 - (0 : Int)) := by first | omega | exact ⟨by first | omega | assumption | exact trivial, by first | omega | assumption | exact trivial, by first | omega | assumption | exact trivial, by first | omega | assumption | exact trivial, by first | omega | assumption | exact trivial, by first | omega | assumption | exact trivial, by first | omega | assumption | exact trivial, by first | omega | assumption | exact trivial, by first | omega | assumption | exact trivial, by first | omega | assumption | exact trivial, by first | omega | assumption | exact trivial, by first | omega | assumption | exact trivial, by first | omega | assumption | exact trivial⟩
  exact LL4 (Int.toNat (3001 - (0 : Int) + 1)) 1 0 L T N I J R 0 0 _ _ ls hM hF (lv_sub hl [2, 1, 0] rfl) hv202.1 hv202.2.1 hv202.2.2.1 hv202.2.2.2.1 hv202.2.2.2.2.1 hv202.2.2.2.2.2.1 hv202.2.2.2.2.2.2.1 hv202.2.2.2.2.2.2.2.1 hv202.2.2.2.2.2.2.2.2.1 hv202.2.2.2.2.2.2.2.2.2.1 (by first | exact Or.inl ⟨by omega, by omega⟩ | exact Or.inr ⟨by omega, by first | assumption | omega⟩ | omega) hv202.2.2.2.2.2.2.2.2.2.2.1 (by rw [e2, e4]; first | assumption | omega) hv202.2.2.2.2.2.2.2.2.2.2.2.1 hv202.2.2.2.2.2.2.2.2.2.2.2.2 (by omega)
