def mo_X6_readc : List Nat := [229, 230, 231, 225, 226, 2272, 2304, 203, 290, 291, 289, 2400, 2432, 640, 641, 642, 1760, 293, 294, 295, 296, 297, 298, 576, 577, 578, 1696, 608, 609, 610, 1728, 321, 322, 2080, 233, 2240, 198, 2176, 197, 236, 2112, 2144, 480, 481, 482, 1600, 257, 258, 259, 260, 544, 545, 546, 1664]
set_option maxHeartbeats 4000000 in
set_option maxRecDepth 20000 in
theorem k_X6_readc (l : Launch) (D : va_G) (dA : Nat → ClassId) (eA : Nat) (L : List Nat) (T N : Nat → Nat) (I : Nat → Nat → Int) (J : Nat → Nat → Int64) (R : Nat → Nat → Nat) (a_this : Nat) (t_this : T a_this = 7) (g_t : Nat) (g_s : Nat) (g_S : Nat → Int) (g_n : Int) (g_b : Nat) (g_k : Nat) (g_ru : Nat) (p_0 : R a_this 3 = g_t + 1) (p_1 : T g_t = 3) (p_2 : R g_t 0 = g_s + 1) (p_3 : T g_s = 62) (p_4 : I g_s = g_S) (p_5 : TKz g_S g_n) (p_6 : I a_this 5 ≤ g_n) (p_7 : g_S (I a_this 5).toNat = I a_this 6) (p_8 : R a_this 0 = g_b + 1) (p_9 : T g_b = 6) (p_10 : R g_b 3 = g_k + 1) (p_11 : T g_k = 18) (p_12 : I g_k 2 = 0) (p_13 : 0 = I a_this 1) (p_14 : 0 = I a_this 5) (p_15 : R g_b 0 = g_ru + 1) (p_16 : T g_ru = 15) : GC l yX6_read cX6_read 3 none ({ frames := 11, cells := 5 * g_n.toNat + 100, slots := 75 * g_n.toNat + 1100, locals := 332 }) D dA eA L T N I J R [.ref a_this] (5 * g_n.toNat + 100) (75 * g_n.toNat + 1100) (gV (fun L' T' N' I' J' R' dz dl => Fr mo_X6_readc [] T N I J R T' N' I' J' R' ∧ I' a_this 5 ≤ g_n ∧ g_S (I' a_this 5).toNat = I' a_this 6 ∧ (I' a_this 1 ≠ 0 ∨ (I' a_this 6 = 0 ∧ 4 * spn I' R' g_k (I' g_k 2).toNat ≤ g_n)) ∧ (dz : Int) ≤ 5 * g_n + 20 ∧ (dl : Int) ≤ 75 * g_n + 300 ∧ OTR T I R I' R' g_ru)) := by
  generalize hPST : (gV (fun L' T' N' I' J' R' dz dl => Fr mo_X6_readc [] T N I J R T' N' I' J' R' ∧ I' a_this 5 ≤ g_n ∧ g_S (I' a_this 5).toNat = I' a_this 6 ∧ (I' a_this 1 ≠ 0 ∨ (I' a_this 6 = 0 ∧ 4 * spn I' R' g_k (I' g_k 2).toNat ≤ g_n)) ∧ (dz : Int) ≤ 5 * g_n + 20 ∧ (dl : Int) ≤ 75 * g_n + 300 ∧ OTR T I R I' R' g_ru)) = PST
  refine g_enter (own := RX6) (by decide) rfl (Nat.le_of_ble_eq_true rfl) (fun p e s m args below meth c ls hm B hX hM hl => ?_)
  have hC0 := hM.2.2.2.2.2.2.1
  have hW0 := hM.2.2.2
  have hF : Fr mo_X6_readc [] T N I J R T N I J R := Fr.rf
  have hA : ∀ q, s.heap.size ≤ q → cF dA L T N I J R s.heap.size q := fun q h => Or.inr h
  have hl : lv_has ls 3 [(0, .ref a_this)] := hl
  obtain ⟨x1, e2⟩ : ∃ v, I a_this 5 = v := ⟨_, rfl⟩
  obtain ⟨x3, e4⟩ : ∃ v, I a_this 6 = v := ⟨_, rfl⟩
  have nz5 : g_S (x1).toNat = x3 := by have h9 := p_7; rw [e2, e4] at h9; exact h9
  have hn3 := p_5.2.1
  have hn0 := p_5.1
  have hsp0 : spn I R g_k (I g_k 2).toNat = 0 := by rw [p_12]; rfl
  have hor : OTR T I R I R g_ru := OTR.rf
  refine q_con B dX6_read_0 ?_
  refine lv_istore_n (lv' := [(1, .int (II 1)), (0, .ref a_this)]) B.1 B.2.1 dX6_read_1 rfl hl (by decide) rfl (fun ls hl => ?_)
  refine q_con B dX6_read_2 ?_
  refine lv_istore_n (lv' := [(2, .int (II 0)), (1, .int (II 1)), (0, .ref a_this)]) B.1 B.2.1 dX6_read_3 rfl hl (by decide) rfl (fun ls hl => ?_)
  have LL4 : ∀ NN : Nat, ∀ (v4_1 : Int) (v4_2 : Int) (L_4 : List Nat) (T_4 : Nat → Nat) (N_4 : Nat → Nat) (I_4 : Nat → Nat → Int) (J_4 : Nat → Nat → Int64) (R_4 : Nat → Nat → Nat) (zc4 zs4 : Nat) (H : Heap) (locs : List Loc) (ls : Array Slot), (CWd D dA eA (cF dA L T N I J R s.heap.size) s.heap L_4 T_4 N_4 I_4 J_4 R_4 H locs) → (Fr mo_X6_readc [] T N I J R T_4 N_4 I_4 J_4 R_4) → lv_has ls 3 [(0, .ref a_this), (1, .int (II v4_1)), (2, .int (II v4_2))] → ((-2147483648 : Int) ≤ v4_1 ∧ v4_1 ≤ 2147483647) → ((-2147483648 : Int) ≤ v4_2 ∧ v4_2 ≤ 2147483647) → (0 ≤ v4_2) → (v4_2 ≤ 3001) → (0 ≤ v4_1) → (v4_1 ≤ 1) → (0 ≤ I_4 a_this 5) → (v4_2 ≤ I_4 a_this 5 + 4000 * (1 - v4_1)) → ((zc4 : Int) ≤ 5 * I_4 a_this 5 + 20 * (1 - v4_1)) → ((zs4 : Int) ≤ 75 * I_4 a_this 5 + 300 * (1 - v4_1)) → ((v4_1 = 1 ∧ I_4 a_this 1 = 0) ∨ (v4_1 = 0 ∧ I_4 a_this 1 ≠ 0)) → (I_4 a_this 5 ≤ g_n) → (g_S (I_4 a_this 5).toNat = I_4 a_this 6) → (v4_1 = 0 ∨ 4 * spn I_4 R_4 g_k (I_4 g_k 2).toNat ≤ I_4 a_this 5) → (OTR T I R I_4 R_4 g_ru) → (0 ≤ 3001 - v4_2) → (3001 - v4_2 < (NN : Int)) → W p l e ({ frames := 11, cells := 5 * g_n.toNat + 100, slots := 75 * g_n.toNat + 1100, locals := 332 }) s m args below meth c H locs zc4 zs4 (MQ below (gQ D dA eA (cF dA L T N I J R s.heap.size) s.heap.size (hs s.heap) PST) args s (5 * g_n.toNat + 100) (75 * g_n.toNat + 1100) (cF dA L T N I J R s.heap.size)) (F0 m 4 ls []) := by
    intro NN
    induction NN with
    | zero => intro v4_1 v4_2 L_4 T_4 N_4 I_4 J_4 R_4 zc4 zs4 H locs ls hM hF hl hLL4_0 hLL4_1 hLL4_2 hLL4_3 hLL4_4 hLL4_5 hLL4_6 hLL4_7 hLL4_8 hLL4_9 hLL4_10 hLL4_11 hLL4_12 hLL4_13 hLL4_14 hLL4_15 hN; exfalso; omega
    | succ NN IH4 =>
      intro v4_1 v4_2 L_4 T_4 N_4 I_4 J_4 R_4 zc4 zs4 H locs ls hM hF hl hLL4_0 hLL4_1 hLL4_2 hLL4_3 hLL4_4 hLL4_5 hLL4_6 hLL4_7 hLL4_8 hLL4_9 hLL4_10 hLL4_11 hLL4_12 hLL4_13 hLL4_14 hLL4_15 hN
      obtain ⟨x6, e7⟩ : ∃ v, I_4 a_this 5 = v := ⟨_, rfl⟩
      obtain ⟨x8, e9⟩ : ∃ v, I_4 a_this 6 = v := ⟨_, rfl⟩
      have nz10 : g_S (x6).toNat = x8 := by have h9 := hLL4_12; rw [e7, e9] at h9; exact h9
      have hor : OTR T I R I_4 R_4 g_ru := by assumption
      refine lv_iload_n B.1 B.2.1 dX6_read_4 rfl (lv_at hl 2 rfl) ?_
      refine q_sip B dX6_read_5 (by decide) ?_
      refine q_cgt (tgt := 114) B dX6_read_8 (by decide) (by unfold inr; omega) (by unfold inr; omega) (fun c11 => ?_) (fun c11 => ?_)
      · obtain ⟨x12, e13⟩ : ∃ v, I_4 a_this 1 = v := ⟨_, rfl⟩
        obtain ⟨x14, e15⟩ : ∃ v, I_4 g_k 2 = v := ⟨_, rfl⟩
        refine g_vret B hM dX6_read_114 ⟨by show zc4 ≤ (5 * g_n.toNat + 100); omega, by show zs4 ≤ (75 * g_n.toNat + 1100); omega⟩ ?_
        rw [← hPST]
        exact ⟨rfl, hF, by first | omega | assumption | exact trivial, by show g_S (I_4 a_this 5).toNat = I_4 a_this 6; rw [e7, e9]; first | assumption | omega, by first | omega | assumption | exact trivial, by first | omega | assumption | exact trivial, by first | omega | assumption | exact trivial, by exact hor⟩
      · refine lv_iload_n B.1 B.2.1 dX6_read_11 rfl (lv_at hl 1 rfl) ?_
        refine q_ieq (tgt := 114) B dX6_read_12 (by decide) (by unfold inr; omega) (fun c16 => ?_) (fun c16 => ?_)
        · obtain ⟨x17, e18⟩ : ∃ v, I_4 a_this 1 = v := ⟨_, rfl⟩
          obtain ⟨x19, e21⟩ : ∃ v, I_4 g_k 2 = v := ⟨_, rfl⟩
          refine g_vret B hM dX6_read_114 ⟨by show zc4 ≤ (5 * g_n.toNat + 100); omega, by show zs4 ≤ (75 * g_n.toNat + 1100); omega⟩ ?_
          rw [← hPST]
          exact ⟨rfl, hF, by first | omega | assumption | exact trivial, by show g_S (I_4 a_this 5).toNat = I_4 a_this 6; rw [e7, e9]; first | assumption | omega, by first | omega | assumption | exact trivial, by first | omega | assumption | exact trivial, by first | omega | assumption | exact trivial, by exact hor⟩
        · have hw1 : v4_1 = 1 := by omega
          obtain ⟨x22, e23⟩ : ∃ v, I_4 a_this 1 = v := ⟨_, rfl⟩
          have hf1 : I_4 a_this 1 = 0 := by omega
          obtain ⟨x24, e25⟩ : ∃ v, I_4 g_k 2 = v := ⟨_, rfl⟩
          have hs1 : 4 * spn I_4 R_4 g_k (I_4 g_k 2).toNat ≤ I_4 a_this 5 := by omega
          clear hLL4_10 hLL4_13
          refine lv_aload_n B.1 B.2.1 dX6_read_15 rfl (lv_at hl 0 rfl) ?_
          have t26 : T_4 a_this = 7 := hF.tt t_this (by decide) nm0
          have r27 : (-2147483648 : Int) ≤ x8 ∧ x8 ≤ 2147483647 := by rw [← e9]; exact g7_6 hM.2.2.2.2.2.2.1 t26
          refine c_geti (k := 6) pk_X6 B hM t26 kd7 rfl (by decide) fl_X6_47 dX6_read_16 e9 ?_
          refine q_ieq (tgt := 114) B dX6_read_19 (by decide) (by unfold inr; omega) (fun c28 => ?_) (fun c28 => ?_)
          · refine g_vret B hM dX6_read_114 ⟨by show zc4 ≤ (5 * g_n.toNat + 100); omega, by show zs4 ≤ (75 * g_n.toNat + 1100); omega⟩ ?_
            rw [← hPST]
            exact ⟨rfl, hF, by first | omega | assumption | exact trivial, by show g_S (I_4 a_this 5).toNat = I_4 a_this 6; rw [e7, e9]; first | assumption | omega, by first | omega | assumption | exact trivial, by first | omega | assumption | exact trivial, by first | omega | assumption | exact trivial, by exact hor⟩
          · refine lv_aload_n B.1 B.2.1 dX6_read_22 rfl (lv_at hl 0 rfl) ?_
            refine q_con B dX6_read_23 ?_
            have hFt := hF
            have hMt := hM
            refine p_calli (c_runV (n := 1) (as := [.int (II 0)]) (rest := []) B hX hA hM hl.1 t26 kd7 rfl (k_X6_isWordb l D dA eA L_4 T_4 N_4 I_4 J_4 R_4 a_this t26 (0) (by first | omega | assumption | exact trivial) _ _) ml_X6_64 nm_X6_isWord ⟨rfl, rfl⟩ ⟨Nat.le_of_ble_eq_true rfl, Nat.le_of_ble_eq_true rfl⟩ dX6_read_24 rfl rfl (Nat.le_of_ble_eq_true rfl) ⟨by show zc4 + 0 ≤ (5 * g_n.toNat + 100); omega, by show zs4 + 0 ≤ (75 * g_n.toNat + 1100); omega⟩) (fun x30 ix30 hp29 => ?_)
            have hp29a := hp29
            replace hp29a : (0 : Int) ≤ x30 ∧ x30 ≤ 1 ∧ (x30 = 0 ∨ I_4 a_this 6 = 5) := hp29a
            obtain ⟨hp29a_0, hp29a_1, hp29a_2⟩ := hp29a
            clear hFt hMt
            refine q_ieq (tgt := 38) B dX6_read_27 (by decide) (by unfold inr; omega) (fun c31 => ?_) (fun c31 => ?_)
            · refine lv_aload_n B.1 B.2.1 dX6_read_38 rfl (lv_at hl 0 rfl) ?_
              refine q_con B dX6_read_39 ?_
              have hFt := hF
              have hMt := hM
              refine p_calli (c_runV (n := 1) (as := [.int (II 1)]) (rest := []) B hX hA hM hl.1 t26 kd7 rfl (k_X6_isWordb l D dA eA L_4 T_4 N_4 I_4 J_4 R_4 a_this t26 (1) (by first | omega | assumption | exact trivial) _ _) ml_X6_64 nm_X6_isWord ⟨rfl, rfl⟩ ⟨Nat.le_of_ble_eq_true rfl, Nat.le_of_ble_eq_true rfl⟩ dX6_read_40 rfl rfl (Nat.le_of_ble_eq_true rfl) ⟨by show zc4 + 0 ≤ (5 * g_n.toNat + 100); omega, by show zs4 + 0 ≤ (75 * g_n.toNat + 1100); omega⟩) (fun x33 ix33 hp32 => ?_)
              have hp32a := hp32
              replace hp32a : (0 : Int) ≤ x33 ∧ x33 ≤ 1 ∧ (x33 = 0 ∨ I_4 a_this 6 = 5) := hp32a
              obtain ⟨hp32a_0, hp32a_1, hp32a_2⟩ := hp32a
              clear hFt hMt
              refine q_ieq (tgt := 54) B dX6_read_43 (by decide) (by unfold inr; omega) (fun c34 => ?_) (fun c34 => ?_)
              · refine lv_aload_n B.1 B.2.1 dX6_read_54 rfl (lv_at hl 0 rfl) ?_
                refine q_con B dX6_read_55 ?_
                have hFt := hF
                have hMt := hM
                refine p_calli (c_runV (n := 1) (as := [.int (II 2)]) (rest := []) B hX hA hM hl.1 t26 kd7 rfl (k_X6_isWordb l D dA eA L_4 T_4 N_4 I_4 J_4 R_4 a_this t26 (2) (by first | omega | assumption | exact trivial) _ _) ml_X6_64 nm_X6_isWord ⟨rfl, rfl⟩ ⟨Nat.le_of_ble_eq_true rfl, Nat.le_of_ble_eq_true rfl⟩ dX6_read_56 rfl rfl (Nat.le_of_ble_eq_true rfl) ⟨by show zc4 + 0 ≤ (5 * g_n.toNat + 100); omega, by show zs4 + 0 ≤ (75 * g_n.toNat + 1100); omega⟩) (fun x36 ix36 hp35 => ?_)
                have hp35a := hp35
                replace hp35a : (0 : Int) ≤ x36 ∧ x36 ≤ 1 ∧ (x36 = 0 ∨ I_4 a_this 6 = 5) := hp35a
                obtain ⟨hp35a_0, hp35a_1, hp35a_2⟩ := hp35a
                clear hFt hMt
                refine q_ieq (tgt := 70) B dX6_read_59 (by decide) (by unfold inr; omega) (fun c37 => ?_) (fun c37 => ?_)
                · refine lv_aload_n B.1 B.2.1 dX6_read_70 rfl (lv_at hl 0 rfl) ?_
                  refine q_con B dX6_read_71 ?_
                  have hFt := hF
                  have hMt := hM
                  refine p_calli (c_runV (n := 1) (as := [.int (II 4)]) (rest := []) B hX hA hM hl.1 t26 kd7 rfl (k_X6_isWordb l D dA eA L_4 T_4 N_4 I_4 J_4 R_4 a_this t26 (4) (by first | omega | assumption | exact trivial) _ _) ml_X6_64 nm_X6_isWord ⟨rfl, rfl⟩ ⟨Nat.le_of_ble_eq_true rfl, Nat.le_of_ble_eq_true rfl⟩ dX6_read_72 rfl rfl (Nat.le_of_ble_eq_true rfl) ⟨by show zc4 + 0 ≤ (5 * g_n.toNat + 100); omega, by show zs4 + 0 ≤ (75 * g_n.toNat + 1100); omega⟩) (fun x39 ix39 hp38 => ?_)
                  have hp38a := hp38
                  replace hp38a : (0 : Int) ≤ x39 ∧ x39 ≤ 1 ∧ (x39 = 0 ∨ I_4 a_this 6 = 5) := hp38a
                  obtain ⟨hp38a_0, hp38a_1, hp38a_2⟩ := hp38a
                  clear hFt hMt
                  refine q_ieq (tgt := 86) B dX6_read_75 (by decide) (by unfold inr; omega) (fun c40 => ?_) (fun c40 => ?_)
                  · refine lv_aload_n B.1 B.2.1 dX6_read_86 rfl (lv_at hl 0 rfl) ?_
                    refine q_con B dX6_read_87 ?_
                    have hFt := hF
                    have hMt := hM
                    refine p_calli (c_runV (n := 1) (as := [.int (II 5)]) (rest := []) B hX hA hM hl.1 t26 kd7 rfl (k_X6_isWordb l D dA eA L_4 T_4 N_4 I_4 J_4 R_4 a_this t26 (5) (by first | omega | assumption | exact trivial) _ _) ml_X6_64 nm_X6_isWord ⟨rfl, rfl⟩ ⟨Nat.le_of_ble_eq_true rfl, Nat.le_of_ble_eq_true rfl⟩ dX6_read_88 rfl rfl (Nat.le_of_ble_eq_true rfl) ⟨by show zc4 + 0 ≤ (5 * g_n.toNat + 100); omega, by show zs4 + 0 ≤ (75 * g_n.toNat + 1100); omega⟩) (fun x42 ix42 hp41 => ?_)
                    have hp41a := hp41
                    replace hp41a : (0 : Int) ≤ x42 ∧ x42 ≤ 1 ∧ (x42 = 0 ∨ I_4 a_this 6 = 5) := hp41a
                    obtain ⟨hp41a_0, hp41a_1, hp41a_2⟩ := hp41a
                    clear hFt hMt
                    refine q_ieq (tgt := 102) B dX6_read_91 (by decide) (by unfold inr; omega) (fun c43 => ?_) (fun c43 => ?_)
                    · refine lv_aload_n B.1 B.2.1 dX6_read_102 rfl (lv_at hl 0 rfl) ?_
                      refine q_con B dX6_read_103 ?_
                      have hFt := hF
                      have hMt := hM
                      have hv44 : ((-2147483648 : Int) ≤ 2 ∧ (2 : Int) ≤ 2147483647) ∧ ((2 : Int) ≠ 0) := by first | omega | exact ⟨by first | omega | assumption | exact trivial, by first | omega | assumption | exact trivial⟩
                      refine z_calli hM hA (c_runV (n := 1) (as := [.int (II 2)]) (rest := []) B hX hA hM hl.1 t26 kd7 rfl (k_X6_wrong l D dA eA L_4 T_4 N_4 I_4 J_4 R_4 a_this t26 (2) hv44.1 hv44.2 _ _) ml_X6_84 nm_X6_wrong ⟨rfl, rfl⟩ ⟨Nat.le_of_ble_eq_true rfl, Nat.le_of_ble_eq_true rfl⟩ dX6_read_104 rfl rfl (Nat.le_of_ble_eq_true rfl) ⟨by show zc4 + 0 ≤ (5 * g_n.toNat + 100); omega, by show zs4 + 0 ≤ (75 * g_n.toNat + 1100); omega⟩) (fun x46 ix46 L47 T48 N49 I50 J51 R52 dz53 dl54 H locs hp45 hMn => ?_)
                      obtain ⟨yL47, yT48, yN49, yJ51, yR52, hFc55, hp45a⟩ := hp45
                      obtain rfl := yL47.symm; obtain rfl := yT48.symm; obtain rfl := yN49.symm; obtain rfl := yJ51.symm; obtain rfl := yR52.symm
                      replace hF : Fr mo_X6_readc [] T N I J R T_4 N_4 I50 J_4 R_4 := hF.trans hFc55 (by decide) e20
                      have hM := hMn
                      clear hMn
                      replace hp45a : (0 : Int) ≤ x46 ∧ x46 ≤ 1 ∧ (x46 = 0 ∧ I50 a_this 1 ≠ 0) := hp45a
                      obtain ⟨hp45a_0, hp45a_1, hp45a_2⟩ := hp45a
                      obtain ⟨hp45a_2_0, hp45a_2_1⟩ := hp45a_2
                      obtain ⟨x56, e57⟩ : ∃ v, I50 a_this 1 = v := ⟨_, rfl⟩
                      have t58 : T_4 g_k = 18 := hF.tt p_11 (by decide) nm0
                      have hsp := spn_fr hMt.2.2.2.2.2.2.1 hMt.2.2.2.2.2.2.2 t58 hFc55 (by decide)
                      replace hor : OTR T I R I50 R_4 g_ru := OTR.step hor hC0 hW0.2.2.2.2 hFt hFc55 (fun _ _ => nm0) (by decide)
                      clear hFt hMt
                      refine lv_istore_n (lv' := [(1, .int (II x46)), (0, .ref a_this), (2, .int (II v4_2))]) B.1 B.2.1 dX6_read_107 rfl hl (by decide) rfl (fun ls hl => ?_)
                      refine q_inc (lv' := [(2, .int (II (v4_2 + 1))), (1, .int (II x46)), (0, .ref a_this)]) B dX6_read_108 hl (k := 2) rfl (by decide) rfl (fun ls hl => ?_)
                      refine lv_goto (tgt := 4) B.1 B.2.1 dX6_read_111 (by decide) ?_
                      have e59 : I50 a_this 5 = x6 := (hFc55.i t26 (by decide) nm0 rfl).trans e7
                      have e60 : I50 a_this 6 = x8 := (hFc55.i t26 (by decide) nm0 rfl).trans e9
                      have e61 : I50 g_k 2 = x24 := (hFc55.i t58 (by decide) nm0 rfl).trans e25
                      have hv62 : ((-2147483648 : Int) ≤ x46 ∧ (x46 : Int) ≤ 2147483647) ∧ ((-2147483648 : Int) ≤ v4_2 + 1 ∧ (v4_2 + 1 : Int) ≤ 2147483647) ∧ (0 ≤ (v4_2 + 1)) ∧ ((v4_2 + 1) ≤ 3001) ∧ (0 ≤ x46) ∧ (x46 ≤ 1) ∧ (0 ≤ I50 a_this 5) ∧ ((v4_2 + 1) ≤ I50 a_this 5 + 4000 * (1 - x46)) ∧ ((zc4 : Int) ≤ 5 * I50 a_this 5 + 20 * (1 - x46)) ∧ ((zs4 : Int) ≤ 75 * I50 a_this 5 + 300 * (1 - x46)) ∧ (I50 a_this 5 ≤ g_n) ∧ (x46 = 0 ∨ 4 * spn I50 R_4 g_k (I50 g_k 2).toNat ≤ I50 a_this 5) ∧ (0 ≤ 3001 - (v4_2 + 1)) := by first | omega | exact ⟨by first | omega | assumption | exact trivial, by first | omega | assumption | exact trivial, by first | omega | assumption | exact trivial, by first | omega | assumption | exact trivial, by first | omega | assumption | exact trivial, by first | omega | assumption | exact trivial, by first | omega | assumption | exact trivial, by first | omega | assumption | exact trivial, by first | omega | assumption | exact trivial, by first | omega | assumption | exact trivial, by first | omega | assumption | exact trivial, by first | omega | assumption | exact trivial, by first | omega | assumption | exact trivial⟩
                      exact IH4 x46 (v4_2 + 1) L_4 T_4 N_4 I50 J_4 R_4 zc4 zs4 _ _ ls hM hF (lv_sub hl [2, 1, 0] rfl) hv62.1 hv62.2.1 hv62.2.2.1 hv62.2.2.2.1 hv62.2.2.2.2.1 hv62.2.2.2.2.2.1 hv62.2.2.2.2.2.2.1 hv62.2.2.2.2.2.2.2.1 hv62.2.2.2.2.2.2.2.2.1 hv62.2.2.2.2.2.2.2.2.2.1 (by first | exact Or.inl ⟨by omega, by omega⟩ | exact Or.inr ⟨by omega, by first | assumption | omega⟩ | omega) hv62.2.2.2.2.2.2.2.2.2.2.1 (by rw [e59, e60]; first | assumption | omega) hv62.2.2.2.2.2.2.2.2.2.2.2.1 (by exact hor) hv62.2.2.2.2.2.2.2.2.2.2.2.2 (by omega)
                    · refine lv_aload_n B.1 B.2.1 dX6_read_94 rfl (lv_at hl 0 rfl) ?_
                      have hFt := hF
                      have hMt := hM
                      have e63 : R_4 a_this 3 = g_t + 1 := (hF.r t_this (by decide) nm0 rfl).trans p_0
                      have e64 : R_4 g_t 0 = g_s + 1 := (hF.r p_1 (by decide) nm0 rfl).trans p_2
                      have e65 : R_4 a_this 0 = g_b + 1 := (hF.r t_this (by decide) nm0 rfl).trans p_8
                      have e66 : R_4 g_b 3 = g_k + 1 := (hF.r p_9 (by decide) nm0 rfl).trans p_10
                      have t67 : T_4 g_t = 3 := hF.tt p_1 (by decide) nm0
                      have t68 : T_4 g_s = 62 := hF.tt p_3 (by decide) nm0
                      have t69 : T_4 g_b = 6 := hF.tt p_9 (by decide) nm0
                      have t70 : T_4 g_k = 18 := hF.tt p_11 (by decide) nm0
                      have hv71 : (TKz g_S g_n) ∧ (I_4 a_this 5 ≤ g_n) := by first | omega | exact ⟨by first | omega | assumption | exact trivial, by first | omega | assumption | exact trivial⟩
                      refine g_calli hM hA (c_runV (n := 0) (as := []) (rest := []) B hX hA hM hl.1 t26 kd7 rfl (k_X6_readKindb l D dA eA L_4 T_4 N_4 I_4 J_4 R_4 a_this t26 g_t g_s g_S g_n g_b g_k (show R_4 a_this 3 = g_t + 1 from e63) (show T_4 g_t = 3 from t67) (show R_4 g_t 0 = g_s + 1 from e64) (show T_4 g_s = 62 from t68) (show I_4 g_s = g_S from ((Fr.irow hF p_3 (by decide) nm0 (by decide)).trans p_4)) hv71.1 hv71.2 (show g_S (I_4 a_this 5).toNat = I_4 a_this 6 from by rw [e7, e9]; first | assumption | omega) (show R_4 a_this 0 = g_b + 1 from e65) (show T_4 g_b = 6 from t69) (show R_4 g_b 3 = g_k + 1 from e66) (show T_4 g_k = 18 from t70) _ _) ml_X6_81 nm_X6_readKind ⟨rfl, rfl⟩ ⟨Nat.le_of_ble_eq_true rfl, Nat.le_of_ble_eq_true rfl⟩ dX6_read_95 rfl rfl (Nat.le_of_ble_eq_true rfl) ⟨by show zc4 + (5 * (g_n - I_4 a_this 5).toNat + 60) ≤ (5 * g_n.toNat + 100); omega, by show zs4 + (75 * (g_n - I_4 a_this 5).toNat + 700) ≤ (75 * g_n.toNat + 1100); omega⟩) (fun x73 ix73 L74 T75 N76 I77 J78 R79 dz80 dl81 H locs hp72 hMn => ?_)
                      obtain ⟨hFc82, hp72a⟩ := hp72
                      have t83 : T_4 g_ru = 15 := hF.tt p_16 (by decide) nm0
                      replace hF : Fr mo_X6_readc [] T N I J R T75 N76 I77 J78 R79 := hF.trans hFc82 (by decide) e20
                      have hM := hMn
                      clear hMn
                      replace hp72a : (0 : Int) ≤ x73 ∧ x73 ≤ 1 ∧ (I77 a_this 5 ≤ g_n ∧ g_S (I77 a_this 5).toNat = I77 a_this 6 ∧ I_4 a_this 5 ≤ I77 a_this 5 ∧ ((x73 = 0 ∧ I77 a_this 1 ≠ 0) ∨ (x73 = 1 ∧ I77 a_this 1 = I_4 a_this 1 ∧ I_4 a_this 5 + 4 ≤ I77 a_this 5)) ∧ (dz80 : Int) ≤ 5 * (I77 a_this 5 - I_4 a_this 5) + 20 * (1 - x73) ∧ (dl81 : Int) ≤ 75 * (I77 a_this 5 - I_4 a_this 5) + 300 * (1 - x73) ∧ (x73 = 0 ∨ 4 * spn I77 R79 g_k (I77 g_k 2).toNat ≤ 4 * spn I_4 R_4 g_k (I_4 g_k 2).toNat + (I77 a_this 5 - I_4 a_this 5))) := hp72a
                      obtain ⟨hp72a_0, hp72a_1, hp72a_2⟩ := hp72a
                      obtain ⟨hp72a_2_0, hp72a_2_1, hp72a_2_2, hp72a_2_3, hp72a_2_4, hp72a_2_5, hp72a_2_6⟩ := hp72a_2
                      obtain ⟨x84, e85⟩ : ∃ v, I77 a_this 5 = v := ⟨_, rfl⟩
                      obtain ⟨x86, e87⟩ : ∃ v, I77 a_this 6 = v := ⟨_, rfl⟩
                      have nz88 : g_S (x84).toNat = x86 := by have h9 := hp72a_2_1; rw [e85, e87] at h9; exact h9
                      obtain ⟨x89, e90⟩ : ∃ v, I77 a_this 1 = v := ⟨_, rfl⟩
                      obtain ⟨x91, e92⟩ : ∃ v, I77 g_k 2 = v := ⟨_, rfl⟩
                      replace hor : OTR T I R I77 R79 g_ru := OTR.step hor hC0 hW0.2.2.2.2 hFt hFc82 (fun _ _ => nm0) (by decide)
                      clear hFt hMt
                      refine lv_istore_n (lv' := [(1, .int (II x73)), (0, .ref a_this), (2, .int (II v4_2))]) B.1 B.2.1 dX6_read_98 rfl hl (by decide) rfl (fun ls hl => ?_)
                      refine lv_goto (tgt := 108) B.1 B.2.1 dX6_read_99 (by decide) ?_
                      refine q_inc (lv' := [(2, .int (II (v4_2 + 1))), (1, .int (II x73)), (0, .ref a_this)]) B dX6_read_108 hl (k := 2) rfl (by decide) rfl (fun ls hl => ?_)
                      refine lv_goto (tgt := 4) B.1 B.2.1 dX6_read_111 (by decide) ?_
                      have hv93 : ((-2147483648 : Int) ≤ x73 ∧ (x73 : Int) ≤ 2147483647) ∧ ((-2147483648 : Int) ≤ v4_2 + 1 ∧ (v4_2 + 1 : Int) ≤ 2147483647) ∧ (0 ≤ (v4_2 + 1)) ∧ ((v4_2 + 1) ≤ 3001) ∧ (0 ≤ x73) ∧ (x73 ≤ 1) ∧ (0 ≤ I77 a_this 5) ∧ ((v4_2 + 1) ≤ I77 a_this 5 + 4000 * (1 - x73)) ∧ ((zc4 + dz80 : Int) ≤ 5 * I77 a_this 5 + 20 * (1 - x73)) ∧ ((zs4 + dl81 : Int) ≤ 75 * I77 a_this 5 + 300 * (1 - x73)) ∧ (I77 a_this 5 ≤ g_n) ∧ (x73 = 0 ∨ 4 * spn I77 R79 g_k (I77 g_k 2).toNat ≤ I77 a_this 5) ∧ (0 ≤ 3001 - (v4_2 + 1)) := by first | omega | exact ⟨by first | omega | assumption | exact trivial, by first | omega | assumption | exact trivial, by first | omega | assumption | exact trivial, by first | omega | assumption | exact trivial, by first | omega | assumption | exact trivial, by first | omega | assumption | exact trivial, by first | omega | assumption | exact trivial, by first | omega | assumption | exact trivial, by first | omega | assumption | exact trivial, by first | omega | assumption | exact trivial, by first | omega | assumption | exact trivial, by first | omega | assumption | exact trivial, by first | omega | assumption | exact trivial⟩
                      exact IH4 x73 (v4_2 + 1) L74 T75 N76 I77 J78 R79 (zc4 + dz80) (zs4 + dl81) _ _ ls hM hF (lv_sub hl [2, 1, 0] rfl) hv93.1 hv93.2.1 hv93.2.2.1 hv93.2.2.2.1 hv93.2.2.2.2.1 hv93.2.2.2.2.2.1 hv93.2.2.2.2.2.2.1 hv93.2.2.2.2.2.2.2.1 hv93.2.2.2.2.2.2.2.2.1 hv93.2.2.2.2.2.2.2.2.2.1 (by first | exact Or.inl ⟨by omega, by omega⟩ | exact Or.inr ⟨by omega, by first | assumption | omega⟩ | omega) hv93.2.2.2.2.2.2.2.2.2.2.1 (by rw [e85, e87]; first | assumption | omega) hv93.2.2.2.2.2.2.2.2.2.2.2.1 (by exact hor) hv93.2.2.2.2.2.2.2.2.2.2.2.2 (by omega)
                  · refine lv_aload_n B.1 B.2.1 dX6_read_78 rfl (lv_at hl 0 rfl) ?_
                    have hFt := hF
                    have hMt := hM
                    have e94 : R_4 a_this 3 = g_t + 1 := (hF.r t_this (by decide) nm0 rfl).trans p_0
                    have e95 : R_4 g_t 0 = g_s + 1 := (hF.r p_1 (by decide) nm0 rfl).trans p_2
                    have t96 : T_4 g_t = 3 := hF.tt p_1 (by decide) nm0
                    have t97 : T_4 g_s = 62 := hF.tt p_3 (by decide) nm0
                    have hv98 : (TKz g_S g_n) ∧ (I_4 a_this 5 ≤ g_n) := by first | omega | exact ⟨by first | omega | assumption | exact trivial, by first | omega | assumption | exact trivial⟩
                    refine g_calli hM hA (c_runV (n := 0) (as := []) (rest := []) B hX hA hM hl.1 t26 kd7 rfl (k_X6_readMarkb l D dA eA L_4 T_4 N_4 I_4 J_4 R_4 a_this t26 g_t g_s g_S g_n (show R_4 a_this 3 = g_t + 1 from e94) (show T_4 g_t = 3 from t96) (show R_4 g_t 0 = g_s + 1 from e95) (show T_4 g_s = 62 from t97) (show I_4 g_s = g_S from ((Fr.irow hF p_3 (by decide) nm0 (by decide)).trans p_4)) hv98.1 hv98.2 (show g_S (I_4 a_this 5).toNat = I_4 a_this 6 from by rw [e7, e9]; first | assumption | omega) _ _) ml_X6_78 nm_X6_readMark ⟨rfl, rfl⟩ ⟨Nat.le_of_ble_eq_true rfl, Nat.le_of_ble_eq_true rfl⟩ dX6_read_79 rfl rfl (Nat.le_of_ble_eq_true rfl) ⟨by show zc4 + 40 ≤ (5 * g_n.toNat + 100); omega, by show zs4 + 315 ≤ (75 * g_n.toNat + 1100); omega⟩) (fun x100 ix100 L101 T102 N103 I104 J105 R106 dz107 dl108 H locs hp99 hMn => ?_)
                    obtain ⟨hFc109, hp99a⟩ := hp99
                    have t110 : T_4 g_b = 6 := hF.tt p_9 (by decide) nm0
                    have t111 : T_4 g_k = 18 := hF.tt p_11 (by decide) nm0
                    have t112 : T_4 g_ru = 15 := hF.tt p_16 (by decide) nm0
                    replace hF : Fr mo_X6_readc [] T N I J R T102 N103 I104 J105 R106 := hF.trans hFc109 (by decide) e20
                    have hM := hMn
                    clear hMn
                    replace hp99a : (0 : Int) ≤ x100 ∧ x100 ≤ 1 ∧ (I104 a_this 5 ≤ g_n ∧ g_S (I104 a_this 5).toNat = I104 a_this 6 ∧ I_4 a_this 5 ≤ I104 a_this 5 ∧ ((x100 = 0 ∧ I104 a_this 1 ≠ 0) ∨ (x100 = 1 ∧ I104 a_this 1 = I_4 a_this 1 ∧ I_4 a_this 5 + 1 ≤ I104 a_this 5)) ∧ (dz107 : Int) ≤ 5 * (I104 a_this 5 - I_4 a_this 5) + 20 * (1 - x100) ∧ (dl108 : Int) ≤ 75 * (I104 a_this 5 - I_4 a_this 5) + 300 * (1 - x100) ∧ dz107 ≤ 40 ∧ dl108 ≤ 315) := hp99a
                    obtain ⟨hp99a_0, hp99a_1, hp99a_2⟩ := hp99a
                    obtain ⟨hp99a_2_0, hp99a_2_1, hp99a_2_2, hp99a_2_3, hp99a_2_4, hp99a_2_5, hp99a_2_6, hp99a_2_7⟩ := hp99a_2
                    obtain ⟨x113, e114⟩ : ∃ v, I104 a_this 5 = v := ⟨_, rfl⟩
                    obtain ⟨x115, e116⟩ : ∃ v, I104 a_this 6 = v := ⟨_, rfl⟩
                    have nz117 : g_S (x113).toNat = x115 := by have h9 := hp99a_2_1; rw [e114, e116] at h9; exact h9
                    obtain ⟨x118, e119⟩ : ∃ v, I104 a_this 1 = v := ⟨_, rfl⟩
                    have hsp := spn_fr hMt.2.2.2.2.2.2.1 hMt.2.2.2.2.2.2.2 t111 hFc109 (by decide)
                    replace hor : OTR T I R I104 R106 g_ru := OTR.step hor hC0 hW0.2.2.2.2 hFt hFc109 (fun _ _ => nm0) (by decide)
                    clear hFt hMt
                    refine lv_istore_n (lv' := [(1, .int (II x100)), (0, .ref a_this), (2, .int (II v4_2))]) B.1 B.2.1 dX6_read_82 rfl hl (by decide) rfl (fun ls hl => ?_)
                    refine lv_goto (tgt := 108) B.1 B.2.1 dX6_read_83 (by decide) ?_
                    refine q_inc (lv' := [(2, .int (II (v4_2 + 1))), (1, .int (II x100)), (0, .ref a_this)]) B dX6_read_108 hl (k := 2) rfl (by decide) rfl (fun ls hl => ?_)
                    refine lv_goto (tgt := 4) B.1 B.2.1 dX6_read_111 (by decide) ?_
                    have e120 : I104 g_k 2 = x24 := (hFc109.i t111 (by decide) nm0 rfl).trans e25
                    have hv121 : ((-2147483648 : Int) ≤ x100 ∧ (x100 : Int) ≤ 2147483647) ∧ ((-2147483648 : Int) ≤ v4_2 + 1 ∧ (v4_2 + 1 : Int) ≤ 2147483647) ∧ (0 ≤ (v4_2 + 1)) ∧ ((v4_2 + 1) ≤ 3001) ∧ (0 ≤ x100) ∧ (x100 ≤ 1) ∧ (0 ≤ I104 a_this 5) ∧ ((v4_2 + 1) ≤ I104 a_this 5 + 4000 * (1 - x100)) ∧ ((zc4 + dz107 : Int) ≤ 5 * I104 a_this 5 + 20 * (1 - x100)) ∧ ((zs4 + dl108 : Int) ≤ 75 * I104 a_this 5 + 300 * (1 - x100)) ∧ (I104 a_this 5 ≤ g_n) ∧ (x100 = 0 ∨ 4 * spn I104 R106 g_k (I104 g_k 2).toNat ≤ I104 a_this 5) ∧ (0 ≤ 3001 - (v4_2 + 1)) := by first | omega | exact ⟨by first | omega | assumption | exact trivial, by first | omega | assumption | exact trivial, by first | omega | assumption | exact trivial, by first | omega | assumption | exact trivial, by first | omega | assumption | exact trivial, by first | omega | assumption | exact trivial, by first | omega | assumption | exact trivial, by first | omega | assumption | exact trivial, by first | omega | assumption | exact trivial, by first | omega | assumption | exact trivial, by first | omega | assumption | exact trivial, by first | omega | assumption | exact trivial, by first | omega | assumption | exact trivial⟩
                    exact IH4 x100 (v4_2 + 1) L101 T102 N103 I104 J105 R106 (zc4 + dz107) (zs4 + dl108) _ _ ls hM hF (lv_sub hl [2, 1, 0] rfl) hv121.1 hv121.2.1 hv121.2.2.1 hv121.2.2.2.1 hv121.2.2.2.2.1 hv121.2.2.2.2.2.1 hv121.2.2.2.2.2.2.1 hv121.2.2.2.2.2.2.2.1 hv121.2.2.2.2.2.2.2.2.1 hv121.2.2.2.2.2.2.2.2.2.1 (by first | exact Or.inl ⟨by omega, by omega⟩ | exact Or.inr ⟨by omega, by first | assumption | omega⟩ | omega) hv121.2.2.2.2.2.2.2.2.2.2.1 (by rw [e114, e116]; first | assumption | omega) hv121.2.2.2.2.2.2.2.2.2.2.2.1 (by exact hor) hv121.2.2.2.2.2.2.2.2.2.2.2.2 (by omega)
                · refine lv_aload_n B.1 B.2.1 dX6_read_62 rfl (lv_at hl 0 rfl) ?_
                  have hFt := hF
                  have hMt := hM
                  have e122 : R_4 a_this 3 = g_t + 1 := (hF.r t_this (by decide) nm0 rfl).trans p_0
                  have e123 : R_4 g_t 0 = g_s + 1 := (hF.r p_1 (by decide) nm0 rfl).trans p_2
                  have e124 : R_4 a_this 0 = g_b + 1 := (hF.r t_this (by decide) nm0 rfl).trans p_8
                  have e125 : R_4 g_b 0 = g_ru + 1 := (hF.r p_9 (by decide) nm0 rfl).trans p_15
                  have t126 : T_4 g_t = 3 := hF.tt p_1 (by decide) nm0
                  have t127 : T_4 g_s = 62 := hF.tt p_3 (by decide) nm0
                  have t128 : T_4 g_b = 6 := hF.tt p_9 (by decide) nm0
                  have t129 : T_4 g_ru = 15 := hF.tt p_16 (by decide) nm0
                  have hv130 : (TKz g_S g_n) ∧ (I_4 a_this 5 ≤ g_n) := by first | omega | exact ⟨by first | omega | assumption | exact trivial, by first | omega | assumption | exact trivial⟩
                  refine g_calli hM hA (c_runV (n := 0) (as := []) (rest := []) B hX hA hM hl.1 t26 kd7 rfl (k_X6_readRulec l D dA eA L_4 T_4 N_4 I_4 J_4 R_4 a_this t26 g_t g_s g_S g_n g_b g_ru (show R_4 a_this 3 = g_t + 1 from e122) (show T_4 g_t = 3 from t126) (show R_4 g_t 0 = g_s + 1 from e123) (show T_4 g_s = 62 from t127) (show I_4 g_s = g_S from ((Fr.irow hF p_3 (by decide) nm0 (by decide)).trans p_4)) hv130.1 hv130.2 (show g_S (I_4 a_this 5).toNat = I_4 a_this 6 from by rw [e7, e9]; first | assumption | omega) (show R_4 a_this 0 = g_b + 1 from e124) (show T_4 g_b = 6 from t128) (show R_4 g_b 0 = g_ru + 1 from e125) (show T_4 g_ru = 15 from t129) _ _) ml_X6_75 nm_X6_readRule ⟨rfl, rfl⟩ ⟨Nat.le_of_ble_eq_true rfl, Nat.le_of_ble_eq_true rfl⟩ dX6_read_63 rfl rfl (Nat.le_of_ble_eq_true rfl) ⟨by show zc4 + 8 ≤ (5 * g_n.toNat + 100); omega, by show zs4 + 211 ≤ (75 * g_n.toNat + 1100); omega⟩) (fun x132 ix132 L133 T134 N135 I136 J137 R138 dz139 dl140 H locs hp131 hMn => ?_)
                  obtain ⟨hFc141, hp131a⟩ := hp131
                  have t142 : T_4 g_k = 18 := hF.tt p_11 (by decide) nm0
                  replace hF : Fr mo_X6_readc [] T N I J R T134 N135 I136 J137 R138 := hF.trans hFc141 (by decide) e20
                  have hM := hMn
                  clear hMn
                  replace hp131a : (0 : Int) ≤ x132 ∧ x132 ≤ 1 ∧ (I136 a_this 5 ≤ g_n ∧ g_S (I136 a_this 5).toNat = I136 a_this 6 ∧ I_4 a_this 5 ≤ I136 a_this 5 ∧ ((x132 = 0 ∧ I136 a_this 1 ≠ 0) ∨ (x132 = 1 ∧ I136 a_this 1 = I_4 a_this 1 ∧ I_4 a_this 5 + 4 ≤ I136 a_this 5)) ∧ (dz139 : Int) ≤ 5 * (I136 a_this 5 - I_4 a_this 5) + 20 * (1 - x132) ∧ (dl140 : Int) ≤ 75 * (I136 a_this 5 - I_4 a_this 5) + 300 * (1 - x132) ∧ dz139 ≤ 8 ∧ dl140 ≤ 211 ∧ OTR T_4 I_4 R_4 I136 R138 g_ru) := hp131a
                  obtain ⟨hp131a_0, hp131a_1, hp131a_2⟩ := hp131a
                  obtain ⟨hp131a_2_0, hp131a_2_1, hp131a_2_2, hp131a_2_3, hp131a_2_4, hp131a_2_5, hp131a_2_6, hp131a_2_7, hp131a_2_8⟩ := hp131a_2
                  obtain ⟨x143, e144⟩ : ∃ v, I136 a_this 5 = v := ⟨_, rfl⟩
                  obtain ⟨x145, e146⟩ : ∃ v, I136 a_this 6 = v := ⟨_, rfl⟩
                  have nz147 : g_S (x143).toNat = x145 := by have h9 := hp131a_2_1; rw [e144, e146] at h9; exact h9
                  obtain ⟨x148, e149⟩ : ∃ v, I136 a_this 1 = v := ⟨_, rfl⟩
                  have hsp := spn_fr hMt.2.2.2.2.2.2.1 hMt.2.2.2.2.2.2.2 t142 hFc141 (by decide)
                  replace hor : OTR T I R I136 R138 g_ru := OTR.trans hor hFt (by assumption)
                  clear hFt hMt
                  refine lv_istore_n (lv' := [(1, .int (II x132)), (0, .ref a_this), (2, .int (II v4_2))]) B.1 B.2.1 dX6_read_66 rfl hl (by decide) rfl (fun ls hl => ?_)
                  refine lv_goto (tgt := 108) B.1 B.2.1 dX6_read_67 (by decide) ?_
                  refine q_inc (lv' := [(2, .int (II (v4_2 + 1))), (1, .int (II x132)), (0, .ref a_this)]) B dX6_read_108 hl (k := 2) rfl (by decide) rfl (fun ls hl => ?_)
                  refine lv_goto (tgt := 4) B.1 B.2.1 dX6_read_111 (by decide) ?_
                  have e150 : I136 g_k 2 = x24 := (hFc141.i t142 (by decide) nm0 rfl).trans e25
                  have hv151 : ((-2147483648 : Int) ≤ x132 ∧ (x132 : Int) ≤ 2147483647) ∧ ((-2147483648 : Int) ≤ v4_2 + 1 ∧ (v4_2 + 1 : Int) ≤ 2147483647) ∧ (0 ≤ (v4_2 + 1)) ∧ ((v4_2 + 1) ≤ 3001) ∧ (0 ≤ x132) ∧ (x132 ≤ 1) ∧ (0 ≤ I136 a_this 5) ∧ ((v4_2 + 1) ≤ I136 a_this 5 + 4000 * (1 - x132)) ∧ ((zc4 + dz139 : Int) ≤ 5 * I136 a_this 5 + 20 * (1 - x132)) ∧ ((zs4 + dl140 : Int) ≤ 75 * I136 a_this 5 + 300 * (1 - x132)) ∧ (I136 a_this 5 ≤ g_n) ∧ (x132 = 0 ∨ 4 * spn I136 R138 g_k (I136 g_k 2).toNat ≤ I136 a_this 5) ∧ (0 ≤ 3001 - (v4_2 + 1)) := by first | omega | exact ⟨by first | omega | assumption | exact trivial, by first | omega | assumption | exact trivial, by first | omega | assumption | exact trivial, by first | omega | assumption | exact trivial, by first | omega | assumption | exact trivial, by first | omega | assumption | exact trivial, by first | omega | assumption | exact trivial, by first | omega | assumption | exact trivial, by first | omega | assumption | exact trivial, by first | omega | assumption | exact trivial, by first | omega | assumption | exact trivial, by first | omega | assumption | exact trivial, by first | omega | assumption | exact trivial⟩
                  exact IH4 x132 (v4_2 + 1) L133 T134 N135 I136 J137 R138 (zc4 + dz139) (zs4 + dl140) _ _ ls hM hF (lv_sub hl [2, 1, 0] rfl) hv151.1 hv151.2.1 hv151.2.2.1 hv151.2.2.2.1 hv151.2.2.2.2.1 hv151.2.2.2.2.2.1 hv151.2.2.2.2.2.2.1 hv151.2.2.2.2.2.2.2.1 hv151.2.2.2.2.2.2.2.2.1 hv151.2.2.2.2.2.2.2.2.2.1 (by first | exact Or.inl ⟨by omega, by omega⟩ | exact Or.inr ⟨by omega, by first | assumption | omega⟩ | omega) hv151.2.2.2.2.2.2.2.2.2.2.1 (by rw [e144, e146]; first | assumption | omega) hv151.2.2.2.2.2.2.2.2.2.2.2.1 (by exact hor) hv151.2.2.2.2.2.2.2.2.2.2.2.2 (by omega)
              · refine lv_aload_n B.1 B.2.1 dX6_read_46 rfl (lv_at hl 0 rfl) ?_
                have hFt := hF
                have hMt := hM
                have e152 : R_4 a_this 3 = g_t + 1 := (hF.r t_this (by decide) nm0 rfl).trans p_0
                have e153 : R_4 g_t 0 = g_s + 1 := (hF.r p_1 (by decide) nm0 rfl).trans p_2
                have t154 : T_4 g_t = 3 := hF.tt p_1 (by decide) nm0
                have t155 : T_4 g_s = 62 := hF.tt p_3 (by decide) nm0
                have hv156 : (TKz g_S g_n) ∧ (I_4 a_this 5 ≤ g_n) := by first | omega | exact ⟨by first | omega | assumption | exact trivial, by first | omega | assumption | exact trivial⟩
                refine g_calli hM hA (c_runV (n := 0) (as := []) (rest := []) B hX hA hM hl.1 t26 kd7 rfl (k_X6_readChainb l D dA eA L_4 T_4 N_4 I_4 J_4 R_4 a_this t26 g_t g_s g_S g_n (show R_4 a_this 3 = g_t + 1 from e152) (show T_4 g_t = 3 from t154) (show R_4 g_t 0 = g_s + 1 from e153) (show T_4 g_s = 62 from t155) (show I_4 g_s = g_S from ((Fr.irow hF p_3 (by decide) nm0 (by decide)).trans p_4)) hv156.1 hv156.2 (show g_S (I_4 a_this 5).toNat = I_4 a_this 6 from by rw [e7, e9]; first | assumption | omega) _ _) ml_X6_72 nm_X6_readChain ⟨rfl, rfl⟩ ⟨Nat.le_of_ble_eq_true rfl, Nat.le_of_ble_eq_true rfl⟩ dX6_read_47 rfl rfl (Nat.le_of_ble_eq_true rfl) ⟨by show zc4 + 1 ≤ (5 * g_n.toNat + 100); omega, by show zs4 + 8 ≤ (75 * g_n.toNat + 1100); omega⟩) (fun x158 ix158 L159 T160 N161 I162 J163 R164 dz165 dl166 H locs hp157 hMn => ?_)
                obtain ⟨hFc167, hp157a⟩ := hp157
                have t168 : T_4 g_b = 6 := hF.tt p_9 (by decide) nm0
                have t169 : T_4 g_k = 18 := hF.tt p_11 (by decide) nm0
                have t170 : T_4 g_ru = 15 := hF.tt p_16 (by decide) nm0
                replace hF : Fr mo_X6_readc [] T N I J R T160 N161 I162 J163 R164 := hF.trans hFc167 (by decide) e20
                have hM := hMn
                clear hMn
                replace hp157a : (0 : Int) ≤ x158 ∧ x158 ≤ 1 ∧ (I162 a_this 5 ≤ g_n ∧ g_S (I162 a_this 5).toNat = I162 a_this 6 ∧ I_4 a_this 5 ≤ I162 a_this 5 ∧ ((x158 = 0 ∧ I162 a_this 1 ≠ 0) ∨ (x158 = 1 ∧ I162 a_this 1 = I_4 a_this 1 ∧ I_4 a_this 5 + 1 ≤ I162 a_this 5)) ∧ (dz165 : Int) ≤ 5 * (I162 a_this 5 - I_4 a_this 5) + 20 * (1 - x158) ∧ (dl166 : Int) ≤ 75 * (I162 a_this 5 - I_4 a_this 5) + 300 * (1 - x158) ∧ dz165 ≤ 1 ∧ dl166 ≤ 8) := hp157a
                obtain ⟨hp157a_0, hp157a_1, hp157a_2⟩ := hp157a
                obtain ⟨hp157a_2_0, hp157a_2_1, hp157a_2_2, hp157a_2_3, hp157a_2_4, hp157a_2_5, hp157a_2_6, hp157a_2_7⟩ := hp157a_2
                obtain ⟨x171, e172⟩ : ∃ v, I162 a_this 5 = v := ⟨_, rfl⟩
                obtain ⟨x173, e174⟩ : ∃ v, I162 a_this 6 = v := ⟨_, rfl⟩
                have nz175 : g_S (x171).toNat = x173 := by have h9 := hp157a_2_1; rw [e172, e174] at h9; exact h9
                obtain ⟨x176, e177⟩ : ∃ v, I162 a_this 1 = v := ⟨_, rfl⟩
                have hsp := spn_fr hMt.2.2.2.2.2.2.1 hMt.2.2.2.2.2.2.2 t169 hFc167 (by decide)
                replace hor : OTR T I R I162 R164 g_ru := OTR.step hor hC0 hW0.2.2.2.2 hFt hFc167 (fun _ _ => nm0) (by decide)
                clear hFt hMt
                refine lv_istore_n (lv' := [(1, .int (II x158)), (0, .ref a_this), (2, .int (II v4_2))]) B.1 B.2.1 dX6_read_50 rfl hl (by decide) rfl (fun ls hl => ?_)
                refine lv_goto (tgt := 108) B.1 B.2.1 dX6_read_51 (by decide) ?_
                refine q_inc (lv' := [(2, .int (II (v4_2 + 1))), (1, .int (II x158)), (0, .ref a_this)]) B dX6_read_108 hl (k := 2) rfl (by decide) rfl (fun ls hl => ?_)
                refine lv_goto (tgt := 4) B.1 B.2.1 dX6_read_111 (by decide) ?_
                have e178 : I162 g_k 2 = x24 := (hFc167.i t169 (by decide) nm0 rfl).trans e25
                have hv179 : ((-2147483648 : Int) ≤ x158 ∧ (x158 : Int) ≤ 2147483647) ∧ ((-2147483648 : Int) ≤ v4_2 + 1 ∧ (v4_2 + 1 : Int) ≤ 2147483647) ∧ (0 ≤ (v4_2 + 1)) ∧ ((v4_2 + 1) ≤ 3001) ∧ (0 ≤ x158) ∧ (x158 ≤ 1) ∧ (0 ≤ I162 a_this 5) ∧ ((v4_2 + 1) ≤ I162 a_this 5 + 4000 * (1 - x158)) ∧ ((zc4 + dz165 : Int) ≤ 5 * I162 a_this 5 + 20 * (1 - x158)) ∧ ((zs4 + dl166 : Int) ≤ 75 * I162 a_this 5 + 300 * (1 - x158)) ∧ (I162 a_this 5 ≤ g_n) ∧ (x158 = 0 ∨ 4 * spn I162 R164 g_k (I162 g_k 2).toNat ≤ I162 a_this 5) ∧ (0 ≤ 3001 - (v4_2 + 1)) := by first | omega | exact ⟨by first | omega | assumption | exact trivial, by first | omega | assumption | exact trivial, by first | omega | assumption | exact trivial, by first | omega | assumption | exact trivial, by first | omega | assumption | exact trivial, by first | omega | assumption | exact trivial, by first | omega | assumption | exact trivial, by first | omega | assumption | exact trivial, by first | omega | assumption | exact trivial, by first | omega | assumption | exact trivial, by first | omega | assumption | exact trivial, by first | omega | assumption | exact trivial, by first | omega | assumption | exact trivial⟩
                exact IH4 x158 (v4_2 + 1) L159 T160 N161 I162 J163 R164 (zc4 + dz165) (zs4 + dl166) _ _ ls hM hF (lv_sub hl [2, 1, 0] rfl) hv179.1 hv179.2.1 hv179.2.2.1 hv179.2.2.2.1 hv179.2.2.2.2.1 hv179.2.2.2.2.2.1 hv179.2.2.2.2.2.2.1 hv179.2.2.2.2.2.2.2.1 hv179.2.2.2.2.2.2.2.2.1 hv179.2.2.2.2.2.2.2.2.2.1 (by first | exact Or.inl ⟨by omega, by omega⟩ | exact Or.inr ⟨by omega, by first | assumption | omega⟩ | omega) hv179.2.2.2.2.2.2.2.2.2.2.1 (by rw [e172, e174]; first | assumption | omega) hv179.2.2.2.2.2.2.2.2.2.2.2.1 (by exact hor) hv179.2.2.2.2.2.2.2.2.2.2.2.2 (by omega)
            · refine lv_aload_n B.1 B.2.1 dX6_read_30 rfl (lv_at hl 0 rfl) ?_
              have hFt := hF
              have hMt := hM
              have e180 : R_4 a_this 3 = g_t + 1 := (hF.r t_this (by decide) nm0 rfl).trans p_0
              have e181 : R_4 g_t 0 = g_s + 1 := (hF.r p_1 (by decide) nm0 rfl).trans p_2
              have t182 : T_4 g_t = 3 := hF.tt p_1 (by decide) nm0
              have t183 : T_4 g_s = 62 := hF.tt p_3 (by decide) nm0
              have hv184 : (TKz g_S g_n) ∧ (I_4 a_this 5 ≤ g_n) := by first | omega | exact ⟨by first | omega | assumption | exact trivial, by first | omega | assumption | exact trivial⟩
              refine z_calli hM hA (c_runV (n := 0) (as := []) (rest := []) B hX hA hM hl.1 t26 kd7 rfl (k_X6_readGroup l D dA eA L_4 T_4 N_4 I_4 J_4 R_4 a_this t26 g_t g_s g_S g_n (show R_4 a_this 3 = g_t + 1 from e180) (show T_4 g_t = 3 from t182) (show R_4 g_t 0 = g_s + 1 from e181) (show T_4 g_s = 62 from t183) (show I_4 g_s = g_S from ((Fr.irow hF p_3 (by decide) nm0 (by decide)).trans p_4)) hv184.1 hv184.2 (show g_S (I_4 a_this 5).toNat = I_4 a_this 6 from by rw [e7, e9]; first | assumption | omega) _ _) ml_X6_68 nm_X6_readGroup ⟨rfl, rfl⟩ ⟨Nat.le_of_ble_eq_true rfl, Nat.le_of_ble_eq_true rfl⟩ dX6_read_31 rfl rfl (Nat.le_of_ble_eq_true rfl) ⟨by show zc4 + 0 ≤ (5 * g_n.toNat + 100); omega, by show zs4 + 0 ≤ (75 * g_n.toNat + 1100); omega⟩) (fun x186 ix186 L187 T188 N189 I190 J191 R192 dz193 dl194 H locs hp185 hMn => ?_)
              obtain ⟨yL187, yT188, yN189, yR192, hFc195, hp185a⟩ := hp185
              obtain rfl := yL187.symm; obtain rfl := yT188.symm; obtain rfl := yN189.symm; obtain rfl := yR192.symm
              replace hF : Fr mo_X6_readc [] T N I J R T_4 N_4 I190 J191 R_4 := hF.trans hFc195 (by decide) e20
              have hM := hMn
              clear hMn
              replace hp185a : (0 : Int) ≤ x186 ∧ x186 ≤ 1 ∧ (I190 a_this 5 ≤ g_n ∧ g_S (I190 a_this 5).toNat = I190 a_this 6 ∧ I_4 a_this 5 ≤ I190 a_this 5 ∧ ((x186 = 0 ∧ I190 a_this 1 ≠ 0) ∨ (x186 = 1 ∧ I190 a_this 1 = I_4 a_this 1 ∧ I_4 a_this 5 + 1 ≤ I190 a_this 5))) := hp185a
              obtain ⟨hp185a_0, hp185a_1, hp185a_2⟩ := hp185a
              obtain ⟨hp185a_2_0, hp185a_2_1, hp185a_2_2, hp185a_2_3⟩ := hp185a_2
              obtain ⟨x196, e197⟩ : ∃ v, I190 a_this 5 = v := ⟨_, rfl⟩
              obtain ⟨x198, e199⟩ : ∃ v, I190 a_this 6 = v := ⟨_, rfl⟩
              have nz200 : g_S (x196).toNat = x198 := by have h9 := hp185a_2_1; rw [e197, e199] at h9; exact h9
              obtain ⟨x201, e202⟩ : ∃ v, I190 a_this 1 = v := ⟨_, rfl⟩
              have t203 : T_4 g_k = 18 := hF.tt p_11 (by decide) nm0
              have hsp := spn_fr hMt.2.2.2.2.2.2.1 hMt.2.2.2.2.2.2.2 t203 hFc195 (by decide)
              replace hor : OTR T I R I190 R_4 g_ru := OTR.step hor hC0 hW0.2.2.2.2 hFt hFc195 (fun _ _ => nm0) (by decide)
              clear hFt hMt
              refine lv_istore_n (lv' := [(1, .int (II x186)), (0, .ref a_this), (2, .int (II v4_2))]) B.1 B.2.1 dX6_read_34 rfl hl (by decide) rfl (fun ls hl => ?_)
              refine lv_goto (tgt := 108) B.1 B.2.1 dX6_read_35 (by decide) ?_
              refine q_inc (lv' := [(2, .int (II (v4_2 + 1))), (1, .int (II x186)), (0, .ref a_this)]) B dX6_read_108 hl (k := 2) rfl (by decide) rfl (fun ls hl => ?_)
              refine lv_goto (tgt := 4) B.1 B.2.1 dX6_read_111 (by decide) ?_
              have e204 : I190 g_k 2 = x24 := (hFc195.i t203 (by decide) nm0 rfl).trans e25
              have hv205 : ((-2147483648 : Int) ≤ x186 ∧ (x186 : Int) ≤ 2147483647) ∧ ((-2147483648 : Int) ≤ v4_2 + 1 ∧ (v4_2 + 1 : Int) ≤ 2147483647) ∧ (0 ≤ (v4_2 + 1)) ∧ ((v4_2 + 1) ≤ 3001) ∧ (0 ≤ x186) ∧ (x186 ≤ 1) ∧ (0 ≤ I190 a_this 5) ∧ ((v4_2 + 1) ≤ I190 a_this 5 + 4000 * (1 - x186)) ∧ ((zc4 : Int) ≤ 5 * I190 a_this 5 + 20 * (1 - x186)) ∧ ((zs4 : Int) ≤ 75 * I190 a_this 5 + 300 * (1 - x186)) ∧ (I190 a_this 5 ≤ g_n) ∧ (x186 = 0 ∨ 4 * spn I190 R_4 g_k (I190 g_k 2).toNat ≤ I190 a_this 5) ∧ (0 ≤ 3001 - (v4_2 + 1)) := by first | omega | exact ⟨by first | omega | assumption | exact trivial, by first | omega | assumption | exact trivial, by first | omega | assumption | exact trivial, by first | omega | assumption | exact trivial, by first | omega | assumption | exact trivial, by first | omega | assumption | exact trivial, by first | omega | assumption | exact trivial, by first | omega | assumption | exact trivial, by first | omega | assumption | exact trivial, by first | omega | assumption | exact trivial, by first | omega | assumption | exact trivial, by first | omega | assumption | exact trivial, by first | omega | assumption | exact trivial⟩
              exact IH4 x186 (v4_2 + 1) L_4 T_4 N_4 I190 J191 R_4 zc4 zs4 _ _ ls hM hF (lv_sub hl [2, 1, 0] rfl) hv205.1 hv205.2.1 hv205.2.2.1 hv205.2.2.2.1 hv205.2.2.2.2.1 hv205.2.2.2.2.2.1 hv205.2.2.2.2.2.2.1 hv205.2.2.2.2.2.2.2.1 hv205.2.2.2.2.2.2.2.2.1 hv205.2.2.2.2.2.2.2.2.2.1 (by first | exact Or.inl ⟨by omega, by omega⟩ | exact Or.inr ⟨by omega, by first | assumption | omega⟩ | omega) hv205.2.2.2.2.2.2.2.2.2.2.1 (by rw [e197, e199]; first | assumption | omega) hv205.2.2.2.2.2.2.2.2.2.2.2.1 (by exact hor) hv205.2.2.2.2.2.2.2.2.2.2.2.2 (by omega)
  obtain ⟨x206, e207⟩ : ∃ v, I a_this 1 = v := ⟨_, rfl⟩
  have hv208 : ((-2147483648 : Int) ≤ 1 ∧ (1 : Int) ≤ 2147483647) ∧ ((-2147483648 : Int) ≤ 0 ∧ (0 : Int) ≤ 2147483647) ∧ (0 ≤ (0 : Int)) ∧ ((0 : Int) ≤ 3001) ∧ (0 ≤ (1 : Int)) ∧ ((1 : Int) ≤ 1) ∧ (0 ≤ I a_this 5) ∧ ((0 : Int) ≤ I a_this 5 + 4000 * (1 - (1 : Int))) ∧ (0 ≤ 5 * I a_this 5 + 20 * (1 - (1 : Int))) ∧ (0 ≤ 75 * I a_this 5 + 300 * (1 - (1 : Int))) ∧ (I a_this 5 ≤ g_n) ∧ ((1 : Int) = 0 ∨ 4 * spn I R g_k (I g_k 2).toNat ≤ I a_this 5) ∧ (0 ≤ 3001 - (0 : Int)) := by first | omega | exact ⟨by first | omega | assumption | exact trivial, by first | omega | assumption | exact trivial, by first | omega | assumption | exact trivial, by first | omega | assumption | exact trivial, by first | omega | assumption | exact trivial, by first | omega | assumption | exact trivial, by first | omega | assumption | exact trivial, by first | omega | assumption | exact trivial, by first | omega | assumption | exact trivial, by first | omega | assumption | exact trivial, by first | omega | assumption | exact trivial, by first | omega | assumption | exact trivial, by first | omega | assumption | exact trivial⟩
  exact LL4 (Int.toNat (3001 - (0 : Int) + 1)) 1 0 L T N I J R 0 0 _ _ ls hM hF (lv_sub hl [2, 1, 0] rfl) hv208.1 hv208.2.1 hv208.2.2.1 hv208.2.2.2.1 hv208.2.2.2.2.1 hv208.2.2.2.2.2.1 hv208.2.2.2.2.2.2.1 hv208.2.2.2.2.2.2.2.1 hv208.2.2.2.2.2.2.2.2.1 hv208.2.2.2.2.2.2.2.2.2.1 (by first | exact Or.inl ⟨by omega, by omega⟩ | exact Or.inr ⟨by omega, by first | assumption | omega⟩ | omega) hv208.2.2.2.2.2.2.2.2.2.2.1 (by rw [e2, e4]; first | assumption | omega) hv208.2.2.2.2.2.2.2.2.2.2.2.1 (by exact hor) hv208.2.2.2.2.2.2.2.2.2.2.2.2 (by omega)
