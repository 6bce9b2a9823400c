def mo_X4_openUses : List Nat := [672, 673, 674, 1792, 325, 2560, 129, 2656, 134]
def OU (n : Nat) : Prop := ∀ (l : Launch) (D : va_G) (dA : Nat → ClassId) (eA : Nat) (L : List Nat) (T N : Nat → Nat) (I : Nat → Nat → Int) (J : Nat → Nat → Int64) (R : Nat → Nat → Nat) (a_this : Nat) (t_this : T a_this = 4) (a_uses : Nat) (t_uses : T a_uses = 20) (a_d : Int) (i_d : (-2147483648 : Int) ≤ a_d ∧ a_d ≤ 2147483647) (g_bk : Nat) (g_k : Nat) (g_sp : Nat) (g_h : Nat) (p_0 : R a_this 2 = g_bk + 1) (p_1 : T g_bk = 6) (p_2 : R a_this 3 = g_k + 1) (p_3 : T g_k = 11) (p_4 : R a_this 4 = g_sp + 1) (p_5 : T g_sp = 10) (p_6 : R g_sp 4 = g_h + 1) (p_7 : T g_h = 21) (p_8 : I a_this 6 ≤ 100) (p_9 : 0 ≤ a_d) (p_10 : 17 ≤ a_d + n), GC l yX4_openUses cX4_openUses 6 none ({ frames := 8 + n, cells := (100 - I a_this 6).toNat + 2 * (40 - I g_h 2).toNat + 3, slots := 3 * (100 - I a_this 6).toNat + 13 * (40 - I g_h 2).toNat + 3 * (60 - N (R g_h 1 - 1)) + 75, locals := 265 + 25 * n }) D dA eA L T N I J R [.ref a_this, .ref a_uses, .int (II a_d)] ((100 - I a_this 6).toNat + 2 * (40 - I g_h 2).toNat + 3) (3 * (100 - I a_this 6).toNat + 13 * (40 - I g_h 2).toNat + 3 * (60 - N (R g_h 1 - 1)) + 75) (gV (fun L' T' N' I' J' R' dz dl => J' = J ∧ Fr mo_X4_openUses [] T N I J R T' N' I' J' R' ∧ I a_this 6 ≤ I' a_this 6 ∧ I' a_this 6 ≤ 100 ∧ I g_h 2 ≤ I' g_h 2 ∧ I' g_h 2 ≤ 40 ∧ (dz : Int) ≤ (I' a_this 6 - I a_this 6) + 2 * (I' g_h 2 - I g_h 2) ∧ (dl : Int) + 3 * ((N (R g_h 1 - 1) : Nat) : Int) ≤ 3 * (I' a_this 6 - I a_this 6) + 13 * (I' g_h 2 - I g_h 2) + 3 * ((N' (R' g_h 1 - 1) : Nat) : Int)))
set_option maxHeartbeats 1000000 in
set_option maxRecDepth 20000 in
theorem k_X4_openUses_0 (l : Launch) (D : va_G) (dA : Nat → ClassId) (eA : Nat) (L : List Nat) (T N : Nat → Nat) (I : Nat → Nat → Int) (J : Nat → Nat → Int64) (R : Nat → Nat → Nat) (a_this : Nat) (t_this : T a_this = 4) (a_uses : Nat) (t_uses : T a_uses = 20) (a_d : Int) (i_d : (-2147483648 : Int) ≤ a_d ∧ a_d ≤ 2147483647) (g_bk : Nat) (g_k : Nat) (g_sp : Nat) (g_h : Nat) (p_0 : R a_this 2 = g_bk + 1) (p_1 : T g_bk = 6) (p_2 : R a_this 3 = g_k + 1) (p_3 : T g_k = 11) (p_4 : R a_this 4 = g_sp + 1) (p_5 : T g_sp = 10) (p_6 : R g_sp 4 = g_h + 1) (p_7 : T g_h = 21) (p_8 : I a_this 6 ≤ 100) (p_9 : 0 ≤ a_d) (p_10 : 17 ≤ a_d + (0 : Nat)) : GC l yX4_openUses cX4_openUses 6 none ({ frames := 8 + 0, cells := (100 - I a_this 6).toNat + 2 * (40 - I g_h 2).toNat + 3, slots := 3 * (100 - I a_this 6).toNat + 13 * (40 - I g_h 2).toNat + 3 * (60 - N (R g_h 1 - 1)) + 75, locals := 265 + 25 * 0 }) D dA eA L T N I J R [.ref a_this, .ref a_uses, .int (II a_d)] ((100 - I a_this 6).toNat + 2 * (40 - I g_h 2).toNat + 3) (3 * (100 - I a_this 6).toNat + 13 * (40 - I g_h 2).toNat + 3 * (60 - N (R g_h 1 - 1)) + 75) (gV (fun L' T' N' I' J' R' dz dl => J' = J ∧ Fr mo_X4_openUses [] T N I J R T' N' I' J' R' ∧ I a_this 6 ≤ I' a_this 6 ∧ I' a_this 6 ≤ 100 ∧ I g_h 2 ≤ I' g_h 2 ∧ I' g_h 2 ≤ 40 ∧ (dz : Int) ≤ (I' a_this 6 - I a_this 6) + 2 * (I' g_h 2 - I g_h 2) ∧ (dl : Int) + 3 * ((N (R g_h 1 - 1) : Nat) : Int) ≤ 3 * (I' a_this 6 - I a_this 6) + 13 * (I' g_h 2 - I g_h 2) + 3 * ((N' (R' g_h 1 - 1) : Nat) : Int))) := by
  generalize hPST : (gV (fun L' T' N' I' J' R' dz dl => J' = J ∧ Fr mo_X4_openUses [] T N I J R T' N' I' J' R' ∧ I a_this 6 ≤ I' a_this 6 ∧ I' a_this 6 ≤ 100 ∧ I g_h 2 ≤ I' g_h 2 ∧ I' g_h 2 ≤ 40 ∧ (dz : Int) ≤ (I' a_this 6 - I a_this 6) + 2 * (I' g_h 2 - I g_h 2) ∧ (dl : Int) + 3 * ((N (R g_h 1 - 1) : Nat) : Int) ≤ 3 * (I' a_this 6 - I a_this 6) + 13 * (I' g_h 2 - I g_h 2) + 3 * ((N' (R' g_h 1 - 1) : Nat) : Int))) = PST
  refine g_enter (own := RX4) (by decide) rfl (Nat.le_of_ble_eq_true rfl) (fun p e s m args below meth c ls hm B hX hM hl => ?_)
  have hC0 := hM.2.2.2.2.2.2.1
  have hW0 := hM.2.2.2
  have hF : Fr mo_X4_openUses [] T N I J R T N I J R := Fr.rf
  have hA : ∀ q, s.heap.size ≤ q → cF dA L T N I J R s.heap.size q := fun q h => Or.inr h
  have hl : lv_has ls 6 [(0, .ref a_this), (1, .ref a_uses), (2, .int (II a_d))] := hl
  obtain ⟨v1, e2⟩ : ∃ v, R g_h 1 = v := ⟨_, rfl⟩
  obtain ⟨x3, e4⟩ : ∃ v, I g_h 2 = v := ⟨_, rfl⟩
  have r5 : (0 : Int) ≤ x3 ∧ x3 ≤ 40 := by rw [← e4]; exact g21_2 hM.2.2.2.2.2.2.1 p_7
  have hnb := edB hM.2.2.2.2.2.2.1 p_7
  obtain ⟨x6, e7⟩ : ∃ v, I a_this 6 = v := ⟨_, rfl⟩
  refine lv_iload_n B.1 B.2.1 dX4_openUses_0 rfl (lv_at hl 2 rfl) ?_
  refine q_bip B dX4_openUses_1 (by decide) ?_
  refine q_cle (tgt := 7) B dX4_openUses_3 (by decide) (by unfold inr; omega) (by unfold inr; omega) (fun c8 => absurd c8 (by omega)) (fun c8 => ?_)
  have hnn : N (R g_h 1 - 1) = N (R g_h 1 - 1) := edN2 hC0 p_7 (by decide) (by decide) hF rfl
  refine g_vret B hM dX4_openUses_6 ⟨by show 0 ≤ ((100 - I a_this 6).toNat + 2 * (40 - I g_h 2).toNat + 3); omega, by show 0 ≤ (3 * (100 - I a_this 6).toNat + 13 * (40 - I g_h 2).toNat + 3 * (60 - N (R g_h 1 - 1)) + 75); omega⟩ ?_
  rw [← hPST]
  exact ⟨rfl, rfl, hF, by first | omega | assumption | exact trivial, by first | omega | assumption | exact trivial, by first | omega | assumption | exact trivial, by first | omega | assumption | exact trivial, by first | omega | assumption | exact trivial, by first | omega | assumption | exact trivial⟩
set_option maxHeartbeats 1000000 in
set_option maxRecDepth 20000 in
theorem k_X4_openUses_s (n : Nat) (IH : OU n) (l : Launch) (D : va_G) (dA : Nat → ClassId) (eA : Nat) (L : List Nat) (T N : Nat → Nat) (I : Nat → Nat → Int) (J : Nat → Nat → Int64) (R : Nat → Nat → Nat) (a_this : Nat) (t_this : T a_this = 4) (a_uses : Nat) (t_uses : T a_uses = 20) (a_d : Int) (i_d : (-2147483648 : Int) ≤ a_d ∧ a_d ≤ 2147483647) (g_bk : Nat) (g_k : Nat) (g_sp : Nat) (g_h : Nat) (p_0 : R a_this 2 = g_bk + 1) (p_1 : T g_bk = 6) (p_2 : R a_this 3 = g_k + 1) (p_3 : T g_k = 11) (p_4 : R a_this 4 = g_sp + 1) (p_5 : T g_sp = 10) (p_6 : R g_sp 4 = g_h + 1) (p_7 : T g_h = 21) (p_8 : I a_this 6 ≤ 100) (p_9 : 0 ≤ a_d) (p_10 : 17 ≤ a_d + (n + 1 : Nat)) : GC l yX4_openUses cX4_openUses 6 none ({ frames := 8 + (n + 1), cells := (100 - I a_this 6).toNat + 2 * (40 - I g_h 2).toNat + 3, slots := 3 * (100 - I a_this 6).toNat + 13 * (40 - I g_h 2).toNat + 3 * (60 - N (R g_h 1 - 1)) + 75, locals := 265 + 25 * (n + 1) }) D dA eA L T N I J R [.ref a_this, .ref a_uses, .int (II a_d)] ((100 - I a_this 6).toNat + 2 * (40 - I g_h 2).toNat + 3) (3 * (100 - I a_this 6).toNat + 13 * (40 - I g_h 2).toNat + 3 * (60 - N (R g_h 1 - 1)) + 75) (gV (fun L' T' N' I' J' R' dz dl => J' = J ∧ Fr mo_X4_openUses [] T N I J R T' N' I' J' R' ∧ I a_this 6 ≤ I' a_this 6 ∧ I' a_this 6 ≤ 100 ∧ I g_h 2 ≤ I' g_h 2 ∧ I' g_h 2 ≤ 40 ∧ (dz : Int) ≤ (I' a_this 6 - I a_this 6) + 2 * (I' g_h 2 - I g_h 2) ∧ (dl : Int) + 3 * ((N (R g_h 1 - 1) : Nat) : Int) ≤ 3 * (I' a_this 6 - I a_this 6) + 13 * (I' g_h 2 - I g_h 2) + 3 * ((N' (R' g_h 1 - 1) : Nat) : Int))) := by
  generalize hPST : (gV (fun L' T' N' I' J' R' dz dl => J' = J ∧ Fr mo_X4_openUses [] T N I J R T' N' I' J' R' ∧ I a_this 6 ≤ I' a_this 6 ∧ I' a_this 6 ≤ 100 ∧ I g_h 2 ≤ I' g_h 2 ∧ I' g_h 2 ≤ 40 ∧ (dz : Int) ≤ (I' a_this 6 - I a_this 6) + 2 * (I' g_h 2 - I g_h 2) ∧ (dl : Int) + 3 * ((N (R g_h 1 - 1) : Nat) : Int) ≤ 3 * (I' a_this 6 - I a_this 6) + 13 * (I' g_h 2 - I g_h 2) + 3 * ((N' (R' g_h 1 - 1) : Nat) : Int))) = PST
  refine g_enter (own := RX4) (by decide) rfl (Nat.le_of_ble_eq_true rfl) (fun p e s m args below meth c ls hm B hX hM hl => ?_)
  have hC0 := hM.2.2.2.2.2.2.1
  have hW0 := hM.2.2.2
  have hF : Fr mo_X4_openUses [] T N I J R T N I J R := Fr.rf
  have hA : ∀ q, s.heap.size ≤ q → cF dA L T N I J R s.heap.size q := fun q h => Or.inr h
  have hl : lv_has ls 6 [(0, .ref a_this), (1, .ref a_uses), (2, .int (II a_d))] := hl
  obtain ⟨v1, e2⟩ : ∃ v, R g_h 1 = v := ⟨_, rfl⟩
  obtain ⟨x3, e4⟩ : ∃ v, I g_h 2 = v := ⟨_, rfl⟩
  have r5 : (0 : Int) ≤ x3 ∧ x3 ≤ 40 := by rw [← e4]; exact g21_2 hM.2.2.2.2.2.2.1 p_7
  have hnb := edB hM.2.2.2.2.2.2.1 p_7
  obtain ⟨x6, e7⟩ : ∃ v, I a_this 6 = v := ⟨_, rfl⟩
  refine lv_iload_n B.1 B.2.1 dX4_openUses_0 rfl (lv_at hl 2 rfl) ?_
  refine q_bip B dX4_openUses_1 (by decide) ?_
  refine q_cle (tgt := 7) B dX4_openUses_3 (by decide) (by unfold inr; omega) (by unfold inr; omega) (fun c8 => ?_) (fun c8 => ?_)
  · refine q_con B dX4_openUses_7 ?_
    refine lv_istore_n (lv' := [(3, .int (II 0)), (0, .ref a_this), (1, .ref a_uses), (2, .int (II a_d))]) B.1 B.2.1 dX4_openUses_8 rfl hl (by decide) rfl (fun ls hl => ?_)
    have LL9 : ∀ NN : Nat, ∀ (v9_3 : Int) (L_9 : List Nat) (T_9 : Nat → Nat) (N_9 : Nat → Nat) (I_9 : Nat → Nat → Int) (R_9 : Nat → Nat → Nat) (zc9 zs9 : Nat) (H : Heap) (locs : List Loc) (ls : Array Slot), (CWd D dA eA (cF dA L T N I J R s.heap.size) s.heap L_9 T_9 N_9 I_9 J R_9 H locs) → (Fr mo_X4_openUses [] T N I J R T_9 N_9 I_9 J R_9) → lv_has ls 6 [(0, .ref a_this), (1, .ref a_uses), (2, .int (II a_d)), (3, .int (II v9_3))] → ((-2147483648 : Int) ≤ v9_3 ∧ v9_3 ≤ 2147483647) → (0 ≤ v9_3) → (v9_3 ≤ 8) → (I_9 a_this 6 ≤ 100) → (I a_this 6 ≤ I_9 a_this 6) → (I g_h 2 ≤ I_9 g_h 2) → (I_9 g_h 2 ≤ 40) → ((zc9 : Int) ≤ (I_9 a_this 6 - I a_this 6) + 2 * (I_9 g_h 2 - I g_h 2)) → ((zs9 : Int) + 3 * ((N (R g_h 1 - 1) : Nat) : Int) ≤ 3 * (I_9 a_this 6 - I a_this 6) + 13 * (I_9 g_h 2 - I g_h 2) + 3 * ((N_9 (R_9 g_h 1 - 1) : Nat) : Int)) → (0 ≤ 9 - v9_3) → (9 - v9_3 < (NN : Int)) → W p l e ({ frames := 8 + (n + 1), cells := (100 - I a_this 6).toNat + 2 * (40 - I g_h 2).toNat + 3, slots := 3 * (100 - I a_this 6).toNat + 13 * (40 - I g_h 2).toNat + 3 * (60 - N (R g_h 1 - 1)) + 75, locals := 265 + 25 * (n + 1) }) s m args below meth c H locs zc9 zs9 (MQ below (gQ D dA eA (cF dA L T N I J R s.heap.size) s.heap.size (hs s.heap) PST) args s ((100 - I a_this 6).toNat + 2 * (40 - I g_h 2).toNat + 3) (3 * (100 - I a_this 6).toNat + 13 * (40 - I g_h 2).toNat + 3 * (60 - N (R g_h 1 - 1)) + 75) (cF dA L T N I J R s.heap.size)) (F0 m 9 ls []) := by
      intro NN
      induction NN with
      | zero => intro v9_3 L_9 T_9 N_9 I_9 R_9 zc9 zs9 H locs ls hM hF hl hLL9_0 hLL9_1 hLL9_2 hLL9_3 hLL9_4 hLL9_5 hLL9_6 hLL9_7 hLL9_8 hLL9_9 hN; exfalso; omega
      | succ NN IH9 =>
        intro v9_3 L_9 T_9 N_9 I_9 R_9 zc9 zs9 H locs ls hM hF hl hLL9_0 hLL9_1 hLL9_2 hLL9_3 hLL9_4 hLL9_5 hLL9_6 hLL9_7 hLL9_8 hLL9_9 hN
        have t9 : T_9 g_h = 21 := hF.tt p_7 (by decide) nm0
        have hnb := edB hM.2.2.2.2.2.2.1 t9
        obtain ⟨x10, e11⟩ : ∃ v, I_9 g_h 2 = v := ⟨_, rfl⟩
        have r12 : (0 : Int) ≤ x10 ∧ x10 ≤ 40 := by rw [← e11]; exact g21_2 hM.2.2.2.2.2.2.1 t9
        obtain ⟨x13, e14⟩ : ∃ v, I_9 a_this 6 = v := ⟨_, rfl⟩
        refine lv_iload_n B.1 B.2.1 dX4_openUses_9 rfl (lv_at hl 3 rfl) ?_
        refine lv_aload_n B.1 B.2.1 dX4_openUses_10 rfl (lv_at hl 1 rfl) ?_
        have t15 : T_9 a_uses = 20 := hF.tt t_uses (by decide) nm0
        have hv16 : (15 ≤ 20) ∧ (20 ≤ 23) := by first | omega | exact ⟨by first | omega | assumption | exact trivial, by first | omega | assumption | exact trivial⟩
        refine p_calli (c_runV (n := 0) (as := []) (rest := [.int (II v9_3)]) B hX hA hM hl.1 t15 kd20 rfl (k_Jx4a65c_size_8abf5 l D dA eA L_9 T_9 N_9 I_9 J R_9 a_uses t15 hv16.1 hv16.2 _ _) ml_X4_40 nm_Jx4a65c_size_8abf5 ⟨rfl, rfl⟩ ⟨by show 0 + 1 ≤ 8 + (n + 1); omega, by show 8 + (1 + 11) + 0 ≤ 265 + 25 * (n + 1); omega⟩ dX4_openUses_11 rfl rfl (Nat.le_of_ble_eq_true rfl) ⟨by show zc9 + 0 ≤ ((100 - I a_this 6).toNat + 2 * (40 - I g_h 2).toNat + 3); omega, by show zs9 + 0 ≤ (3 * (100 - I a_this 6).toNat + 13 * (40 - I g_h 2).toNat + 3 * (60 - N (R g_h 1 - 1)) + 75); omega⟩) (fun x18 ix18 hp17 => ?_)
        have hp17a := hp17
        replace hp17a : I_9 a_uses 2 = x18 ∧ 0 ≤ x18 ∧ x18 ≤ 8 := hp17a
        obtain ⟨hp17a_0, hp17a_1, hp17a_2⟩ := hp17a
        refine q_cge (tgt := 153) B dX4_openUses_14 (by decide) (by unfold inr; omega) (by unfold inr; omega) (fun c19 => ?_) (fun c19 => ?_)
        · obtain ⟨v20, e21⟩ : ∃ v, R_9 g_h 1 = v := ⟨_, rfl⟩
          refine g_vret B hM dX4_openUses_153 ⟨by show zc9 ≤ ((100 - I a_this 6).toNat + 2 * (40 - I g_h 2).toNat + 3); omega, by show zs9 ≤ (3 * (100 - I a_this 6).toNat + 13 * (40 - I g_h 2).toNat + 3 * (60 - N (R g_h 1 - 1)) + 75); omega⟩ ?_
          rw [← hPST]
          exact ⟨rfl, rfl, hF, by first | omega | assumption | exact trivial, by first | omega | assumption | exact trivial, by first | omega | assumption | exact trivial, by first | omega | assumption | exact trivial, by first | omega | assumption | exact trivial, by first | omega | assumption | exact trivial⟩
        · refine lv_aload_n B.1 B.2.1 dX4_openUses_17 rfl (lv_at hl 0 rfl) ?_
          have t22 : T_9 a_this = 4 := hF.tt t_this (by decide) nm0
          have r23 : (-2147483648 : Int) ≤ x13 ∧ x13 ≤ 2147483647 := by rw [← e14]; exact g4_6 hM.2.2.2.2.2.2.1 t22
          refine c_geti (k := 6) pk_X4 B hM t22 kd4 rfl (by decide) fl_X4_103 dX4_openUses_18 e14 ?_
          refine q_bip B dX4_openUses_21 (by decide) ?_
          refine q_cge (tgt := 153) B dX4_openUses_23 (by decide) (by unfold inr; omega) (by unfold inr; omega) (fun c24 => ?_) (fun c24 => ?_)
          · obtain ⟨v25, e26⟩ : ∃ v, R_9 g_h 1 = v := ⟨_, rfl⟩
            refine g_vret B hM dX4_openUses_153 ⟨by show zc9 ≤ ((100 - I a_this 6).toNat + 2 * (40 - I g_h 2).toNat + 3); omega, by show zs9 ≤ (3 * (100 - I a_this 6).toNat + 13 * (40 - I g_h 2).toNat + 3 * (60 - N (R g_h 1 - 1)) + 75); omega⟩ ?_
            rw [← hPST]
            exact ⟨rfl, rfl, hF, by first | omega | assumption | exact trivial, by first | omega | assumption | exact trivial, by first | omega | assumption | exact trivial, by first | omega | assumption | exact trivial, by first | omega | assumption | exact trivial, by first | omega | assumption | exact trivial⟩
          · refine lv_aload_n B.1 B.2.1 dX4_openUses_26 rfl (lv_at hl 1 rfl) ?_
            refine lv_iload_n B.1 B.2.1 dX4_openUses_27 rfl (lv_at hl 3 rfl) ?_
            have hv27 : ((-2147483648 : Int) ≤ v9_3 ∧ (v9_3 : Int) ≤ 2147483647) ∧ (15 ≤ 20) ∧ (20 ≤ 23) ∧ (0 ≤ v9_3) ∧ (v9_3 < I_9 a_uses 2) := by first | omega | exact ⟨by first | omega | assumption | exact trivial, by first | omega | assumption | exact trivial, by first | omega | assumption | exact trivial, by first | omega | assumption | exact trivial, by first | omega | assumption | exact trivial⟩
            refine p_callr (c_runV (n := 1) (as := [.int (II v9_3)]) (rest := []) B hX hA hM hl.1 t15 kd20 rfl (k_Jx4a65c_get_915e3 l D dA eA L_9 T_9 N_9 I_9 J R_9 a_uses t15 v9_3 hv27.1 hv27.2.1 hv27.2.2.1 hv27.2.2.2.1 hv27.2.2.2.2 _ _) ml_X4_46 nm_Jx4a65c_get_915e3 ⟨rfl, rfl⟩ ⟨by show 2 + 1 ≤ 8 + (n + 1); omega, by show 8 + (2 + 11) + 60 ≤ 265 + 25 * (n + 1); omega⟩ dX4_openUses_28 rfl rfl (Nat.le_of_ble_eq_true rfl) ⟨by show zc9 + 0 ≤ ((100 - I a_this 6).toNat + 2 * (40 - I g_h 2).toNat + 3); omega, by show zs9 + 0 ≤ (3 * (100 - I a_this 6).toNat + 13 * (40 - I g_h 2).toNat + 3 * (60 - N (R g_h 1 - 1)) + 75); omega⟩) (fun b29 hp28 => ?_)
            obtain ⟨tb29, hp28a⟩ := hp28
            replace hp28a : R_9 (R_9 a_uses 1 - 1) v9_3.toNat = b29 + 1 := hp28a
            refine c_cast B hM tb29 kd9 rfl cl_X4_95 dX4_openUses_31 ?_
            refine lv_astore (lv' := [(4, .ref b29), (0, .ref a_this), (1, .ref a_uses), (2, .int (II a_d)), (3, .int (II v9_3))]) B.1 B.2.1 dX4_openUses_34 hl (by decide) rfl (fun ls hl => ?_)
            refine lv_aload B.1 B.2.1 dX4_openUses_36 (lv_at hl 0 rfl) ?_
            refine lv_aload_n B.1 B.2.1 dX4_openUses_38 rfl (lv_at hl 1 rfl) ?_
            obtain ⟨b30, e31, t32⟩ := g4_8 hC0 t_this
            have e33 : R_9 a_this 8 = b30 + 1 := (hF.r t_this (by decide) nm0 rfl).trans e31
            refine c_getn (k := 8) pk_X4 B hM t22 kd4 rfl (by decide) fl_X4_20 dX4_openUses_39 e33 ?_
            refine lv_iload_n B.1 B.2.1 dX4_openUses_42 rfl (lv_at hl 3 rfl) ?_
            have t34 : T_9 b30 = 82 := hF.tt t32 (by decide) nm0
            have n35 : 18 ≤ N_9 b30 ∧ N_9 b30 ≤ 18 := gn82 hM.2.2.2.2.2.2.1 t34
            have n36 : N_9 b30 = N b30 := hF.n t32 (by decide) nm0
            obtain ⟨b37, e38, t39⟩ := ga82 hC0 t32 (k := a_d.toNat) (by omega)
            have e40 : R_9 b30 a_d.toNat = b37 + 1 := (hF.r t32 (by decide) nm0 (by rw [cd_arr (j := 0) (by decide)]; rfl)).trans e38
            refine c_aldn B hM t34 kd82 an82 dX4_openUses_43 (by omega) (by omega) e40 ?_
            refine lv_aload_n B.1 B.2.1 dX4_openUses_44 rfl (lv_at hl 1 rfl) ?_
            refine c_getn (k := 8) pk_X4 B hM t22 kd4 rfl (by decide) fl_X4_20 dX4_openUses_45 e33 ?_
            refine lv_iload_n B.1 B.2.1 dX4_openUses_48 rfl (lv_at hl 3 rfl) ?_
            refine q_con B dX4_openUses_49 ?_
            refine q_add B dX4_openUses_50 ?_
            obtain ⟨b41, e42, t43⟩ := ga82 hC0 t32 (k := ((a_d + (1 : Int)).toNat)) (by omega)
            have e44 : R_9 b30 ((a_d + (1 : Int)).toNat) = b41 + 1 := (hF.r t32 (by decide) nm0 (by rw [cd_arr (j := 0) (by decide)]; rfl)).trans e42
            refine c_aldn B hM t34 kd82 an82 dX4_openUses_51 (by omega) (by omega) e44 ?_
            have t45 : T_9 b37 = 83 := hF.tt t39 (by decide) nm0
            have t46 : T_9 b41 = 83 := hF.tt t43 (by decide) nm0
            refine z_callv hM hA (c_runS (n := 3) (as := [.ref b29, .ref b37, .ref b41]) (rest := []) B hX hA hM hl.1 (k_X4_joinRow l D dA eA L_9 T_9 N_9 I_9 J R_9 b29 tb29 b37 t45 b41 t46 _ _) ml_X4_112 nm_X4_joinRow ⟨rfl, rfl⟩ ⟨by show 0 + 1 ≤ 8 + (n + 1); omega, by show 8 + (5 + 11) + 0 ≤ 265 + 25 * (n + 1); omega⟩ dX4_openUses_52 rfl rfl (Nat.le_of_ble_eq_true rfl) ⟨by show zc9 + 0 ≤ ((100 - I a_this 6).toNat + 2 * (40 - I g_h 2).toNat + 3); omega, by show zs9 + 0 ≤ (3 * (100 - I a_this 6).toNat + 13 * (40 - I g_h 2).toNat + 3 * (60 - N (R g_h 1 - 1)) + 75); omega⟩) (fun L49 T50 N51 I52 J53 R54 dz55 dl56 H locs hp47 hMn => ?_)
            obtain ⟨yL49, yT50, yN51, yJ53, yR54, hFc57, hp47a⟩ := hp47
            obtain rfl := yL49.symm; obtain rfl := yT50.symm; obtain rfl := yN51.symm; obtain rfl := yJ53.symm; obtain rfl := yR54.symm
            replace hF : Fr mo_X4_openUses [] T N I J R T_9 N_9 I52 J R_9 := hF.trans hFc57 (by decide) e20
            have hM := hMn
            clear hMn
            clear hp47a
            refine lv_aload B.1 B.2.1 dX4_openUses_55 (lv_at hl 0 rfl) ?_
            obtain ⟨x58, e59⟩ : ∃ v, I52 b29 0 = v := ⟨_, rfl⟩
            have r60 : (-2147483648 : Int) ≤ x58 ∧ x58 ≤ 2147483647 := by rw [← e59]; exact g9_0 hM.2.2.2.2.2.2.1 tb29
            refine c_geti (k := 0) pk_X10 B hM tb29 kd9 rfl (by decide) fl_X4_97 dX4_openUses_57 e59 ?_
            refine q_sip B dX4_openUses_60 (by decide) ?_
            refine q_sub B dX4_openUses_63 ?_
            refine q_wrap (fun x61 ix61 => ?_)
            refine lv_istore (lv' := [(5, .int (II x61)), (4, .ref b29), (0, .ref a_this), (1, .ref a_uses), (2, .int (II a_d)), (3, .int (II v9_3))]) B.1 B.2.1 dX4_openUses_64 hl (by decide) rfl (fun ls hl => ?_)
            have JJ123 : ∀  (H : Heap) (locs : List Loc) (ls : Array Slot), (CWd D dA eA (cF dA L T N I J R s.heap.size) s.heap L_9 T_9 N_9 I52 J R_9 H locs) → lv_has ls 6 [(5, .int (II x61)), (4, .ref b29), (0, .ref a_this), (1, .ref a_uses), (2, .int (II a_d)), (3, .int (II v9_3))] → W p l e ({ frames := 8 + (n + 1), cells := (100 - I a_this 6).toNat + 2 * (40 - I g_h 2).toNat + 3, slots := 3 * (100 - I a_this 6).toNat + 13 * (40 - I g_h 2).toNat + 3 * (60 - N (R g_h 1 - 1)) + 75, locals := 265 + 25 * (n + 1) }) s m args below meth c H locs zc9 zs9 (MQ below (gQ D dA eA (cF dA L T N I J R s.heap.size) s.heap.size (hs s.heap) PST) args s ((100 - I a_this 6).toNat + 2 * (40 - I g_h 2).toNat + 3) (3 * (100 - I a_this 6).toNat + 13 * (40 - I g_h 2).toNat + 3 * (60 - N (R g_h 1 - 1)) + 75) (cF dA L T N I J R s.heap.size)) (F0 m 123 ls []) := by
              intro  H locs ls hM hl 
              refine lv_aload_n B.1 B.2.1 dX4_openUses_123 rfl (lv_at hl 2 rfl) ?_
              refine lv_dup B.1 B.2.1 dX4_openUses_124 rfl ?_
              have e62 : I52 a_this 6 = x13 := (hFc57.i t22 (by decide) nm0 rfl).trans e14
              refine c_geti (k := 6) pk_X4 B hM t22 kd4 rfl (by decide) fl_X4_103 dX4_openUses_125 e62 ?_
              refine q_con B dX4_openUses_128 ?_
              refine q_add B dX4_openUses_129 ?_
              refine c_puti (k := 6) pk_X4 B hM t22 kd4 rfl (by decide) fl_X4_103 (Or.inl rfl) dX4_openUses_130 rfl rfl rfl (show (-2147483648 : Int) ≤ x13 + (1 : Int) from by omega) (show x13 + (1 : Int) ≤ (2147483647 : Int) from by omega) (fun I63 H locs hu64 hM => ?_)
              have e65 : I63 a_this 6 = x13 + (1 : Int) := w2_at hu64
              replace hF : Fr mo_X4_openUses [] T N I J R T_9 N_9 I63 J R_9 := hF.wi hu64 (fun _ _ => by rw [t_this]; rfl)
              refine lv_aload_n B.1 B.2.1 dX4_openUses_133 rfl (lv_at hl 2 rfl) ?_
              refine lv_aload B.1 B.2.1 dX4_openUses_134 (lv_at hl 1 rfl) ?_
              refine lv_aload_n B.1 B.2.1 dX4_openUses_136 rfl (lv_at hl 2 rfl) ?_
              refine c_getn (k := 8) pk_X4 B hM t22 kd4 rfl (by decide) fl_X4_20 dX4_openUses_137 e33 ?_
              refine lv_iload_n B.1 B.2.1 dX4_openUses_140 rfl (lv_at hl 4 rfl) ?_
              refine q_con B dX4_openUses_141 ?_
              refine q_add B dX4_openUses_142 ?_
              refine c_aldn B hM t34 kd82 an82 dX4_openUses_143 (by omega) (by omega) e44 ?_
              have e66 : I52 g_h 2 = x10 := (hFc57.i t9 (by decide) nm0 rfl).trans e11
              have e67 : I63 g_h 2 = x10 := (w2_ne hu64 (Or.inl (tne t9 t22 (by decide)))).trans e66
              have e68 : R_9 a_this 2 = g_bk + 1 := (hF.r t_this (by decide) nm0 rfl).trans p_0
              have e69 : R_9 a_this 3 = g_k + 1 := (hF.r t_this (by decide) nm0 rfl).trans p_2
              have e70 : R_9 a_this 4 = g_sp + 1 := (hF.r t_this (by decide) nm0 rfl).trans p_4
              have e71 : R_9 g_sp 4 = g_h + 1 := (hF.r p_5 (by decide) nm0 rfl).trans p_6
              have t72 : T_9 g_bk = 6 := hF.tt p_1 (by decide) nm0
              have t73 : T_9 g_k = 11 := hF.tt p_3 (by decide) nm0
              have t74 : T_9 g_sp = 10 := hF.tt p_5 (by decide) nm0
              refine g_callv hM hA (c_runV (n := 2) (as := [.ref b29, .ref b41]) (rest := []) B hX hA hM hl.1 t22 kd4 rfl (k_X4_settle l D dA eA L_9 T_9 N_9 I63 J R_9 a_this t22 b29 tb29 b41 t46 g_bk g_k g_sp g_h (show R_9 a_this 2 = g_bk + 1 from e68) (show T_9 g_bk = 6 from t72) (show R_9 a_this 3 = g_k + 1 from e69) (show T_9 g_k = 11 from t73) (show R_9 a_this 4 = g_sp + 1 from e70) (show T_9 g_sp = 10 from t74) (show R_9 g_sp 4 = g_h + 1 from e71) (show T_9 g_h = 21 from t9) _ _) ml_X4_120 nm_X4_settle ⟨rfl, rfl⟩ ⟨by show 7 + 1 ≤ 8 + (n + 1); omega, by show 8 + (5 + 11) + 241 ≤ 265 + 25 * (n + 1); omega⟩ dX4_openUses_144 rfl rfl (Nat.le_of_ble_eq_true rfl) ⟨by show zc9 + 3 ≤ ((100 - I a_this 6).toNat + 2 * (40 - I g_h 2).toNat + 3); omega, by show zs9 + 74 ≤ (3 * (100 - I a_this 6).toNat + 13 * (40 - I g_h 2).toNat + 3 * (60 - N (R g_h 1 - 1)) + 75); omega⟩) (fun L77 T78 N79 I80 J81 R82 dz83 dl84 H locs hp75 hMn => ?_)
              obtain ⟨yJ81, hFc85, hp75a⟩ := hp75
              obtain rfl := yJ81.symm
              replace hF : Fr mo_X4_openUses [] T N I J R T78 N79 I80 J R82 := hF.trans hFc85 (by decide) e20
              have hM := hMn
              clear hMn
              replace hp75a : I63 g_h 2 ≤ I80 g_h 2 ∧ I80 g_h 2 ≤ 40 ∧ (dz83 : Int) ≤ 1 + 2 * (I80 g_h 2 - I63 g_h 2) ∧ (dl84 : Int) + 3 * ((N_9 (R_9 g_h 1 - 1) : Nat) : Int) ≤ 3 + 13 * (I80 g_h 2 - I63 g_h 2) + 3 * ((N79 (R82 g_h 1 - 1) : Nat) : Int) ∧ dz83 ≤ 3 ∧ dl84 ≤ 74 := hp75a
              obtain ⟨hp75a_0, hp75a_1, hp75a_2, hp75a_3, hp75a_4, hp75a_5⟩ := hp75a
              refine q_inc (lv' := [(3, .int (II (v9_3 + 1))), (5, .int (II x61)), (4, .ref b29), (0, .ref a_this), (1, .ref a_uses), (2, .int (II a_d))]) B dX4_openUses_147 hl (k := 5) rfl (by decide) rfl (fun ls hl => ?_)
              refine lv_goto (tgt := 9) B.1 B.2.1 dX4_openUses_150 (by decide) ?_
              have e86 : I80 a_this 6 = x13 + (1 : Int) := (hFc85.i t22 (by decide) nm0 rfl).trans e65
              obtain ⟨x87, e88⟩ : ∃ v, I80 g_h 2 = v := ⟨_, rfl⟩
              obtain ⟨v89, e90⟩ : ∃ v, R82 g_h 1 = v := ⟨_, rfl⟩
              have hv91 : ((-2147483648 : Int) ≤ v9_3 + 1 ∧ (v9_3 + 1 : Int) ≤ 2147483647) ∧ (0 ≤ (v9_3 + 1)) ∧ ((v9_3 + 1) ≤ 8) ∧ (I80 a_this 6 ≤ 100) ∧ (I a_this 6 ≤ I80 a_this 6) ∧ (I g_h 2 ≤ I80 g_h 2) ∧ (I80 g_h 2 ≤ 40) ∧ ((zc9 + dz83 : Int) ≤ (I80 a_this 6 - I a_this 6) + 2 * (I80 g_h 2 - I g_h 2)) ∧ ((zs9 + dl84 : Int) + 3 * ((N (R g_h 1 - 1) : Nat) : Int) ≤ 3 * (I80 a_this 6 - I a_this 6) + 13 * (I80 g_h 2 - I g_h 2) + 3 * ((N79 (R82 g_h 1 - 1) : Nat) : Int)) ∧ (0 ≤ 9 - (v9_3 + 1)) := by first | omega | exact ⟨by first | omega | assumption | exact trivial, by first | omega | assumption | exact trivial, by first | omega | assumption | exact trivial, by first | omega | assumption | exact trivial, by first | omega | assumption | exact trivial, by first | omega | assumption | exact trivial, by first | omega | assumption | exact trivial, by first | omega | assumption | exact trivial, by first | omega | assumption | exact trivial, by first | omega | assumption | exact trivial⟩
              exact IH9 (v9_3 + 1) L77 T78 N79 I80 R82 (zc9 + dz83) (zs9 + dl84) _ _ ls hM hF (lv_sub hl [3, 4, 5, 0] rfl) hv91.1 hv91.2.1 hv91.2.2.1 hv91.2.2.2.1 hv91.2.2.2.2.1 hv91.2.2.2.2.2.1 hv91.2.2.2.2.2.2.1 hv91.2.2.2.2.2.2.2.1 hv91.2.2.2.2.2.2.2.2.1 hv91.2.2.2.2.2.2.2.2.2 (by omega)
            refine lv_iload B.1 B.2.1 dX4_openUses_66 (lv_at hl 0 rfl) ?_
            refine q_ilt (tgt := 123) B dX4_openUses_68 (by decide) (by unfold inr; omega) (fun c92 => ?_) (fun c92 => ?_)
            · exact JJ123  _ _ ls hM (lv_sub hl [0, 1, 2, 3, 4, 5] rfl)
            · refine lv_iload B.1 B.2.1 dX4_openUses_71 (lv_at hl 0 rfl) ?_
              refine lv_aload_n B.1 B.2.1 dX4_openUses_73 rfl (lv_at hl 2 rfl) ?_
              have e93 : R_9 a_this 2 = g_bk + 1 := (hF.r t_this (by decide) nm0 rfl).trans p_0
              refine c_getn (k := 2) pk_X4 B hM t22 kd4 rfl (by decide) fl_X4_23 dX4_openUses_74 e93 ?_
              have t94 : T_9 g_bk = 6 := hF.tt p_1 (by decide) nm0
              obtain ⟨b95, e96, t97⟩ := g6_2 hC0 p_1
              have e98 : R_9 g_bk 2 = b95 + 1 := (hF.r p_1 (by decide) nm0 rfl).trans e96
              refine c_getn (k := 2) pk_X0 B hM t94 kd6 rfl (by decide) fl_X4_82 dX4_openUses_77 e98 ?_
              have t99 : T_9 b95 = 17 := hF.tt t97 (by decide) nm0
              have hv100 : (15 ≤ 17) ∧ (17 ≤ 23) := by first | omega | exact ⟨by first | omega | assumption | exact trivial, by first | omega | assumption | exact trivial⟩
              refine p_calli (c_runV (n := 0) (as := []) (rest := [.int (II x61)]) B hX hA hM hl.1 t99 kd17 rfl (k_Jx4a65c_size_8abf5 l D dA eA L_9 T_9 N_9 I52 J R_9 b95 t99 hv100.1 hv100.2 _ _) ml_X4_40 nm_Jx4a65c_size_8abf5 ⟨rfl, rfl⟩ ⟨by show 0 + 1 ≤ 8 + (n + 1); omega, by show 8 + (1 + 11) + 0 ≤ 265 + 25 * (n + 1); omega⟩ dX4_openUses_80 rfl rfl (Nat.le_of_ble_eq_true rfl) ⟨by show zc9 + 0 ≤ ((100 - I a_this 6).toNat + 2 * (40 - I g_h 2).toNat + 3); omega, by show zs9 + 0 ≤ (3 * (100 - I a_this 6).toNat + 13 * (40 - I g_h 2).toNat + 3 * (60 - N (R g_h 1 - 1)) + 75); omega⟩) (fun x102 ix102 hp101 => ?_)
              have hp101a := hp101
              replace hp101a : I52 b95 2 = x102 ∧ 0 ≤ x102 ∧ x102 ≤ 16 := hp101a
              obtain ⟨hp101a_0, hp101a_1, hp101a_2⟩ := hp101a
              refine q_cge (tgt := 123) B dX4_openUses_83 (by decide) (by unfold inr; omega) (by unfold inr; omega) (fun c103 => ?_) (fun c103 => ?_)
              · exact JJ123  _ _ ls hM (lv_sub hl [0, 1, 2, 3, 4, 5] rfl)
              · refine lv_aload_n B.1 B.2.1 dX4_openUses_86 rfl (lv_at hl 2 rfl) ?_
                refine lv_iload B.1 B.2.1 dX4_openUses_87 (lv_at hl 0 rfl) ?_
                refine p_calli (c_runV (n := 1) (as := [.int (II x61)]) (rest := []) B hX hA hM hl.1 t22 kd4 rfl (k_X4_isRing l D dA eA L_9 T_9 N_9 I52 J R_9 a_this t22 x61 (by first | omega | assumption | exact trivial) _ _) ml_X4_116 nm_X4_isRing ⟨rfl, rfl⟩ ⟨by show 0 + 1 ≤ 8 + (n + 1); omega, by show 8 + (2 + 11) + 0 ≤ 265 + 25 * (n + 1); omega⟩ dX4_openUses_89 rfl rfl (Nat.le_of_ble_eq_true rfl) ⟨by show zc9 + 0 ≤ ((100 - I a_this 6).toNat + 2 * (40 - I g_h 2).toNat + 3); omega, by show zs9 + 0 ≤ (3 * (100 - I a_this 6).toNat + 13 * (40 - I g_h 2).toNat + 3 * (60 - N (R g_h 1 - 1)) + 75); omega⟩) (fun x105 ix105 hp104 => ?_)
                have hp104a := hp104
                replace hp104a : (0 : Int) ≤ x105 ∧ x105 ≤ 1 ∧ (True) := hp104a
                obtain ⟨hp104a_0, hp104a_1, hp104a_2⟩ := hp104a
                refine q_ine (tgt := 123) B dX4_openUses_92 (by decide) (by unfold inr; omega) (fun c106 => ?_) (fun c106 => ?_)
                · exact JJ123  _ _ ls hM (lv_sub hl [0, 1, 2, 3, 4, 5] rfl)
                · refine lv_aload_n B.1 B.2.1 dX4_openUses_95 rfl (lv_at hl 2 rfl) ?_
                  refine lv_aload_n B.1 B.2.1 dX4_openUses_96 rfl (lv_at hl 2 rfl) ?_
                  refine c_getn (k := 2) pk_X4 B hM t22 kd4 rfl (by decide) fl_X4_23 dX4_openUses_97 e93 ?_
                  refine c_getn (k := 2) pk_X0 B hM t94 kd6 rfl (by decide) fl_X4_82 dX4_openUses_100 e98 ?_
                  refine lv_iload B.1 B.2.1 dX4_openUses_103 (lv_at hl 0 rfl) ?_
                  have hv107 : ((-2147483648 : Int) ≤ x61 ∧ (x61 : Int) ≤ 2147483647) ∧ (15 ≤ 17) ∧ (17 ≤ 23) ∧ (0 ≤ x61) ∧ (x61 < I52 b95 2) := by first | omega | exact ⟨by first | omega | assumption | exact trivial, by first | omega | assumption | exact trivial, by first | omega | assumption | exact trivial, by first | omega | assumption | exact trivial, by first | omega | assumption | exact trivial⟩
                  refine p_callr (c_runV (n := 1) (as := [.int (II x61)]) (rest := [.ref a_this]) B hX hA hM hl.1 t99 kd17 rfl (k_Jx4a65c_get_915e3 l D dA eA L_9 T_9 N_9 I52 J R_9 b95 t99 x61 hv107.1 hv107.2.1 hv107.2.2.1 hv107.2.2.2.1 hv107.2.2.2.2 _ _) ml_X4_46 nm_Jx4a65c_get_915e3 ⟨rfl, rfl⟩ ⟨by show 2 + 1 ≤ 8 + (n + 1); omega, by show 8 + (2 + 11) + 60 ≤ 265 + 25 * (n + 1); omega⟩ dX4_openUses_105 rfl rfl (Nat.le_of_ble_eq_true rfl) ⟨by show zc9 + 0 ≤ ((100 - I a_this 6).toNat + 2 * (40 - I g_h 2).toNat + 3); omega, by show zs9 + 0 ≤ (3 * (100 - I a_this 6).toNat + 13 * (40 - I g_h 2).toNat + 3 * (60 - N (R g_h 1 - 1)) + 75); omega⟩) (fun b109 hp108 => ?_)
                  obtain ⟨tb109, hp108a⟩ := hp108
                  replace hp108a : R_9 (R_9 b95 1 - 1) x61.toNat = b109 + 1 := hp108a
                  refine c_cast B hM tb109 kd10 rfl cl_X4_68 dX4_openUses_108 ?_
                  obtain ⟨b110, e111, t112⟩ := g10_3 hM.2.2.2.2.2.2.1 tb109
                  refine c_getn (k := 3) pk_X8 B hM tb109 kd10 rfl (by decide) fl_X4_67 dX4_openUses_111 e111 ?_
                  refine lv_iload_n B.1 B.2.1 dX4_openUses_114 rfl (lv_at hl 4 rfl) ?_
                  refine q_con B dX4_openUses_115 ?_
                  refine q_add B dX4_openUses_116 ?_
                  have e113 : I52 g_h 2 = x10 := (hFc57.i t9 (by decide) nm0 rfl).trans e11
                  have e114 : I52 a_this 6 = x13 := (hFc57.i t22 (by decide) nm0 rfl).trans e14
                  have e115 : R_9 a_this 3 = g_k + 1 := (hF.r t_this (by decide) nm0 rfl).trans p_2
                  have e116 : R_9 a_this 4 = g_sp + 1 := (hF.r t_this (by decide) nm0 rfl).trans p_4
                  have e117 : R_9 g_sp 4 = g_h + 1 := (hF.r p_5 (by decide) nm0 rfl).trans p_6
                  have t118 : T_9 g_k = 11 := hF.tt p_3 (by decide) nm0
                  have t119 : T_9 g_sp = 10 := hF.tt p_5 (by decide) nm0
                  have hv120 : ((-2147483648 : Int) ≤ a_d + (1 : Int) ∧ (a_d + (1 : Int) : Int) ≤ 2147483647) ∧ (I52 a_this 6 ≤ 100) ∧ (0 ≤ (a_d + (1 : Int))) ∧ (17 ≤ (a_d + (1 : Int)) + n) := by first | omega | exact ⟨by first | omega | assumption | exact trivial, by first | omega | assumption | exact trivial, by first | omega | assumption | exact trivial, by first | omega | assumption | exact trivial⟩
                  refine g_callv hM hA (c_runV (n := 2) (as := [.ref b110, .int (II (a_d + (1 : Int)))]) (rest := []) B hX hA hM hl.1 t22 kd4 rfl (IH l D dA eA L_9 T_9 N_9 I52 J R_9 a_this t22 b110 t112 (a_d + (1 : Int)) hv120.1 g_bk g_k g_sp g_h (show R_9 a_this 2 = g_bk + 1 from e93) (show T_9 g_bk = 6 from t94) (show R_9 a_this 3 = g_k + 1 from e115) (show T_9 g_k = 11 from t118) (show R_9 a_this 4 = g_sp + 1 from e116) (show T_9 g_sp = 10 from t119) (show R_9 g_sp 4 = g_h + 1 from e117) (show T_9 g_h = 21 from t9) hv120.2.1 hv120.2.2.1 hv120.2.2.2 _ _) ml_X4_72 nm_X4_openUses ⟨rfl, rfl⟩ ⟨by show 8 + n + 1 ≤ 8 + (n + 1); omega, by show 8 + (6 + 11) + (265 + 25 * n) ≤ 265 + 25 * (n + 1); omega⟩ dX4_openUses_117 rfl rfl (Nat.le_of_ble_eq_true rfl) ⟨by show zc9 + ((100 - I52 a_this 6).toNat + 2 * (40 - I52 g_h 2).toNat + 3) ≤ ((100 - I a_this 6).toNat + 2 * (40 - I g_h 2).toNat + 3); omega, by show zs9 + (3 * (100 - I52 a_this 6).toNat + 13 * (40 - I52 g_h 2).toNat + 3 * (60 - N_9 (R_9 g_h 1 - 1)) + 75) ≤ (3 * (100 - I a_this 6).toNat + 13 * (40 - I g_h 2).toNat + 3 * (60 - N (R g_h 1 - 1)) + 75); omega⟩) (fun L123 T124 N125 I126 J127 R128 dz129 dl130 H locs hp121 hMn => ?_)
                  obtain ⟨yJ127, hFc131, hp121a⟩ := hp121
                  obtain rfl := yJ127.symm
                  replace hF : Fr mo_X4_openUses [] T N I J R T124 N125 I126 J R128 := hF.trans hFc131 (by decide) e20
                  have hM := hMn
                  clear hMn
                  replace hp121a : I52 a_this 6 ≤ I126 a_this 6 ∧ I126 a_this 6 ≤ 100 ∧ I52 g_h 2 ≤ I126 g_h 2 ∧ I126 g_h 2 ≤ 40 ∧ (dz129 : Int) ≤ (I126 a_this 6 - I52 a_this 6) + 2 * (I126 g_h 2 - I52 g_h 2) ∧ (dl130 : Int) + 3 * ((N_9 (R_9 g_h 1 - 1) : Nat) : Int) ≤ 3 * (I126 a_this 6 - I52 a_this 6) + 13 * (I126 g_h 2 - I52 g_h 2) + 3 * ((N125 (R128 g_h 1 - 1) : Nat) : Int) := hp121a
                  obtain ⟨hp121a_0, hp121a_1, hp121a_2, hp121a_3, hp121a_4, hp121a_5⟩ := hp121a
                  refine lv_goto (tgt := 147) B.1 B.2.1 dX4_openUses_120 (by decide) ?_
                  refine q_inc (lv' := [(3, .int (II (v9_3 + 1))), (5, .int (II x61)), (4, .ref b29), (0, .ref a_this), (1, .ref a_uses), (2, .int (II a_d))]) B dX4_openUses_147 hl (k := 5) rfl (by decide) rfl (fun ls hl => ?_)
                  refine lv_goto (tgt := 9) B.1 B.2.1 dX4_openUses_150 (by decide) ?_
                  obtain ⟨x132, e133⟩ : ∃ v, I126 a_this 6 = v := ⟨_, rfl⟩
                  obtain ⟨x134, e135⟩ : ∃ v, I126 g_h 2 = v := ⟨_, rfl⟩
                  obtain ⟨v136, e137⟩ : ∃ v, R128 g_h 1 = v := ⟨_, rfl⟩
                  have hv138 : ((-2147483648 : Int) ≤ v9_3 + 1 ∧ (v9_3 + 1 : Int) ≤ 2147483647) ∧ (0 ≤ (v9_3 + 1)) ∧ ((v9_3 + 1) ≤ 8) ∧ (I126 a_this 6 ≤ 100) ∧ (I a_this 6 ≤ I126 a_this 6) ∧ (I g_h 2 ≤ I126 g_h 2) ∧ (I126 g_h 2 ≤ 40) ∧ ((zc9 + dz129 : Int) ≤ (I126 a_this 6 - I a_this 6) + 2 * (I126 g_h 2 - I g_h 2)) ∧ ((zs9 + dl130 : Int) + 3 * ((N (R g_h 1 - 1) : Nat) : Int) ≤ 3 * (I126 a_this 6 - I a_this 6) + 13 * (I126 g_h 2 - I g_h 2) + 3 * ((N125 (R128 g_h 1 - 1) : Nat) : Int)) ∧ (0 ≤ 9 - (v9_3 + 1)) := by first | omega | exact ⟨by first | omega | assumption | exact trivial, by first | omega | assumption | exact trivial, by first | omega | assumption | exact trivial, by first | omega | assumption | exact trivial, by first | omega | assumption | exact trivial, by first | omega | assumption | exact trivial, by first | omega | assumption | exact trivial, by first | omega | assumption | exact trivial, by first | omega | assumption | exact trivial, by first | omega | assumption | exact trivial⟩
                  exact IH9 (v9_3 + 1) L123 T124 N125 I126 R128 (zc9 + dz129) (zs9 + dl130) _ _ ls hM hF (lv_sub hl [3, 4, 5, 0] rfl) hv138.1 hv138.2.1 hv138.2.2.1 hv138.2.2.2.1 hv138.2.2.2.2.1 hv138.2.2.2.2.2.1 hv138.2.2.2.2.2.2.1 hv138.2.2.2.2.2.2.2.1 hv138.2.2.2.2.2.2.2.2.1 hv138.2.2.2.2.2.2.2.2.2 (by omega)
    have hv139 : ((-2147483648 : Int) ≤ 0 ∧ (0 : Int) ≤ 2147483647) ∧ (0 ≤ (0 : Int)) ∧ ((0 : Int) ≤ 8) ∧ (I a_this 6 ≤ 100) ∧ (I a_this 6 ≤ I a_this 6) ∧ (I g_h 2 ≤ I g_h 2) ∧ (I g_h 2 ≤ 40) ∧ (0 ≤ (I a_this 6 - I a_this 6) + 2 * (I g_h 2 - I g_h 2)) ∧ (0 + 3 * ((N (R g_h 1 - 1) : Nat) : Int) ≤ 3 * (I a_this 6 - I a_this 6) + 13 * (I g_h 2 - I g_h 2) + 3 * ((N (R g_h 1 - 1) : Nat) : Int)) ∧ (0 ≤ 9 - (0 : Int)) := by first | omega | exact ⟨by first | omega | assumption | exact trivial, by first | omega | assumption | exact trivial, by first | omega | assumption | exact trivial, by first | omega | assumption | exact trivial, by first | omega | assumption | exact trivial, by first | omega | assumption | exact trivial, by first | omega | assumption | exact trivial, by first | omega | assumption | exact trivial, by first | omega | assumption | exact trivial, by first | omega | assumption | exact trivial⟩
    exact LL9 (Int.toNat (9 - (0 : Int) + 1)) 0 L T N I R 0 0 _ _ ls hM hF (lv_sub hl [1, 2, 3, 0] rfl) hv139.1 hv139.2.1 hv139.2.2.1 hv139.2.2.2.1 hv139.2.2.2.2.1 hv139.2.2.2.2.2.1 hv139.2.2.2.2.2.2.1 hv139.2.2.2.2.2.2.2.1 hv139.2.2.2.2.2.2.2.2.1 hv139.2.2.2.2.2.2.2.2.2 (by omega)
  · have hnn : N (R g_h 1 - 1) = N (R g_h 1 - 1) := edN2 hC0 p_7 (by decide) (by decide) hF rfl
    refine g_vret B hM dX4_openUses_6 ⟨by show 0 ≤ ((100 - I a_this 6).toNat + 2 * (40 - I g_h 2).toNat + 3); omega, by show 0 ≤ (3 * (100 - I a_this 6).toNat + 13 * (40 - I g_h 2).toNat + 3 * (60 - N (R g_h 1 - 1)) + 75); omega⟩ ?_
    rw [← hPST]
    exact ⟨rfl, rfl, hF, by first | omega | assumption | exact trivial, by first | omega | assumption | exact trivial, by first | omega | assumption | exact trivial, by first | omega | assumption | exact trivial, by first | omega | assumption | exact trivial, by first | omega | assumption | exact trivial⟩
theorem OU_all (n : Nat) : OU n := by
  induction n with
  | zero => exact k_X4_openUses_0
  | succ n IH => exact k_X4_openUses_s n IH
theorem k_X4_openUses (l : Launch) (D : va_G) (dA : Nat → ClassId) (eA : Nat) (L : List Nat) (T N : Nat → Nat) (I : Nat → Nat → Int) (J : Nat → Nat → Int64) (R : Nat → Nat → Nat) (a_this : Nat) (t_this : T a_this = 4) (a_uses : Nat) (t_uses : T a_uses = 20) (a_d : Int) (i_d : (-2147483648 : Int) ≤ a_d ∧ a_d ≤ 2147483647) (g_bk : Nat) (g_k : Nat) (g_sp : Nat) (g_h : Nat) (p_0 : R a_this 2 = g_bk + 1) (p_1 : T g_bk = 6) (p_2 : R a_this 3 = g_k + 1) (p_3 : T g_k = 11) (p_4 : R a_this 4 = g_sp + 1) (p_5 : T g_sp = 10) (p_6 : R g_sp 4 = g_h + 1) (p_7 : T g_h = 21) (p_8 : I a_this 6 ≤ 100) (p_9 : 0 ≤ a_d) : GC l yX4_openUses cX4_openUses 6 none ({ frames := 25, cells := (100 - I a_this 6).toNat + 2 * (40 - I g_h 2).toNat + 3, slots := 3 * (100 - I a_this 6).toNat + 13 * (40 - I g_h 2).toNat + 3 * (60 - N (R g_h 1 - 1)) + 75, locals := 690 }) D dA eA L T N I J R [.ref a_this, .ref a_uses, .int (II a_d)] ((100 - I a_this 6).toNat + 2 * (40 - I g_h 2).toNat + 3) (3 * (100 - I a_this 6).toNat + 13 * (40 - I g_h 2).toNat + 3 * (60 - N (R g_h 1 - 1)) + 75) (gV (fun L' T' N' I' J' R' dz dl => J' = J ∧ Fr mo_X4_openUses [] T N I J R T' N' I' J' R' ∧ I a_this 6 ≤ I' a_this 6 ∧ I' a_this 6 ≤ 100 ∧ I g_h 2 ≤ I' g_h 2 ∧ I' g_h 2 ≤ 40 ∧ (dz : Int) ≤ (I' a_this 6 - I a_this 6) + 2 * (I' g_h 2 - I g_h 2) ∧ (dl : Int) + 3 * ((N (R g_h 1 - 1) : Nat) : Int) ≤ 3 * (I' a_this 6 - I a_this 6) + 13 * (I' g_h 2 - I g_h 2) + 3 * ((N' (R' g_h 1 - 1) : Nat) : Int))) := OU_all 17 l D dA eA L T N I J R a_this t_this a_uses t_uses a_d i_d g_bk g_k g_sp g_h p_0 p_1 p_2 p_3 p_4 p_5 p_6 p_7 p_8 p_9 (by omega)
