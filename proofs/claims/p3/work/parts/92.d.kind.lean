def mo_X6_readKindb : List Nat := [229, 230, 231, 225, 226, 2272, 2304, 203, 290, 291, 289, 2400, 2432, 640, 641, 642, 1760, 293, 294, 295, 296, 297, 298, 576, 577, 578, 1696, 608, 609, 610, 1728, 321, 322]
set_option maxHeartbeats 1000000 in
set_option maxRecDepth 20000 in
theorem k_X6_readKindb (l : Launch) (D : va_G) (dA : Nat → ClassId) (eA : Nat) (L : List Nat) (T N : Nat → Nat) (I : Nat → Nat → Int) (J : Nat → Nat → Int64) (R : Nat → Nat → Nat) (a_this : Nat) (t_this : T a_this = 7) (g_t : Nat) (g_s : Nat) (g_S : Nat → Int) (g_n : Int) (g_b : Nat) (g_k : Nat) (p_0 : R a_this 3 = g_t + 1) (p_1 : T g_t = 3) (p_2 : R g_t 0 = g_s + 1) (p_3 : T g_s = 62) (p_4 : I g_s = g_S) (p_5 : TKz g_S g_n) (p_6 : I a_this 5 ≤ g_n) (p_7 : g_S (I a_this 5).toNat = I a_this 6) (p_8 : R a_this 0 = g_b + 1) (p_9 : T g_b = 6) (p_10 : R g_b 3 = g_k + 1) (p_11 : T g_k = 18) : GC l yX6_readKind cX6_readKind 5 (some .boolean) ({ frames := 10, cells := 5 * (g_n - I a_this 5).toNat + 60, slots := 75 * (g_n - I a_this 5).toNat + 700, locals := 308 }) D dA eA L T N I J R [.ref a_this] (5 * (g_n - I a_this 5).toNat + 60) (75 * (g_n - I a_this 5).toNat + 700) (gI (fun r L' T' N' I' J' R' dz dl => Fr mo_X6_readKindb [] T N I J R T' N' I' J' R' ∧ (0 : Int) ≤ r ∧ r ≤ 1 ∧ (I' a_this 5 ≤ g_n ∧ g_S (I' a_this 5).toNat = I' a_this 6 ∧ I a_this 5 ≤ I' a_this 5 ∧ ((r = 0 ∧ I' a_this 1 ≠ 0) ∨ (r = 1 ∧ I' a_this 1 = I a_this 1 ∧ I a_this 5 + 4 ≤ I' a_this 5)) ∧ (dz : Int) ≤ 5 * (I' a_this 5 - I a_this 5) + 20 * (1 - r) ∧ (dl : Int) ≤ 75 * (I' a_this 5 - I a_this 5) + 300 * (1 - r) ∧ (r = 0 ∨ 4 * spn I' R' g_k (I' g_k 2).toNat ≤ 4 * spn I R g_k (I g_k 2).toNat + (I' a_this 5 - I a_this 5))))) := by
  generalize hPST : (gI (fun r L' T' N' I' J' R' dz dl => Fr mo_X6_readKindb [] T N I J R T' N' I' J' R' ∧ (0 : Int) ≤ r ∧ r ≤ 1 ∧ (I' a_this 5 ≤ g_n ∧ g_S (I' a_this 5).toNat = I' a_this 6 ∧ I a_this 5 ≤ I' a_this 5 ∧ ((r = 0 ∧ I' a_this 1 ≠ 0) ∨ (r = 1 ∧ I' a_this 1 = I a_this 1 ∧ I a_this 5 + 4 ≤ I' a_this 5)) ∧ (dz : Int) ≤ 5 * (I' a_this 5 - I a_this 5) + 20 * (1 - r) ∧ (dl : Int) ≤ 75 * (I' a_this 5 - I a_this 5) + 300 * (1 - r) ∧ (r = 0 ∨ 4 * spn I' R' g_k (I' g_k 2).toNat ≤ 4 * spn I R g_k (I g_k 2).toNat + (I' a_this 5 - I a_this 5))))) = PST
  refine g_enter (own := RX6) (by decide) rfl (Nat.le_of_ble_eq_true rfl) (fun p e s m args below meth c ls hm B hX hM hl => ?_)
  have hC0 := hM.2.2.2.2.2.2.1
  have hW0 := hM.2.2.2
  have hF : Fr mo_X6_readKindb [] T N I J R T N I J R := Fr.rf
  have hA : ∀ q, s.heap.size ≤ q → cF dA L T N I J R s.heap.size q := fun q h => Or.inr h
  have hl : lv_has ls 5 [(0, .ref a_this)] := hl
  obtain ⟨x1, e2⟩ : ∃ v, I a_this 5 = v := ⟨_, rfl⟩
  obtain ⟨x3, e4⟩ : ∃ v, I a_this 6 = v := ⟨_, rfl⟩
  have nz5 : g_S (x1).toNat = x3 := by have h9 := p_7; rw [e2, e4] at h9; exact h9
  have hot : OT 19 T I I g_k := OT.rf
  have h0k : 0 ≤ I g_k 2 := (g18_2 hC0 p_11).1
  obtain ⟨x6, e7⟩ : ∃ v, I a_this 1 = v := ⟨_, rfl⟩
  obtain ⟨x8, e9⟩ : ∃ v, I g_k 2 = v := ⟨_, rfl⟩
  refine lv_aload_n B.1 B.2.1 dX6_readKind_0 rfl (lv_at hl 0 rfl) ?_
  refine c_getn (k := 0) pk_X6 B hM t_this kd7 rfl (by decide) fl_X6_22 dX6_readKind_1 p_8 ?_
  refine c_getn (k := 3) pk_X0 B hM p_9 kd6 rfl (by decide) fl_X6_213 dX6_readKind_4 p_10 ?_
  have hFt := hF
  have hMt := hM
  have hv10 : (15 ≤ 18) ∧ (18 ≤ 23) := by first | omega | exact ⟨by first | omega | assumption | exact trivial | (clear nz5; omega), by first | omega | assumption | exact trivial | (clear nz5; omega)⟩
  refine p_calli (c_runV (n := 0) (as := []) (rest := []) B hX hA hM hl.1 p_11 kd18 rfl (k_Jx4a65c_size_8abf5 l D dA eA L T N I J R g_k p_11 hv10.1 hv10.2 _ _) ml_X6_135 nm_Jx4a65c_size_8abf5 ⟨rfl, rfl⟩ ⟨Nat.le_of_ble_eq_true rfl, Nat.le_of_ble_eq_true rfl⟩ dX6_readKind_7 rfl rfl (Nat.le_of_ble_eq_true rfl) ⟨by show 0 + 0 ≤ (5 * (g_n - I a_this 5).toNat + 60); omega, by show 0 + 0 ≤ (75 * (g_n - I a_this 5).toNat + 700); omega⟩) (fun x12 ix12 hp11 => ?_)
  have hp11a := hp11
  replace hp11a : I g_k 2 = x12 ∧ 0 ≤ x12 ∧ x12 ≤ 16 := hp11a
  obtain ⟨hp11a_0, hp11a_1, hp11a_2⟩ := hp11a
  clear hFt hMt
  refine lv_istore_n (lv' := [(1, .int (II x12)), (0, .ref a_this)]) B.1 B.2.1 dX6_readKind_10 rfl hl (by decide) rfl (fun ls hl => ?_)
  refine lv_aload_n B.1 B.2.1 dX6_readKind_11 rfl (lv_at hl 1 rfl) ?_
  refine q_con B dX6_readKind_12 ?_
  refine lv_iload_n B.1 B.2.1 dX6_readKind_13 rfl (lv_at hl 0 rfl) ?_
  refine q_bip B dX6_readKind_14 (by decide) ?_
  have hFt := hF
  have hMt := hM
  have hv13 : ((-2147483648 : Int) ≤ 5 ∧ (5 : Int) ≤ 2147483647) ∧ ((-2147483648 : Int) ≤ x12 ∧ (x12 : Int) ≤ 2147483647) ∧ ((-2147483648 : Int) ≤ 16 ∧ (16 : Int) ≤ 2147483647) ∧ (TKz g_S g_n) ∧ (I a_this 5 ≤ g_n) := by first | omega | exact ⟨by first | omega | assumption | exact trivial | (clear nz5; omega), by first | omega | assumption | exact trivial | (clear nz5; omega), by first | omega | assumption | exact trivial | (clear nz5; omega), by first | omega | assumption | exact trivial | (clear nz5; omega), by first | omega | assumption | exact trivial | (clear nz5; omega)⟩
  refine z_calli hM hA (c_runV (n := 3) (as := [.int (II 5), .int (II x12), .int (II 16)]) (rest := []) B hX hA hM hl.1 t_this kd7 rfl (k_X6_readHeadb l D dA eA L T N I J R a_this t_this (5) hv13.1 x12 hv13.2.1 (16) hv13.2.2.1 g_t g_s g_S g_n (show R a_this 3 = g_t + 1 from p_0) (show T g_t = 3 from p_1) (show R g_t 0 = g_s + 1 from p_2) (show T g_s = 62 from p_3) (show I g_s = g_S from p_4) hv13.2.2.2.1 hv13.2.2.2.2 (show g_S (I a_this 5).toNat = I a_this 6 from by rw [e2, e4]; first | assumption | omega) _ _) ml_X6_111 nm_X6_readHead ⟨rfl, rfl⟩ ⟨Nat.le_of_ble_eq_true rfl, Nat.le_of_ble_eq_true rfl⟩ dX6_readKind_16 rfl rfl (Nat.le_of_ble_eq_true rfl) ⟨by show 0 + 0 ≤ (5 * (g_n - I a_this 5).toNat + 60); omega, by show 0 + 0 ≤ (75 * (g_n - I a_this 5).toNat + 700); omega⟩) (fun x15 ix15 L16 T17 N18 I19 J20 R21 dz22 dl23 H locs hp14 hMn => ?_)
  obtain ⟨yL16, yT17, yN18, yR21, hFc24, hp14a⟩ := hp14
  obtain rfl := yL16.symm; obtain rfl := yT17.symm; obtain rfl := yN18.symm; obtain rfl := yR21.symm
  replace hF : Fr mo_X6_readKindb [] T N I J R T N I19 J20 R := hF.trans hFc24 (by decide) e20
  have hM := hMn
  clear hMn
  replace hp14a : (0 : Int) ≤ x15 ∧ x15 ≤ 1 ∧ (I19 a_this 5 ≤ g_n ∧ g_S (I19 a_this 5).toNat = I19 a_this 6 ∧ I a_this 5 ≤ I19 a_this 5 ∧ ((x15 = 0 ∧ I19 a_this 1 ≠ 0) ∨ (x15 = 1 ∧ I19 a_this 1 = I a_this 1 ∧ I a_this 5 + 2 ≤ I19 a_this 5)) ∧ (x15 = 0 ∨ x12 < (16 : Int))) := hp14a
  obtain ⟨hp14a_0, hp14a_1, hp14a_2⟩ := hp14a
  obtain ⟨hp14a_2_0, hp14a_2_1, hp14a_2_2, hp14a_2_3, hp14a_2_4⟩ := hp14a_2
  obtain ⟨x25, e26⟩ : ∃ v, I19 a_this 5 = v := ⟨_, rfl⟩
  obtain ⟨x27, e28⟩ : ∃ v, I19 a_this 6 = v := ⟨_, rfl⟩
  have nz29 : g_S (x25).toNat = x27 := by have h9 := hp14a_2_1; rw [e26, e28] at h9; exact h9
  obtain ⟨x30, e31⟩ : ∃ v, I19 a_this 1 = v := ⟨_, rfl⟩
  replace hot : OT 19 T I I19 g_k := OT.step hot hFt (fun _ _ => nm0) hFc24 (by decide) (by decide) (fun b hb => nm0)
  clear hFt hMt
  refine q_ine (tgt := 24) B dX6_readKind_19 (by decide) (by unfold inr; omega) (fun c32 => ?_) (fun c32 => ?_)
  · refine q_con B dX6_readKind_24 ?_
    refine lv_istore_n (lv' := [(2, .int (II (-1))), (1, .int (II x12)), (0, .ref a_this)]) B.1 B.2.1 dX6_readKind_25 rfl hl (by decide) rfl (fun ls hl => ?_)
    refine lv_aload_n B.1 B.2.1 dX6_readKind_26 rfl (lv_at hl 2 rfl) ?_
    refine q_bip B dX6_readKind_27 (by decide) ?_
    have hFt := hF
    have hMt := hM
    refine p_calli (c_runV (n := 1) (as := [.int (II 6)]) (rest := []) B hX hA hM hl.1 t_this kd7 rfl (k_X6_isWordb l D dA eA L T N I19 J20 R a_this t_this (6) (by first | omega | assumption | exact trivial | (clear nz29; omega)) _ _) ml_X6_64 nm_X6_isWord ⟨rfl, rfl⟩ ⟨Nat.le_of_ble_eq_true rfl, Nat.le_of_ble_eq_true rfl⟩ dX6_readKind_29 rfl rfl (Nat.le_of_ble_eq_true rfl) ⟨by show 0 + 0 ≤ (5 * (g_n - I a_this 5).toNat + 60); omega, by show 0 + 0 ≤ (75 * (g_n - I a_this 5).toNat + 700); omega⟩) (fun x34 ix34 hp33 => ?_)
    have hp33a := hp33
    replace hp33a : (0 : Int) ≤ x34 ∧ x34 ≤ 1 ∧ (x34 = 0 ∨ I19 a_this 6 = 5) := hp33a
    obtain ⟨hp33a_0, hp33a_1, hp33a_2⟩ := hp33a
    clear hFt hMt
    have JJ150 : ∀ (v150_2 : Int) (I_150 : Nat → Nat → Int) (J_150 : Nat → Nat → Int64) (H : Heap) (locs : List Loc) (ls : Array Slot), (CWd D dA eA (cF dA L T N I J R s.heap.size) s.heap L T N I_150 J_150 R H locs) → (Fr mo_X6_readKindb [] T N I J R T N I_150 J_150 R) → lv_has ls 5 [(1, .int (II x12)), (0, .ref a_this), (2, .int (II v150_2))] → ((-2147483648 : Int) ≤ v150_2 ∧ v150_2 ≤ 2147483647) → (I a_this 5 + 2 ≤ I_150 a_this 5) → (v150_2 < x12) → (0 ≤ x12) → (x12 ≤ 15) → (I_150 g_k 2 = x12) → (OT 19 T I I_150 g_k) → (I_150 a_this 5 ≤ g_n) → (g_S (I_150 a_this 5).toNat = I_150 a_this 6) → (I_150 a_this 1 = I a_this 1) → W p l e ({ frames := 10, cells := 5 * (g_n - I a_this 5).toNat + 60, slots := 75 * (g_n - I a_this 5).toNat + 700, locals := 308 }) s m args below meth c H locs 0 0 (MQ below (gQ D dA eA (cF dA L T N I J R s.heap.size) s.heap.size (hs s.heap) PST) args s (5 * (g_n - I a_this 5).toNat + 60) (75 * (g_n - I a_this 5).toNat + 700) (cF dA L T N I J R s.heap.size)) (F0 m 150 ls []) := by
      intro v150_2 I_150 J_150 H locs ls hM hF hl hJJ150_0 hJJ150_1 hJJ150_2 hJJ150_3 hJJ150_4 hJJ150_5 hJJ150_6 hJJ150_7 hJJ150_8 hJJ150_9
      obtain ⟨x35, e36⟩ : ∃ v, I_150 a_this 5 = v := ⟨_, rfl⟩
      obtain ⟨x37, e38⟩ : ∃ v, I_150 a_this 6 = v := ⟨_, rfl⟩
      have nz39 : g_S (x35).toNat = x37 := by have h9 := hJJ150_8; rw [e36, e38] at h9; exact h9
      have hot : OT 19 T I I_150 g_k := by assumption
      have hMo := hM
      refine c_new (t := 39) pk_X3 B hX.out hA hM kd39 df_X3 rfl rfl (by decide) cl_X6_216 in_X3 ini_X3 (by show 0 + 1 ≤ (5 * (g_n - I a_this 5).toNat + 60); omega) (by show 0 + 6 ≤ (75 * (g_n - I a_this 5).toNat + 700); omega) dX6_readKind_150 (fun b40 L41 T42 N43 H t44 hT45 hN46 hM => ?_)
      have t47 : T42 b40 = 39 := by rw [hT45, va_up_self]
      have n48 : N43 b40 = 6 := by rw [hN46, va_up_self]
      replace hF : Fr mo_X6_readKindb [] T N I J R T42 N43 I_150 J_150 R := hF.new t44 hT45 hN46
      have zz49 := hMo.2.2.2.2.2.1 b40 t44
      clear hMo
      refine lv_dup B.1 B.2.1 dX6_readKind_153 rfl ?_
      refine lv_iload_n B.1 B.2.1 dX6_readKind_154 rfl (lv_at hl 0 rfl) ?_
      refine lv_aload_n B.1 B.2.1 dX6_readKind_155 rfl (lv_at hl 1 rfl) ?_
      have t50 : T42 a_this = 7 := hF.tt t_this (by decide) nm0
      refine c_getn (k := 0) pk_X6 B hM t50 kd7 rfl (by decide) fl_X6_22 dX6_readKind_156 p_8 ?_
      refine lv_iload_n B.1 B.2.1 dX6_readKind_159 rfl (lv_at hl 2 rfl) ?_
      have hFt := hF
      have hMt := hM
      have t51 : T42 g_b = 6 := hF.tt p_9 (by decide) nm0
      refine p_callq (c_runV (n := 1) (as := [.int (II v150_2)]) (rest := [.int (II x12), .ref b40, .ref b40]) B hX hA hM hl.1 t51 kd6 rfl (k_X0_kindAt l D dA eA L41 T42 N43 I_150 J_150 R g_b t51 v150_2 (by first | omega | assumption | exact trivial | (clear nz39; omega)) _ _) ml_X6_218 nm_X0_kindAt ⟨rfl, rfl⟩ ⟨Nat.le_of_ble_eq_true rfl, Nat.le_of_ble_eq_true rfl⟩ dX6_readKind_160 rfl rfl (Nat.le_of_ble_eq_true rfl) ⟨by show 0 + 1 + 0 ≤ (5 * (g_n - I a_this 5).toNat + 60); omega, by show 0 + 6 + 0 ≤ (75 * (g_n - I a_this 5).toNat + 700); omega⟩) (fun v53 hp52 => ?_)
      obtain ⟨qv53, hp52a⟩ := hp52
      replace hp52a : v53 = 0 ∨ (0 ≤ v150_2 ∧ I_150 (v53 - 1) 0 ≤ v150_2) := hp52a
      clear hFt hMt
      have hFt := hF
      have hMt := hM
      have hv54 : ((-2147483648 : Int) ≤ x12 ∧ (x12 : Int) ≤ 2147483647) ∧ (0 ≤ x12) ∧ (x12 ≤ 15) := by first | omega | exact ⟨by first | omega | assumption | exact trivial | (clear nz39; omega), by first | omega | assumption | exact trivial | (clear nz39; omega), by first | omega | assumption | exact trivial | (clear nz39; omega)⟩
      refine g_callv hM hA (c_runI (n := 2) (as := [.int (II x12), cv v53]) (rest := [.ref b40]) B hX hA hM hl.1 (k_X3_initb l D dA eA L41 T42 N43 I_150 J_150 R b40 t47 x12 hv54.1 v53 qv53 zz49 hv54.2.1 hv54.2.2 (show ∀ b, v53 = b + 1 → I_150 b 0 < x12 from by intro b9 hb9; have e9 := congrArg (fun z => z - 1) hb9; simp only [Nat.add_sub_cancel] at e9; rw [← e9]; omega) _ _) ml_X6_222 nm_X3_init ⟨rfl, rfl⟩ ⟨Nat.le_of_ble_eq_true rfl, Nat.le_of_ble_eq_true rfl⟩ dX6_readKind_163 rfl rfl (Nat.le_of_ble_eq_true rfl) ⟨by show 0 + 1 + 18 ≤ (5 * (g_n - I a_this 5).toNat + 60); omega, by show 0 + 6 + 260 ≤ (75 * (g_n - I a_this 5).toNat + 700); omega⟩) (fun L57 T58 N59 I60 J61 R62 dz63 dl64 H locs hp55 hMn => ?_)
      obtain ⟨hFc65, hp55a⟩ := hp55
      have t66 : T42 g_t = 3 := hF.tt p_1 (by decide) nm0
      have t67 : T42 g_s = 62 := hF.tt p_3 (by decide) nm0
      have t68 : T42 g_k = 18 := hF.tt p_11 (by decide) nm0
      replace hF : Fr mo_X6_readKindb [] T N I J R T58 N59 I60 J61 R62 := hF.trans hFc65 (by decide) (e2x (fun h => absurd t44 h))
      have hM := hMn
      clear hMn
      obtain ⟨t69, hp55a⟩ := hp55a
      replace hp55a : dz63 ≤ 18 ∧ dl64 ≤ 260 ∧ I60 b40 0 = x12 ∧ T42 (R62 b40 3 - 1) = 0 ∧ I60 (R62 b40 3 - 1) 2 = I60 b40 4 ∧ OT 19 T42 I_150 I60 (R62 b40 3 - 1) := hp55a
      obtain ⟨hp55a_0, hp55a_1, hp55a_2, hp55a_3, hp55a_4, hp55a_5⟩ := hp55a
      obtain ⟨b70, e71, t72⟩ := g11_3 hM.2.2.2.2.2.2.1 t69
      have pq73 : I60 (R62 b40 3 - 1) 2 = I60 b70 2 := by rw [e71, Nat.add_sub_cancel]
      obtain ⟨x74, e75⟩ : ∃ v, I60 b70 2 = v := ⟨_, rfl⟩
      obtain ⟨x76, e77⟩ : ∃ v, I60 b40 4 = v := ⟨_, rfl⟩
      have hz9 : T b70 = 0 := by
        have h9 : T42 (R62 b40 3 - 1) = 0 := by assumption
        rw [e71, Nat.add_sub_cancel] at h9; exact T0_x hFt h9 nm0
      have hot9 : OT 19 T42 I_150 I60 (R62 b40 3 - 1) := by assumption
      rw [e71, Nat.add_sub_cancel] at hot9
      replace hot : OT 19 T I I60 b70 := OT.ad (OT.ch hot p_11 (by decide)) hFt (fun _ _ => nm0) (by decide) hot9
      have hki := kdi_fr hC0 hW0.2.2.2.2 p_11 hFt hFc65 (fun b hb => (nm1 (tne2 hb t47 (by decide) (by decide)))) (by decide)
      clear hFt hMt
      refine lv_astore_n (lv' := [(3, .ref b40), (1, .int (II x12)), (0, .ref a_this), (2, .int (II v150_2))]) B.1 B.2.1 dX6_readKind_166 rfl hl (by decide) rfl (fun ls hl => ?_)
      refine lv_aload_n B.1 B.2.1 dX6_readKind_167 rfl (lv_at hl 2 rfl) ?_
      have t78 : T58 a_this = 7 := hF.tt t_this (by decide) nm0
      have e79 : R62 a_this 0 = g_b + 1 := (hF.r t_this (by decide) nm0 rfl).trans p_8
      refine c_getn (k := 0) pk_X6 B hM t78 kd7 rfl (by decide) fl_X6_22 dX6_readKind_168 e79 ?_
      have t80 : T58 g_b = 6 := hF.tt p_9 (by decide) nm0
      have e81 : R62 g_b 3 = g_k + 1 := (hF.r p_9 (by decide) nm0 rfl).trans p_10
      refine c_getn (k := 3) pk_X0 B hM t80 kd6 rfl (by decide) fl_X6_213 dX6_readKind_171 e81 ?_
      refine lv_aload_n B.1 B.2.1 dX6_readKind_174 rfl (lv_at hl 0 rfl) ?_
      have hFt := hF
      have hMt := hM
      have t82 : T58 g_k = 18 := hF.tt p_11 (by decide) nm0
      have e83 : I60 g_k 2 = x12 := (hFc65.i t68 (by decide) (nm1 (tne t68 t47 (by decide))) rfl).trans hJJ150_5
      have hv84 : (15 ≤ 18) ∧ (18 ≤ 23) ∧ (I60 g_k 2 < 16) ∧ (18 = 18 → I60 b40 0 ≤ I60 g_k 2) := by first | omega | exact ⟨by first | omega | assumption | exact trivial | (clear nz39; omega), by first | omega | assumption | exact trivial | (clear nz39; omega), by first | omega | assumption | exact trivial | (clear nz39; omega), by first | omega | assumption | exact trivial | (clear nz39; omega)⟩
      refine g_calli hM hA (c_runV (n := 1) (as := [.ref b40]) (rest := []) B hX hA hM hl.1 t82 kd18 rfl (k_Jx4a65c_add_9ea2d l D dA eA L57 T58 N59 I60 J61 R62 g_k t82 b40 t69 hv84.1 hv84.2.1 hv84.2.2.1 hv84.2.2.2 _ _) ml_X6_146 nm_Jx4a65c_add_9ea2d ⟨rfl, rfl⟩ ⟨Nat.le_of_ble_eq_true rfl, Nat.le_of_ble_eq_true rfl⟩ dX6_readKind_175 rfl rfl (Nat.le_of_ble_eq_true rfl) ⟨by show 0 + 1 + dz63 + 1 ≤ (5 * (g_n - I a_this 5).toNat + 60); omega, by show 0 + 6 + dl64 + 24 ≤ (75 * (g_n - I a_this 5).toNat + 700); omega⟩) (fun x86 ix86 L87 T88 N89 I90 J91 R92 dz93 dl94 H locs hp85 hMn => ?_)
      obtain ⟨yJ91, hFc95, hp85a⟩ := hp85
      obtain rfl := yJ91.symm
      have t96 : T58 g_t = 3 := hF.tt p_1 (by decide) nm0
      have t97 : T58 g_s = 62 := hF.tt p_3 (by decide) nm0
      replace hF : Fr mo_X6_readKindb [] T N I J R T88 N89 I90 J61 R92 := hF.trans hFc95 (by decide) e20
      have hM := hMn
      clear hMn
      replace hp85a : (0 : Int) ≤ x86 ∧ x86 ≤ 1 ∧ (I90 g_k 2 = I60 g_k 2 + 1 ∧ R92 (R92 g_k 1 - 1) (I60 g_k 2).toNat = b40 + 1 ∧ (∀ i : Nat, (i : Int) < I60 g_k 2 → R92 (R92 g_k 1 - 1) i = R62 (R62 g_k 1 - 1) i) ∧ (∀ b, T58 b = 18 → b ≠ g_k → I90 b 2 = I60 b 2) ∧ dz93 ≤ 1 ∧ dl94 ≤ 24 ∧ dl94 + 3 * N59 (R62 g_k 1 - 1) ≤ 3 * N89 (R92 g_k 1 - 1) + 2) := hp85a
      obtain ⟨hp85a_0, hp85a_1, hp85a_2⟩ := hp85a
      obtain ⟨hp85a_2_0, hp85a_2_1, hp85a_2_2, hp85a_2_3, hp85a_2_4, hp85a_2_5, hp85a_2_6⟩ := hp85a_2
      obtain ⟨v98, e99⟩ : ∃ v, R92 g_k 1 = v := ⟨_, rfl⟩
      replace hot : OT 19 T I I90 b70 := OT.step hot hFt (fun _ _ => nm0) hFc95 (by decide) (by decide) (fun b hb => nm0)
      have e100 : R92 b40 3 = b70 + 1 := (hFc95.r t69 (by decide) nm0 rfl).trans e71
      have hnk : NK T I R I90 R92 g_k b40 b70 := NK.mk (I2 := I60) (R1 := R62) (by omega) hki hp85a_2_0 hp85a_2_1 hp85a_2_2 e100 hz9
      clear hFt hMt
      refine lv_pop B.1 B.2.1 dX6_readKind_178 rfl ?_
      refine lv_aload_n B.1 B.2.1 dX6_readKind_179 rfl (lv_at hl 2 rfl) ?_
      refine q_bip B dX6_readKind_180 (by decide) ?_
      have hFt := hF
      have hMt := hM
      have t101 : T88 a_this = 7 := hF.tt t_this (by decide) nm0
      have e102 : R92 a_this 3 = g_t + 1 := (hF.r t_this (by decide) nm0 rfl).trans p_0
      have e103 : R92 g_t 0 = g_s + 1 := (hF.r p_1 (by decide) nm0 rfl).trans p_2
      have t104 : T88 g_t = 3 := hF.tt p_1 (by decide) nm0
      have t105 : T88 g_s = 62 := hF.tt p_3 (by decide) nm0
      have e106 : I60 a_this 5 = x35 := (hFc65.i t50 (by decide) (nm1 (tne t50 t47 (by decide))) rfl).trans e36
      have e107 : I90 a_this 5 = x35 := (hFc95.i t78 (by decide) nm0 rfl).trans e106
      have e108 : I60 a_this 6 = x37 := (hFc65.i t50 (by decide) (nm1 (tne t50 t47 (by decide))) rfl).trans e38
      have e109 : I90 a_this 6 = x37 := (hFc95.i t78 (by decide) nm0 rfl).trans e108
      have hv110 : ((-2147483648 : Int) ≤ 123 ∧ (123 : Int) ≤ 2147483647) ∧ (TKz g_S g_n) ∧ (I90 a_this 5 ≤ g_n) ∧ ((123 : Int) ≠ 0) ∧ ((123 : Int) ≠ 1) := by first | omega | exact ⟨by first | omega | assumption | exact trivial | (clear nz39; omega), by first | omega | assumption | exact trivial | (clear nz39; omega), by first | omega | assumption | exact trivial | (clear nz39; omega), by first | omega | assumption | exact trivial | (clear nz39; omega), by first | omega | assumption | exact trivial | (clear nz39; omega)⟩
      refine z_calli hM hA (c_runV (n := 1) (as := [.int (II 123)]) (rest := []) B hX hA hM hl.1 t101 kd7 rfl (k_X6_readSign l D dA eA L87 T88 N89 I90 J61 R92 a_this t101 (123) hv110.1 g_t g_s g_S g_n (show R92 a_this 3 = g_t + 1 from e102) (show T88 g_t = 3 from t104) (show R92 g_t 0 = g_s + 1 from e103) (show T88 g_s = 62 from t105) (show I90 g_s = g_S from ((Fr.irow hF p_3 (by decide) nm0 (by decide)).trans p_4)) hv110.2.1 hv110.2.2.1 (show g_S (I90 a_this 5).toNat = I90 a_this 6 from by rw [e107, e109]; first | assumption | omega) hv110.2.2.2.1 hv110.2.2.2.2 _ _) ml_X6_122 nm_X6_readSign ⟨rfl, rfl⟩ ⟨Nat.le_of_ble_eq_true rfl, Nat.le_of_ble_eq_true rfl⟩ dX6_readKind_182 rfl rfl (Nat.le_of_ble_eq_true rfl) ⟨by show 0 + 1 + dz63 + dz93 + 0 ≤ (5 * (g_n - I a_this 5).toNat + 60); omega, by show 0 + 6 + dl64 + dl94 + 0 ≤ (75 * (g_n - I a_this 5).toNat + 700); omega⟩) (fun x112 ix112 L113 T114 N115 I116 J117 R118 dz119 dl120 H locs hp111 hMn => ?_)
      obtain ⟨yL113, yT114, yN115, yR118, hFc121, hp111a⟩ := hp111
      obtain rfl := yL113.symm; obtain rfl := yT114.symm; obtain rfl := yN115.symm; obtain rfl := yR118.symm
      replace hF : Fr mo_X6_readKindb [] T N I J R T88 N89 I116 J117 R92 := hF.trans hFc121 (by decide) e20
      have hM := hMn
      clear hMn
      replace hp111a : (0 : Int) ≤ x112 ∧ x112 ≤ 1 ∧ (I116 a_this 5 ≤ g_n ∧ g_S (I116 a_this 5).toNat = I116 a_this 6 ∧ I90 a_this 5 ≤ I116 a_this 5 ∧ ((x112 = 0 ∧ I116 a_this 1 ≠ 0) ∨ (x112 = 1 ∧ I116 a_this 1 = I90 a_this 1 ∧ I90 a_this 5 + 1 ≤ I116 a_this 5))) := hp111a
      obtain ⟨hp111a_0, hp111a_1, hp111a_2⟩ := hp111a
      obtain ⟨hp111a_2_0, hp111a_2_1, hp111a_2_2, hp111a_2_3⟩ := hp111a_2
      obtain ⟨x122, e123⟩ : ∃ v, I116 a_this 5 = v := ⟨_, rfl⟩
      obtain ⟨x124, e125⟩ : ∃ v, I116 a_this 6 = v := ⟨_, rfl⟩
      have nz126 : g_S (x122).toNat = x124 := by have h9 := hp111a_2_1; rw [e123, e125] at h9; exact h9
      have e127 : I60 a_this 1 = I a_this 1 := (hFc65.i t50 (by decide) (nm1 (tne t50 t47 (by decide))) rfl).trans hJJ150_9
      have e128 : I90 a_this 1 = I a_this 1 := (hFc95.i t78 (by decide) nm0 rfl).trans e127
      obtain ⟨x129, e130⟩ : ∃ v, I116 a_this 1 = v := ⟨_, rfl⟩
      replace hot : OT 19 T I I116 b70 := OT.step hot hFt (fun _ _ => nm0) hFc121 (by decide) (by decide) (fun b hb => nm0)
      have t131 : T88 g_k = 18 := hF.tt p_11 (by decide) nm0
      have t132 : T88 b40 = 11 := hFc95.tt t69 (by decide) nm0
      replace hnk : NK T I R I116 R92 g_k b40 b70 := NK.fr hnk hMt.2.2.2.2.2.2.1 hMt.2.2.2.2.2.2.2 t131 t132 h0k hFc121 (by decide)
      clear hFt hMt
      refine q_ine (tgt := 190) B dX6_readKind_185 (by decide) (by unfold inr; omega) (fun c133 => ?_) (fun c133 => ?_)
      · have e134 : I90 b40 4 = x76 := (hFc95.i t69 (by decide) nm0 rfl).trans e77
        have e135 : I116 b40 4 = x76 := (hFc121.i t132 (by decide) nm0 rfl).trans e134
        have e136 : I90 b70 2 = x74 := (hFc95.i t72 (by decide) nm0 rfl).trans e75
        have t137 : T88 b70 = 19 := hFc95.tt t72 (by decide) nm0
        have e138 : I116 b70 2 = x74 := (hFc121.i t137 (by decide) nm0 rfl).trans e136
        refine q_con B dX6_readKind_190 ?_
        refine lv_istore (lv' := [(4, .int (II 0)), (3, .ref b40), (1, .int (II x12)), (0, .ref a_this), (2, .int (II v150_2))]) B.1 B.2.1 dX6_readKind_191 hl (by decide) rfl (fun ls hl => ?_)
        have LL193 : ∀ NN : Nat, ∀ (v193_4 : Int) (L_193 : List Nat) (T_193 : Nat → Nat) (N_193 : Nat → Nat) (I_193 : Nat → Nat → Int) (J_193 : Nat → Nat → Int64) (R_193 : Nat → Nat → Nat) (zc193 zs193 : Nat) (H : Heap) (locs : List Loc) (ls : Array Slot), (CWd D dA eA (cF dA L T N I J R s.heap.size) s.heap L_193 T_193 N_193 I_193 J_193 R_193 H locs) → (Fr mo_X6_readKindb [] T N I J R T_193 N_193 I_193 J_193 R_193) → lv_has ls 5 [(3, .ref b40), (1, .int (II x12)), (0, .ref a_this), (2, .int (II v150_2)), (4, .int (II v193_4))] → ((-2147483648 : Int) ≤ v193_4 ∧ v193_4 ≤ 2147483647) → (0 ≤ v193_4) → (v193_4 ≤ 3001) → (I a_this 5 + 3 ≤ I_193 a_this 5) → ((zc193 : Int) ≤ 5 * (I_193 a_this 5 - I a_this 5) + 5) → ((zs193 : Int) ≤ 75 * (I_193 a_this 5 - I a_this 5) + 75) → (I_193 a_this 5 ≤ g_n) → (g_S (I_193 a_this 5).toNat = I_193 a_this 6) → (I_193 a_this 1 = I a_this 1) → (T_193 b40 = 11) → (T_193 b70 = 19) → (R_193 b40 3 = b70 + 1) → (3 + 4 * (I_193 b70 2 - I_193 b40 4) ≤ I_193 a_this 5 - I a_this 5) → (OT 19 T I I_193 b70) → (NK T I R I_193 R_193 g_k b40 b70) → (0 ≤ 3001 - v193_4) → (3001 - v193_4 < (NN : Int)) → W p l e ({ frames := 10, cells := 5 * (g_n - I a_this 5).toNat + 60, slots := 75 * (g_n - I a_this 5).toNat + 700, locals := 308 }) s m args below meth c H locs zc193 zs193 (MQ below (gQ D dA eA (cF dA L T N I J R s.heap.size) s.heap.size (hs s.heap) PST) args s (5 * (g_n - I a_this 5).toNat + 60) (75 * (g_n - I a_this 5).toNat + 700) (cF dA L T N I J R s.heap.size)) (F0 m 193 ls []) := by
          intro NN
          induction NN with
          | zero => intro v193_4 L_193 T_193 N_193 I_193 J_193 R_193 zc193 zs193 H locs ls hM hF hl hLL193_0 hLL193_1 hLL193_2 hLL193_3 hLL193_4 hLL193_5 hLL193_6 hLL193_7 hLL193_8 hLL193_9 hLL193_10 hLL193_11 hLL193_12 hLL193_13 hLL193_14 hLL193_15 hN; exfalso; omega
          | succ NN IH193 =>
            intro v193_4 L_193 T_193 N_193 I_193 J_193 R_193 zc193 zs193 H locs ls hM hF hl hLL193_0 hLL193_1 hLL193_2 hLL193_3 hLL193_4 hLL193_5 hLL193_6 hLL193_7 hLL193_8 hLL193_9 hLL193_10 hLL193_11 hLL193_12 hLL193_13 hLL193_14 hLL193_15 hN
            obtain ⟨x139, e140⟩ : ∃ v, I_193 a_this 5 = v := ⟨_, rfl⟩
            obtain ⟨x141, e142⟩ : ∃ v, I_193 a_this 6 = v := ⟨_, rfl⟩
            have nz143 : g_S (x139).toNat = x141 := by have h9 := hLL193_7; rw [e140, e142] at h9; exact h9
            obtain ⟨x144, e145⟩ : ∃ v, I_193 b40 4 = v := ⟨_, rfl⟩
            obtain ⟨x146, e147⟩ : ∃ v, I_193 b70 2 = v := ⟨_, rfl⟩
            have hot : OT 19 T I I_193 b70 := by assumption
            have hnk : NK T I R I_193 R_193 g_k b40 b70 := by assumption
            refine lv_iload B.1 B.2.1 dX6_readKind_193 (lv_at hl 4 rfl) ?_
            refine q_sip B dX6_readKind_195 (by decide) ?_
            refine q_cgt (tgt := 246) B dX6_readKind_198 (by decide) (by unfold inr; omega) (by unfold inr; omega) (fun c148 => ?_) (fun c148 => ?_)
            · refine lv_aload_n B.1 B.2.1 dX6_readKind_246 rfl (lv_at hl 2 rfl) ?_
              refine q_bip B dX6_readKind_247 (by decide) ?_
              have hFt := hF
              have hMt := hM
              have t149 : T_193 a_this = 7 := hF.tt t_this (by decide) nm0
              have e150 : R_193 a_this 3 = g_t + 1 := (hF.r t_this (by decide) nm0 rfl).trans p_0
              have e151 : R_193 g_t 0 = g_s + 1 := (hF.r p_1 (by decide) nm0 rfl).trans p_2
              have t152 : T_193 g_t = 3 := hF.tt p_1 (by decide) nm0
              have t153 : T_193 g_s = 62 := hF.tt p_3 (by decide) nm0
              have hv154 : ((-2147483648 : Int) ≤ 125 ∧ (125 : Int) ≤ 2147483647) ∧ (TKz g_S g_n) ∧ (I_193 a_this 5 ≤ g_n) ∧ ((125 : Int) ≠ 0) ∧ ((125 : Int) ≠ 1) := by first | omega | exact ⟨by first | omega | assumption | exact trivial | (clear nz143; omega), by first | omega | assumption | exact trivial | (clear nz143; omega), by first | omega | assumption | exact trivial | (clear nz143; omega), by first | omega | assumption | exact trivial | (clear nz143; omega), by first | omega | assumption | exact trivial | (clear nz143; omega)⟩
              refine z_calli hM hA (c_runV (n := 1) (as := [.int (II 125)]) (rest := []) B hX hA hM hl.1 t149 kd7 rfl (k_X6_readSign l D dA eA L_193 T_193 N_193 I_193 J_193 R_193 a_this t149 (125) hv154.1 g_t g_s g_S g_n (show R_193 a_this 3 = g_t + 1 from e150) (show T_193 g_t = 3 from t152) (show R_193 g_t 0 = g_s + 1 from e151) (show T_193 g_s = 62 from t153) (show I_193 g_s = g_S from ((Fr.irow hF p_3 (by decide) nm0 (by decide)).trans p_4)) hv154.2.1 hv154.2.2.1 (show g_S (I_193 a_this 5).toNat = I_193 a_this 6 from by rw [e140, e142]; first | assumption | omega) hv154.2.2.2.1 hv154.2.2.2.2 _ _) ml_X6_122 nm_X6_readSign ⟨rfl, rfl⟩ ⟨Nat.le_of_ble_eq_true rfl, Nat.le_of_ble_eq_true rfl⟩ dX6_readKind_249 rfl rfl (Nat.le_of_ble_eq_true rfl) ⟨by show zc193 + 0 ≤ (5 * (g_n - I a_this 5).toNat + 60); omega, by show zs193 + 0 ≤ (75 * (g_n - I a_this 5).toNat + 700); omega⟩) (fun x156 ix156 L157 T158 N159 I160 J161 R162 dz163 dl164 H locs hp155 hMn => ?_)
              obtain ⟨yL157, yT158, yN159, yR162, hFc165, hp155a⟩ := hp155
              obtain rfl := yL157.symm; obtain rfl := yT158.symm; obtain rfl := yN159.symm; obtain rfl := yR162.symm
              replace hF : Fr mo_X6_readKindb [] T N I J R T_193 N_193 I160 J161 R_193 := hF.trans hFc165 (by decide) e20
              have hM := hMn
              clear hMn
              replace hp155a : (0 : Int) ≤ x156 ∧ x156 ≤ 1 ∧ (I160 a_this 5 ≤ g_n ∧ g_S (I160 a_this 5).toNat = I160 a_this 6 ∧ I_193 a_this 5 ≤ I160 a_this 5 ∧ ((x156 = 0 ∧ I160 a_this 1 ≠ 0) ∨ (x156 = 1 ∧ I160 a_this 1 = I_193 a_this 1 ∧ I_193 a_this 5 + 1 ≤ I160 a_this 5))) := hp155a
              obtain ⟨hp155a_0, hp155a_1, hp155a_2⟩ := hp155a
              obtain ⟨hp155a_2_0, hp155a_2_1, hp155a_2_2, hp155a_2_3⟩ := hp155a_2
              obtain ⟨x166, e167⟩ : ∃ v, I160 a_this 5 = v := ⟨_, rfl⟩
              obtain ⟨x168, e169⟩ : ∃ v, I160 a_this 6 = v := ⟨_, rfl⟩
              have nz170 : g_S (x166).toNat = x168 := by have h9 := hp155a_2_1; rw [e167, e169] at h9; exact h9
              obtain ⟨x171, e172⟩ : ∃ v, I160 a_this 1 = v := ⟨_, rfl⟩
              replace hot : OT 19 T I I160 b70 := OT.step hot hFt (fun _ _ => nm0) hFc165 (by decide) (by decide) (fun b hb => nm0)
              have t173 : T_193 g_k = 18 := hF.tt p_11 (by decide) nm0
              replace hnk : NK T I R I160 R_193 g_k b40 b70 := NK.fr hnk hMt.2.2.2.2.2.2.1 hMt.2.2.2.2.2.2.2 t173 hLL193_9 h0k hFc165 (by decide)
              clear hFt hMt
              obtain ⟨x174, e175⟩ : ∃ v, I160 g_k 2 = v := ⟨_, rfl⟩
              have e176 : I160 b70 2 = x146 := (hFc165.i hLL193_10 (by decide) nm0 rfl).trans e147
              have e177 : I160 b40 4 = x144 := (hFc165.i hLL193_9 (by decide) nm0 rfl).trans e145
              refine g_zret B hM dX6_readKind_252 ⟨by show zc193 ≤ (5 * (g_n - I a_this 5).toNat + 60); omega, by show zs193 ≤ (75 * (g_n - I a_this 5).toNat + 700); omega⟩ (by omega) (by omega) ?_
              rw [← hPST]
              exact ⟨x156, rfl, by omega, hF, by omega, by omega, by first | omega | assumption | exact trivial | (clear nz170; omega), by show g_S (I160 a_this 5).toNat = I160 a_this 6; rw [e167, e169]; first | assumption | omega, by first | omega | assumption | exact trivial | (clear nz170; omega), by first | omega | assumption | exact trivial | (clear nz170; omega), by first | omega | assumption | exact trivial | (clear nz170; omega), by first | omega | assumption | exact trivial | (clear nz170; omega), by have h9 := spn_new (z := ((x146 - x144).toNat : Int)) hC0 hW0.2.2.2.2 p_11 hF (by decide) hnk hot (by omega) (by omega); omega⟩
            · refine lv_aload_n B.1 B.2.1 dX6_readKind_201 rfl (lv_at hl 2 rfl) ?_
              have t178 : T_193 a_this = 7 := hF.tt t_this (by decide) nm0
              have r179 : (-2147483648 : Int) ≤ x141 ∧ x141 ≤ 2147483647 := by rw [← e142]; exact g7_6 hM.2.2.2.2.2.2.1 t178
              refine c_geti (k := 6) pk_X6 B hM t178 kd7 rfl (by decide) fl_X6_47 dX6_readKind_202 e142 ?_
              refine q_bip B dX6_readKind_205 (by decide) ?_
              refine q_ceq (tgt := 246) B dX6_readKind_207 (by decide) (by unfold inr; omega) (by unfold inr; omega) (fun c180 => ?_) (fun c180 => ?_)
              · refine lv_aload_n B.1 B.2.1 dX6_readKind_246 rfl (lv_at hl 2 rfl) ?_
                refine q_bip B dX6_readKind_247 (by decide) ?_
                have hFt := hF
                have hMt := hM
                have e181 : R_193 a_this 3 = g_t + 1 := (hF.r t_this (by decide) nm0 rfl).trans p_0
                have e182 : R_193 g_t 0 = g_s + 1 := (hF.r p_1 (by decide) nm0 rfl).trans p_2
                have t183 : T_193 g_t = 3 := hF.tt p_1 (by decide) nm0
                have t184 : T_193 g_s = 62 := hF.tt p_3 (by decide) nm0
                have hv185 : ((-2147483648 : Int) ≤ 125 ∧ (125 : Int) ≤ 2147483647) ∧ (TKz g_S g_n) ∧ (I_193 a_this 5 ≤ g_n) ∧ ((125 : Int) ≠ 0) ∧ ((125 : Int) ≠ 1) := by first | omega | exact ⟨by first | omega | assumption | exact trivial | (clear nz170; omega), by first | omega | assumption | exact trivial | (clear nz170; omega), by first | omega | assumption | exact trivial | (clear nz170; omega), by first | omega | assumption | exact trivial | (clear nz170; omega), by first | omega | assumption | exact trivial | (clear nz170; omega)⟩
                refine z_calli hM hA (c_runV (n := 1) (as := [.int (II 125)]) (rest := []) B hX hA hM hl.1 t178 kd7 rfl (k_X6_readSign l D dA eA L_193 T_193 N_193 I_193 J_193 R_193 a_this t178 (125) hv185.1 g_t g_s g_S g_n (show R_193 a_this 3 = g_t + 1 from e181) (show T_193 g_t = 3 from t183) (show R_193 g_t 0 = g_s + 1 from e182) (show T_193 g_s = 62 from t184) (show I_193 g_s = g_S from ((Fr.irow hF p_3 (by decide) nm0 (by decide)).trans p_4)) hv185.2.1 hv185.2.2.1 (show g_S (I_193 a_this 5).toNat = I_193 a_this 6 from by rw [e140, e142]; first | assumption | omega) hv185.2.2.2.1 hv185.2.2.2.2 _ _) ml_X6_122 nm_X6_readSign ⟨rfl, rfl⟩ ⟨Nat.le_of_ble_eq_true rfl, Nat.le_of_ble_eq_true rfl⟩ dX6_readKind_249 rfl rfl (Nat.le_of_ble_eq_true rfl) ⟨by show zc193 + 0 ≤ (5 * (g_n - I a_this 5).toNat + 60); omega, by show zs193 + 0 ≤ (75 * (g_n - I a_this 5).toNat + 700); omega⟩) (fun x187 ix187 L188 T189 N190 I191 J192 R193 dz194 dl195 H locs hp186 hMn => ?_)
                obtain ⟨yL188, yT189, yN190, yR193, hFc196, hp186a⟩ := hp186
                obtain rfl := yL188.symm; obtain rfl := yT189.symm; obtain rfl := yN190.symm; obtain rfl := yR193.symm
                replace hF : Fr mo_X6_readKindb [] T N I J R T_193 N_193 I191 J192 R_193 := hF.trans hFc196 (by decide) e20
                have hM := hMn
                clear hMn
                replace hp186a : (0 : Int) ≤ x187 ∧ x187 ≤ 1 ∧ (I191 a_this 5 ≤ g_n ∧ g_S (I191 a_this 5).toNat = I191 a_this 6 ∧ I_193 a_this 5 ≤ I191 a_this 5 ∧ ((x187 = 0 ∧ I191 a_this 1 ≠ 0) ∨ (x187 = 1 ∧ I191 a_this 1 = I_193 a_this 1 ∧ I_193 a_this 5 + 1 ≤ I191 a_this 5))) := hp186a
                obtain ⟨hp186a_0, hp186a_1, hp186a_2⟩ := hp186a
                obtain ⟨hp186a_2_0, hp186a_2_1, hp186a_2_2, hp186a_2_3⟩ := hp186a_2
                obtain ⟨x197, e198⟩ : ∃ v, I191 a_this 5 = v := ⟨_, rfl⟩
                obtain ⟨x199, e200⟩ : ∃ v, I191 a_this 6 = v := ⟨_, rfl⟩
                have nz201 : g_S (x197).toNat = x199 := by have h9 := hp186a_2_1; rw [e198, e200] at h9; exact h9
                obtain ⟨x202, e203⟩ : ∃ v, I191 a_this 1 = v := ⟨_, rfl⟩
                replace hot : OT 19 T I I191 b70 := OT.step hot hFt (fun _ _ => nm0) hFc196 (by decide) (by decide) (fun b hb => nm0)
                have t204 : T_193 g_k = 18 := hF.tt p_11 (by decide) nm0
                replace hnk : NK T I R I191 R_193 g_k b40 b70 := NK.fr hnk hMt.2.2.2.2.2.2.1 hMt.2.2.2.2.2.2.2 t204 hLL193_9 h0k hFc196 (by decide)
                clear hFt hMt
                obtain ⟨x205, e206⟩ : ∃ v, I191 g_k 2 = v := ⟨_, rfl⟩
                have e207 : I191 b70 2 = x146 := (hFc196.i hLL193_10 (by decide) nm0 rfl).trans e147
                have e208 : I191 b40 4 = x144 := (hFc196.i hLL193_9 (by decide) nm0 rfl).trans e145
                refine g_zret B hM dX6_readKind_252 ⟨by show zc193 ≤ (5 * (g_n - I a_this 5).toNat + 60); omega, by show zs193 ≤ (75 * (g_n - I a_this 5).toNat + 700); omega⟩ (by omega) (by omega) ?_
                rw [← hPST]
                exact ⟨x187, rfl, by omega, hF, by omega, by omega, by first | omega | assumption | exact trivial | (clear nz201; omega), by show g_S (I191 a_this 5).toNat = I191 a_this 6; rw [e198, e200]; first | assumption | omega, by first | omega | assumption | exact trivial | (clear nz201; omega), by first | omega | assumption | exact trivial | (clear nz201; omega), by first | omega | assumption | exact trivial | (clear nz201; omega), by first | omega | assumption | exact trivial | (clear nz201; omega), by have h9 := spn_new (z := ((x146 - x144).toNat : Int)) hC0 hW0.2.2.2.2 p_11 hF (by decide) hnk hot (by omega) (by omega); omega⟩
              · refine lv_aload_n B.1 B.2.1 dX6_readKind_210 rfl (lv_at hl 2 rfl) ?_
                refine c_geti (k := 6) pk_X6 B hM t178 kd7 rfl (by decide) fl_X6_47 dX6_readKind_211 e142 ?_
                refine q_bip B dX6_readKind_214 (by decide) ?_
                refine q_cne (tgt := 230) B dX6_readKind_216 (by decide) (by unfold inr; omega) (by unfold inr; omega) (fun c209 => ?_) (fun c209 => ?_)
                · refine lv_aload_n B.1 B.2.1 dX6_readKind_230 rfl (lv_at hl 2 rfl) ?_
                  refine lv_aload_n B.1 B.2.1 dX6_readKind_231 rfl (lv_at hl 0 rfl) ?_
                  have hFt := hF
                  have hMt := hM
                  have e210 : R_193 a_this 3 = g_t + 1 := (hF.r t_this (by decide) nm0 rfl).trans p_0
                  have e211 : R_193 g_t 0 = g_s + 1 := (hF.r p_1 (by decide) nm0 rfl).trans p_2
                  have t212 : T_193 g_t = 3 := hF.tt p_1 (by decide) nm0
                  have t213 : T_193 g_s = 62 := hF.tt p_3 (by decide) nm0
                  have hv214 : (TKz g_S g_n) ∧ (I_193 a_this 5 ≤ g_n) := by first | omega | exact ⟨by first | omega | assumption | exact trivial | (clear nz201; omega), by first | omega | assumption | exact trivial | (clear nz201; omega)⟩
                  refine g_calli hM hA (c_runV (n := 1) (as := [.ref b40]) (rest := []) B hX hA hM hl.1 t178 kd7 rfl (k_X6_readMemberb l D dA eA L_193 T_193 N_193 I_193 J_193 R_193 a_this t178 b40 hLL193_9 g_t g_s g_S g_n b70 (show R_193 a_this 3 = g_t + 1 from e210) (show T_193 g_t = 3 from t212) (show R_193 g_t 0 = g_s + 1 from e211) (show T_193 g_s = 62 from t213) (show I_193 g_s = g_S from ((Fr.irow hF p_3 (by decide) nm0 (by decide)).trans p_4)) hv214.1 hv214.2 (show g_S (I_193 a_this 5).toNat = I_193 a_this 6 from by rw [e140, e142]; first | assumption | omega) (show R_193 b40 3 = b70 + 1 from hLL193_11) (show T_193 b70 = 19 from hLL193_10) _ _) ml_X6_229 nm_X6_readMember ⟨rfl, rfl⟩ ⟨Nat.le_of_ble_eq_true rfl, Nat.le_of_ble_eq_true rfl⟩ dX6_readKind_232 rfl rfl (Nat.le_of_ble_eq_true rfl) ⟨by show zc193 + 40 ≤ (5 * (g_n - I a_this 5).toNat + 60); omega, by show zs193 + 309 ≤ (75 * (g_n - I a_this 5).toNat + 700); omega⟩) (fun x216 ix216 L217 T218 N219 I220 J221 R222 dz223 dl224 H locs hp215 hMn => ?_)
                  obtain ⟨hFc225, hp215a⟩ := hp215
                  have t226 : T_193 g_b = 6 := hF.tt p_9 (by decide) nm0
                  have t227 : T_193 g_k = 18 := hF.tt p_11 (by decide) nm0
                  replace hF : Fr mo_X6_readKindb [] T N I J R T218 N219 I220 J221 R222 := hF.trans hFc225 (by decide) e20
                  have hM := hMn
                  clear hMn
                  replace hp215a : (0 : Int) ≤ x216 ∧ x216 ≤ 1 ∧ (I220 a_this 5 ≤ g_n ∧ g_S (I220 a_this 5).toNat = I220 a_this 6 ∧ I_193 a_this 5 ≤ I220 a_this 5 ∧ ((x216 = 0 ∧ I220 a_this 1 ≠ 0) ∨ (x216 = 1 ∧ I220 a_this 1 = I_193 a_this 1 ∧ I_193 a_this 5 + 4 ≤ I220 a_this 5)) ∧ (dz223 : Int) ≤ 5 * (I220 a_this 5 - I_193 a_this 5) ∧ (dl224 : Int) ≤ 75 * (I220 a_this 5 - I_193 a_this 5) ∧ dz223 ≤ 40 ∧ dl224 ≤ 309 ∧ OT 19 T_193 I_193 I220 b70 ∧ I220 b70 2 ≤ I_193 b70 2 + 1) := hp215a
                  obtain ⟨hp215a_0, hp215a_1, hp215a_2⟩ := hp215a
                  obtain ⟨hp215a_2_0, hp215a_2_1, hp215a_2_2, hp215a_2_3, hp215a_2_4, hp215a_2_5, hp215a_2_6, hp215a_2_7, hp215a_2_8, hp215a_2_9⟩ := hp215a_2
                  obtain ⟨x228, e229⟩ : ∃ v, I220 a_this 5 = v := ⟨_, rfl⟩
                  obtain ⟨x230, e231⟩ : ∃ v, I220 a_this 6 = v := ⟨_, rfl⟩
                  have nz232 : g_S (x228).toNat = x230 := by have h9 := hp215a_2_1; rw [e229, e231] at h9; exact h9
                  obtain ⟨x233, e234⟩ : ∃ v, I220 a_this 1 = v := ⟨_, rfl⟩
                  obtain ⟨x235, e236⟩ : ∃ v, I220 b70 2 = v := ⟨_, rfl⟩
                  replace hot : OT 19 T I I220 b70 := OT.ad hot hFt (fun _ _ => nm0) (by decide) (by assumption)
                  replace hnk : NK T I R I220 R222 g_k b40 b70 := NK.fr hnk hMt.2.2.2.2.2.2.1 hMt.2.2.2.2.2.2.2 t227 hLL193_9 h0k hFc225 (by decide)
                  clear hFt hMt
                  refine q_ine (tgt := 240) B dX6_readKind_235 (by decide) (by unfold inr; omega) (fun c237 => ?_) (fun c237 => ?_)
                  · refine q_inc (lv' := [(4, .int (II (v193_4 + 1))), (3, .ref b40), (1, .int (II x12)), (0, .ref a_this), (2, .int (II v150_2))]) B dX6_readKind_240 hl (k := 4) rfl (by decide) rfl (fun ls hl => ?_)
                    refine lv_goto (tgt := 193) B.1 B.2.1 dX6_readKind_243 (by decide) ?_
                    have t238 : T218 b40 = 11 := hFc225.tt hLL193_9 (by decide) nm0
                    have t239 : T218 b70 = 19 := hFc225.tt hLL193_10 (by decide) nm0
                    have e240 : R222 b40 3 = b70 + 1 := (hFc225.r hLL193_9 (by decide) nm0 rfl).trans hLL193_11
                    have e241 : I220 b40 4 = x144 := (hFc225.i hLL193_9 (by decide) nm0 rfl).trans e145
                    have hv242 : ((-2147483648 : Int) ≤ v193_4 + 1 ∧ (v193_4 + 1 : Int) ≤ 2147483647) ∧ (0 ≤ (v193_4 + 1)) ∧ ((v193_4 + 1) ≤ 3001) ∧ (I a_this 5 + 3 ≤ I220 a_this 5) ∧ ((zc193 + dz223 : Int) ≤ 5 * (I220 a_this 5 - I a_this 5) + 5) ∧ ((zs193 + dl224 : Int) ≤ 75 * (I220 a_this 5 - I a_this 5) + 75) ∧ (I220 a_this 5 ≤ g_n) ∧ (I220 a_this 1 = I a_this 1) ∧ (R222 b40 3 = b70 + 1) ∧ (3 + 4 * (I220 b70 2 - I220 b40 4) ≤ I220 a_this 5 - I a_this 5) ∧ (0 ≤ 3001 - (v193_4 + 1)) := by first | omega | exact ⟨by first | omega | assumption | exact trivial | (clear nz232; omega), by first | omega | assumption | exact trivial | (clear nz232; omega), by first | omega | assumption | exact trivial | (clear nz232; omega), by first | omega | assumption | exact trivial | (clear nz232; omega), by first | omega | assumption | exact trivial | (clear nz232; omega), by first | omega | assumption | exact trivial | (clear nz232; omega), by first | omega | assumption | exact trivial | (clear nz232; omega), by first | omega | assumption | exact trivial | (clear nz232; omega), by first | omega | assumption | exact trivial | (clear nz232; omega), by first | omega | assumption | exact trivial | (clear nz232; omega), by first | omega | assumption | exact trivial | (clear nz232; omega)⟩
                    exact IH193 (v193_4 + 1) L217 T218 N219 I220 J221 R222 (zc193 + dz223) (zs193 + dl224) _ _ ls hM hF (lv_sub hl [1, 2, 3, 4, 0] rfl) hv242.1 hv242.2.1 hv242.2.2.1 hv242.2.2.2.1 hv242.2.2.2.2.1 hv242.2.2.2.2.2.1 hv242.2.2.2.2.2.2.1 (by rw [e229, e231]; first | assumption | omega) hv242.2.2.2.2.2.2.2.1 t238 t239 hv242.2.2.2.2.2.2.2.2.1 hv242.2.2.2.2.2.2.2.2.2.1 (by exact hot) (by exact hnk) hv242.2.2.2.2.2.2.2.2.2.2 (by omega)
                  · refine q_con B dX6_readKind_238 ?_
                    obtain ⟨x243, e244⟩ : ∃ v, I220 g_k 2 = v := ⟨_, rfl⟩
                    refine g_zret B hM dX6_readKind_239 ⟨by show zc193 + dz223 ≤ (5 * (g_n - I a_this 5).toNat + 60); omega, by show zs193 + dl224 ≤ (75 * (g_n - I a_this 5).toNat + 700); omega⟩ (by omega) (by omega) ?_
                    rw [← hPST]
                    exact ⟨(0), rfl, by omega, hF, by omega, by omega, by first | omega | assumption | exact trivial | (clear nz232; omega), by show g_S (I220 a_this 5).toNat = I220 a_this 6; rw [e229, e231]; first | assumption | omega, by first | omega | assumption | exact trivial | (clear nz232; omega), by first | omega | assumption | exact trivial | (clear nz232; omega), by first | omega | assumption | exact trivial | (clear nz232; omega), by first | omega | assumption | exact trivial | (clear nz232; omega), by exact Or.inl (by omega)⟩
                · refine lv_aload_n B.1 B.2.1 dX6_readKind_219 rfl (lv_at hl 2 rfl) ?_
                  refine lv_aload_n B.1 B.2.1 dX6_readKind_220 rfl (lv_at hl 0 rfl) ?_
                  have hFt := hF
                  have hMt := hM
                  have e245 : R_193 a_this 3 = g_t + 1 := (hF.r t_this (by decide) nm0 rfl).trans p_0
                  have e246 : R_193 g_t 0 = g_s + 1 := (hF.r p_1 (by decide) nm0 rfl).trans p_2
                  have t247 : T_193 g_t = 3 := hF.tt p_1 (by decide) nm0
                  have t248 : T_193 g_s = 62 := hF.tt p_3 (by decide) nm0
                  have hv249 : (TKz g_S g_n) ∧ (I_193 a_this 5 ≤ g_n) := by first | omega | exact ⟨by first | omega | assumption | exact trivial | (clear nz232; omega), by first | omega | assumption | exact trivial | (clear nz232; omega)⟩
                  refine g_calli hM hA (c_runV (n := 1) (as := [.ref b40]) (rest := []) B hX hA hM hl.1 t178 kd7 rfl (k_X6_readStar l D dA eA L_193 T_193 N_193 I_193 J_193 R_193 a_this t178 b40 hLL193_9 g_t g_s g_S g_n (show R_193 a_this 3 = g_t + 1 from e245) (show T_193 g_t = 3 from t247) (show R_193 g_t 0 = g_s + 1 from e246) (show T_193 g_s = 62 from t248) (show I_193 g_s = g_S from ((Fr.irow hF p_3 (by decide) nm0 (by decide)).trans p_4)) hv249.1 hv249.2 (show g_S (I_193 a_this 5).toNat = I_193 a_this 6 from by rw [e140, e142]; first | assumption | omega) _ _) ml_X6_225 nm_X6_readStar ⟨rfl, rfl⟩ ⟨Nat.le_of_ble_eq_true rfl, Nat.le_of_ble_eq_true rfl⟩ dX6_readKind_221 rfl rfl (Nat.le_of_ble_eq_true rfl) ⟨by show zc193 + 36 ≤ (5 * (g_n - I a_this 5).toNat + 60); omega, by show zs193 + 279 ≤ (75 * (g_n - I a_this 5).toNat + 700); omega⟩) (fun x251 ix251 L252 T253 N254 I255 J256 R257 dz258 dl259 H locs hp250 hMn => ?_)
                  obtain ⟨hFc260, hp250a⟩ := hp250
                  have t261 : T_193 g_b = 6 := hF.tt p_9 (by decide) nm0
                  have t262 : T_193 g_k = 18 := hF.tt p_11 (by decide) nm0
                  replace hF : Fr mo_X6_readKindb [] T N I J R T253 N254 I255 J256 R257 := hF.trans hFc260 (by decide) e20
                  have hM := hMn
                  clear hMn
                  replace hp250a : (0 : Int) ≤ x251 ∧ x251 ≤ 1 ∧ (I255 a_this 5 ≤ g_n ∧ g_S (I255 a_this 5).toNat = I255 a_this 6 ∧ I_193 a_this 5 ≤ I255 a_this 5 ∧ ((x251 = 0 ∧ I255 a_this 1 ≠ 0) ∨ (x251 = 1 ∧ I255 a_this 1 = I_193 a_this 1 ∧ I_193 a_this 5 + 1 ≤ I255 a_this 5)) ∧ (dz258 : Int) ≤ 4 * (I255 a_this 5 - I_193 a_this 5) ∧ (dl259 : Int) ≤ 31 * (I255 a_this 5 - I_193 a_this 5) ∧ dz258 ≤ 36 ∧ dl259 ≤ 279) := hp250a
                  obtain ⟨hp250a_0, hp250a_1, hp250a_2⟩ := hp250a
                  obtain ⟨hp250a_2_0, hp250a_2_1, hp250a_2_2, hp250a_2_3, hp250a_2_4, hp250a_2_5, hp250a_2_6, hp250a_2_7⟩ := hp250a_2
                  obtain ⟨x263, e264⟩ : ∃ v, I255 a_this 5 = v := ⟨_, rfl⟩
                  obtain ⟨x265, e266⟩ : ∃ v, I255 a_this 6 = v := ⟨_, rfl⟩
                  have nz267 : g_S (x263).toNat = x265 := by have h9 := hp250a_2_1; rw [e264, e266] at h9; exact h9
                  obtain ⟨x268, e269⟩ : ∃ v, I255 a_this 1 = v := ⟨_, rfl⟩
                  replace hot : OT 19 T I I255 b70 := OT.step hot hFt (fun _ _ => nm0) hFc260 (by decide) (by decide) (fun b hb => nm0)
                  replace hnk : NK T I R I255 R257 g_k b40 b70 := NK.fr hnk hMt.2.2.2.2.2.2.1 hMt.2.2.2.2.2.2.2 t262 hLL193_9 h0k hFc260 (by decide)
                  clear hFt hMt
                  refine q_ine (tgt := 240) B dX6_readKind_224 (by decide) (by unfold inr; omega) (fun c270 => ?_) (fun c270 => ?_)
                  · refine q_inc (lv' := [(4, .int (II (v193_4 + 1))), (3, .ref b40), (1, .int (II x12)), (0, .ref a_this), (2, .int (II v150_2))]) B dX6_readKind_240 hl (k := 4) rfl (by decide) rfl (fun ls hl => ?_)
                    refine lv_goto (tgt := 193) B.1 B.2.1 dX6_readKind_243 (by decide) ?_
                    have t271 : T253 b40 = 11 := hFc260.tt hLL193_9 (by decide) nm0
                    have t272 : T253 b70 = 19 := hFc260.tt hLL193_10 (by decide) nm0
                    have e273 : R257 b40 3 = b70 + 1 := (hFc260.r hLL193_9 (by decide) nm0 rfl).trans hLL193_11
                    have e274 : I255 b70 2 = x146 := (hFc260.i hLL193_10 (by decide) nm0 rfl).trans e147
                    have e275 : I255 b40 4 = x144 := (hFc260.i hLL193_9 (by decide) nm0 rfl).trans e145
                    have hv276 : ((-2147483648 : Int) ≤ v193_4 + 1 ∧ (v193_4 + 1 : Int) ≤ 2147483647) ∧ (0 ≤ (v193_4 + 1)) ∧ ((v193_4 + 1) ≤ 3001) ∧ (I a_this 5 + 3 ≤ I255 a_this 5) ∧ ((zc193 + dz258 : Int) ≤ 5 * (I255 a_this 5 - I a_this 5) + 5) ∧ ((zs193 + dl259 : Int) ≤ 75 * (I255 a_this 5 - I a_this 5) + 75) ∧ (I255 a_this 5 ≤ g_n) ∧ (I255 a_this 1 = I a_this 1) ∧ (R257 b40 3 = b70 + 1) ∧ (3 + 4 * (I255 b70 2 - I255 b40 4) ≤ I255 a_this 5 - I a_this 5) ∧ (0 ≤ 3001 - (v193_4 + 1)) := by first | omega | exact ⟨by first | omega | assumption | exact trivial | (clear nz267; omega), by first | omega | assumption | exact trivial | (clear nz267; omega), by first | omega | assumption | exact trivial | (clear nz267; omega), by first | omega | assumption | exact trivial | (clear nz267; omega), by first | omega | assumption | exact trivial | (clear nz267; omega), by first | omega | assumption | exact trivial | (clear nz267; omega), by first | omega | assumption | exact trivial | (clear nz267; omega), by first | omega | assumption | exact trivial | (clear nz267; omega), by first | omega | assumption | exact trivial | (clear nz267; omega), by first | omega | assumption | exact trivial | (clear nz267; omega), by first | omega | assumption | exact trivial | (clear nz267; omega)⟩
                    exact IH193 (v193_4 + 1) L252 T253 N254 I255 J256 R257 (zc193 + dz258) (zs193 + dl259) _ _ ls hM hF (lv_sub hl [1, 2, 3, 4, 0] rfl) hv276.1 hv276.2.1 hv276.2.2.1 hv276.2.2.2.1 hv276.2.2.2.2.1 hv276.2.2.2.2.2.1 hv276.2.2.2.2.2.2.1 (by rw [e264, e266]; first | assumption | omega) hv276.2.2.2.2.2.2.2.1 t271 t272 hv276.2.2.2.2.2.2.2.2.1 hv276.2.2.2.2.2.2.2.2.2.1 (by exact hot) (by exact hnk) hv276.2.2.2.2.2.2.2.2.2.2 (by omega)
                  · refine lv_goto (tgt := 238) B.1 B.2.1 dX6_readKind_227 (by decide) ?_
                    refine q_con B dX6_readKind_238 ?_
                    obtain ⟨x277, e278⟩ : ∃ v, I255 g_k 2 = v := ⟨_, rfl⟩
                    refine g_zret B hM dX6_readKind_239 ⟨by show zc193 + dz258 ≤ (5 * (g_n - I a_this 5).toNat + 60); omega, by show zs193 + dl259 ≤ (75 * (g_n - I a_this 5).toNat + 700); omega⟩ (by omega) (by omega) ?_
                    rw [← hPST]
                    exact ⟨(0), rfl, by omega, hF, by omega, by omega, by first | omega | assumption | exact trivial | (clear nz267; omega), by show g_S (I255 a_this 5).toNat = I255 a_this 6; rw [e264, e266]; first | assumption | omega, by first | omega | assumption | exact trivial | (clear nz267; omega), by first | omega | assumption | exact trivial | (clear nz267; omega), by first | omega | assumption | exact trivial | (clear nz267; omega), by first | omega | assumption | exact trivial | (clear nz267; omega), by exact Or.inl (by omega)⟩
        have hv279 : ((-2147483648 : Int) ≤ 0 ∧ (0 : Int) ≤ 2147483647) ∧ (0 ≤ (0 : Int)) ∧ ((0 : Int) ≤ 3001) ∧ (I a_this 5 + 3 ≤ I116 a_this 5) ∧ ((0 + 1 + dz63 + dz93 : Int) ≤ 5 * (I116 a_this 5 - I a_this 5) + 5) ∧ ((0 + 6 + dl64 + dl94 : Int) ≤ 75 * (I116 a_this 5 - I a_this 5) + 75) ∧ (I116 a_this 5 ≤ g_n) ∧ (I116 a_this 1 = I a_this 1) ∧ (R92 b40 3 = b70 + 1) ∧ (3 + 4 * (I116 b70 2 - I116 b40 4) ≤ I116 a_this 5 - I a_this 5) ∧ (0 ≤ 3001 - (0 : Int)) := by first | omega | exact ⟨by first | omega | assumption | exact trivial | (clear nz267; omega), by first | omega | assumption | exact trivial | (clear nz267; omega), by first | omega | assumption | exact trivial | (clear nz267; omega), by first | omega | assumption | exact trivial | (clear nz267; omega), by first | omega | assumption | exact trivial | (clear nz267; omega), by first | omega | assumption | exact trivial | (clear nz267; omega), by first | omega | assumption | exact trivial | (clear nz267; omega), by first | omega | assumption | exact trivial | (clear nz267; omega), by first | omega | assumption | exact trivial | (clear nz267; omega), by first | omega | assumption | exact trivial | (clear nz267; omega), by first | omega | assumption | exact trivial | (clear nz267; omega)⟩
        exact LL193 (Int.toNat (3001 - (0 : Int) + 1)) 0 L87 T88 N89 I116 J117 R92 (0 + 1 + dz63 + dz93) (0 + 6 + dl64 + dl94) _ _ ls hM hF (lv_sub hl [1, 2, 3, 4, 0] rfl) hv279.1 hv279.2.1 hv279.2.2.1 hv279.2.2.2.1 hv279.2.2.2.2.1 hv279.2.2.2.2.2.1 hv279.2.2.2.2.2.2.1 (by rw [e123, e125]; first | assumption | omega) hv279.2.2.2.2.2.2.2.1 t132 t137 hv279.2.2.2.2.2.2.2.2.1 hv279.2.2.2.2.2.2.2.2.2.1 (by exact hot) (by exact hnk) hv279.2.2.2.2.2.2.2.2.2.2 (by omega)
      · refine q_con B dX6_readKind_188 ?_
        have e280 : I116 g_k 2 = I60 g_k 2 + 1 := (hFc121.i t131 (by decide) nm0 rfl).trans hp85a_2_0
        refine g_zret B hM dX6_readKind_189 ⟨by show 0 + 1 + dz63 + dz93 ≤ (5 * (g_n - I a_this 5).toNat + 60); omega, by show 0 + 6 + dl64 + dl94 ≤ (75 * (g_n - I a_this 5).toNat + 700); omega⟩ (by omega) (by omega) ?_
        rw [← hPST]
        exact ⟨(0), rfl, by omega, hF, by omega, by omega, by first | omega | assumption | exact trivial | (clear nz267; omega), by show g_S (I116 a_this 5).toNat = I116 a_this 6; rw [e123, e125]; first | assumption | omega, by first | omega | assumption | exact trivial | (clear nz267; omega), by first | omega | assumption | exact trivial | (clear nz267; omega), by first | omega | assumption | exact trivial | (clear nz267; omega), by first | omega | assumption | exact trivial | (clear nz267; omega), by exact Or.inl (by omega)⟩
    refine q_ieq (tgt := 150) B dX6_readKind_32 (by decide) (by unfold inr; omega) (fun c281 => ?_) (fun c281 => ?_)
    · have e282 : I19 g_k 2 = x12 := (hFc24.i p_11 (by decide) nm0 rfl).trans hp11a_0
      have hv283 : ((-2147483648 : Int) ≤ -1 ∧ (-1 : Int) ≤ 2147483647) ∧ (I a_this 5 + 2 ≤ I19 a_this 5) ∧ ((-1 : Int) < x12) ∧ (0 ≤ x12) ∧ (x12 ≤ 15) ∧ (I19 g_k 2 = x12) ∧ (I19 a_this 5 ≤ g_n) ∧ (I19 a_this 1 = I a_this 1) := by first | omega | exact ⟨by first | omega | assumption | exact trivial | (clear nz267; omega), by first | omega | assumption | exact trivial | (clear nz267; omega), by first | omega | assumption | exact trivial | (clear nz267; omega), by first | omega | assumption | exact trivial | (clear nz267; omega), by first | omega | assumption | exact trivial | (clear nz267; omega), by first | omega | assumption | exact trivial | (clear nz267; omega), by first | omega | assumption | exact trivial | (clear nz267; omega), by first | omega | assumption | exact trivial | (clear nz267; omega)⟩
      exact JJ150 (-1) I19 J20 _ _ ls hM hF (lv_sub hl [1, 2, 0] rfl) hv283.1 hv283.2.1 hv283.2.2.1 hv283.2.2.2.1 hv283.2.2.2.2.1 hv283.2.2.2.2.2.1 (by exact hot) hv283.2.2.2.2.2.2.1 (by rw [e26, e28]; first | assumption | omega) hv283.2.2.2.2.2.2.2
    · have hx15 : x12 ≤ 15 ∧ 0 ≤ x12 := by omega
      have hfl1 : I19 a_this 1 = I a_this 1 := by omega
      have hat2 : I a_this 5 + 2 ≤ I19 a_this 5 := by omega
      refine lv_aload_n B.1 B.2.1 dX6_readKind_35 rfl (lv_at hl 2 rfl) ?_
      have hFt := hF
      have hMt := hM
      have hv284 : (TKz g_S g_n) ∧ (I19 a_this 5 ≤ g_n) := by first | omega | exact ⟨by first | omega | assumption | exact trivial | (clear nz267; omega), by first | omega | assumption | exact trivial | (clear nz267; omega)⟩
      refine z_callv hM hA (c_runV (n := 0) (as := []) (rest := []) B hX hA hM hl.1 t_this kd7 rfl (k_X6_advanceb l D dA eA L T N I19 J20 R a_this t_this g_t g_s g_S g_n (show R a_this 3 = g_t + 1 from p_0) (show T g_t = 3 from p_1) (show R g_t 0 = g_s + 1 from p_2) (show T g_s = 62 from p_3) (show I19 g_s = g_S from ((Fr.irow hF p_3 (by decide) nm0 (by decide)).trans p_4)) hv284.1 hv284.2 (show g_S (I19 a_this 5).toNat = I19 a_this 6 from by rw [e26, e28]; first | assumption | omega) _ _) ml_X6_87 nm_X6_advance ⟨rfl, rfl⟩ ⟨Nat.le_of_ble_eq_true rfl, Nat.le_of_ble_eq_true rfl⟩ dX6_readKind_36 rfl rfl (Nat.le_of_ble_eq_true rfl) ⟨by show 0 + 0 ≤ (5 * (g_n - I a_this 5).toNat + 60); omega, by show 0 + 0 ≤ (75 * (g_n - I a_this 5).toNat + 700); omega⟩) (fun L287 T288 N289 I290 J291 R292 dz293 dl294 H locs hp285 hMn => ?_)
      obtain ⟨yL287, yT288, yN289, yR292, hFc295, hp285a⟩ := hp285
      obtain rfl := yL287.symm; obtain rfl := yT288.symm; obtain rfl := yN289.symm; obtain rfl := yR292.symm
      replace hF : Fr mo_X6_readKindb [] T N I J R T N I290 J291 R := hF.trans hFc295 (by decide) e20
      have hM := hMn
      clear hMn
      replace hp285a : I290 a_this 5 ≤ g_n ∧ g_S (I290 a_this 5).toNat = I290 a_this 6 ∧ (((I19 a_this 6 = 0 ∨ I19 a_this 6 = 1) ∧ I290 a_this 5 = I19 a_this 5 ∧ I290 a_this 6 = I19 a_this 6) ∨ (I290 a_this 5 = I19 a_this 5 + 1)) := hp285a
      obtain ⟨hp285a_0, hp285a_1, hp285a_2⟩ := hp285a
      obtain ⟨x296, e297⟩ : ∃ v, I290 a_this 5 = v := ⟨_, rfl⟩
      obtain ⟨x298, e299⟩ : ∃ v, I290 a_this 6 = v := ⟨_, rfl⟩
      have nz300 : g_S (x296).toNat = x298 := by have h9 := hp285a_1; rw [e297, e299] at h9; exact h9
      replace hot : OT 19 T I I290 g_k := OT.step hot hFt (fun _ _ => nm0) hFc295 (by decide) (by decide) (fun b hb => nm0)
      clear hFt hMt
      refine lv_aload_n B.1 B.2.1 dX6_readKind_39 rfl (lv_at hl 2 rfl) ?_
      have r301 : (-2147483648 : Int) ≤ x298 ∧ x298 ≤ 2147483647 := by rw [← e299]; exact g7_6 hM.2.2.2.2.2.2.1 t_this
      refine c_geti (k := 6) pk_X6 B hM t_this kd7 rfl (by decide) fl_X6_47 dX6_readKind_40 e299 ?_
      refine q_con B dX6_readKind_43 ?_
      refine q_ceq (tgt := 53) B dX6_readKind_44 (by decide) (by unfold inr; omega) (by unfold inr; omega) (fun c302 => ?_) (fun c302 => ?_)
      · have hat5 : I a_this 5 + 2 ≤ I290 a_this 5 := by omega
        clear hp285a_2
        refine lv_aload_n B.1 B.2.1 dX6_readKind_53 rfl (lv_at hl 2 rfl) ?_
        obtain ⟨v303, e304⟩ : ∃ v, R a_this 4 = v := ⟨_, rfl⟩
        have q305 : v303 = 0 ∨ ∃ b, v303 = b + 1 ∧ T b = 6 := by rw [← e304]; exact g7_4 hC0 t_this
        refine c_getr (k := 4) pk_X6 B hM t_this kd7 rfl (by decide) fl_X6_15 dX6_readKind_54 e304 ?_
        have JJ85 : ∀ (s85_0 : Int) (H : Heap) (locs : List Loc) (ls : Array Slot), (CWd D dA eA (cF dA L T N I J R s.heap.size) s.heap L T N I290 J291 R H locs) → lv_has ls 5 [(2, .int (II (-1))), (1, .int (II x12)), (0, .ref a_this)] → ((-2147483648 : Int) ≤ s85_0 ∧ s85_0 ≤ 2147483647) → W p l e ({ frames := 10, cells := 5 * (g_n - I a_this 5).toNat + 60, slots := 75 * (g_n - I a_this 5).toNat + 700, locals := 308 }) s m args below meth c H locs 0 0 (MQ below (gQ D dA eA (cF dA L T N I J R s.heap.size) s.heap.size (hs s.heap) PST) args s (5 * (g_n - I a_this 5).toNat + 60) (75 * (g_n - I a_this 5).toNat + 700) (cF dA L T N I J R s.heap.size)) (F0 m 85 ls [.int (II s85_0)]) := by
          intro s85_0 H locs ls hM hl hJJ85_0
          refine lv_istore_n (lv' := [(3, .int (II s85_0)), (2, .int (II (-1))), (1, .int (II x12)), (0, .ref a_this)]) B.1 B.2.1 dX6_readKind_85 rfl hl (by decide) rfl (fun ls hl => ?_)
          have JJ112 : ∀ (s112_0 : Int) (H : Heap) (locs : List Loc) (ls : Array Slot), (CWd D dA eA (cF dA L T N I J R s.heap.size) s.heap L T N I290 J291 R H locs) → lv_has ls 5 [(3, .int (II s85_0)), (2, .int (II (-1))), (1, .int (II x12)), (0, .ref a_this)] → ((-2147483648 : Int) ≤ s112_0 ∧ s112_0 ≤ 2147483647) → (s112_0 = 0 ∨ (500 ≤ s85_0 ∧ s85_0 ≤ 599 ∧ s85_0 - 500 < x12)) → W p l e ({ frames := 10, cells := 5 * (g_n - I a_this 5).toNat + 60, slots := 75 * (g_n - I a_this 5).toNat + 700, locals := 308 }) s m args below meth c H locs 0 0 (MQ below (gQ D dA eA (cF dA L T N I J R s.heap.size) s.heap.size (hs s.heap) PST) args s (5 * (g_n - I a_this 5).toNat + 60) (75 * (g_n - I a_this 5).toNat + 700) (cF dA L T N I J R s.heap.size)) (F0 m 112 ls [.int (II s112_0)]) := by
            intro s112_0 H locs ls hM hl hJJ112_0 hJJ112_1
            refine lv_istore (lv' := [(4, .int (II s112_0)), (3, .int (II s85_0)), (2, .int (II (-1))), (1, .int (II x12)), (0, .ref a_this)]) B.1 B.2.1 dX6_readKind_112 hl (by decide) rfl (fun ls hl => ?_)
            have JJ132 : ∀  (H : Heap) (locs : List Loc) (ls : Array Slot), (CWd D dA eA (cF dA L T N I J R s.heap.size) s.heap L T N I290 J291 R H locs) → lv_has ls 5 [(4, .int (II s112_0)), (3, .int (II s85_0)), (2, .int (II (-1))), (1, .int (II x12)), (0, .ref a_this)] → W p l e ({ frames := 10, cells := 5 * (g_n - I a_this 5).toNat + 60, slots := 75 * (g_n - I a_this 5).toNat + 700, locals := 308 }) s m args below meth c H locs 0 0 (MQ below (gQ D dA eA (cF dA L T N I J R s.heap.size) s.heap.size (hs s.heap) PST) args s (5 * (g_n - I a_this 5).toNat + 60) (75 * (g_n - I a_this 5).toNat + 700) (cF dA L T N I J R s.heap.size)) (F0 m 132 ls []) := by
              intro  H locs ls hM hl 
              have JJ145 : ∀ (s145_0 : Int) (H : Heap) (locs : List Loc) (ls : Array Slot), (CWd D dA eA (cF dA L T N I J R s.heap.size) s.heap L T N I290 J291 R H locs) → lv_has ls 5 [(4, .int (II s112_0)), (3, .int (II s85_0)), (2, .int (II (-1))), (1, .int (II x12)), (0, .ref a_this)] → ((-2147483648 : Int) ≤ s145_0 ∧ s145_0 ≤ 2147483647) → (s145_0 < x12) → W p l e ({ frames := 10, cells := 5 * (g_n - I a_this 5).toNat + 60, slots := 75 * (g_n - I a_this 5).toNat + 700, locals := 308 }) s m args below meth c H locs 0 0 (MQ below (gQ D dA eA (cF dA L T N I J R s.heap.size) s.heap.size (hs s.heap) PST) args s (5 * (g_n - I a_this 5).toNat + 60) (75 * (g_n - I a_this 5).toNat + 700) (cF dA L T N I J R s.heap.size)) (F0 m 145 ls [.int (II s145_0)]) := by
                intro s145_0 H locs ls hM hl hJJ145_0 hJJ145_1
                refine lv_istore_n (lv' := [(2, .int (II s145_0)), (4, .int (II s112_0)), (3, .int (II s85_0)), (1, .int (II x12)), (0, .ref a_this)]) B.1 B.2.1 dX6_readKind_145 rfl hl (by decide) rfl (fun ls hl => ?_)
                refine lv_aload_n B.1 B.2.1 dX6_readKind_146 rfl (lv_at hl 4 rfl) ?_
                have hFt := hF
                have hMt := hM
                have hv306 : (TKz g_S g_n) ∧ (I290 a_this 5 ≤ g_n) := by first | omega | exact ⟨by first | omega | assumption | exact trivial | (clear nz300; omega), by first | omega | assumption | exact trivial | (clear nz300; omega)⟩
                refine z_callv hM hA (c_runV (n := 0) (as := []) (rest := []) B hX hA hM hl.1 t_this kd7 rfl (k_X6_advanceb l D dA eA L T N I290 J291 R a_this t_this g_t g_s g_S g_n (show R a_this 3 = g_t + 1 from p_0) (show T g_t = 3 from p_1) (show R g_t 0 = g_s + 1 from p_2) (show T g_s = 62 from p_3) (show I290 g_s = g_S from ((Fr.irow hF p_3 (by decide) nm0 (by decide)).trans p_4)) hv306.1 hv306.2 (show g_S (I290 a_this 5).toNat = I290 a_this 6 from by rw [e297, e299]; first | assumption | omega) _ _) ml_X6_87 nm_X6_advance ⟨rfl, rfl⟩ ⟨Nat.le_of_ble_eq_true rfl, Nat.le_of_ble_eq_true rfl⟩ dX6_readKind_147 rfl rfl (Nat.le_of_ble_eq_true rfl) ⟨by show 0 + 0 ≤ (5 * (g_n - I a_this 5).toNat + 60); omega, by show 0 + 0 ≤ (75 * (g_n - I a_this 5).toNat + 700); omega⟩) (fun L309 T310 N311 I312 J313 R314 dz315 dl316 H locs hp307 hMn => ?_)
                obtain ⟨yL309, yT310, yN311, yR314, hFc317, hp307a⟩ := hp307
                obtain rfl := yL309.symm; obtain rfl := yT310.symm; obtain rfl := yN311.symm; obtain rfl := yR314.symm
                replace hF : Fr mo_X6_readKindb [] T N I J R T N I312 J313 R := hF.trans hFc317 (by decide) e20
                have hM := hMn
                clear hMn
                replace hp307a : I312 a_this 5 ≤ g_n ∧ g_S (I312 a_this 5).toNat = I312 a_this 6 ∧ (((I290 a_this 6 = 0 ∨ I290 a_this 6 = 1) ∧ I312 a_this 5 = I290 a_this 5 ∧ I312 a_this 6 = I290 a_this 6) ∨ (I312 a_this 5 = I290 a_this 5 + 1)) := hp307a
                obtain ⟨hp307a_0, hp307a_1, hp307a_2⟩ := hp307a
                obtain ⟨x318, e319⟩ : ∃ v, I312 a_this 5 = v := ⟨_, rfl⟩
                obtain ⟨x320, e321⟩ : ∃ v, I312 a_this 6 = v := ⟨_, rfl⟩
                have nz322 : g_S (x318).toNat = x320 := by have h9 := hp307a_1; rw [e319, e321] at h9; exact h9
                replace hot : OT 19 T I I312 g_k := OT.step hot hFt (fun _ _ => nm0) hFc317 (by decide) (by decide) (fun b hb => nm0)
                clear hFt hMt
                have e323 : I19 g_k 2 = x12 := (hFc24.i p_11 (by decide) nm0 rfl).trans hp11a_0
                have e324 : I290 g_k 2 = x12 := (hFc295.i p_11 (by decide) nm0 rfl).trans e323
                have e325 : I312 g_k 2 = x12 := (hFc317.i p_11 (by decide) nm0 rfl).trans e324
                have e326 : I290 a_this 1 = x30 := (hFc295.i t_this (by decide) nm0 rfl).trans e31
                have e327 : I312 a_this 1 = x30 := (hFc317.i t_this (by decide) nm0 rfl).trans e326
                have hv328 : ((-2147483648 : Int) ≤ s145_0 ∧ (s145_0 : Int) ≤ 2147483647) ∧ (I a_this 5 + 2 ≤ I312 a_this 5) ∧ (s145_0 < x12) ∧ (0 ≤ x12) ∧ (x12 ≤ 15) ∧ (I312 g_k 2 = x12) ∧ (I312 a_this 5 ≤ g_n) ∧ (I312 a_this 1 = I a_this 1) := by first | omega | exact ⟨by first | omega | assumption | exact trivial | (clear nz322; omega), by first | omega | assumption | exact trivial | (clear nz322; omega), by first | omega | assumption | exact trivial | (clear nz322; omega), by first | omega | assumption | exact trivial | (clear nz322; omega), by first | omega | assumption | exact trivial | (clear nz322; omega), by first | omega | assumption | exact trivial | (clear nz322; omega), by first | omega | assumption | exact trivial | (clear nz322; omega), by first | omega | assumption | exact trivial | (clear nz322; omega)⟩
                exact JJ150 s145_0 I312 J313 _ _ ls hM hF (lv_sub hl [3, 4, 0] rfl) hv328.1 hv328.2.1 hv328.2.2.1 hv328.2.2.2.1 hv328.2.2.2.2.1 hv328.2.2.2.2.2.1 (by exact hot) hv328.2.2.2.2.2.2.1 (by rw [e319, e321]; first | assumption | omega) hv328.2.2.2.2.2.2.2
              refine lv_iload B.1 B.2.1 dX6_readKind_132 (lv_at hl 0 rfl) ?_
              refine q_ieq (tgt := 144) B dX6_readKind_134 (by decide) (by unfold inr; omega) (fun c329 => ?_) (fun c329 => ?_)
              · refine q_con B dX6_readKind_144 ?_
                have hv330 : ((-2147483648 : Int) ≤ -1 ∧ (-1 : Int) ≤ 2147483647) ∧ ((-1 : Int) < x12) := by first | omega | exact ⟨by first | omega | assumption | exact trivial | (clear nz322; omega), by first | omega | assumption | exact trivial | (clear nz322; omega)⟩
                exact JJ145 (-1) _ _ ls hM (lv_sub hl [0, 1, 2, 3, 4] rfl) hv330.1 hv330.2
              · refine lv_iload_n B.1 B.2.1 dX6_readKind_137 rfl (lv_at hl 1 rfl) ?_
                refine q_bip B dX6_readKind_138 (by decide) ?_
                refine q_remF B dX6_readKind_140 (by unfold inr; omega) (by unfold inr; omega) (by omega) (fun x331 ix331 px331 nx331 => ?_)
                unfold inr at ix331
                refine lv_goto (tgt := 145) B.1 B.2.1 dX6_readKind_141 (by decide) ?_
                have hv332 : ((-2147483648 : Int) ≤ x331 ∧ (x331 : Int) ≤ 2147483647) ∧ (x331 < x12) := by first | omega | exact ⟨by first | omega | assumption | exact trivial | (clear nz322; omega), by first | omega | assumption | exact trivial | (clear nz322; omega)⟩
                exact JJ145 x331 _ _ ls hM (lv_sub hl [0, 1, 2, 3, 4] rfl) hv332.1 hv332.2
            refine lv_iload B.1 B.2.1 dX6_readKind_114 (lv_at hl 0 rfl) ?_
            refine q_ine (tgt := 132) B dX6_readKind_116 (by decide) (by unfold inr; omega) (fun c333 => ?_) (fun c333 => ?_)
            · exact JJ132  _ _ ls hM (lv_sub hl [0, 1, 2, 3, 4] rfl)
            · refine lv_aload_n B.1 B.2.1 dX6_readKind_119 rfl (lv_at hl 4 rfl) ?_
              refine c_getr (k := 4) pk_X6 B hM t_this kd7 rfl (by decide) fl_X6_15 dX6_readKind_120 e304 ?_
              rcases q305 with rfl | ⟨b334, rfl, t335⟩
              · have hl : lv_has ls 5 [(4, .int (II s112_0)), (3, .int (II s85_0)), (2, .int (II (-1))), (1, .int (II x12)), (0, .ref a_this)] := hl
                refine lv_ifnullN (tgt := 132) B.1 B.2.1 dX6_readKind_123 (by decide) ?_
                exact JJ132  _ _ ls hM (lv_sub hl [0, 1, 2, 3, 4] rfl) 
              · have hl : lv_has ls 5 [(4, .int (II s112_0)), (3, .int (II s85_0)), (2, .int (II (-1))), (1, .int (II x12)), (0, .ref a_this)] := hl
                refine lv_ifnull B.1 B.2.1 dX6_readKind_123 ?_
                refine lv_aload_n B.1 B.2.1 dX6_readKind_126 rfl (lv_at hl 4 rfl) ?_
                refine q_con B dX6_readKind_127 ?_
                have hFt := hF
                have hMt := hM
                have hv336 : ((-2147483648 : Int) ≤ 5 ∧ (5 : Int) ≤ 2147483647) ∧ ((5 : Int) ≠ 0) := by first | omega | exact ⟨by first | omega | assumption | exact trivial | (clear nz322; omega), by first | omega | assumption | exact trivial | (clear nz322; omega)⟩
                refine z_calli hM hA (c_runV (n := 1) (as := [.int (II 5)]) (rest := []) B hX hA hM hl.1 t_this kd7 rfl (k_X6_wrong l D dA eA L T N I290 J291 R a_this t_this (5) hv336.1 hv336.2 _ _) ml_X6_84 nm_X6_wrong ⟨rfl, rfl⟩ ⟨Nat.le_of_ble_eq_true rfl, Nat.le_of_ble_eq_true rfl⟩ dX6_readKind_128 rfl rfl (Nat.le_of_ble_eq_true rfl) ⟨by show 0 + 0 ≤ (5 * (g_n - I a_this 5).toNat + 60); omega, by show 0 + 0 ≤ (75 * (g_n - I a_this 5).toNat + 700); omega⟩) (fun x338 ix338 L339 T340 N341 I342 J343 R344 dz345 dl346 H locs hp337 hMn => ?_)
                obtain ⟨yL339, yT340, yN341, yJ343, yR344, hFc347, hp337a⟩ := hp337
                obtain rfl := yL339.symm; obtain rfl := yT340.symm; obtain rfl := yN341.symm; obtain rfl := yJ343.symm; obtain rfl := yR344.symm
                replace hF : Fr mo_X6_readKindb [] T N I J R T N I342 J291 R := hF.trans hFc347 (by decide) e20
                have hM := hMn
                clear hMn
                replace hp337a : (0 : Int) ≤ x338 ∧ x338 ≤ 1 ∧ (x338 = 0 ∧ I342 a_this 1 ≠ 0) := hp337a
                obtain ⟨hp337a_0, hp337a_1, hp337a_2⟩ := hp337a
                obtain ⟨hp337a_2_0, hp337a_2_1⟩ := hp337a_2
                have e348 : I290 a_this 1 = x30 := (hFc295.i t_this (by decide) nm0 rfl).trans e31
                obtain ⟨x349, e350⟩ : ∃ v, I342 a_this 1 = v := ⟨_, rfl⟩
                replace hot : OT 19 T I I342 g_k := OT.step hot hFt (fun _ _ => nm0) hFc347 (by decide) (by decide) (fun b hb => nm0)
                clear hFt hMt
                have e351 : I342 a_this 5 = x296 := (hFc347.i t_this (by decide) nm0 rfl).trans e297
                have e352 : I342 a_this 6 = x298 := (hFc347.i t_this (by decide) nm0 rfl).trans e299
                have e353 : I19 g_k 2 = x12 := (hFc24.i p_11 (by decide) nm0 rfl).trans hp11a_0
                have e354 : I290 g_k 2 = x12 := (hFc295.i p_11 (by decide) nm0 rfl).trans e353
                have e355 : I342 g_k 2 = x12 := (hFc347.i p_11 (by decide) nm0 rfl).trans e354
                refine g_zret B hM dX6_readKind_131 ⟨by show 0 ≤ (5 * (g_n - I a_this 5).toNat + 60); omega, by show 0 ≤ (75 * (g_n - I a_this 5).toNat + 700); omega⟩ (by omega) (by omega) ?_
                rw [← hPST]
                exact ⟨x338, rfl, by omega, hF, by omega, by omega, by first | omega | assumption | exact trivial | (clear nz322; omega), by show g_S (I342 a_this 5).toNat = I342 a_this 6; rw [e351, e352]; first | assumption | omega, by first | omega | assumption | exact trivial | (clear nz322; omega), by first | omega | assumption | exact trivial | (clear nz322; omega), by first | omega | assumption | exact trivial | (clear nz322; omega), by first | omega | assumption | exact trivial | (clear nz322; omega), by exact Or.inl (by omega)⟩
          refine lv_iload_n B.1 B.2.1 dX6_readKind_86 rfl (lv_at hl 0 rfl) ?_
          refine q_con B dX6_readKind_87 ?_
          refine q_ceq (tgt := 111) B dX6_readKind_88 (by decide) (by unfold inr; omega) (by unfold inr; omega) (fun c356 => ?_) (fun c356 => ?_)
          · refine q_con B dX6_readKind_111 ?_
            have hv357 : ((-2147483648 : Int) ≤ 0 ∧ (0 : Int) ≤ 2147483647) ∧ ((0 : Int) = 0 ∨ (500 ≤ s85_0 ∧ s85_0 ≤ 599 ∧ s85_0 - 500 < x12)) := by first | omega | exact ⟨by first | omega | assumption | exact trivial | (clear nz322; omega), by first | omega | assumption | exact trivial | (clear nz322; omega)⟩
            exact JJ112 0 _ _ ls hM (lv_sub hl [0, 1, 2, 3] rfl) hv357.1 hv357.2
          · refine lv_iload_n B.1 B.2.1 dX6_readKind_91 rfl (lv_at hl 0 rfl) ?_
            refine q_bip B dX6_readKind_92 (by decide) ?_
            refine q_divE B dX6_readKind_94 (by unfold inr; omega) (by unfold inr; omega) (by omega) (fun x358 ix358 px358 nx358 => ?_)
            unfold inr at ix358
            refine q_con B dX6_readKind_95 ?_
            refine q_cne (tgt := 111) B dX6_readKind_96 (by decide) (by unfold inr; omega) (by unfold inr; omega) (fun c359 => ?_) (fun c359 => ?_)
            · refine q_con B dX6_readKind_111 ?_
              have hv360 : ((-2147483648 : Int) ≤ 0 ∧ (0 : Int) ≤ 2147483647) ∧ ((0 : Int) = 0 ∨ (500 ≤ s85_0 ∧ s85_0 ≤ 599 ∧ s85_0 - 500 < x12)) := by first | omega | exact ⟨by first | omega | assumption | exact trivial | (clear nz322; omega), by first | omega | assumption | exact trivial | (clear nz322; omega)⟩
              exact JJ112 0 _ _ ls hM (lv_sub hl [0, 1, 2, 3] rfl) hv360.1 hv360.2
            · refine lv_iload_n B.1 B.2.1 dX6_readKind_99 rfl (lv_at hl 0 rfl) ?_
              refine q_bip B dX6_readKind_100 (by decide) ?_
              refine q_remF B dX6_readKind_102 (by unfold inr; omega) (by unfold inr; omega) (by omega) (fun x361 ix361 px361 nx361 => ?_)
              unfold inr at ix361
              refine lv_iload_n B.1 B.2.1 dX6_readKind_103 rfl (lv_at hl 2 rfl) ?_
              refine q_cge (tgt := 111) B dX6_readKind_104 (by decide) (by unfold inr; omega) (by unfold inr; omega) (fun c362 => ?_) (fun c362 => ?_)
              · refine q_con B dX6_readKind_111 ?_
                have hv363 : ((-2147483648 : Int) ≤ 0 ∧ (0 : Int) ≤ 2147483647) ∧ ((0 : Int) = 0 ∨ (500 ≤ s85_0 ∧ s85_0 ≤ 599 ∧ s85_0 - 500 < x12)) := by first | omega | exact ⟨by first | omega | assumption | exact trivial | (clear nz322; omega), by first | omega | assumption | exact trivial | (clear nz322; omega)⟩
                exact JJ112 0 _ _ ls hM (lv_sub hl [0, 1, 2, 3] rfl) hv363.1 hv363.2
              · refine q_con B dX6_readKind_107 ?_
                refine lv_goto (tgt := 112) B.1 B.2.1 dX6_readKind_108 (by decide) ?_
                have hv364 : ((-2147483648 : Int) ≤ 1 ∧ (1 : Int) ≤ 2147483647) ∧ ((1 : Int) = 0 ∨ (500 ≤ s85_0 ∧ s85_0 ≤ 599 ∧ s85_0 - 500 < x12)) := by first | omega | exact ⟨by first | omega | assumption | exact trivial | (clear nz322; omega), by first | omega | assumption | exact trivial | (clear nz322; omega)⟩
                exact JJ112 1 _ _ ls hM (lv_sub hl [0, 1, 2, 3] rfl) hv364.1 hv364.2
        rcases q305 with rfl | ⟨b365, rfl, t366⟩
        · have hl : lv_has ls 5 [(2, .int (II (-1))), (1, .int (II x12)), (0, .ref a_this)] := hl
          refine lv_ifnonnullN B.1 B.2.1 dX6_readKind_57 ?_
          refine lv_aload_n B.1 B.2.1 dX6_readKind_60 rfl (lv_at hl 2 rfl) ?_
          refine c_getn (k := 0) pk_X6 B hM t_this kd7 rfl (by decide) fl_X6_22 dX6_readKind_61 p_8 ?_
          refine lv_aload_n B.1 B.2.1 dX6_readKind_64 rfl (lv_at hl 2 rfl) ?_
          obtain ⟨w367, e368⟩ : ∃ v, J291 a_this 7 = v := ⟨_, rfl⟩
          refine c_getl (k := 7) pk_X6 B hM t_this kd7 rfl (by decide) fl_X6_54 dX6_readKind_65 e368 ?_
          have hFt := hF
          have hMt := hM
          refine p_calli (c_runV (n := 1) (as := [.long w367]) (rest := []) B hX hA hM hl.1 p_9 kd6 rfl (k_X0_find l D dA eA L T N I290 J291 R g_b p_9 w367 _ _) ml_X6_94 nm_X0_find ⟨rfl, rfl⟩ ⟨Nat.le_of_ble_eq_true rfl, Nat.le_of_ble_eq_true rfl⟩ dX6_readKind_68 rfl rfl (Nat.le_of_ble_eq_true rfl) ⟨by show 0 + 0 ≤ (5 * (g_n - I a_this 5).toNat + 60); omega, by show 0 + 0 ≤ (75 * (g_n - I a_this 5).toNat + 700); omega⟩) (fun x370 ix370 hp369 => ?_)
          have hp369a := hp369
          clear hp369a
          clear hFt hMt
          refine lv_goto (tgt := 85) B.1 B.2.1 dX6_readKind_71 (by decide) ?_
          exact JJ85 x370 _ _ ls hM (lv_sub hl [0, 1, 2] rfl) (by first | omega | assumption | exact trivial | (clear nz322; omega))
        · have hl : lv_has ls 5 [(2, .int (II (-1))), (1, .int (II x12)), (0, .ref a_this)] := hl
          refine lv_ifnonnull (tgt := 74) B.1 B.2.1 dX6_readKind_57 (by decide) ?_
          refine lv_aload_n B.1 B.2.1 dX6_readKind_74 rfl (lv_at hl 2 rfl) ?_
          refine c_getn (k := 4) pk_X6 B hM t_this kd7 rfl (by decide) fl_X6_15 dX6_readKind_75 e304 ?_
          refine lv_aload_n B.1 B.2.1 dX6_readKind_78 rfl (lv_at hl 2 rfl) ?_
          obtain ⟨w371, e372⟩ : ∃ v, J291 a_this 7 = v := ⟨_, rfl⟩
          refine c_getl (k := 7) pk_X6 B hM t_this kd7 rfl (by decide) fl_X6_54 dX6_readKind_79 e372 ?_
          have hFt := hF
          have hMt := hM
          refine p_calli (c_runV (n := 1) (as := [.long w371]) (rest := []) B hX hA hM hl.1 t366 kd6 rfl (k_X0_find l D dA eA L T N I290 J291 R b365 t366 w371 _ _) ml_X6_94 nm_X0_find ⟨rfl, rfl⟩ ⟨Nat.le_of_ble_eq_true rfl, Nat.le_of_ble_eq_true rfl⟩ dX6_readKind_82 rfl rfl (Nat.le_of_ble_eq_true rfl) ⟨by show 0 + 0 ≤ (5 * (g_n - I a_this 5).toNat + 60); omega, by show 0 + 0 ≤ (75 * (g_n - I a_this 5).toNat + 700); omega⟩) (fun x374 ix374 hp373 => ?_)
          have hp373a := hp373
          clear hp373a
          clear hFt hMt
          exact JJ85 x374 _ _ ls hM (lv_sub hl [0, 1, 2] rfl) (by first | omega | assumption | exact trivial | (clear nz322; omega))
      · refine lv_aload_n B.1 B.2.1 dX6_readKind_47 rfl (lv_at hl 2 rfl) ?_
        refine q_con B dX6_readKind_48 ?_
        have hFt := hF
        have hMt := hM
        have hv375 : ((-2147483648 : Int) ≤ 2 ∧ (2 : Int) ≤ 2147483647) ∧ ((2 : Int) ≠ 0) := by first | omega | exact ⟨by first | omega | assumption | exact trivial | (clear nz322; omega), by first | omega | assumption | exact trivial | (clear nz322; omega)⟩
        refine z_calli hM hA (c_runV (n := 1) (as := [.int (II 2)]) (rest := []) B hX hA hM hl.1 t_this kd7 rfl (k_X6_wrong l D dA eA L T N I290 J291 R a_this t_this (2) hv375.1 hv375.2 _ _) ml_X6_84 nm_X6_wrong ⟨rfl, rfl⟩ ⟨Nat.le_of_ble_eq_true rfl, Nat.le_of_ble_eq_true rfl⟩ dX6_readKind_49 rfl rfl (Nat.le_of_ble_eq_true rfl) ⟨by show 0 + 0 ≤ (5 * (g_n - I a_this 5).toNat + 60); omega, by show 0 + 0 ≤ (75 * (g_n - I a_this 5).toNat + 700); omega⟩) (fun x377 ix377 L378 T379 N380 I381 J382 R383 dz384 dl385 H locs hp376 hMn => ?_)
        obtain ⟨yL378, yT379, yN380, yJ382, yR383, hFc386, hp376a⟩ := hp376
        obtain rfl := yL378.symm; obtain rfl := yT379.symm; obtain rfl := yN380.symm; obtain rfl := yJ382.symm; obtain rfl := yR383.symm
        replace hF : Fr mo_X6_readKindb [] T N I J R T N I381 J291 R := hF.trans hFc386 (by decide) e20
        have hM := hMn
        clear hMn
        replace hp376a : (0 : Int) ≤ x377 ∧ x377 ≤ 1 ∧ (x377 = 0 ∧ I381 a_this 1 ≠ 0) := hp376a
        obtain ⟨hp376a_0, hp376a_1, hp376a_2⟩ := hp376a
        obtain ⟨hp376a_2_0, hp376a_2_1⟩ := hp376a_2
        have e387 : I290 a_this 1 = x30 := (hFc295.i t_this (by decide) nm0 rfl).trans e31
        obtain ⟨x388, e389⟩ : ∃ v, I381 a_this 1 = v := ⟨_, rfl⟩
        replace hot : OT 19 T I I381 g_k := OT.step hot hFt (fun _ _ => nm0) hFc386 (by decide) (by decide) (fun b hb => nm0)
        clear hFt hMt
        have e390 : I381 a_this 5 = x296 := (hFc386.i t_this (by decide) nm0 rfl).trans e297
        have e391 : I381 a_this 6 = x298 := (hFc386.i t_this (by decide) nm0 rfl).trans e299
        have e392 : I19 g_k 2 = x12 := (hFc24.i p_11 (by decide) nm0 rfl).trans hp11a_0
        have e393 : I290 g_k 2 = x12 := (hFc295.i p_11 (by decide) nm0 rfl).trans e392
        have e394 : I381 g_k 2 = x12 := (hFc386.i p_11 (by decide) nm0 rfl).trans e393
        refine g_zret B hM dX6_readKind_52 ⟨by show 0 ≤ (5 * (g_n - I a_this 5).toNat + 60); omega, by show 0 ≤ (75 * (g_n - I a_this 5).toNat + 700); omega⟩ (by omega) (by omega) ?_
        rw [← hPST]
        exact ⟨x377, rfl, by omega, hF, by omega, by omega, by first | omega | assumption | exact trivial | (clear nz322; omega), by show g_S (I381 a_this 5).toNat = I381 a_this 6; rw [e390, e391]; first | assumption | omega, by first | omega | assumption | exact trivial | (clear nz322; omega), by first | omega | assumption | exact trivial | (clear nz322; omega), by first | omega | assumption | exact trivial | (clear nz322; omega), by first | omega | assumption | exact trivial | (clear nz322; omega), by exact Or.inl (by omega)⟩
  · refine q_con B dX6_readKind_22 ?_
    have e395 : I19 g_k 2 = x12 := (hFc24.i p_11 (by decide) nm0 rfl).trans hp11a_0
    refine g_zret B hM dX6_readKind_23 ⟨by show 0 ≤ (5 * (g_n - I a_this 5).toNat + 60); omega, by show 0 ≤ (75 * (g_n - I a_this 5).toNat + 700); omega⟩ (by omega) (by omega) ?_
    rw [← hPST]
    exact ⟨(0), rfl, by omega, hF, by omega, by omega, by first | omega | assumption | exact trivial | (clear nz322; omega), by show g_S (I19 a_this 5).toNat = I19 a_this 6; rw [e26, e28]; first | assumption | omega, by first | omega | assumption | exact trivial | (clear nz322; omega), by first | omega | assumption | exact trivial | (clear nz322; omega), by first | omega | assumption | exact trivial | (clear nz322; omega), by first | omega | assumption | exact trivial | (clear nz322; omega), by exact Or.inl (by omega)⟩
