set_option maxHeartbeats 1000000 in
set_option maxRecDepth 20000 in
theorem k_X11_way (l : Launch) (D : va_G) (dA : Nat → ClassId) (eA : Nat) (L : List Nat) (T N : Nat → Nat) (I : Nat → Nat → Int) (J : Nat → Nat → Int64) (R : Nat → Nat → Nat) (a_this : Nat) (t_this : T a_this = 2) (a_k : Int) (i_k : (-2147483648 : Int) ≤ a_k ∧ a_k ≤ 2147483647) (a_i : Int) (i_i : (-2147483648 : Int) ≤ a_i ∧ a_i ≤ 2147483647) (g_c : Nat) (p_0 : R a_this 3 = g_c + 1) (p_1 : T g_c = 5) (p_2 : FUp I R g_c) : PC l yX11_way cX11_way 4 (some .int) ({ frames := 4, cells := 0, slots := 0, locals := 102 }) D dA eA L T N I J R [.ref a_this, .int (II a_k), .int (II a_i)] (rI (fun r => True)) := by
  generalize hPST : (rI (fun r => True)) = PST
  refine p_enter (own := RX11) (by decide) rfl (Nat.le_of_ble_eq_true rfl) (fun p e s m args below meth c ls B hX hM hl => ?_)
  have hA : ∀ q, s.heap.size ≤ q → cF dA L T N I J R s.heap.size q := fun q h => Or.inr h
  have hl : lv_has ls 4 [(0, .ref a_this), (1, .int (II a_k)), (2, .int (II a_i))] := hl
  refine lv_aload_n B.1 B.2.1 dX11_way_0 rfl (lv_at hl 0 rfl) ?_
  refine c_getn (k := 3) pk_X11 B hM t_this kd2 rfl (by decide) fl_X11_39 dX11_way_1 p_0 ?_
  refine lv_iload_n B.1 B.2.1 dX11_way_4 rfl (lv_at hl 1 rfl) ?_
  have hv1 : ((-2147483648 : Int) ≤ a_k ∧ (a_k : Int) ≤ 2147483647) ∧ (FUp I R g_c) := by first | omega | exact ⟨by first | omega | assumption | exact trivial, by first | omega | assumption | exact trivial⟩
  refine p_callq (c_runV (n := 1) (as := [.int (II a_k)]) (rest := []) B hX hA hM hl.1 p_1 kd5 rfl (k_X1_foundAt l D dA eA L T N I J R g_c p_1 a_k hv1.1 hv1.2 _ _) ml_X11_206 nm_X1_foundAt ⟨rfl, rfl⟩ ⟨Nat.le_of_ble_eq_true rfl, Nat.le_of_ble_eq_true rfl⟩ dX11_way_5 rfl rfl (Nat.le_of_ble_eq_true rfl) ⟨Nat.zero_le _, Nat.zero_le _⟩) (fun v3 hp2 => ?_)
  obtain ⟨qv3, hp2a⟩ := hp2
  replace hp2a : v3 = 0 ∨ R (v3 - 1) 0 ≠ 0 := hp2a
  refine c_astore_n (lv' := [(3, cv v3), (0, .ref a_this), (1, .int (II a_k)), (2, .int (II a_i))]) B dX11_way_8 rfl hl (by decide) (by first | rfl | simp [cv_cat]) (fun ls hl => ?_)
  refine c_aload_n B dX11_way_9 rfl (lv_at hl 0 rfl) ?_
  rcases qv3 with rfl | ⟨b4, rfl, t5⟩
  · have hl : lv_has ls 4 [(3, .null), (0, .ref a_this), (1, .int (II a_k)), (2, .int (II a_i))] := hl
    refine lv_ifnonnullN B.1 B.2.1 dX11_way_10 ?_
    refine q_con B dX11_way_13 ?_
    refine lv_goto (tgt := 26) B.1 B.2.1 dX11_way_14 (by decide) ?_
    refine p_iret B dX11_way_26 ?_
    rw [← hPST]
    exact ⟨(-1), rfl, by omega, by first | omega | assumption | exact trivial⟩
  · have hl : lv_has ls 4 [(3, .ref b4), (0, .ref a_this), (1, .int (II a_k)), (2, .int (II a_i))] := hl
    refine lv_ifnonnull (tgt := 17) B.1 B.2.1 dX11_way_10 (by decide) ?_
    refine lv_aload_n B.1 B.2.1 dX11_way_17 rfl (lv_at hl 1 rfl) ?_
    refine c_getn (k := 3) pk_X11 B hM t_this kd2 rfl (by decide) fl_X11_39 dX11_way_18 p_0 ?_
    refine lv_aload_n B.1 B.2.1 dX11_way_21 rfl (lv_at hl 0 rfl) ?_
    refine lv_iload_n B.1 B.2.1 dX11_way_22 rfl (lv_at hl 3 rfl) ?_
    refine p_calli (c_runV (n := 2) (as := [.ref b4, .int (II a_i)]) (rest := []) B hX hA hM hl.1 p_1 kd5 rfl (k_X1_wayStep l D dA eA L T N I J R g_c p_1 b4 t5 a_i (by first | omega | assumption | exact trivial) _ _) ml_X11_250 nm_X1_wayStep ⟨rfl, rfl⟩ ⟨Nat.le_of_ble_eq_true rfl, Nat.le_of_ble_eq_true rfl⟩ dX11_way_23 rfl rfl (Nat.le_of_ble_eq_true rfl) ⟨Nat.zero_le _, Nat.zero_le _⟩) (fun x7 ix7 hp6 => ?_)
    have hp6a := hp6
    clear hp6a
    refine p_iret B dX11_way_26 ?_
    rw [← hPST]
    exact ⟨x7, rfl, by omega, by first | omega | assumption | exact trivial⟩

set_option maxHeartbeats 1000000 in
set_option maxRecDepth 20000 in
theorem k_X11_failed (l : Launch) (D : va_G) (dA : Nat → ClassId) (eA : Nat) (L : List Nat) (T N : Nat → Nat) (I : Nat → Nat → Int) (J : Nat → Nat → Int64) (R : Nat → Nat → Nat) (a_this : Nat) (t_this : T a_this = 2) (a_k : Int) (i_k : (-2147483648 : Int) ≤ a_k ∧ a_k ≤ 2147483647) (a_w : Int) (i_w : (-2147483648 : Int) ≤ a_w ∧ a_w ≤ 2147483647) : PC l yX11_failed cX11_failed 3 (some .int) ({ frames := 3, cells := 0, slots := 0, locals := 81 }) D dA eA L T N I J R [.ref a_this, .int (II a_k), .int (II a_w)] (rI (fun r => True)) := by
  generalize hPST : (rI (fun r => True)) = PST
  refine p_enter (own := RX11) (by decide) rfl (Nat.le_of_ble_eq_true rfl) (fun p e s m args below meth c ls B hX hM hl => ?_)
  have hA : ∀ q, s.heap.size ≤ q → cF dA L T N I J R s.heap.size q := fun q h => Or.inr h
  have hl : lv_has ls 3 [(0, .ref a_this), (1, .int (II a_k)), (2, .int (II a_w))] := hl
  refine lv_iload_n B.1 B.2.1 dX11_failed_0 rfl (lv_at hl 1 rfl) ?_
  refine q_ilt (tgt := 18) B dX11_failed_1 (by decide) (by unfold inr; omega) (fun c1 => ?_) (fun c1 => ?_)
  · refine q_con B dX11_failed_18 ?_
    refine p_iret B dX11_failed_19 ?_
    rw [← hPST]
    exact ⟨(-1), rfl, by omega, by first | omega | assumption | exact trivial⟩
  · refine lv_iload_n B.1 B.2.1 dX11_failed_4 rfl (lv_at hl 1 rfl) ?_
    refine lv_aload_n B.1 B.2.1 dX11_failed_5 rfl (lv_at hl 0 rfl) ?_
    obtain ⟨b2, e3, t4⟩ := g2_6 hM.2.2.2.2.2.2.1 t_this
    refine c_getn (k := 6) pk_X11 B hM t_this kd2 rfl (by decide) fl_X11_53 dX11_failed_6 e3 ?_
    obtain ⟨b5, e6, t7⟩ := g6_1 hM.2.2.2.2.2.2.1 t4
    refine c_getn (k := 1) pk_X0 B hM t4 kd6 rfl (by decide) fl_X11_272 dX11_failed_9 e6 ?_
    have hv8 : (15 ≤ 16) ∧ (16 ≤ 23) := by first | omega | exact ⟨by first | omega | assumption | exact trivial, by first | omega | assumption | exact trivial⟩
    refine p_calli (c_runV (n := 0) (as := []) (rest := [.int (II a_k)]) B hX hA hM hl.1 t7 kd16 rfl (k_Jx4a65c_size_8abf5 l D dA eA L T N I J R b5 t7 hv8.1 hv8.2 _ _) ml_X11_112 nm_Jx4a65c_size_8abf5 ⟨rfl, rfl⟩ ⟨Nat.le_of_ble_eq_true rfl, Nat.le_of_ble_eq_true rfl⟩ dX11_failed_12 rfl rfl (Nat.le_of_ble_eq_true rfl) ⟨Nat.zero_le _, Nat.zero_le _⟩) (fun x10 ix10 hp9 => ?_)
    have hp9a := hp9
    replace hp9a : I b5 2 = x10 ∧ 0 ≤ x10 ∧ x10 ≤ 16 := hp9a
    obtain ⟨hp9a_0, hp9a_1, hp9a_2⟩ := hp9a
    refine q_clt (tgt := 20) B dX11_failed_15 (by decide) (by unfold inr; omega) (by unfold inr; omega) (fun c11 => ?_) (fun c11 => ?_)
    · refine lv_iload_n B.1 B.2.1 dX11_failed_20 rfl (lv_at hl 2 rfl) ?_
      refine q_ine (tgt := 42) B dX11_failed_21 (by decide) (by unfold inr; omega) (fun c12 => ?_) (fun c12 => ?_)
      · refine lv_iload_n B.1 B.2.1 dX11_failed_42 rfl (lv_at hl 2 rfl) ?_
        refine q_con B dX11_failed_43 ?_
        refine q_cne (tgt := 67) B dX11_failed_44 (by decide) (by unfold inr; omega) (by unfold inr; omega) (fun c13 => ?_) (fun c13 => ?_)
        · refine q_con B dX11_failed_67 ?_
          refine p_iret B dX11_failed_68 ?_
          rw [← hPST]
          exact ⟨(-1), rfl, by omega, by first | omega | assumption | exact trivial⟩
        · refine lv_aload_n B.1 B.2.1 dX11_failed_47 rfl (lv_at hl 0 rfl) ?_
          refine c_getn (k := 6) pk_X11 B hM t_this kd2 rfl (by decide) fl_X11_53 dX11_failed_48 e3 ?_
          refine c_getn (k := 1) pk_X0 B hM t4 kd6 rfl (by decide) fl_X11_272 dX11_failed_51 e6 ?_
          refine lv_iload_n B.1 B.2.1 dX11_failed_54 rfl (lv_at hl 1 rfl) ?_
          have hv14 : ((-2147483648 : Int) ≤ a_k ∧ (a_k : Int) ≤ 2147483647) ∧ (15 ≤ 16) ∧ (16 ≤ 23) ∧ (0 ≤ a_k) ∧ (a_k < I b5 2) := by first | omega | exact ⟨by first | omega | assumption | exact trivial, by first | omega | assumption | exact trivial, by first | omega | assumption | exact trivial, by first | omega | assumption | exact trivial, by first | omega | assumption | exact trivial⟩
          refine p_callr (c_runV (n := 1) (as := [.int (II a_k)]) (rest := []) B hX hA hM hl.1 t7 kd16 rfl (k_Jx4a65c_get_915e3 l D dA eA L T N I J R b5 t7 a_k hv14.1 hv14.2.1 hv14.2.2.1 hv14.2.2.2.1 hv14.2.2.2.2 _ _) ml_X11_153 nm_Jx4a65c_get_915e3 ⟨rfl, rfl⟩ ⟨Nat.le_of_ble_eq_true rfl, Nat.le_of_ble_eq_true rfl⟩ dX11_failed_55 rfl rfl (Nat.le_of_ble_eq_true rfl) ⟨Nat.zero_le _, Nat.zero_le _⟩) (fun b16 hp15 => ?_)
          obtain ⟨tb16, hp15a⟩ := hp15
          replace hp15a : R (R b5 1 - 1) a_k.toNat = b16 + 1 := hp15a
          refine c_cast B hM tb16 kd8 rfl cl_X11_275 dX11_failed_58 ?_
          obtain ⟨x17, e18⟩ : ∃ v, I b16 6 = v := ⟨_, rfl⟩
          have r19 : (-2147483648 : Int) ≤ x17 ∧ x17 ≤ 2147483647 := by rw [← e18]; exact g8_6 hM.2.2.2.2.2.2.1 tb16
          refine c_geti (k := 6) pk_X7 B hM tb16 kd8 rfl (by decide) fl_X11_280 dX11_failed_61 e18 ?_
          refine lv_goto (tgt := 68) B.1 B.2.1 dX11_failed_64 (by decide) ?_
          refine p_iret B dX11_failed_68 ?_
          rw [← hPST]
          exact ⟨x17, rfl, by omega, by first | omega | assumption | exact trivial⟩
      · refine lv_aload_n B.1 B.2.1 dX11_failed_24 rfl (lv_at hl 0 rfl) ?_
        refine c_getn (k := 6) pk_X11 B hM t_this kd2 rfl (by decide) fl_X11_53 dX11_failed_25 e3 ?_
        refine c_getn (k := 1) pk_X0 B hM t4 kd6 rfl (by decide) fl_X11_272 dX11_failed_28 e6 ?_
        refine lv_iload_n B.1 B.2.1 dX11_failed_31 rfl (lv_at hl 1 rfl) ?_
        have hv20 : ((-2147483648 : Int) ≤ a_k ∧ (a_k : Int) ≤ 2147483647) ∧ (15 ≤ 16) ∧ (16 ≤ 23) ∧ (0 ≤ a_k) ∧ (a_k < I b5 2) := by first | omega | exact ⟨by first | omega | assumption | exact trivial, by first | omega | assumption | exact trivial, by first | omega | assumption | exact trivial, by first | omega | assumption | exact trivial, by first | omega | assumption | exact trivial⟩
        refine p_callr (c_runV (n := 1) (as := [.int (II a_k)]) (rest := []) B hX hA hM hl.1 t7 kd16 rfl (k_Jx4a65c_get_915e3 l D dA eA L T N I J R b5 t7 a_k hv20.1 hv20.2.1 hv20.2.2.1 hv20.2.2.2.1 hv20.2.2.2.2 _ _) ml_X11_153 nm_Jx4a65c_get_915e3 ⟨rfl, rfl⟩ ⟨Nat.le_of_ble_eq_true rfl, Nat.le_of_ble_eq_true rfl⟩ dX11_failed_32 rfl rfl (Nat.le_of_ble_eq_true rfl) ⟨Nat.zero_le _, Nat.zero_le _⟩) (fun b22 hp21 => ?_)
        obtain ⟨tb22, hp21a⟩ := hp21
        replace hp21a : R (R b5 1 - 1) a_k.toNat = b22 + 1 := hp21a
        refine c_cast B hM tb22 kd8 rfl cl_X11_275 dX11_failed_35 ?_
        obtain ⟨x23, e24⟩ : ∃ v, I b22 0 = v := ⟨_, rfl⟩
        have r25 : (-2147483648 : Int) ≤ x23 ∧ x23 ≤ 2147483647 := by rw [← e24]; exact g8_0 hM.2.2.2.2.2.2.1 tb22
        refine c_geti (k := 0) pk_X7 B hM tb22 kd8 rfl (by decide) fl_X11_277 dX11_failed_38 e24 ?_
        refine p_iret B dX11_failed_41 ?_
        rw [← hPST]
        exact ⟨x23, rfl, by omega, by first | omega | assumption | exact trivial⟩
    · refine q_con B dX11_failed_18 ?_
      refine p_iret B dX11_failed_19 ?_
      rw [← hPST]
      exact ⟨(-1), rfl, by omega, by first | omega | assumption | exact trivial⟩

def mo_X11_wouldBe : List Nat := [2368, 265, 261, 262, 512, 513, 514, 1632, 263]
set_option maxHeartbeats 1000000 in
set_option maxRecDepth 20000 in
theorem k_X11_wouldBe (l : Launch) (D : va_G) (dA : Nat → ClassId) (eA : Nat) (L : List Nat) (T N : Nat → Nat) (I : Nat → Nat → Int) (J : Nat → Nat → Int64) (R : Nat → Nat → Nat) (a_this : Nat) (t_this : T a_this = 2) (a_p : Int) (i_p : (-2147483648 : Int) ≤ a_p ∧ a_p ≤ 2147483647) (a_m : Int) (i_m : (-2147483648 : Int) ≤ a_m ∧ a_m ≤ 2147483647) (a_v : Int) (i_v : (-2147483648 : Int) ≤ a_v ∧ a_v ≤ 2147483647) (g_b : Nat) (g_ru : Nat) (g_f : Nat) (p_0 : R a_this 6 = g_b + 1) (p_1 : T g_b = 6) (p_2 : R g_b 0 = g_ru + 1) (p_3 : T g_ru = 15) (p_4 : R g_b 1 = g_f + 1) (p_5 : T g_f = 16) (p_6 : FLq I R g_ru g_f) : GC l yX11_wouldBe cX11_wouldBe 5 (some .int) ({ frames := 10, cells := (16 - I g_f 2).toNat + 1, slots := 24 * (16 - I g_f 2).toNat + 24, locals := 313 }) D dA eA L T N I J R [.ref a_this, .int (II a_p), .int (II a_m), .int (II a_v)] ((16 - I g_f 2).toNat + 1) (24 * (16 - I g_f 2).toNat + 24) (gI (fun r L' T' N' I' J' R' dz dl => J' = J ∧ Fr mo_X11_wouldBe [] T N I J R T' N' I' J' R' ∧ FLq I' R' g_ru g_f ∧ I g_f 2 ≤ I' g_f 2 ∧ (dz : Int) ≤ I' g_f 2 - I g_f 2 ∧ (dl : Int) ≤ 24 * (I' g_f 2 - I g_f 2))) := by
  generalize hPST : (gI (fun r L' T' N' I' J' R' dz dl => J' = J ∧ Fr mo_X11_wouldBe [] T N I J R T' N' I' J' R' ∧ FLq I' R' g_ru g_f ∧ I g_f 2 ≤ I' g_f 2 ∧ (dz : Int) ≤ I' g_f 2 - I g_f 2 ∧ (dl : Int) ≤ 24 * (I' g_f 2 - I g_f 2))) = PST
  refine g_enter (own := RX11) (by decide) rfl (Nat.le_of_ble_eq_true rfl) (fun p e s m args below meth c ls hm B hX hM hl => ?_)
  have hC0 := hM.2.2.2.2.2.2.1
  have hW0 := hM.2.2.2
  have hF : Fr mo_X11_wouldBe [] T N I J R T N I J R := Fr.rf
  have hA : ∀ q, s.heap.size ≤ q → cF dA L T N I J R s.heap.size q := fun q h => Or.inr h
  have hl : lv_has ls 5 [(0, .ref a_this), (1, .int (II a_p)), (2, .int (II a_m)), (3, .int (II a_v))] := hl
  obtain ⟨x1, e2⟩ : ∃ v, I g_ru 2 = v := ⟨_, rfl⟩
  have r3 : (0 : Int) ≤ x1 ∧ x1 ≤ 16 := by rw [← e2]; exact g15_2 hM.2.2.2.2.2.2.1 p_3
  obtain ⟨x4, e5⟩ : ∃ v, I g_f 2 = v := ⟨_, rfl⟩
  have r6 : (0 : Int) ≤ x4 ∧ x4 ≤ 16 := by rw [← e5]; exact g16_2 hM.2.2.2.2.2.2.1 p_5
  refine lv_aload_n B.1 B.2.1 dX11_wouldBe_0 rfl (lv_at hl 0 rfl) ?_
  refine lv_iload_n B.1 B.2.1 dX11_wouldBe_1 rfl (lv_at hl 1 rfl) ?_
  refine p_callq (c_runV (n := 1) (as := [.int (II a_p)]) (rest := []) B hX hA hM hl.1 t_this kd2 rfl (k_X11_paperAt l D dA eA L T N I J R a_this t_this a_p (by first | omega | assumption | exact trivial) _ _) ml_X11_157 nm_X11_paperAt ⟨rfl, rfl⟩ ⟨Nat.le_of_ble_eq_true rfl, Nat.le_of_ble_eq_true rfl⟩ dX11_wouldBe_2 rfl rfl (Nat.le_of_ble_eq_true rfl) ⟨by show 0 + 0 ≤ ((16 - I g_f 2).toNat + 1); omega, by show 0 + 0 ≤ (24 * (16 - I g_f 2).toNat + 24); omega⟩) (fun v8 hp7 => ?_)
  obtain ⟨qv8, hp7a⟩ := hp7
  clear hp7a
  refine c_astore (lv' := [(4, cv v8), (0, .ref a_this), (1, .int (II a_p)), (2, .int (II a_m)), (3, .int (II a_v))]) B dX11_wouldBe_5 hl (by decide) (by first | rfl | simp [cv_cat]) (fun ls hl => ?_)
  refine c_aload B dX11_wouldBe_7 (lv_at hl 0 rfl) ?_
  rcases qv8 with rfl | ⟨b9, rfl, t10⟩
  · have hl : lv_has ls 5 [(4, .null), (0, .ref a_this), (1, .int (II a_p)), (2, .int (II a_m)), (3, .int (II a_v))] := hl
    refine lv_ifnullN (tgt := 22) B.1 B.2.1 dX11_wouldBe_9 (by decide) ?_
    refine q_con B dX11_wouldBe_22 ?_
    refine g_iret B hM dX11_wouldBe_23 ⟨by show 0 ≤ ((16 - I g_f 2).toNat + 1); omega, by show 0 ≤ (24 * (16 - I g_f 2).toNat + 24); omega⟩ ?_
    rw [← hPST]
    exact ⟨(-1), rfl, by omega, rfl, hF, by first | assumption | exact p_6, by first | omega | assumption | exact trivial, by first | omega | assumption | exact trivial, by first | omega | assumption | exact trivial⟩
  · have hl : lv_has ls 5 [(4, .ref b9), (0, .ref a_this), (1, .int (II a_p)), (2, .int (II a_m)), (3, .int (II a_v))] := hl
    refine lv_ifnull B.1 B.2.1 dX11_wouldBe_9 ?_
    refine lv_aload B.1 B.2.1 dX11_wouldBe_12 (lv_at hl 0 rfl) ?_
    refine lv_iload_n B.1 B.2.1 dX11_wouldBe_14 rfl (lv_at hl 3 rfl) ?_
    refine p_calli (c_runV (n := 1) (as := [.int (II a_m)]) (rest := []) B hX hA hM hl.1 t10 kd12 rfl (k_X5_typeOf l D dA eA L T N I J R b9 t10 a_m (by first | omega | assumption | exact trivial) _ _) ml_X11_161 nm_X5_typeOf ⟨rfl, rfl⟩ ⟨Nat.le_of_ble_eq_true rfl, Nat.le_of_ble_eq_true rfl⟩ dX11_wouldBe_15 rfl rfl (Nat.le_of_ble_eq_true rfl) ⟨by show 0 + 0 ≤ ((16 - I g_f 2).toNat + 1); omega, by show 0 + 0 ≤ (24 * (16 - I g_f 2).toNat + 24); omega⟩) (fun x12 ix12 hp11 => ?_)
    have hp11a := hp11
    replace hp11a : x12 = -1 ∨ (0 ≤ a_m ∧ a_m < N (R b9 2 - 1)) := hp11a
    obtain ⟨b13, e14, t15⟩ := g12_2 hM.2.2.2.2.2.2.1 t10
    have pq16 : N (R b9 2 - 1) = N b13 := by rw [e14, Nat.add_sub_cancel]
    refine q_con B dX11_wouldBe_18 ?_
    refine q_ceq (tgt := 24) B dX11_wouldBe_19 (by decide) (by unfold inr; omega) (by unfold inr; omega) (fun c17 => ?_) (fun c17 => ?_)
    · refine lv_aload_n B.1 B.2.1 dX11_wouldBe_24 rfl (lv_at hl 1 rfl) ?_
      refine c_getn (k := 6) pk_X11 B hM t_this kd2 rfl (by decide) fl_X11_53 dX11_wouldBe_25 p_0 ?_
      refine lv_aload B.1 B.2.1 dX11_wouldBe_28 (lv_at hl 0 rfl) ?_
      obtain ⟨b18, e19, t20⟩ := g12_0 hM.2.2.2.2.2.2.1 t10
      refine c_getn (k := 0) pk_X5 B hM t10 kd12 rfl (by decide) fl_X11_172 dX11_wouldBe_30 e19 ?_
      obtain ⟨b21, e22, t23⟩ := g11_3 hM.2.2.2.2.2.2.1 t20
      refine c_getn (k := 3) pk_X3 B hM t20 kd11 rfl (by decide) fl_X11_128 dX11_wouldBe_33 e22 ?_
      refine lv_iload_n B.1 B.2.1 dX11_wouldBe_36 rfl (lv_at hl 3 rfl) ?_
      obtain ⟨b24, e25, t26⟩ := g12_3 hM.2.2.2.2.2.2.1 t10
      obtain ⟨b27, e28, t29⟩ := g12_4 hM.2.2.2.2.2.2.1 t10
      obtain ⟨b30, e31, t32⟩ := g12_5 hM.2.2.2.2.2.2.1 t10
      obtain ⟨gp33a, gp33b, gp33c, gp33d⟩ := gp2 hM.2.2.2.2.2.2.2 t10 e19 e22 e14 e25 e28 e31
      obtain ⟨x34, e35⟩ : ∃ v, I b21 2 = v := ⟨_, rfl⟩
      have hv36 : ((-2147483648 : Int) ≤ a_m ∧ (a_m : Int) ≤ 2147483647) ∧ (15 ≤ 19) ∧ (19 ≤ 23) ∧ (0 ≤ a_m) ∧ (a_m < I b21 2) := by first | omega | exact ⟨by first | omega | assumption | exact trivial, by first | omega | assumption | exact trivial, by first | omega | assumption | exact trivial, by first | omega | assumption | exact trivial, by first | omega | assumption | exact trivial⟩
      refine p_callr (c_runV (n := 1) (as := [.int (II a_m)]) (rest := [.ref g_b]) B hX hA hM hl.1 t23 kd19 rfl (k_Jx4a65c_get_915e3 l D dA eA L T N I J R b21 t23 a_m hv36.1 hv36.2.1 hv36.2.2.1 hv36.2.2.2.1 hv36.2.2.2.2 _ _) ml_X11_153 nm_Jx4a65c_get_915e3 ⟨rfl, rfl⟩ ⟨Nat.le_of_ble_eq_true rfl, Nat.le_of_ble_eq_true rfl⟩ dX11_wouldBe_37 rfl rfl (Nat.le_of_ble_eq_true rfl) ⟨by show 0 + 0 ≤ ((16 - I g_f 2).toNat + 1); omega, by show 0 + 0 ≤ (24 * (16 - I g_f 2).toNat + 24); omega⟩) (fun b38 hp37 => ?_)
      obtain ⟨tb38, hp37a⟩ := hp37
      replace hp37a : R (R b21 1 - 1) a_m.toNat = b38 + 1 := hp37a
      refine c_cast B hM tb38 kd10 rfl cl_X11_301 dX11_wouldBe_40 ?_
      refine lv_iload_n B.1 B.2.1 dX11_wouldBe_43 rfl (lv_at hl 4 rfl) ?_
      refine g_calli hM hA (c_runV (n := 2) (as := [.ref b38, .int (II a_v)]) (rest := []) B hX hA hM hl.1 p_1 kd6 rfl (k_X0_countAgainst l D dA eA L T N I J R g_b p_1 b38 tb38 a_v (by first | omega | assumption | exact trivial) g_ru g_f (show R g_b 0 = g_ru + 1 from p_2) (show T g_ru = 15 from p_3) (show R g_b 1 = g_f + 1 from p_4) (show T g_f = 16 from p_5) (show FLq I R g_ru g_f from by exact p_6) _ _) ml_X11_303 nm_X0_countAgainst ⟨rfl, rfl⟩ ⟨Nat.le_of_ble_eq_true rfl, Nat.le_of_ble_eq_true rfl⟩ dX11_wouldBe_44 rfl rfl (Nat.le_of_ble_eq_true rfl) ⟨by show 0 + ((16 - I g_f 2).toNat + 1) ≤ ((16 - I g_f 2).toNat + 1); omega, by show 0 + (24 * (16 - I g_f 2).toNat + 24) ≤ (24 * (16 - I g_f 2).toNat + 24); omega⟩) (fun x40 ix40 L41 T42 N43 I44 J45 R46 dz47 dl48 H locs hp39 hMn => ?_)
      obtain ⟨yJ45, hFc49, hp39a⟩ := hp39
      obtain rfl := yJ45.symm
      replace hF : Fr mo_X11_wouldBe [] T N I J R T42 N43 I44 J R46 := hF.trans hFc49 (by decide) e20
      have hM := hMn
      clear hMn
      replace hp39a : FLq I44 R46 g_ru g_f ∧ I g_f 2 ≤ I44 g_f 2 ∧ (dz47 : Int) ≤ I44 g_f 2 - I g_f 2 ∧ (dl48 : Int) ≤ 24 * (I44 g_f 2 - I g_f 2) := hp39a
      obtain ⟨hp39a_0, hp39a_1, hp39a_2, hp39a_3⟩ := hp39a
      obtain ⟨x50, e51⟩ : ∃ v, I44 g_f 2 = v := ⟨_, rfl⟩
      have t52 : T42 g_f = 16 := hF.tt p_5 (by decide) nm0
      have r53 : (0 : Int) ≤ x50 ∧ x50 ≤ 16 := by rw [← e51]; exact g16_2 hM.2.2.2.2.2.2.1 t52
      refine g_iret B hM dX11_wouldBe_47 ⟨by show 0 + dz47 ≤ ((16 - I g_f 2).toNat + 1); omega, by show 0 + dl48 ≤ (24 * (16 - I g_f 2).toNat + 24); omega⟩ ?_
      rw [← hPST]
      exact ⟨x40, rfl, by omega, rfl, hF, by first | assumption | exact p_6, by first | omega | assumption | exact trivial, by first | omega | assumption | exact trivial, by first | omega | assumption | exact trivial⟩
    · refine q_con B dX11_wouldBe_22 ?_
      refine g_iret B hM dX11_wouldBe_23 ⟨by show 0 ≤ ((16 - I g_f 2).toNat + 1); omega, by show 0 ≤ (24 * (16 - I g_f 2).toNat + 24); omega⟩ ?_
      rw [← hPST]
      exact ⟨(-1), rfl, by omega, rfl, hF, by first | assumption | exact p_6, by first | omega | assumption | exact trivial, by first | omega | assumption | exact trivial, by first | omega | assumption | exact trivial⟩

def mo_X11_correct : List Nat := [168, 2688, 2720]
set_option maxHeartbeats 1000000 in
set_option maxRecDepth 20000 in
theorem k_X11_correct (l : Launch) (D : va_G) (dA : Nat → ClassId) (eA : Nat) (L : List Nat) (T N : Nat → Nat) (I : Nat → Nat → Int) (J : Nat → Nat → Int64) (R : Nat → Nat → Nat) (a_this : Nat) (t_this : T a_this = 2) (g_c : Nat) (g_b : Nat) (p_0 : R a_this 3 = g_c + 1) (p_1 : T g_c = 5) (p_2 : R g_c 4 = g_b + 1) (p_3 : T g_b = 6) : GC l yX11_correct cX11_correct 1 (some .int) ({ frames := 6, cells := 0, slots := 0, locals := 154 }) D dA eA L T N I J R [.ref a_this] 0 0 (gI (fun r L' T' N' I' J' R' dz dl => L' = L ∧ T' = T ∧ N' = N ∧ J' = J ∧ R' = R ∧ Fr mo_X11_correct [] T N I J R T' N' I' J' R' ∧ (True))) := by
  generalize hPST : (gI (fun r L' T' N' I' J' R' dz dl => L' = L ∧ T' = T ∧ N' = N ∧ J' = J ∧ R' = R ∧ Fr mo_X11_correct [] T N I J R T' N' I' J' R' ∧ (True))) = PST
  refine g_enter (own := RX11) (by decide) rfl (Nat.le_of_ble_eq_true rfl) (fun p e s m args below meth c ls hm B hX hM hl => ?_)
  have hC0 := hM.2.2.2.2.2.2.1
  have hW0 := hM.2.2.2
  have hF : Fr mo_X11_correct [] T N I J R T N I J R := Fr.rf
  have hA : ∀ q, s.heap.size ≤ q → cF dA L T N I J R s.heap.size q := fun q h => Or.inr h
  have hl : lv_has ls 1 [(0, .ref a_this)] := hl
  refine lv_aload_n B.1 B.2.1 dX11_correct_0 rfl (lv_at hl 0 rfl) ?_
  refine c_getn (k := 3) pk_X11 B hM t_this kd2 rfl (by decide) fl_X11_39 dX11_correct_1 p_0 ?_
  refine z_calli hM hA (c_runV (n := 0) (as := []) (rest := []) B hX hA hM hl.1 p_1 kd5 rfl (k_X1_setProposals l D dA eA L T N I J R g_c p_1 g_b (show R g_c 4 = g_b + 1 from p_2) (show T g_b = 6 from p_3) _ _) ml_X11_307 nm_X1_setProposals ⟨rfl, rfl⟩ ⟨Nat.le_of_ble_eq_true rfl, Nat.le_of_ble_eq_true rfl⟩ dX11_correct_4 rfl rfl (Nat.le_of_ble_eq_true rfl) ⟨Nat.zero_le _, Nat.zero_le _⟩) (fun x2 ix2 L3 T4 N5 I6 J7 R8 dz9 dl10 H locs hp1 hMn => ?_)
  obtain ⟨yL3, yT4, yN5, yJ7, yR8, hFc11, hp1a⟩ := hp1
  obtain rfl := yL3.symm; obtain rfl := yT4.symm; obtain rfl := yN5.symm; obtain rfl := yJ7.symm; obtain rfl := yR8.symm
  replace hF : Fr mo_X11_correct [] T N I J R T N I6 J R := hF.trans hFc11 (by decide) e20
  have hM := hMn
  clear hMn
  clear hp1a
  refine g_iret B hM dX11_correct_7 ⟨Nat.le_refl _, Nat.le_refl _⟩ ?_
  rw [← hPST]
  exact ⟨x2, rfl, by omega, rfl, rfl, rfl, rfl, rfl, hF, by first | omega | assumption | exact trivial⟩

def mo_X11_paper : List Nat := [704, 705, 706, 1824]
set_option maxHeartbeats 1000000 in
set_option maxRecDepth 20000 in
theorem k_X11_paper (l : Launch) (D : va_G) (dA : Nat → ClassId) (eA : Nat) (L : List Nat) (T N : Nat → Nat) (I : Nat → Nat → Int) (J : Nat → Nat → Int64) (R : Nat → Nat → Nat) (a_this : Nat) (t_this : T a_this = 2) (a_k : Int) (i_k : (-2147483648 : Int) ≤ a_k ∧ a_k ≤ 2147483647) : GC l yX11_paper cX11_paper 3 (some .int) ({ frames := 7, cells := 6, slots := 354, locals := 241 }) D dA eA L T N I J R [.ref a_this, .int (II a_k)] 6 354 (gI (fun r L' T' N' I' J' R' dz dl => J' = J ∧ Fr mo_X11_paper [] T N I J R T' N' I' J' R' ∧ dz ≤ 6 ∧ dl ≤ 354)) := by
  generalize hPST : (gI (fun r L' T' N' I' J' R' dz dl => J' = J ∧ Fr mo_X11_paper [] T N I J R T' N' I' J' R' ∧ dz ≤ 6 ∧ dl ≤ 354)) = PST
  refine g_enter (own := RX11) (by decide) rfl (Nat.le_of_ble_eq_true rfl) (fun p e s m args below meth c ls hm B hX hM hl => ?_)
  have hC0 := hM.2.2.2.2.2.2.1
  have hW0 := hM.2.2.2
  have hF : Fr mo_X11_paper [] T N I J R T N I J R := Fr.rf
  have hA : ∀ q, s.heap.size ≤ q → cF dA L T N I J R s.heap.size q := fun q h => Or.inr h
  have hl : lv_has ls 3 [(0, .ref a_this), (1, .int (II a_k))] := hl
  refine lv_aload_n B.1 B.2.1 dX11_paper_0 rfl (lv_at hl 0 rfl) ?_
  obtain ⟨b1, e2, t3⟩ := g2_6 hC0 t_this
  refine c_getn (k := 6) pk_X11 B hM t_this kd2 rfl (by decide) fl_X11_53 dX11_paper_1 e2 ?_
  refine lv_iload_n B.1 B.2.1 dX11_paper_4 rfl (lv_at hl 1 rfl) ?_
  refine p_callq (c_runV (n := 1) (as := [.int (II a_k)]) (rest := []) B hX hA hM hl.1 t3 kd6 rfl (k_X0_kindAt l D dA eA L T N I J R b1 t3 a_k (by first | omega | assumption | exact trivial) _ _) ml_X11_124 nm_X0_kindAt ⟨rfl, rfl⟩ ⟨Nat.le_of_ble_eq_true rfl, Nat.le_of_ble_eq_true rfl⟩ dX11_paper_5 rfl rfl (Nat.le_of_ble_eq_true rfl) ⟨by show 0 + 0 ≤ 6; omega, by show 0 + 0 ≤ 354; omega⟩) (fun v5 hp4 => ?_)
  obtain ⟨qv5, hp4a⟩ := hp4
  replace hp4a : v5 = 0 ∨ (0 ≤ a_k ∧ I (v5 - 1) 0 ≤ a_k) := hp4a
  refine c_astore_n (lv' := [(2, cv v5), (0, .ref a_this), (1, .int (II a_k))]) B dX11_paper_8 rfl hl (by decide) (by first | rfl | simp [cv_cat]) (fun ls hl => ?_)
  refine c_aload_n B dX11_paper_9 rfl (lv_at hl 0 rfl) ?_
  rcases qv5 with rfl | ⟨b6, rfl, t7⟩
  · have hl : lv_has ls 3 [(2, .null), (0, .ref a_this), (1, .int (II a_k))] := hl
    refine lv_ifnullN (tgt := 26) B.1 B.2.1 dX11_paper_10 (by decide) ?_
    refine q_con B dX11_paper_26 ?_
    refine g_iret B hM dX11_paper_27 ⟨by show 0 ≤ 6; omega, by show 0 ≤ 354; omega⟩ ?_
    rw [← hPST]
    exact ⟨(-1), rfl, by omega, rfl, hF, by first | omega | assumption | exact trivial, by first | omega | assumption | exact trivial⟩
  · have hl : lv_has ls 3 [(2, .ref b6), (0, .ref a_this), (1, .int (II a_k))] := hl
    refine lv_ifnull B.1 B.2.1 dX11_paper_10 ?_
    refine lv_aload_n B.1 B.2.1 dX11_paper_13 rfl (lv_at hl 1 rfl) ?_
    obtain ⟨b8, e9, t10⟩ := g2_4 hC0 t_this
    refine c_getn (k := 4) pk_X11 B hM t_this kd2 rfl (by decide) fl_X11_30 dX11_paper_14 e9 ?_
    have hv11 : (15 ≤ 22) ∧ (22 ≤ 23) := by first | omega | exact ⟨by first | omega | assumption | exact trivial, by first | omega | assumption | exact trivial⟩
    refine p_calli (c_runV (n := 0) (as := []) (rest := []) B hX hA hM hl.1 t10 kd22 rfl (k_Jx4a65c_size_8abf5 l D dA eA L T N I J R b8 t10 hv11.1 hv11.2 _ _) ml_X11_112 nm_Jx4a65c_size_8abf5 ⟨rfl, rfl⟩ ⟨Nat.le_of_ble_eq_true rfl, Nat.le_of_ble_eq_true rfl⟩ dX11_paper_17 rfl rfl (Nat.le_of_ble_eq_true rfl) ⟨by show 0 + 0 ≤ 6; omega, by show 0 + 0 ≤ 354; omega⟩) (fun x13 ix13 hp12 => ?_)
    have hp12a := hp12
    replace hp12a : I b8 2 = x13 ∧ 0 ≤ x13 ∧ x13 ≤ 200 := hp12a
    obtain ⟨hp12a_0, hp12a_1, hp12a_2⟩ := hp12a
    refine q_sip B dX11_paper_20 (by decide) ?_
    refine q_clt (tgt := 28) B dX11_paper_23 (by decide) (by unfold inr; omega) (by unfold inr; omega) (fun c14 => ?_) (fun c14 => ?_)
    · refine lv_aload_n B.1 B.2.1 dX11_paper_28 rfl (lv_at hl 1 rfl) ?_
      refine c_getn (k := 4) pk_X11 B hM t_this kd2 rfl (by decide) fl_X11_30 dX11_paper_29 e9 ?_
      have hMo := hM
      refine c_new (t := 40) pk_X5 B hX.out hA hM kd40 df_X5 rfl rfl (by decide) cl_X11_144 in_X5 ini_X5 (by show 0 + 1 ≤ 6; omega) (by show 0 + 6 ≤ 354; omega) dX11_paper_32 (fun b15 L16 T17 N18 H t19 hT20 hN21 hM => ?_)
      have t22 : T17 b15 = 40 := by rw [hT20, va_up_self]
      have n23 : N18 b15 = 6 := by rw [hN21, va_up_self]
      replace hF : Fr mo_X11_paper [] T N I J R T17 N18 I J R := hF.new t19 hT20 hN21
      have zz24 := hMo.2.2.2.2.2.1 b15 t19
      clear hMo
      refine lv_dup B.1 B.2.1 dX11_paper_35 rfl ?_
      refine lv_aload_n B.1 B.2.1 dX11_paper_36 rfl (lv_at hl 0 rfl) ?_
      have t25 : T17 b6 = 11 := upT hT20 t19 t7 (by decide)
      refine g_callv hM hA (c_runI (n := 1) (as := [.ref b6]) (rest := [.ref b15, .ref b8]) B hX hA hM hl.1 (k_X5_init l D dA eA L16 T17 N18 I J R b15 t22 b6 t25 zz24 _ _) ml_X11_146 nm_X5_init ⟨rfl, rfl⟩ ⟨Nat.le_of_ble_eq_true rfl, Nat.le_of_ble_eq_true rfl⟩ dX11_paper_37 rfl rfl (Nat.le_of_ble_eq_true rfl) ⟨by show 0 + 1 + 4 ≤ 6; omega, by show 0 + 6 + 48 ≤ 354; omega⟩) (fun L28 T29 N30 I31 J32 R33 dz34 dl35 H locs hp26 hMn => ?_)
      obtain ⟨yJ32, hFc36, hp26a⟩ := hp26
      obtain rfl := yJ32.symm
      have t37 : T17 a_this = 2 := hF.tt t_this (by decide) nm0
      have t38 : T17 b1 = 6 := hF.tt t3 (by decide) nm0
      have t39 : T17 b8 = 22 := hF.tt t10 (by decide) nm0
      replace hF : Fr mo_X11_paper [] T N I J R T29 N30 I31 J R33 := hF.trans hFc36 (by decide) (e2x (fun h => absurd t19 h))
      have hM := hMn
      clear hMn
      obtain ⟨t40, hp26a⟩ := hp26a
      replace hp26a : dz34 ≤ 4 ∧ dl35 ≤ 48 := hp26a
      obtain ⟨hp26a_0, hp26a_1⟩ := hp26a
      have t41 : T29 b8 = 22 := hF.tt t10 (by decide) nm0
      have e42 : I31 b8 2 = x13 := (hFc36.i t39 (by decide) (nm1 (tne t39 t22 (by decide))) rfl).trans hp12a_0
      obtain ⟨x43, e44⟩ : ∃ v, I31 b15 0 = v := ⟨_, rfl⟩
      have hv45 : (15 ≤ 22) ∧ (22 ≤ 23) ∧ (I31 b8 2 < 200) ∧ (22 = 18 → I31 b15 0 ≤ I31 b8 2) := by first | omega | exact ⟨by first | omega | assumption | exact trivial, by first | omega | assumption | exact trivial, by first | omega | assumption | exact trivial, by first | omega | assumption | exact trivial⟩
      refine g_calli hM hA (c_runV (n := 1) (as := [.ref b15]) (rest := []) B hX hA hM hl.1 t41 kd22 rfl (k_Jx4a65c_add_9ea2dR l D dA eA L28 T29 N30 I31 J R33 b8 t41 b15 t40 hv45.1 hv45.2.1 hv45.2.2.1 hv45.2.2.2 _ _) ml_X11_149 nm_Jx4a65c_add_9ea2d ⟨rfl, rfl⟩ ⟨Nat.le_of_ble_eq_true rfl, Nat.le_of_ble_eq_true rfl⟩ dX11_paper_40 rfl rfl (Nat.le_of_ble_eq_true rfl) ⟨by show 0 + 1 + dz34 + 1 ≤ 6; omega, by show 0 + 6 + dl35 + 300 ≤ 354; omega⟩) (fun x47 ix47 L48 T49 N50 I51 J52 R53 dz54 dl55 H locs hp46 hMn => ?_)
      obtain ⟨yJ52, hFc56, hp46a⟩ := hp46
      obtain rfl := yJ52.symm
      have t57 : T29 a_this = 2 := hF.tt t_this (by decide) nm0
      have t58 : T29 b1 = 6 := hF.tt t3 (by decide) nm0
      have t59 : T29 b6 = 11 := hFc36.tt t25 (by decide) (nm1 (tne t25 t22 (by decide)))
      replace hF : Fr mo_X11_paper [] T N I J R T49 N50 I51 J R53 := hF.trans hFc56 (by decide) e20
      have hM := hMn
      clear hMn
      replace hp46a : (0 : Int) ≤ x47 ∧ x47 ≤ 1 ∧ (I51 b8 2 = I31 b8 2 + 1 ∧ R53 (R53 b8 1 - 1) (I31 b8 2).toNat = b15 + 1 ∧ (∀ i : Nat, (i : Int) < I31 b8 2 → R53 (R53 b8 1 - 1) i = R33 (R33 b8 1 - 1) i) ∧ (∀ b, T29 b = 22 → b ≠ b8 → I51 b 2 = I31 b 2) ∧ dz54 ≤ 1 ∧ dl55 ≤ 300 ∧ dl55 + 3 * N30 (R33 b8 1 - 1) ≤ 3 * N50 (R53 b8 1 - 1) + 2 ∧ ROT 22 T29 I31 R33 R53 b8) := hp46a
      obtain ⟨hp46a_0, hp46a_1, hp46a_2⟩ := hp46a
      obtain ⟨hp46a_2_0, hp46a_2_1, hp46a_2_2, hp46a_2_3, hp46a_2_4, hp46a_2_5, hp46a_2_6, hp46a_2_7⟩ := hp46a_2
      refine lv_pop B.1 B.2.1 dX11_paper_43 rfl ?_
      refine lv_aload_n B.1 B.2.1 dX11_paper_44 rfl (lv_at hl 1 rfl) ?_
      have t60 : T49 a_this = 2 := hF.tt t_this (by decide) nm0
      have e61 : R53 a_this 4 = b8 + 1 := (hF.r t_this (by decide) nm0 rfl).trans e9
      refine c_getn (k := 4) pk_X11 B hM t60 kd2 rfl (by decide) fl_X11_30 dX11_paper_45 e61 ?_
      have t62 : T49 b8 = 22 := hF.tt t10 (by decide) nm0
      have hv63 : (15 ≤ 22) ∧ (22 ≤ 23) := by first | omega | exact ⟨by first | omega | assumption | exact trivial, by first | omega | assumption | exact trivial⟩
      refine p_calli (c_runV (n := 0) (as := []) (rest := []) B hX hA hM hl.1 t62 kd22 rfl (k_Jx4a65c_size_8abf5 l D dA eA L48 T49 N50 I51 J R53 b8 t62 hv63.1 hv63.2 _ _) ml_X11_112 nm_Jx4a65c_size_8abf5 ⟨rfl, rfl⟩ ⟨Nat.le_of_ble_eq_true rfl, Nat.le_of_ble_eq_true rfl⟩ dX11_paper_48 rfl rfl (Nat.le_of_ble_eq_true rfl) ⟨by show 0 + 1 + dz34 + dz54 + 0 ≤ 6; omega, by show 0 + 6 + dl35 + dl55 + 0 ≤ 354; omega⟩) (fun x65 ix65 hp64 => ?_)
      have hp64a := hp64
      replace hp64a : I51 b8 2 = x65 ∧ 0 ≤ x65 ∧ x65 ≤ 200 := hp64a
      obtain ⟨hp64a_0, hp64a_1, hp64a_2⟩ := hp64a
      refine q_con B dX11_paper_51 ?_
      refine q_sub B dX11_paper_52 ?_
      refine g_iret B hM dX11_paper_53 ⟨by show 0 + 1 + dz34 + dz54 ≤ 6; omega, by show 0 + 6 + dl35 + dl55 ≤ 354; omega⟩ ?_
      rw [← hPST]
      exact ⟨(x65 - (1 : Int)), rfl, by omega, rfl, hF, by first | omega | assumption | exact trivial, by first | omega | assumption | exact trivial⟩
    · refine q_con B dX11_paper_26 ?_
      refine g_iret B hM dX11_paper_27 ⟨by show 0 ≤ 6; omega, by show 0 ≤ 354; omega⟩ ?_
      rw [← hPST]
      exact ⟨(-1), rfl, by omega, rfl, hF, by first | omega | assumption | exact trivial, by first | omega | assumption | exact trivial⟩

def mo_X11_item : List Nat := [2752, 2784, 2688]
set_option maxHeartbeats 1000000 in
set_option maxRecDepth 20000 in
theorem k_X11_item (l : Launch) (D : va_G) (dA : Nat → ClassId) (eA : Nat) (L : List Nat) (T N : Nat → Nat) (I : Nat → Nat → Int) (J : Nat → Nat → Int64) (R : Nat → Nat → Nat) (a_this : Nat) (t_this : T a_this = 2) (a_p : Int) (i_p : (-2147483648 : Int) ≤ a_p ∧ a_p ≤ 2147483647) (a_m : Int) (i_m : (-2147483648 : Int) ≤ a_m ∧ a_m ≤ 2147483647) (a_o : Int) (i_o : (-2147483648 : Int) ≤ a_o ∧ a_o ≤ 2147483647) : GC l yX11_item cX11_item 6 (some .int) ({ frames := 4, cells := 1, slots := 20, locals := 102 }) D dA eA L T N I J R [.ref a_this, .int (II a_p), .int (II a_m), .int (II a_o)] 1 20 (gI (fun r L' T' N' I' J' R' dz dl => J' = J ∧ Fr mo_X11_item [] T N I J R T' N' I' J' R' ∧ dz ≤ 1 ∧ dl ≤ 20)) := by
  generalize hPST : (gI (fun r L' T' N' I' J' R' dz dl => J' = J ∧ Fr mo_X11_item [] T N I J R T' N' I' J' R' ∧ dz ≤ 1 ∧ dl ≤ 20)) = PST
  refine g_enter (own := RX11) (by decide) rfl (Nat.le_of_ble_eq_true rfl) (fun p e s m args below meth c ls hm B hX hM hl => ?_)
  have hC0 := hM.2.2.2.2.2.2.1
  have hW0 := hM.2.2.2
  have hF : Fr mo_X11_item [] T N I J R T N I J R := Fr.rf
  have hA : ∀ q, s.heap.size ≤ q → cF dA L T N I J R s.heap.size q := fun q h => Or.inr h
  have hl : lv_has ls 6 [(0, .ref a_this), (1, .int (II a_p)), (2, .int (II a_m)), (3, .int (II a_o))] := hl
  refine lv_aload_n B.1 B.2.1 dX11_item_0 rfl (lv_at hl 0 rfl) ?_
  refine lv_iload_n B.1 B.2.1 dX11_item_1 rfl (lv_at hl 1 rfl) ?_
  refine p_callq (c_runV (n := 1) (as := [.int (II a_p)]) (rest := []) B hX hA hM hl.1 t_this kd2 rfl (k_X11_paperAt l D dA eA L T N I J R a_this t_this a_p (by first | omega | assumption | exact trivial) _ _) ml_X11_157 nm_X11_paperAt ⟨rfl, rfl⟩ ⟨Nat.le_of_ble_eq_true rfl, Nat.le_of_ble_eq_true rfl⟩ dX11_item_2 rfl rfl (Nat.le_of_ble_eq_true rfl) ⟨by show 0 + 0 ≤ 1; omega, by show 0 + 0 ≤ 20; omega⟩) (fun v2 hp1 => ?_)
  obtain ⟨qv2, hp1a⟩ := hp1
  clear hp1a
  refine c_astore (lv' := [(4, cv v2), (0, .ref a_this), (1, .int (II a_p)), (2, .int (II a_m)), (3, .int (II a_o))]) B dX11_item_5 hl (by decide) (by first | rfl | simp [cv_cat]) (fun ls hl => ?_)
  refine lv_aload_n B.1 B.2.1 dX11_item_7 rfl (lv_at hl 1 rfl) ?_
  refine lv_iload_n B.1 B.2.1 dX11_item_8 rfl (lv_at hl 4 rfl) ?_
  refine p_callq (c_runV (n := 1) (as := [.int (II a_o)]) (rest := []) B hX hA hM hl.1 t_this kd2 rfl (k_X11_paperAt l D dA eA L T N I J R a_this t_this a_o (by first | omega | assumption | exact trivial) _ _) ml_X11_157 nm_X11_paperAt ⟨rfl, rfl⟩ ⟨Nat.le_of_ble_eq_true rfl, Nat.le_of_ble_eq_true rfl⟩ dX11_item_9 rfl rfl (Nat.le_of_ble_eq_true rfl) ⟨by show 0 + 0 ≤ 1; omega, by show 0 + 0 ≤ 20; omega⟩) (fun v4 hp3 => ?_)
  obtain ⟨qv4, hp3a⟩ := hp3
  clear hp3a
  refine c_astore (lv' := [(5, cv v4), (4, cv v2), (0, .ref a_this), (1, .int (II a_p)), (2, .int (II a_m)), (3, .int (II a_o))]) B dX11_item_12 hl (by decide) (by first | rfl | simp [cv_cat]) (fun ls hl => ?_)
  refine c_aload B dX11_item_14 (lv_at hl 1 rfl) ?_
  rcases qv2 with rfl | ⟨b5, rfl, t6⟩
  · have hl : lv_has ls 6 [(5, cv v4), (4, .null), (0, .ref a_this), (1, .int (II a_p)), (2, .int (II a_m)), (3, .int (II a_o))] := hl
    refine lv_ifnullN (tgt := 34) B.1 B.2.1 dX11_item_16 (by decide) ?_
    refine q_con B dX11_item_34 ?_
    refine g_iret B hM dX11_item_35 ⟨by show 0 ≤ 1; omega, by show 0 ≤ 20; omega⟩ ?_
    rw [← hPST]
    exact ⟨(-1), rfl, by omega, rfl, hF, by first | omega | assumption | exact trivial, by first | omega | assumption | exact trivial⟩
  · have hl : lv_has ls 6 [(5, cv v4), (4, .ref b5), (0, .ref a_this), (1, .int (II a_p)), (2, .int (II a_m)), (3, .int (II a_o))] := hl
    refine lv_ifnull B.1 B.2.1 dX11_item_16 ?_
    refine c_aload B dX11_item_19 (lv_at hl 0 rfl) ?_
    rcases qv4 with rfl | ⟨b7, rfl, t8⟩
    · have hl : lv_has ls 6 [(5, .null), (4, .ref b5), (0, .ref a_this), (1, .int (II a_p)), (2, .int (II a_m)), (3, .int (II a_o))] := hl
      refine lv_ifnullN (tgt := 34) B.1 B.2.1 dX11_item_21 (by decide) ?_
      refine q_con B dX11_item_34 ?_
      refine g_iret B hM dX11_item_35 ⟨by show 0 ≤ 1; omega, by show 0 ≤ 20; omega⟩ ?_
      rw [← hPST]
      exact ⟨(-1), rfl, by omega, rfl, hF, by first | omega | assumption | exact trivial, by first | omega | assumption | exact trivial⟩
    · have hl : lv_has ls 6 [(5, .ref b7), (4, .ref b5), (0, .ref a_this), (1, .int (II a_p)), (2, .int (II a_m)), (3, .int (II a_o))] := hl
      refine lv_ifnull B.1 B.2.1 dX11_item_21 ?_
      refine lv_aload B.1 B.2.1 dX11_item_24 (lv_at hl 1 rfl) ?_
      refine lv_iload_n B.1 B.2.1 dX11_item_26 rfl (lv_at hl 4 rfl) ?_
      refine p_calli (c_runV (n := 1) (as := [.int (II a_m)]) (rest := []) B hX hA hM hl.1 t6 kd12 rfl (k_X5_typeOf l D dA eA L T N I J R b5 t6 a_m (by first | omega | assumption | exact trivial) _ _) ml_X11_161 nm_X5_typeOf ⟨rfl, rfl⟩ ⟨Nat.le_of_ble_eq_true rfl, Nat.le_of_ble_eq_true rfl⟩ dX11_item_27 rfl rfl (Nat.le_of_ble_eq_true rfl) ⟨by show 0 + 0 ≤ 1; omega, by show 0 + 0 ≤ 20; omega⟩) (fun x10 ix10 hp9 => ?_)
      have hp9a := hp9
      replace hp9a : x10 = -1 ∨ (0 ≤ a_m ∧ a_m < N (R b5 2 - 1)) := hp9a
      obtain ⟨b11, e12, t13⟩ := g12_2 hM.2.2.2.2.2.2.1 t6
      have pq14 : N (R b5 2 - 1) = N b11 := by rw [e12, Nat.add_sub_cancel]
      refine q_con B dX11_item_30 ?_
      refine q_ceq (tgt := 36) B dX11_item_31 (by decide) (by unfold inr; omega) (by unfold inr; omega) (fun c15 => ?_) (fun c15 => ?_)
      · refine lv_aload B.1 B.2.1 dX11_item_36 (lv_at hl 0 rfl) ?_
        obtain ⟨b16, e17, t18⟩ := g12_0 hM.2.2.2.2.2.2.1 t8
        refine c_getn (k := 0) pk_X5 B hM t8 kd12 rfl (by decide) fl_X11_172 dX11_item_38 e17 ?_
        refine lv_aload B.1 B.2.1 dX11_item_41 (lv_at hl 1 rfl) ?_
        refine lv_iload_n B.1 B.2.1 dX11_item_43 rfl (lv_at hl 4 rfl) ?_
        refine p_calli (c_runV (n := 1) (as := [.int (II a_m)]) (rest := [.ref b16]) B hX hA hM hl.1 t6 kd12 rfl (k_X5_kindOf l D dA eA L T N I J R b5 t6 a_m (by first | omega | assumption | exact trivial) _ _) ml_X11_176 nm_X5_kindOf ⟨rfl, rfl⟩ ⟨Nat.le_of_ble_eq_true rfl, Nat.le_of_ble_eq_true rfl⟩ dX11_item_44 rfl rfl (Nat.le_of_ble_eq_true rfl) ⟨by show 0 + 0 ≤ 1; omega, by show 0 + 0 ≤ 20; omega⟩) (fun x20 ix20 hp19 => ?_)
        have hp19a := hp19
        clear hp19a
        refine p_calli (c_runV (n := 1) (as := [.int (II x20)]) (rest := []) B hX hA hM hl.1 t18 kd11 rfl (k_X3_isOf l D dA eA L T N I J R b16 t18 x20 (by first | omega | assumption | exact trivial) _ _) ml_X11_179 nm_X3_isOf ⟨rfl, rfl⟩ ⟨Nat.le_of_ble_eq_true rfl, Nat.le_of_ble_eq_true rfl⟩ dX11_item_47 rfl rfl (Nat.le_of_ble_eq_true rfl) ⟨by show 0 + 0 ≤ 1; omega, by show 0 + 0 ≤ 20; omega⟩) (fun x22 ix22 hp21 => ?_)
        have hp21a := hp21
        replace hp21a : (0 : Int) ≤ x22 ∧ x22 ≤ 1 ∧ (True) := hp21a
        obtain ⟨hp21a_0, hp21a_1, hp21a_2⟩ := hp21a
        refine q_ine (tgt := 55) B dX11_item_50 (by decide) (by unfold inr; omega) (fun c23 => ?_) (fun c23 => ?_)
        · refine lv_aload B.1 B.2.1 dX11_item_55 (lv_at hl 1 rfl) ?_
          refine lv_iload_n B.1 B.2.1 dX11_item_57 rfl (lv_at hl 4 rfl) ?_
          refine lv_iload_n B.1 B.2.1 dX11_item_58 rfl (lv_at hl 5 rfl) ?_
          have hv24 : ((-2147483648 : Int) ≤ a_m ∧ (a_m : Int) ≤ 2147483647) ∧ ((-2147483648 : Int) ≤ a_o ∧ (a_o : Int) ≤ 2147483647) := by first | omega | exact ⟨by first | omega | assumption | exact trivial, by first | omega | assumption | exact trivial⟩
          refine g_calli hM hA (c_runV (n := 2) (as := [.int (II a_m), .int (II a_o)]) (rest := []) B hX hA hM hl.1 t6 kd12 rfl (k_X5_append l D dA eA L T N I J R b5 t6 a_m hv24.1 a_o hv24.2 _ _) ml_X11_183 nm_X5_append ⟨rfl, rfl⟩ ⟨Nat.le_of_ble_eq_true rfl, Nat.le_of_ble_eq_true rfl⟩ dX11_item_59 rfl rfl (Nat.le_of_ble_eq_true rfl) ⟨by show 0 + 1 ≤ 1; omega, by show 0 + 20 ≤ 20; omega⟩) (fun x26 ix26 L27 T28 N29 I30 J31 R32 dz33 dl34 H locs hp25 hMn => ?_)
          obtain ⟨yJ31, hFc35, hp25a⟩ := hp25
          obtain rfl := yJ31.symm
          replace hF : Fr mo_X11_item [] T N I J R T28 N29 I30 J R32 := hF.trans hFc35 (by decide) e20
          have hM := hMn
          clear hMn
          replace hp25a : dz33 ≤ 1 ∧ dl34 ≤ 20 := hp25a
          obtain ⟨hp25a_0, hp25a_1⟩ := hp25a
          refine g_iret B hM dX11_item_62 ⟨by show 0 + dz33 ≤ 1; omega, by show 0 + dl34 ≤ 20; omega⟩ ?_
          rw [← hPST]
          exact ⟨x26, rfl, by omega, rfl, hF, by first | omega | assumption | exact trivial, by first | omega | assumption | exact trivial⟩
        · refine q_con B dX11_item_53 ?_
          refine g_iret B hM dX11_item_54 ⟨by show 0 ≤ 1; omega, by show 0 ≤ 20; omega⟩ ?_
          rw [← hPST]
          exact ⟨(-1), rfl, by omega, rfl, hF, by first | omega | assumption | exact trivial, by first | omega | assumption | exact trivial⟩
      · refine q_con B dX11_item_34 ?_
        refine g_iret B hM dX11_item_35 ⟨by show 0 ≤ 1; omega, by show 0 ≤ 20; omega⟩ ?_
        rw [← hPST]
        exact ⟨(-1), rfl, by omega, rfl, hF, by first | omega | assumption | exact trivial, by first | omega | assumption | exact trivial⟩
