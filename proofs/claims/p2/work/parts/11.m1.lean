set_option maxHeartbeats 4000000 in
set_option maxRecDepth 20000 in
theorem k_sign (l : Launch) (D : va_G) (dA : Nat → ClassId) (h0 : Nat) (ad : Nat → Nat) (f : Nat → Int) (g : Nat → Int64) (A : Nat → Nat → Int) (L : Nat → Nat → Int64) (a_k : Int) (i_k : (-2147483648 : Int) ≤ a_k ∧ a_k ≤ 2147483647) (p_0 : 0 ≤ (a_k)) (p_1 : (a_k) ≤ 100000) : MCi l yX12_sign cX12_sign 2 (some .int) ({ frames := 0, cells := 0, slots := 0, locals := 0 }) D dA h0 ad (f, g, A, L) [.int (II a_k)] (fun r σ => σ = (f, g, A, L) ∧ (0 ≤ r ∧ r ≤ 255 ∧ (r ≠ 0 → (a_k) < (f 4)))) := by
  generalize hPST : (fun r σ => σ = (f, g, A, L) ∧ (0 ≤ r ∧ r ≤ 255 ∧ (r ≠ 0 → (a_k) < (f 4)))) = PST
  refine m_enter (by decide) rfl (Nat.le_of_ble_eq_true rfl) (fun p e s m args below meth c ls B hM hl => ?_)
  have hA : ∀ q, s.heap.size ≤ q → mF dA h0 ad (f, g, A, L) s.heap.size q := fun q h => Or.inr h
  have hl : lv_has ls 2 [(0, .ref h0), (1, .int (II a_k))] := hl
  refine lv_iload_n B.1 B.2.1 dX12_sign_0 rfl (lv_at hl 1 rfl) ?_
  refine lv_aload_n B.1 B.2.1 dX12_sign_1 rfl (lv_at hl 0 rfl) ?_
  refine m_get (k := 4) (v := f 4) B hM (by decide) rfl fl1 dX12_sign_2 rfl ?_
  have r1 : (0 : Int) ≤ f 4 ∧ f 4 ≤ 3000 := hM.2.2.2.1 4
  refine q_cge (tgt := 30) B dX12_sign_5 (by decide) (by unfold inr; omega) (by unfold inr; omega) (fun c2 => ?_) (fun c2 => ?_)
  · refine q_con B dX12_sign_30 ?_
    subst hPST
    exact m_iret B hM dX12_sign_31 (by unfold inr; omega) ⟨rfl, by omega⟩
  · refine lv_aload_n B.1 B.2.1 dX12_sign_8 rfl (lv_at hl 0 rfl) ?_
    refine m_geta (k := 2) B hM (by decide) rfl fl7 dX12_sign_9 ?_
    refine q_sip B dX12_sign_12 (by decide) ?_
    refine lv_aload_n B.1 B.2.1 dX12_sign_15 rfl (lv_at hl 0 rfl) ?_
    refine m_get (k := 3) (v := f 3) B hM (by decide) rfl fl11 dX12_sign_16 rfl ?_
    have r3 : (0 : Int) ≤ f 3 ∧ f 3 ≤ 1 := hM.2.2.2.1 3
    refine q_mul B dX12_sign_19 ?_
    refine lv_iload_n B.1 B.2.1 dX12_sign_20 rfl (lv_at hl 1 rfl) ?_
    refine q_add B dX12_sign_21 ?_
    refine m_bld (k := 2) (i := 1) (n := 6000) (z := (3000 * (f 3)) + a_k) (v := (A 2) ((3000 * (f 3)) + a_k).toNat) B hM rfl rfl rfl (by decide) dX12_sign_22 (by omega) (by omega) rfl ?_
    have r4 : (-128 : Int) ≤ (A 2) ((3000 * (f 3)) + a_k).toNat ∧ (A 2) ((3000 * (f 3)) + a_k).toNat ≤ 127 := hM.2.2.2.2 2 ((3000 * (f 3)) + a_k).toNat
    refine q_sip B dX12_sign_23 (by decide) ?_
    refine q_andm B dX12_sign_26 (by omega) (by unfold inr; omega) (fun x5 ix5 lx5 ux5 => ?_)
    unfold inr at ix5
    refine lv_goto (tgt := 31) B.1 B.2.1 dX12_sign_27 (by decide) ?_
    subst hPST
    exact m_iret B hM dX12_sign_31 (by unfold inr; omega) ⟨rfl, by omega⟩
set_option maxHeartbeats 4000000 in
set_option maxRecDepth 20000 in
theorem k_isLetter (l : Launch) (D : va_G) (dA : Nat → ClassId) (a_c : Int) (i_c : (-2147483648 : Int) ≤ a_c ∧ a_c ≤ 2147483647) : SCi l yX12_isLetter cX12_isLetter 1 (some .boolean) ({ frames := 0, cells := 0, slots := 0, locals := 0 }) D dA [.int (II a_c)] (fun r => (r = 1 → 97 ≤ (a_c)) ∧ 0 ≤ r ∧ r ≤ 1) := by
  refine s_start (by decide) rfl (Nat.le_of_ble_eq_true rfl) (fun p e s m args below meth c ls B hl => ?_)
  have hl : lv_has ls 1 [(0, .int (II a_c))] := hl
  refine lv_iload_n B.1 B.2.1 dX12_isLetter_0 rfl (lv_at hl 0 rfl) ?_
  refine q_bip B dX12_isLetter_1 (by decide) ?_
  refine q_clt (tgt := 16) B dX12_isLetter_3 (by decide) (by unfold inr; omega) (by unfold inr; omega) (fun c1 => ?_) (fun c1 => ?_)
  · refine q_con B dX12_isLetter_16 ?_
    exact s_zret B dX12_isLetter_17 (by omega) (by omega)
  · refine lv_iload_n B.1 B.2.1 dX12_isLetter_6 rfl (lv_at hl 0 rfl) ?_
    refine q_bip B dX12_isLetter_7 (by decide) ?_
    refine q_cgt (tgt := 16) B dX12_isLetter_9 (by decide) (by unfold inr; omega) (by unfold inr; omega) (fun c2 => ?_) (fun c2 => ?_)
    · refine q_con B dX12_isLetter_16 ?_
      exact s_zret B dX12_isLetter_17 (by omega) (by omega)
    · refine q_con B dX12_isLetter_12 ?_
      refine lv_goto (tgt := 17) B.1 B.2.1 dX12_isLetter_13 (by decide) ?_
      exact s_zret B dX12_isLetter_17 (by omega) (by omega)
set_option maxHeartbeats 4000000 in
set_option maxRecDepth 20000 in
theorem k_isDigit (l : Launch) (D : va_G) (dA : Nat → ClassId) (a_c : Int) (i_c : (-2147483648 : Int) ≤ a_c ∧ a_c ≤ 2147483647) : SCi l yX12_isDigit cX12_isDigit 1 (some .boolean) ({ frames := 0, cells := 0, slots := 0, locals := 0 }) D dA [.int (II a_c)] (fun r => (r = 1 → 48 ≤ (a_c) ∧ (a_c) ≤ 57) ∧ 0 ≤ r ∧ r ≤ 1) := by
  refine s_start (by decide) rfl (Nat.le_of_ble_eq_true rfl) (fun p e s m args below meth c ls B hl => ?_)
  have hl : lv_has ls 1 [(0, .int (II a_c))] := hl
  refine lv_iload_n B.1 B.2.1 dX12_isDigit_0 rfl (lv_at hl 0 rfl) ?_
  refine q_bip B dX12_isDigit_1 (by decide) ?_
  refine q_clt (tgt := 16) B dX12_isDigit_3 (by decide) (by unfold inr; omega) (by unfold inr; omega) (fun c1 => ?_) (fun c1 => ?_)
  · refine q_con B dX12_isDigit_16 ?_
    exact s_zret B dX12_isDigit_17 (by omega) (by omega)
  · refine lv_iload_n B.1 B.2.1 dX12_isDigit_6 rfl (lv_at hl 0 rfl) ?_
    refine q_bip B dX12_isDigit_7 (by decide) ?_
    refine q_cgt (tgt := 16) B dX12_isDigit_9 (by decide) (by unfold inr; omega) (by unfold inr; omega) (fun c2 => ?_) (fun c2 => ?_)
    · refine q_con B dX12_isDigit_16 ?_
      exact s_zret B dX12_isDigit_17 (by omega) (by omega)
    · refine q_con B dX12_isDigit_12 ?_
      refine lv_goto (tgt := 17) B.1 B.2.1 dX12_isDigit_13 (by decide) ?_
      exact s_zret B dX12_isDigit_17 (by omega) (by omega)
set_option maxHeartbeats 4000000 in
set_option maxRecDepth 20000 in
theorem k_isGood (l : Launch) (D : va_G) (dA : Nat → ClassId) (h0 : Nat) (ad : Nat → Nat) (f : Nat → Int) (g : Nat → Int64) (A : Nat → Nat → Int) (L : Nat → Nat → Int64) : MCi l yX12_isGood cX12_isGood 1 (some .boolean) ({ frames := 0, cells := 0, slots := 0, locals := 0 }) D dA h0 ad (f, g, A, L) [] (fun r σ => σ = (f, g, A, L) ∧ (0 ≤ r ∧ r ≤ 1 ∧ (r = 1 ↔ (f 5) = 0))) := by
  generalize hPST : (fun r σ => σ = (f, g, A, L) ∧ (0 ≤ r ∧ r ≤ 1 ∧ (r = 1 ↔ (f 5) = 0))) = PST
  refine m_enter (by decide) rfl (Nat.le_of_ble_eq_true rfl) (fun p e s m args below meth c ls B hM hl => ?_)
  have hA : ∀ q, s.heap.size ≤ q → mF dA h0 ad (f, g, A, L) s.heap.size q := fun q h => Or.inr h
  have hl : lv_has ls 1 [(0, .ref h0)] := hl
  refine lv_aload_n B.1 B.2.1 dX12_isGood_0 rfl (lv_at hl 0 rfl) ?_
  refine m_get (k := 5) (v := f 5) B hM (by decide) rfl fl14 dX12_isGood_1 rfl ?_
  have r1 : (-2147483648 : Int) ≤ f 5 ∧ f 5 ≤ 2147483647 := hM.2.2.2.1 5
  refine q_ine (tgt := 11) B dX12_isGood_4 (by decide) (by unfold inr; omega) (fun c2 => ?_) (fun c2 => ?_)
  · refine q_con B dX12_isGood_11 ?_
    subst hPST
    exact m_zret B hM dX12_isGood_12 (by omega) ⟨rfl, by omega⟩
  · refine q_con B dX12_isGood_7 ?_
    refine lv_goto (tgt := 12) B.1 B.2.1 dX12_isGood_8 (by decide) ?_
    subst hPST
    exact m_zret B hM dX12_isGood_12 (by omega) ⟨rfl, by omega⟩
set_option maxHeartbeats 4000000 in
set_option maxRecDepth 20000 in
theorem k_fails (l : Launch) (D : va_G) (dA : Nat → ClassId) (h0 : Nat) (ad : Nat → Nat) (f : Nat → Int) (g : Nat → Int64) (A : Nat → Nat → Int) (L : Nat → Nat → Int64) (a_kind : Int) (a_place : Int) (i_kind : (-2147483648 : Int) ≤ a_kind ∧ a_kind ≤ 2147483647) (i_place : (-2147483648 : Int) ≤ a_place ∧ a_place ≤ 2147483647) : MCi l yX12_fails cX12_fails 3 (some .boolean) ({ frames := 0, cells := 0, slots := 0, locals := 0 }) D dA h0 ad (f, g, A, L) [.int (II a_kind), .int (II a_place)] (fun r σ => ∃ n5 : Int, ∃ n6 : Int, σ = ((up f [(5, n5), (6, n6)]), g, A, L) ∧ (r = 0 ∧ ((f 5) ≠ 0 → (n5) = (f 5)) ∧ ((f 5) = 0 → (n5) = (a_kind)))) := by
  generalize hPST : (fun r σ => ∃ n5 : Int, ∃ n6 : Int, σ = ((up f [(5, n5), (6, n6)]), g, A, L) ∧ (r = 0 ∧ ((f 5) ≠ 0 → (n5) = (f 5)) ∧ ((f 5) = 0 → (n5) = (a_kind)))) = PST
  refine m_enter (by decide) rfl (Nat.le_of_ble_eq_true rfl) (fun p e s m args below meth c ls B hM hl => ?_)
  have hA : ∀ q, s.heap.size ≤ q → mF dA h0 ad (f, g, A, L) s.heap.size q := fun q h => Or.inr h
  have hM : MWd D dA h0 ad (mF dA h0 ad (f, g, A, L) s.heap.size) s.heap ((up f [(5, f 5), (6, f 6)]), g, A, L) s.heap [] := MW_pad hM (up_self f [5, 6]) rfl rfl rfl
  have hl : lv_has ls 3 [(0, .ref h0), (1, .int (II a_kind)), (2, .int (II a_place))] := hl
  refine lv_aload_n B.1 B.2.1 dX12_fails_0 rfl (lv_at hl 0 rfl) ?_
  refine m_get (k := 5) (v := f 5) B hM (by decide) rfl fl14 dX12_fails_1 rfl ?_
  have r1 : (-2147483648 : Int) ≤ f 5 ∧ f 5 ≤ 2147483647 := hM.2.2.2.1 5
  refine q_ine (tgt := 17) B dX12_fails_4 (by decide) (by unfold inr; omega) (fun c2 => ?_) (fun c2 => ?_)
  · refine q_con B dX12_fails_17 ?_
    subst hPST
    exact m_zret B hM dX12_fails_18 (by omega) ⟨(f 5), (f 6), rfl, by omega⟩
  · refine lv_aload_n B.1 B.2.1 dX12_fails_7 rfl (lv_at hl 0 rfl) ?_
    refine lv_iload_n B.1 B.2.1 dX12_fails_8 rfl (lv_at hl 1 rfl) ?_
    refine m_put (k := 5) B hM (by decide) rfl fl14 rfl dX12_fails_9 rfl rfl (show (-2147483648 : Int) ≤ a_kind by omega) (show a_kind ≤ (2147483647 : Int) by omega) (u1_up f [(5, f 5), (6, f 6)] 5 a_kind) (fun H locs hM => ?_)
    have hM : MWd D dA h0 ad (mF dA h0 ad (f, g, A, L) s.heap.size) s.heap ((up f [(5, a_kind), (6, f 6)]), g, A, L) H locs := hM
    refine lv_aload_n B.1 B.2.1 dX12_fails_12 rfl (lv_at hl 0 rfl) ?_
    refine lv_iload_n B.1 B.2.1 dX12_fails_13 rfl (lv_at hl 2 rfl) ?_
    refine m_put (k := 6) B hM (by decide) rfl fl17 rfl dX12_fails_14 rfl rfl (show (-2147483648 : Int) ≤ a_place by omega) (show a_place ≤ (2147483647 : Int) by omega) (u1_up f [(5, a_kind), (6, f 6)] 6 a_place) (fun H locs hM => ?_)
    have hM : MWd D dA h0 ad (mF dA h0 ad (f, g, A, L) s.heap.size) s.heap ((up f [(5, a_kind), (6, a_place)]), g, A, L) H locs := hM
    refine q_con B dX12_fails_17 ?_
    subst hPST
    exact m_zret B hM dX12_fails_18 (by omega) ⟨a_kind, a_place, rfl, by omega⟩
