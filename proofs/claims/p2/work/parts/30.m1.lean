set_option maxHeartbeats 4000000 in
set_option maxRecDepth 20000 in
theorem k_sign (l : Launch) (D : va_G) (dA : Nat → ClassId) (h0 : Nat) (ad : Nat → Nat) (f : Nat → Int) (g : Nat → Int64) (A : Nat → Nat → Int) (L : Nat → Nat → Int64) (a_k : Int) (i_k : (-2147483648 : Int) ≤ a_k ∧ a_k ≤ 2147483647) (p_0 : 0 ≤ (a_k)) (p_1 : (a_k) ≤ 100000) : MCi l yX12_sign cX12_sign 2 (some .int) ({ frames := 0, cells := 0, slots := 0, locals := 0 }) D dA h0 ad (f, g, A, L) [.int (II a_k)] (fun r σ => σ = (f, g, A, L) ∧ (r = sgn ((A 2)) (f 3) (f 4) (a_k) ∧ 0 ≤ r ∧ r ≤ 255 ∧ (r ≠ 0 → (a_k) < (f 4)))) := by
  generalize hPST : (fun r σ => σ = (f, g, A, L) ∧ (r = sgn ((A 2)) (f 3) (f 4) (a_k) ∧ 0 ≤ r ∧ r ≤ 255 ∧ (r ≠ 0 → (a_k) < (f 4)))) = PST
  refine m_enter (by decide) rfl (Nat.le_of_ble_eq_true rfl) (fun p e s m args below meth c ls B hM hl => ?_)
  have hA : ∀ q, s.heap.size ≤ q → mF dA h0 ad (f, g, A, L) s.heap.size q := fun q h => Or.inr h
  have hl : lv_has ls 2 [(0, .ref h0), (1, .int (II a_k))] := hl
  refine lv_iload_n B.1 B.2.1 dX12_sign_0 rfl (lv_at hl 1 rfl) ?_
  refine lv_aload_n B.1 B.2.1 dX12_sign_1 rfl (lv_at hl 0 rfl) ?_
  refine m_get (k := 4) (v := f 4) B hM (by decide) rfl fl1 dX12_sign_2 rfl ?_
  have r1 : (0 : Int) ≤ f 4 ∧ f 4 ≤ 3000 := hM.2.2.2.1 4
  refine q_cge (tgt := 30) B dX12_sign_5 (by decide) (by unfold inr; omega) (by unfold inr; omega) (fun c2 => ?_) (fun c2 => ?_)
  · refine q_con B dX12_sign_30 ?_
    subst hPST
    exact m_iret B hM dX12_sign_31 (by unfold inr; omega) ⟨rfl, by first | (refine ⟨(sgn_ge (by omega)).symm, ?_⟩; omega) | (refine ⟨(sgn_lt (by omega)).symm, ?_⟩; omega)⟩
  · refine lv_aload_n B.1 B.2.1 dX12_sign_8 rfl (lv_at hl 0 rfl) ?_
    refine m_geta (k := 2) B hM (by decide) rfl fl7 dX12_sign_9 ?_
    refine q_sip B dX12_sign_12 (by decide) ?_
    refine lv_aload_n B.1 B.2.1 dX12_sign_15 rfl (lv_at hl 0 rfl) ?_
    refine m_get (k := 3) (v := f 3) B hM (by decide) rfl fl11 dX12_sign_16 rfl ?_
    have r3 : (0 : Int) ≤ f 3 ∧ f 3 ≤ 1 := hM.2.2.2.1 3
    refine q_mul B dX12_sign_19 ?_
    refine lv_iload_n B.1 B.2.1 dX12_sign_20 rfl (lv_at hl 1 rfl) ?_
    refine q_add B dX12_sign_21 ?_
    refine m_bld (k := 2) (i := 1) (n := 6000) (z := (3000 * (f 3)) + a_k) (v := (A 2) ((3000 * (f 3)) + a_k).toNat) B hM rfl rfl rfl (by decide) dX12_sign_22 (by omega) (by omega) rfl ?_
    have r4 : (-128 : Int) ≤ (A 2) ((3000 * (f 3)) + a_k).toNat ∧ (A 2) ((3000 * (f 3)) + a_k).toNat ≤ 127 := hM.2.2.2.2 2 ((3000 * (f 3)) + a_k).toNat
    refine q_sip B dX12_sign_23 (by decide) ?_
    refine q_and255 B dX12_sign_26 ?_
    refine lv_goto (tgt := 31) B.1 B.2.1 dX12_sign_27 (by decide) ?_
    subst hPST
    exact m_iret B hM dX12_sign_31 (by unfold inr; omega) ⟨rfl, by first | (refine ⟨(sgn_ge (by omega)).symm, ?_⟩; omega) | (refine ⟨(sgn_lt (by omega)).symm, ?_⟩; omega)⟩
set_option maxHeartbeats 4000000 in
set_option maxRecDepth 20000 in
theorem k_isLetter (l : Launch) (D : va_G) (dA : Nat → ClassId) (a_c : Int) (i_c : (-2147483648 : Int) ≤ a_c ∧ a_c ≤ 2147483647) : SCi l yX12_isLetter cX12_isLetter 1 (some .boolean) ({ frames := 0, cells := 0, slots := 0, locals := 0 }) D dA [.int (II a_c)] (fun r => (r = 1 ↔ 97 ≤ (a_c) ∧ (a_c) ≤ 122) ∧ 0 ≤ r ∧ r ≤ 1) := by
  refine s_start (by decide) rfl (Nat.le_of_ble_eq_true rfl) (fun p e s m args below meth c ls B hl => ?_)
  have hl : lv_has ls 1 [(0, .int (II a_c))] := hl
  refine lv_iload_n B.1 B.2.1 dX12_isLetter_0 rfl (lv_at hl 0 rfl) ?_
  refine q_bip B dX12_isLetter_1 (by decide) ?_
  refine q_clt (tgt := 16) B dX12_isLetter_3 (by decide) (by unfold inr; omega) (by unfold inr; omega) (fun c1 => ?_) (fun c1 => ?_)
  · refine q_con B dX12_isLetter_16 ?_
    exact s_zret B dX12_isLetter_17 (by omega) (by omega)
  · refine lv_iload_n B.1 B.2.1 dX12_isLetter_6 rfl (lv_at hl 0 rfl) ?_
    refine q_bip B dX12_isLetter_7 (by decide) ?_
    refine q_cgt (tgt := 16) B dX12_isLetter_9 (by decide) (by unfold inr; omega) (by unfold inr; omega) (fun c2 => ?_) (fun c2 => ?_)
    · refine q_con B dX12_isLetter_16 ?_
      exact s_zret B dX12_isLetter_17 (by omega) (by omega)
    · refine q_con B dX12_isLetter_12 ?_
      refine lv_goto (tgt := 17) B.1 B.2.1 dX12_isLetter_13 (by decide) ?_
      exact s_zret B dX12_isLetter_17 (by omega) (by omega)
set_option maxHeartbeats 4000000 in
set_option maxRecDepth 20000 in
theorem k_isDigit (l : Launch) (D : va_G) (dA : Nat → ClassId) (a_c : Int) (i_c : (-2147483648 : Int) ≤ a_c ∧ a_c ≤ 2147483647) : SCi l yX12_isDigit cX12_isDigit 1 (some .boolean) ({ frames := 0, cells := 0, slots := 0, locals := 0 }) D dA [.int (II a_c)] (fun r => (r = 1 ↔ 48 ≤ (a_c) ∧ (a_c) ≤ 57) ∧ 0 ≤ r ∧ r ≤ 1) := by
  refine s_start (by decide) rfl (Nat.le_of_ble_eq_true rfl) (fun p e s m args below meth c ls B hl => ?_)
  have hl : lv_has ls 1 [(0, .int (II a_c))] := hl
  refine lv_iload_n B.1 B.2.1 dX12_isDigit_0 rfl (lv_at hl 0 rfl) ?_
  refine q_bip B dX12_isDigit_1 (by decide) ?_
  refine q_clt (tgt := 16) B dX12_isDigit_3 (by decide) (by unfold inr; omega) (by unfold inr; omega) (fun c1 => ?_) (fun c1 => ?_)
  · refine q_con B dX12_isDigit_16 ?_
    exact s_zret B dX12_isDigit_17 (by omega) (by omega)
  · refine lv_iload_n B.1 B.2.1 dX12_isDigit_6 rfl (lv_at hl 0 rfl) ?_
    refine q_bip B dX12_isDigit_7 (by decide) ?_
    refine q_cgt (tgt := 16) B dX12_isDigit_9 (by decide) (by unfold inr; omega) (by unfold inr; omega) (fun c2 => ?_) (fun c2 => ?_)
    · refine q_con B dX12_isDigit_16 ?_
      exact s_zret B dX12_isDigit_17 (by omega) (by omega)
    · refine q_con B dX12_isDigit_12 ?_
      refine lv_goto (tgt := 17) B.1 B.2.1 dX12_isDigit_13 (by decide) ?_
      exact s_zret B dX12_isDigit_17 (by omega) (by omega)
set_option maxHeartbeats 4000000 in
set_option maxRecDepth 20000 in
theorem k_isGood (l : Launch) (D : va_G) (dA : Nat → ClassId) (h0 : Nat) (ad : Nat → Nat) (f : Nat → Int) (g : Nat → Int64) (A : Nat → Nat → Int) (L : Nat → Nat → Int64) : MCi l yX12_isGood cX12_isGood 1 (some .boolean) ({ frames := 0, cells := 0, slots := 0, locals := 0 }) D dA h0 ad (f, g, A, L) [] (fun r σ => σ = (f, g, A, L) ∧ (0 ≤ r ∧ r ≤ 1 ∧ (r = 1 ↔ (f 5) = 0))) := by
  generalize hPST : (fun r σ => σ = (f, g, A, L) ∧ (0 ≤ r ∧ r ≤ 1 ∧ (r = 1 ↔ (f 5) = 0))) = PST
  refine m_enter (by decide) rfl (Nat.le_of_ble_eq_true rfl) (fun p e s m args below meth c ls B hM hl => ?_)
  have hA : ∀ q, s.heap.size ≤ q → mF dA h0 ad (f, g, A, L) s.heap.size q := fun q h => Or.inr h
  have hl : lv_has ls 1 [(0, .ref h0)] := hl
  refine lv_aload_n B.1 B.2.1 dX12_isGood_0 rfl (lv_at hl 0 rfl) ?_
  refine m_get (k := 5) (v := f 5) B hM (by decide) rfl fl14 dX12_isGood_1 rfl ?_
  have r1 : (-2147483648 : Int) ≤ f 5 ∧ f 5 ≤ 2147483647 := hM.2.2.2.1 5
  refine q_ine (tgt := 11) B dX12_isGood_4 (by decide) (by unfold inr; omega) (fun c2 => ?_) (fun c2 => ?_)
  · refine q_con B dX12_isGood_11 ?_
    subst hPST
    exact m_zret B hM dX12_isGood_12 (by omega) ⟨rfl, by omega⟩
  · refine q_con B dX12_isGood_7 ?_
    refine lv_goto (tgt := 12) B.1 B.2.1 dX12_isGood_8 (by decide) ?_
    subst hPST
    exact m_zret B hM dX12_isGood_12 (by omega) ⟨rfl, by omega⟩
set_option maxHeartbeats 4000000 in
set_option maxRecDepth 20000 in
theorem k_fails (l : Launch) (D : va_G) (dA : Nat → ClassId) (h0 : Nat) (ad : Nat → Nat) (f : Nat → Int) (g : Nat → Int64) (A : Nat → Nat → Int) (L : Nat → Nat → Int64) (a_kind : Int) (a_place : Int) (i_kind : (-2147483648 : Int) ≤ a_kind ∧ a_kind ≤ 2147483647) (i_place : (-2147483648 : Int) ≤ a_place ∧ a_place ≤ 2147483647) : MCi l yX12_fails cX12_fails 3 (some .boolean) ({ frames := 0, cells := 0, slots := 0, locals := 0 }) D dA h0 ad (f, g, A, L) [.int (II a_kind), .int (II a_place)] (fun r σ => ∃ n5 : Int, ∃ n6 : Int, σ = ((up f [(5, n5), (6, n6)]), g, A, L) ∧ (r = 0 ∧ ((f 5) ≠ 0 → (n5) = (f 5)) ∧ ((f 5) = 0 → (n5) = (a_kind)))) := by
  generalize hPST : (fun r σ => ∃ n5 : Int, ∃ n6 : Int, σ = ((up f [(5, n5), (6, n6)]), g, A, L) ∧ (r = 0 ∧ ((f 5) ≠ 0 → (n5) = (f 5)) ∧ ((f 5) = 0 → (n5) = (a_kind)))) = PST
  refine m_enter (by decide) rfl (Nat.le_of_ble_eq_true rfl) (fun p e s m args below meth c ls B hM hl => ?_)
  have hA : ∀ q, s.heap.size ≤ q → mF dA h0 ad (f, g, A, L) s.heap.size q := fun q h => Or.inr h
  have hM : MWd D dA h0 ad (mF dA h0 ad (f, g, A, L) s.heap.size) s.heap ((up f [(5, f 5), (6, f 6)]), g, A, L) s.heap [] := MW_pad hM (up_self f [5, 6]) rfl rfl rfl
  have hl : lv_has ls 3 [(0, .ref h0), (1, .int (II a_kind)), (2, .int (II a_place))] := hl
  refine lv_aload_n B.1 B.2.1 dX12_fails_0 rfl (lv_at hl 0 rfl) ?_
  refine m_get (k := 5) (v := f 5) B hM (by decide) rfl fl14 dX12_fails_1 rfl ?_
  have r1 : (-2147483648 : Int) ≤ f 5 ∧ f 5 ≤ 2147483647 := hM.2.2.2.1 5
  refine q_ine (tgt := 17) B dX12_fails_4 (by decide) (by unfold inr; omega) (fun c2 => ?_) (fun c2 => ?_)
  · refine q_con B dX12_fails_17 ?_
    subst hPST
    exact m_zret B hM dX12_fails_18 (by omega) ⟨(f 5), (f 6), rfl, by omega⟩
  · refine lv_aload_n B.1 B.2.1 dX12_fails_7 rfl (lv_at hl 0 rfl) ?_
    refine lv_iload_n B.1 B.2.1 dX12_fails_8 rfl (lv_at hl 1 rfl) ?_
    refine m_put (k := 5) B hM (by decide) rfl fl14 rfl dX12_fails_9 rfl rfl (show (-2147483648 : Int) ≤ a_kind by omega) (show a_kind ≤ (2147483647 : Int) by omega) (u1_up f [(5, f 5), (6, f 6)] 5 a_kind) (fun H locs hM => ?_)
    have hM : MWd D dA h0 ad (mF dA h0 ad (f, g, A, L) s.heap.size) s.heap ((up f [(5, a_kind), (6, f 6)]), g, A, L) H locs := hM
    refine lv_aload_n B.1 B.2.1 dX12_fails_12 rfl (lv_at hl 0 rfl) ?_
    refine lv_iload_n B.1 B.2.1 dX12_fails_13 rfl (lv_at hl 2 rfl) ?_
    refine m_put (k := 6) B hM (by decide) rfl fl17 rfl dX12_fails_14 rfl rfl (show (-2147483648 : Int) ≤ a_place by omega) (show a_place ≤ (2147483647 : Int) by omega) (u1_up f [(5, a_kind), (6, f 6)] 6 a_place) (fun H locs hM => ?_)
    have hM : MWd D dA h0 ad (mF dA h0 ad (f, g, A, L) s.heap.size) s.heap ((up f [(5, a_kind), (6, a_place)]), g, A, L) H locs := hM
    refine q_con B dX12_fails_17 ?_
    subst hPST
    exact m_zret B hM dX12_fails_18 (by omega) ⟨a_kind, a_place, rfl, by omega⟩
set_option maxHeartbeats 4000000 in
set_option maxRecDepth 20000 in
theorem k_isKept (l : Launch) (D : va_G) (dA : Nat → ClassId) (a_v : Int64) : SCi l yX12_isKept cX12_isKept 2 (some .boolean) ({ frames := 0, cells := 0, slots := 0, locals := 0 }) D dA [.long a_v] (fun r => 0 ≤ r ∧ r ≤ 1) := by
  refine s_start (by decide) rfl (Nat.le_of_ble_eq_true rfl) (fun p e s m args below meth c ls B hl => ?_)
  have hl : lv_has ls 2 [(0, .long a_v)] := hl
  refine lv_lload_n B.1 B.2.1 dX12_isKept_0 rfl (lv_at hl 0 rfl) ?_
  refine lv_ldc2 B.1 B.2.1 B.2.2.2.1 (B.2.2.2.2.1 _ lc20) dX12_isKept_1 ?_
  refine q_lcmp B dX12_isKept_4 (fun x1 lx1 ux1 ex1 => ?_)
  refine q_ieq (tgt := 80) B dX12_isKept_5 (by decide) (by unfold inr; omega) (fun c2 => ?_) (fun c2 => ?_)
  · refine q_con B dX12_isKept_80 ?_
    refine lv_goto (tgt := 85) B.1 B.2.1 dX12_isKept_81 (by decide) ?_
    exact s_zret B dX12_isKept_85 (by omega) (by omega)
  · refine lv_lload_n B.1 B.2.1 dX12_isKept_8 rfl (lv_at hl 0 rfl) ?_
    refine lv_ldc2 B.1 B.2.1 B.2.2.2.1 (B.2.2.2.2.1 _ lc22) dX12_isKept_9 ?_
    refine q_lcmp B dX12_isKept_12 (fun x3 lx3 ux3 ex3 => ?_)
    refine q_ieq (tgt := 80) B dX12_isKept_13 (by decide) (by unfold inr; omega) (fun c4 => ?_) (fun c4 => ?_)
    · refine q_con B dX12_isKept_80 ?_
      refine lv_goto (tgt := 85) B.1 B.2.1 dX12_isKept_81 (by decide) ?_
      exact s_zret B dX12_isKept_85 (by omega) (by omega)
    · refine lv_lload_n B.1 B.2.1 dX12_isKept_16 rfl (lv_at hl 0 rfl) ?_
      refine lv_ldc2 B.1 B.2.1 B.2.2.2.1 (B.2.2.2.2.1 _ lc24) dX12_isKept_17 ?_
      refine q_lcmp B dX12_isKept_20 (fun x5 lx5 ux5 ex5 => ?_)
      refine q_ieq (tgt := 80) B dX12_isKept_21 (by decide) (by unfold inr; omega) (fun c6 => ?_) (fun c6 => ?_)
      · refine q_con B dX12_isKept_80 ?_
        refine lv_goto (tgt := 85) B.1 B.2.1 dX12_isKept_81 (by decide) ?_
        exact s_zret B dX12_isKept_85 (by omega) (by omega)
      · refine lv_lload_n B.1 B.2.1 dX12_isKept_24 rfl (lv_at hl 0 rfl) ?_
        refine lv_ldc2 B.1 B.2.1 B.2.2.2.1 (B.2.2.2.2.1 _ lc26) dX12_isKept_25 ?_
        refine q_lcmp B dX12_isKept_28 (fun x7 lx7 ux7 ex7 => ?_)
        refine q_ieq (tgt := 80) B dX12_isKept_29 (by decide) (by unfold inr; omega) (fun c8 => ?_) (fun c8 => ?_)
        · refine q_con B dX12_isKept_80 ?_
          refine lv_goto (tgt := 85) B.1 B.2.1 dX12_isKept_81 (by decide) ?_
          exact s_zret B dX12_isKept_85 (by omega) (by omega)
        · refine lv_lload_n B.1 B.2.1 dX12_isKept_32 rfl (lv_at hl 0 rfl) ?_
          refine lv_ldc2 B.1 B.2.1 B.2.2.2.1 (B.2.2.2.2.1 _ lc28) dX12_isKept_33 ?_
          refine q_lcmp B dX12_isKept_36 (fun x9 lx9 ux9 ex9 => ?_)
          refine q_ieq (tgt := 80) B dX12_isKept_37 (by decide) (by unfold inr; omega) (fun c10 => ?_) (fun c10 => ?_)
          · refine q_con B dX12_isKept_80 ?_
            refine lv_goto (tgt := 85) B.1 B.2.1 dX12_isKept_81 (by decide) ?_
            exact s_zret B dX12_isKept_85 (by omega) (by omega)
          · refine lv_lload_n B.1 B.2.1 dX12_isKept_40 rfl (lv_at hl 0 rfl) ?_
            refine lv_ldc2 B.1 B.2.1 B.2.2.2.1 (B.2.2.2.2.1 _ lc30) dX12_isKept_41 ?_
            refine q_lcmp B dX12_isKept_44 (fun x11 lx11 ux11 ex11 => ?_)
            refine q_ieq (tgt := 80) B dX12_isKept_45 (by decide) (by unfold inr; omega) (fun c12 => ?_) (fun c12 => ?_)
            · refine q_con B dX12_isKept_80 ?_
              refine lv_goto (tgt := 85) B.1 B.2.1 dX12_isKept_81 (by decide) ?_
              exact s_zret B dX12_isKept_85 (by omega) (by omega)
            · refine lv_lload_n B.1 B.2.1 dX12_isKept_48 rfl (lv_at hl 0 rfl) ?_
              refine lv_ldc2 B.1 B.2.1 B.2.2.2.1 (B.2.2.2.2.1 _ lc32) dX12_isKept_49 ?_
              refine q_lcmp B dX12_isKept_52 (fun x13 lx13 ux13 ex13 => ?_)
              refine q_ieq (tgt := 80) B dX12_isKept_53 (by decide) (by unfold inr; omega) (fun c14 => ?_) (fun c14 => ?_)
              · refine q_con B dX12_isKept_80 ?_
                refine lv_goto (tgt := 85) B.1 B.2.1 dX12_isKept_81 (by decide) ?_
                exact s_zret B dX12_isKept_85 (by omega) (by omega)
              · refine lv_lload_n B.1 B.2.1 dX12_isKept_56 rfl (lv_at hl 0 rfl) ?_
                refine lv_ldc2 B.1 B.2.1 B.2.2.2.1 (B.2.2.2.2.1 _ lc34) dX12_isKept_57 ?_
                refine q_lcmp B dX12_isKept_60 (fun x15 lx15 ux15 ex15 => ?_)
                refine q_ieq (tgt := 80) B dX12_isKept_61 (by decide) (by unfold inr; omega) (fun c16 => ?_) (fun c16 => ?_)
                · refine q_con B dX12_isKept_80 ?_
                  refine lv_goto (tgt := 85) B.1 B.2.1 dX12_isKept_81 (by decide) ?_
                  exact s_zret B dX12_isKept_85 (by omega) (by omega)
                · refine lv_lload_n B.1 B.2.1 dX12_isKept_64 rfl (lv_at hl 0 rfl) ?_
                  refine lv_ldc2 B.1 B.2.1 B.2.2.2.1 (B.2.2.2.2.1 _ lc36) dX12_isKept_65 ?_
                  refine q_lcmp B dX12_isKept_68 (fun x17 lx17 ux17 ex17 => ?_)
                  refine q_ieq (tgt := 80) B dX12_isKept_69 (by decide) (by unfold inr; omega) (fun c18 => ?_) (fun c18 => ?_)
                  · refine q_con B dX12_isKept_80 ?_
                    refine lv_goto (tgt := 85) B.1 B.2.1 dX12_isKept_81 (by decide) ?_
                    exact s_zret B dX12_isKept_85 (by omega) (by omega)
                  · refine lv_lload_n B.1 B.2.1 dX12_isKept_72 rfl (lv_at hl 0 rfl) ?_
                    refine lv_ldc2 B.1 B.2.1 B.2.2.2.1 (B.2.2.2.2.1 _ lc38) dX12_isKept_73 ?_
                    refine q_lcmp B dX12_isKept_76 (fun x19 lx19 ux19 ex19 => ?_)
                    refine q_ine (tgt := 84) B dX12_isKept_77 (by decide) (by unfold inr; omega) (fun c20 => ?_) (fun c20 => ?_)
                    · refine q_con B dX12_isKept_84 ?_
                      exact s_zret B dX12_isKept_85 (by omega) (by omega)
                    · refine q_con B dX12_isKept_80 ?_
                      refine lv_goto (tgt := 85) B.1 B.2.1 dX12_isKept_81 (by decide) ?_
                      exact s_zret B dX12_isKept_85 (by omega) (by omega)
set_option maxHeartbeats 4000000 in
set_option maxRecDepth 20000 in
theorem k_built (l : Launch) (D : va_G) (dA : Nat → ClassId) (a_v : Int64) : SCi l yX12_built cX12_built 2 (some .int) ({ frames := 0, cells := 0, slots := 0, locals := 0 }) D dA [.long a_v] (fun r => 0 ≤ r ∧ r ≤ 8) := by
  refine s_start (by decide) rfl (Nat.le_of_ble_eq_true rfl) (fun p e s m args below meth c ls B hl => ?_)
  have hl : lv_has ls 2 [(0, .long a_v)] := hl
  refine lv_lload_n B.1 B.2.1 dX12_built_0 rfl (lv_at hl 0 rfl) ?_
  refine lv_ldc2 B.1 B.2.1 B.2.2.2.1 (B.2.2.2.2.1 _ lc40) dX12_built_1 ?_
  refine q_lcmp B dX12_built_4 (fun x1 lx1 ux1 ex1 => ?_)
  refine q_ine (tgt := 10) B dX12_built_5 (by decide) (by unfold inr; omega) (fun c2 => ?_) (fun c2 => ?_)
  · refine lv_lload_n B.1 B.2.1 dX12_built_10 rfl (lv_at hl 0 rfl) ?_
    refine lv_ldc2 B.1 B.2.1 B.2.2.2.1 (B.2.2.2.2.1 _ lc42) dX12_built_11 ?_
    refine q_lcmp B dX12_built_14 (fun x3 lx3 ux3 ex3 => ?_)
    refine q_ine (tgt := 20) B dX12_built_15 (by decide) (by unfold inr; omega) (fun c4 => ?_) (fun c4 => ?_)
    · refine lv_lload_n B.1 B.2.1 dX12_built_20 rfl (lv_at hl 0 rfl) ?_
      refine lv_ldc2 B.1 B.2.1 B.2.2.2.1 (B.2.2.2.2.1 _ lc44) dX12_built_21 ?_
      refine q_lcmp B dX12_built_24 (fun x5 lx5 ux5 ex5 => ?_)
      refine q_ine (tgt := 30) B dX12_built_25 (by decide) (by unfold inr; omega) (fun c6 => ?_) (fun c6 => ?_)
      · refine lv_lload_n B.1 B.2.1 dX12_built_30 rfl (lv_at hl 0 rfl) ?_
        refine lv_ldc2 B.1 B.2.1 B.2.2.2.1 (B.2.2.2.2.1 _ lc46) dX12_built_31 ?_
        refine q_lcmp B dX12_built_34 (fun x7 lx7 ux7 ex7 => ?_)
        refine q_ine (tgt := 40) B dX12_built_35 (by decide) (by unfold inr; omega) (fun c8 => ?_) (fun c8 => ?_)
        · refine lv_lload_n B.1 B.2.1 dX12_built_40 rfl (lv_at hl 0 rfl) ?_
          refine lv_ldc2 B.1 B.2.1 B.2.2.2.1 (B.2.2.2.2.1 _ lc48) dX12_built_41 ?_
          refine q_lcmp B dX12_built_44 (fun x9 lx9 ux9 ex9 => ?_)
          refine q_ine (tgt := 50) B dX12_built_45 (by decide) (by unfold inr; omega) (fun c10 => ?_) (fun c10 => ?_)
          · refine lv_lload_n B.1 B.2.1 dX12_built_50 rfl (lv_at hl 0 rfl) ?_
            refine lv_ldc2 B.1 B.2.1 B.2.2.2.1 (B.2.2.2.2.1 _ lc50) dX12_built_51 ?_
            refine q_lcmp B dX12_built_54 (fun x11 lx11 ux11 ex11 => ?_)
            refine q_ine (tgt := 61) B dX12_built_55 (by decide) (by unfold inr; omega) (fun c12 => ?_) (fun c12 => ?_)
            · refine lv_lload_n B.1 B.2.1 dX12_built_61 rfl (lv_at hl 0 rfl) ?_
              refine lv_ldc2 B.1 B.2.1 B.2.2.2.1 (B.2.2.2.2.1 _ lc52) dX12_built_62 ?_
              refine q_lcmp B dX12_built_65 (fun x13 lx13 ux13 ex13 => ?_)
              refine q_ine (tgt := 72) B dX12_built_66 (by decide) (by unfold inr; omega) (fun c14 => ?_) (fun c14 => ?_)
              · refine lv_lload_n B.1 B.2.1 dX12_built_72 rfl (lv_at hl 0 rfl) ?_
                refine lv_ldc2 B.1 B.2.1 B.2.2.2.1 (B.2.2.2.2.1 _ lc54) dX12_built_73 ?_
                refine q_lcmp B dX12_built_76 (fun x15 lx15 ux15 ex15 => ?_)
                refine q_ine (tgt := 85) B dX12_built_77 (by decide) (by unfold inr; omega) (fun c16 => ?_) (fun c16 => ?_)
                · refine q_con B dX12_built_85 ?_
                  exact s_iret B dX12_built_86 (by unfold inr; omega) (by omega)
                · refine q_bip B dX12_built_80 (by decide) ?_
                  refine lv_goto (tgt := 86) B.1 B.2.1 dX12_built_82 (by decide) ?_
                  exact s_iret B dX12_built_86 (by unfold inr; omega) (by omega)
              · refine q_bip B dX12_built_69 (by decide) ?_
                exact s_iret B dX12_built_71 (by unfold inr; omega) (by omega)
            · refine q_bip B dX12_built_58 (by decide) ?_
              exact s_iret B dX12_built_60 (by unfold inr; omega) (by omega)
          · refine q_con B dX12_built_48 ?_
            exact s_iret B dX12_built_49 (by unfold inr; omega) (by omega)
        · refine q_con B dX12_built_38 ?_
          exact s_iret B dX12_built_39 (by unfold inr; omega) (by omega)
      · refine q_con B dX12_built_28 ?_
        exact s_iret B dX12_built_29 (by unfold inr; omega) (by omega)
    · refine q_con B dX12_built_18 ?_
      exact s_iret B dX12_built_19 (by unfold inr; omega) (by omega)
  · refine q_con B dX12_built_8 ?_
    exact s_iret B dX12_built_9 (by unfold inr; omega) (by omega)
set_option maxHeartbeats 4000000 in
set_option maxRecDepth 20000 in
theorem k_isSignOf (l : Launch) (D : va_G) (dA : Nat → ClassId) (a_c : Int) (i_c : (-2147483648 : Int) ≤ a_c ∧ a_c ≤ 2147483647) : SCi l yX12_isSignOf cX12_isSignOf 1 (some .boolean) ({ frames := 0, cells := 0, slots := 0, locals := 0 }) D dA [.int (II a_c)] (fun r => 0 ≤ r ∧ r ≤ 1) := by
  refine s_start (by decide) rfl (Nat.le_of_ble_eq_true rfl) (fun p e s m args below meth c ls B hl => ?_)
  have hl : lv_has ls 1 [(0, .int (II a_c))] := hl
  refine lv_iload_n B.1 B.2.1 dX12_isSignOf_0 rfl (lv_at hl 0 rfl) ?_
  refine q_bip B dX12_isSignOf_1 (by decide) ?_
  refine q_ceq (tgt := 132) B dX12_isSignOf_3 (by decide) (by unfold inr; omega) (by unfold inr; omega) (fun c1 => ?_) (fun c1 => ?_)
  · refine q_con B dX12_isSignOf_132 ?_
    refine lv_goto (tgt := 137) B.1 B.2.1 dX12_isSignOf_133 (by decide) ?_
    exact s_zret B dX12_isSignOf_137 (by omega) (by omega)
  · refine lv_iload_n B.1 B.2.1 dX12_isSignOf_6 rfl (lv_at hl 0 rfl) ?_
    refine q_bip B dX12_isSignOf_7 (by decide) ?_
    refine q_ceq (tgt := 132) B dX12_isSignOf_9 (by decide) (by unfold inr; omega) (by unfold inr; omega) (fun c2 => ?_) (fun c2 => ?_)
    · refine q_con B dX12_isSignOf_132 ?_
      refine lv_goto (tgt := 137) B.1 B.2.1 dX12_isSignOf_133 (by decide) ?_
      exact s_zret B dX12_isSignOf_137 (by omega) (by omega)
    · refine lv_iload_n B.1 B.2.1 dX12_isSignOf_12 rfl (lv_at hl 0 rfl) ?_
      refine q_bip B dX12_isSignOf_13 (by decide) ?_
      refine q_ceq (tgt := 132) B dX12_isSignOf_15 (by decide) (by unfold inr; omega) (by unfold inr; omega) (fun c3 => ?_) (fun c3 => ?_)
      · refine q_con B dX12_isSignOf_132 ?_
        refine lv_goto (tgt := 137) B.1 B.2.1 dX12_isSignOf_133 (by decide) ?_
        exact s_zret B dX12_isSignOf_137 (by omega) (by omega)
      · refine lv_iload_n B.1 B.2.1 dX12_isSignOf_18 rfl (lv_at hl 0 rfl) ?_
        refine q_bip B dX12_isSignOf_19 (by decide) ?_
        refine q_ceq (tgt := 132) B dX12_isSignOf_21 (by decide) (by unfold inr; omega) (by unfold inr; omega) (fun c4 => ?_) (fun c4 => ?_)
        · refine q_con B dX12_isSignOf_132 ?_
          refine lv_goto (tgt := 137) B.1 B.2.1 dX12_isSignOf_133 (by decide) ?_
          exact s_zret B dX12_isSignOf_137 (by omega) (by omega)
        · refine lv_iload_n B.1 B.2.1 dX12_isSignOf_24 rfl (lv_at hl 0 rfl) ?_
          refine q_bip B dX12_isSignOf_25 (by decide) ?_
          refine q_ceq (tgt := 132) B dX12_isSignOf_27 (by decide) (by unfold inr; omega) (by unfold inr; omega) (fun c5 => ?_) (fun c5 => ?_)
          · refine q_con B dX12_isSignOf_132 ?_
            refine lv_goto (tgt := 137) B.1 B.2.1 dX12_isSignOf_133 (by decide) ?_
            exact s_zret B dX12_isSignOf_137 (by omega) (by omega)
          · refine lv_iload_n B.1 B.2.1 dX12_isSignOf_30 rfl (lv_at hl 0 rfl) ?_
            refine q_bip B dX12_isSignOf_31 (by decide) ?_
            refine q_ceq (tgt := 132) B dX12_isSignOf_33 (by decide) (by unfold inr; omega) (by unfold inr; omega) (fun c6 => ?_) (fun c6 => ?_)
            · refine q_con B dX12_isSignOf_132 ?_
              refine lv_goto (tgt := 137) B.1 B.2.1 dX12_isSignOf_133 (by decide) ?_
              exact s_zret B dX12_isSignOf_137 (by omega) (by omega)
            · refine lv_iload_n B.1 B.2.1 dX12_isSignOf_36 rfl (lv_at hl 0 rfl) ?_
              refine q_bip B dX12_isSignOf_37 (by decide) ?_
              refine q_ceq (tgt := 132) B dX12_isSignOf_39 (by decide) (by unfold inr; omega) (by unfold inr; omega) (fun c7 => ?_) (fun c7 => ?_)
              · refine q_con B dX12_isSignOf_132 ?_
                refine lv_goto (tgt := 137) B.1 B.2.1 dX12_isSignOf_133 (by decide) ?_
                exact s_zret B dX12_isSignOf_137 (by omega) (by omega)
              · refine lv_iload_n B.1 B.2.1 dX12_isSignOf_42 rfl (lv_at hl 0 rfl) ?_
                refine q_bip B dX12_isSignOf_43 (by decide) ?_
                refine q_ceq (tgt := 132) B dX12_isSignOf_45 (by decide) (by unfold inr; omega) (by unfold inr; omega) (fun c8 => ?_) (fun c8 => ?_)
                · refine q_con B dX12_isSignOf_132 ?_
                  refine lv_goto (tgt := 137) B.1 B.2.1 dX12_isSignOf_133 (by decide) ?_
                  exact s_zret B dX12_isSignOf_137 (by omega) (by omega)
                · refine lv_iload_n B.1 B.2.1 dX12_isSignOf_48 rfl (lv_at hl 0 rfl) ?_
                  refine q_bip B dX12_isSignOf_49 (by decide) ?_
                  refine q_ceq (tgt := 132) B dX12_isSignOf_51 (by decide) (by unfold inr; omega) (by unfold inr; omega) (fun c9 => ?_) (fun c9 => ?_)
                  · refine q_con B dX12_isSignOf_132 ?_
                    refine lv_goto (tgt := 137) B.1 B.2.1 dX12_isSignOf_133 (by decide) ?_
                    exact s_zret B dX12_isSignOf_137 (by omega) (by omega)
                  · refine lv_iload_n B.1 B.2.1 dX12_isSignOf_54 rfl (lv_at hl 0 rfl) ?_
                    refine q_bip B dX12_isSignOf_55 (by decide) ?_
                    refine q_ceq (tgt := 132) B dX12_isSignOf_57 (by decide) (by unfold inr; omega) (by unfold inr; omega) (fun c10 => ?_) (fun c10 => ?_)
                    · refine q_con B dX12_isSignOf_132 ?_
                      refine lv_goto (tgt := 137) B.1 B.2.1 dX12_isSignOf_133 (by decide) ?_
                      exact s_zret B dX12_isSignOf_137 (by omega) (by omega)
                    · refine lv_iload_n B.1 B.2.1 dX12_isSignOf_60 rfl (lv_at hl 0 rfl) ?_
                      refine q_bip B dX12_isSignOf_61 (by decide) ?_
                      refine q_ceq (tgt := 132) B dX12_isSignOf_63 (by decide) (by unfold inr; omega) (by unfold inr; omega) (fun c11 => ?_) (fun c11 => ?_)
                      · refine q_con B dX12_isSignOf_132 ?_
                        refine lv_goto (tgt := 137) B.1 B.2.1 dX12_isSignOf_133 (by decide) ?_
                        exact s_zret B dX12_isSignOf_137 (by omega) (by omega)
                      · refine lv_iload_n B.1 B.2.1 dX12_isSignOf_66 rfl (lv_at hl 0 rfl) ?_
                        refine q_bip B dX12_isSignOf_67 (by decide) ?_
                        refine q_ceq (tgt := 132) B dX12_isSignOf_69 (by decide) (by unfold inr; omega) (by unfold inr; omega) (fun c12 => ?_) (fun c12 => ?_)
                        · refine q_con B dX12_isSignOf_132 ?_
                          refine lv_goto (tgt := 137) B.1 B.2.1 dX12_isSignOf_133 (by decide) ?_
                          exact s_zret B dX12_isSignOf_137 (by omega) (by omega)
                        · refine lv_iload_n B.1 B.2.1 dX12_isSignOf_72 rfl (lv_at hl 0 rfl) ?_
                          refine q_bip B dX12_isSignOf_73 (by decide) ?_
                          refine q_ceq (tgt := 132) B dX12_isSignOf_75 (by decide) (by unfold inr; omega) (by unfold inr; omega) (fun c13 => ?_) (fun c13 => ?_)
                          · refine q_con B dX12_isSignOf_132 ?_
                            refine lv_goto (tgt := 137) B.1 B.2.1 dX12_isSignOf_133 (by decide) ?_
                            exact s_zret B dX12_isSignOf_137 (by omega) (by omega)
                          · refine lv_iload_n B.1 B.2.1 dX12_isSignOf_78 rfl (lv_at hl 0 rfl) ?_
                            refine q_bip B dX12_isSignOf_79 (by decide) ?_
                            refine q_ceq (tgt := 132) B dX12_isSignOf_81 (by decide) (by unfold inr; omega) (by unfold inr; omega) (fun c14 => ?_) (fun c14 => ?_)
                            · refine q_con B dX12_isSignOf_132 ?_
                              refine lv_goto (tgt := 137) B.1 B.2.1 dX12_isSignOf_133 (by decide) ?_
                              exact s_zret B dX12_isSignOf_137 (by omega) (by omega)
                            · refine lv_iload_n B.1 B.2.1 dX12_isSignOf_84 rfl (lv_at hl 0 rfl) ?_
                              refine q_bip B dX12_isSignOf_85 (by decide) ?_
                              refine q_ceq (tgt := 132) B dX12_isSignOf_87 (by decide) (by unfold inr; omega) (by unfold inr; omega) (fun c15 => ?_) (fun c15 => ?_)
                              · refine q_con B dX12_isSignOf_132 ?_
                                refine lv_goto (tgt := 137) B.1 B.2.1 dX12_isSignOf_133 (by decide) ?_
                                exact s_zret B dX12_isSignOf_137 (by omega) (by omega)
                              · refine lv_iload_n B.1 B.2.1 dX12_isSignOf_90 rfl (lv_at hl 0 rfl) ?_
                                refine q_bip B dX12_isSignOf_91 (by decide) ?_
                                refine q_ceq (tgt := 132) B dX12_isSignOf_93 (by decide) (by unfold inr; omega) (by unfold inr; omega) (fun c16 => ?_) (fun c16 => ?_)
                                · refine q_con B dX12_isSignOf_132 ?_
                                  refine lv_goto (tgt := 137) B.1 B.2.1 dX12_isSignOf_133 (by decide) ?_
                                  exact s_zret B dX12_isSignOf_137 (by omega) (by omega)
                                · refine lv_iload_n B.1 B.2.1 dX12_isSignOf_96 rfl (lv_at hl 0 rfl) ?_
                                  refine q_bip B dX12_isSignOf_97 (by decide) ?_
                                  refine q_ceq (tgt := 132) B dX12_isSignOf_99 (by decide) (by unfold inr; omega) (by unfold inr; omega) (fun c17 => ?_) (fun c17 => ?_)
                                  · refine q_con B dX12_isSignOf_132 ?_
                                    refine lv_goto (tgt := 137) B.1 B.2.1 dX12_isSignOf_133 (by decide) ?_
                                    exact s_zret B dX12_isSignOf_137 (by omega) (by omega)
                                  · refine lv_iload_n B.1 B.2.1 dX12_isSignOf_102 rfl (lv_at hl 0 rfl) ?_
                                    refine q_bip B dX12_isSignOf_103 (by decide) ?_
                                    refine q_ceq (tgt := 132) B dX12_isSignOf_105 (by decide) (by unfold inr; omega) (by unfold inr; omega) (fun c18 => ?_) (fun c18 => ?_)
                                    · refine q_con B dX12_isSignOf_132 ?_
                                      refine lv_goto (tgt := 137) B.1 B.2.1 dX12_isSignOf_133 (by decide) ?_
                                      exact s_zret B dX12_isSignOf_137 (by omega) (by omega)
                                    · refine lv_iload_n B.1 B.2.1 dX12_isSignOf_108 rfl (lv_at hl 0 rfl) ?_
                                      refine q_bip B dX12_isSignOf_109 (by decide) ?_
                                      refine q_ceq (tgt := 132) B dX12_isSignOf_111 (by decide) (by unfold inr; omega) (by unfold inr; omega) (fun c19 => ?_) (fun c19 => ?_)
                                      · refine q_con B dX12_isSignOf_132 ?_
                                        refine lv_goto (tgt := 137) B.1 B.2.1 dX12_isSignOf_133 (by decide) ?_
                                        exact s_zret B dX12_isSignOf_137 (by omega) (by omega)
                                      · refine lv_iload_n B.1 B.2.1 dX12_isSignOf_114 rfl (lv_at hl 0 rfl) ?_
                                        refine q_bip B dX12_isSignOf_115 (by decide) ?_
                                        refine q_ceq (tgt := 132) B dX12_isSignOf_117 (by decide) (by unfold inr; omega) (by unfold inr; omega) (fun c20 => ?_) (fun c20 => ?_)
                                        · refine q_con B dX12_isSignOf_132 ?_
                                          refine lv_goto (tgt := 137) B.1 B.2.1 dX12_isSignOf_133 (by decide) ?_
                                          exact s_zret B dX12_isSignOf_137 (by omega) (by omega)
                                        · refine lv_iload_n B.1 B.2.1 dX12_isSignOf_120 rfl (lv_at hl 0 rfl) ?_
                                          refine q_bip B dX12_isSignOf_121 (by decide) ?_
                                          refine q_ceq (tgt := 132) B dX12_isSignOf_123 (by decide) (by unfold inr; omega) (by unfold inr; omega) (fun c21 => ?_) (fun c21 => ?_)
                                          · refine q_con B dX12_isSignOf_132 ?_
                                            refine lv_goto (tgt := 137) B.1 B.2.1 dX12_isSignOf_133 (by decide) ?_
                                            exact s_zret B dX12_isSignOf_137 (by omega) (by omega)
                                          · refine lv_iload_n B.1 B.2.1 dX12_isSignOf_126 rfl (lv_at hl 0 rfl) ?_
                                            refine q_bip B dX12_isSignOf_127 (by decide) ?_
                                            refine q_cne (tgt := 136) B dX12_isSignOf_129 (by decide) (by unfold inr; omega) (by unfold inr; omega) (fun c22 => ?_) (fun c22 => ?_)
                                            · refine q_con B dX12_isSignOf_136 ?_
                                              exact s_zret B dX12_isSignOf_137 (by omega) (by omega)
                                            · refine q_con B dX12_isSignOf_132 ?_
                                              refine lv_goto (tgt := 137) B.1 B.2.1 dX12_isSignOf_133 (by decide) ?_
                                              exact s_zret B dX12_isSignOf_137 (by omega) (by omega)
set_option maxHeartbeats 4000000 in
set_option maxRecDepth 20000 in
theorem k_nextNumber (l : Launch) (D : va_G) (dA : Nat → ClassId) (h0 : Nat) (ad : Nat → Nat) (f : Nat → Int) (g : Nat → Int64) (A : Nat → Nat → Int) (L : Nat → Nat → Int64) (a_below : Int) (i_below : (0 : Int) ≤ a_below ∧ a_below ≤ 1) (p_0 : (f 8) < (f 4)) (p_1 : ((a_below) = 0 → 48 ≤ sgn ((A 2)) (f 3) (f 4) (f 8) ∧ sgn ((A 2)) (f 3) (f 4) (f 8) ≤ 57)) (p_2 : ((a_below) = 1 → 48 ≤ sgn ((A 2)) (f 3) (f 4) ((f 8) + 1) ∧ sgn ((A 2)) (f 3) (f 4) ((f 8) + 1) ≤ 57 ∧ (f 8) + 1 < (f 4))) : MCv l yX12_nextNumber cX12_nextNumber 3 ({ frames := 1, cells := 0, slots := 0, locals := 21 }) D dA h0 ad (f, g, A, L) [.int (II a_below)] (fun σ => ∃ n9 : Int, ∃ n10 : Int, ∃ n7 : Int, σ = ((up f [(9, n9), (10, n10), (7, n7)]), g, A, L) ∧ ((n9) ≤ (f 4) ∧ (f 8) < (n9) ∧ ((n7) = 1 ∨ (n7) = 4))) := by
  generalize hPST : (fun σ => ∃ n9 : Int, ∃ n10 : Int, ∃ n7 : Int, σ = ((up f [(9, n9), (10, n10), (7, n7)]), g, A, L) ∧ ((n9) ≤ (f 4) ∧ (f 8) < (n9) ∧ ((n7) = 1 ∨ (n7) = 4))) = PST
  refine m_enterv (by decide) rfl (Nat.le_of_ble_eq_true rfl) (fun p e s m args below meth c ls B hM hl => ?_)
  have hA : ∀ q, s.heap.size ≤ q → mF dA h0 ad (f, g, A, L) s.heap.size q := fun q h => Or.inr h
  have hM : MWd D dA h0 ad (mF dA h0 ad (f, g, A, L) s.heap.size) s.heap ((up f [(9, f 9), (10, f 10), (7, f 7)]), g, A, L) s.heap [] := MW_pad hM (up_self f [9, 10, 7]) rfl rfl rfl
  have hl : lv_has ls 3 [(0, .ref h0), (1, .int (II a_below))] := hl
  have LL28 : ∀ N : Nat, ∀ (v28_2 : Int) (y28_9 : Int) (y28_10 : Int) (y28_7 : Int) (H : Heap) (locs : List Loc) (ls : Array Slot), (MWd D dA h0 ad (mF dA h0 ad (f, g, A, L) s.heap.size) s.heap ((up f [(9, y28_9), (10, y28_10), (7, y28_7)]), g, A, L) H locs) → lv_has ls 3 [(0, .ref h0), (1, .int (II a_below)), (2, .int (II v28_2))] → ((-2147483648 : Int) ≤ v28_2 ∧ v28_2 ≤ 2147483647) → ((f 8) ≤ (v28_2)) → ((v28_2) ≤ (y28_9)) → ((y28_9) ≤ (f 4)) → ((v28_2) ≤ 3000) → (((y28_9) = (v28_2) → 48 ≤ sgn ((A 2)) (f 3) (f 4) (v28_2) ∧ sgn ((A 2)) (f 3) (f 4) (v28_2) ≤ 57)) → (0 ≤ (f 4) - (y28_9)) → ((f 4) - (y28_9) < (N : Int)) → W p l e ({ frames := 1, cells := 0, slots := 0, locals := 21 }) s m args below meth c H locs 0 0 (MQ below (mQv D dA h0 ad (f, g, A, L) s.heap.size PST) args s 0 0 (mF dA h0 ad (f, g, A, L) s.heap.size)) (F0 m 28 ls []) := by
    intro N
    induction N with
    | zero => intro v28_2 y28_9 y28_10 y28_7 H locs ls hM hl hLL28_0 hLL28_1 hLL28_2 hLL28_3 hLL28_4 hLL28_5 hLL28_6 hN; exfalso; omega
    | succ N IH28 =>
      intro v28_2 y28_9 y28_10 y28_7 H locs ls hM hl hLL28_0 hLL28_1 hLL28_2 hLL28_3 hLL28_4 hLL28_5 hLL28_6 hN
      have r1 : (0 : Int) ≤ y28_9 ∧ y28_9 ≤ 3002 := hM.2.2.2.1 9
      have r2 : (-2147483648 : Int) ≤ y28_10 ∧ y28_10 ≤ 2147483647 := hM.2.2.2.1 10
      have r3 : (0 : Int) ≤ y28_7 ∧ y28_7 ≤ 6 := hM.2.2.2.1 7
      refine lv_aload_n B.1 B.2.1 dX12_nextNumber_28 rfl (lv_at hl 0 rfl) ?_
      refine lv_aload_n B.1 B.2.1 dX12_nextNumber_29 rfl (lv_at hl 0 rfl) ?_
      refine m_get (k := 9) (v := y28_9) B hM (by decide) rfl fl56 dX12_nextNumber_30 rfl ?_
      refine m_calli (n := 1) (rest := []) B hM hA hl.1 (k_sign l D dA h0 ad (up f [(9, y28_9), (10, y28_10), (7, y28_7)]) g A L y28_9 (by omega) (by first | omega | (simp only [wr_at]; omega) | assumption) (by first | omega | (simp only [wr_at]; omega) | assumption)) rfl ok_sign nm_sign ⟨rfl, rfl⟩ ⟨Nat.le_of_ble_eq_true rfl, Nat.le_of_ble_eq_true rfl⟩ dX12_nextNumber_33 rfl rfl (Nat.le_of_ble_eq_true rfl) ⟨Nat.zero_le _, Nat.zero_le _⟩ (fun r4 σr4 H locs ir4 hp5 hM => ?_)
      obtain ⟨rfl, hp5⟩ := hp5
      unfold inr at ir4
      have hp5 : r4 = sgn ((A 2)) (f 3) (f 4) (y28_9) ∧ 0 ≤ r4 ∧ r4 ≤ 255 ∧ (r4 ≠ 0 → (y28_9) < (f 4)) := hp5
      refine s_calli (n := 1) (rest := []) B hl.1 (k_isDigit l D dA r4 (by omega) ) rfl ok_isDigit nm_isDigit ⟨rfl, rfl⟩ ⟨Nat.le_of_ble_eq_true rfl, Nat.le_of_ble_eq_true rfl⟩ dX12_nextNumber_36 rfl rfl (Nat.le_of_ble_eq_true rfl) ⟨Nat.zero_le _, Nat.zero_le _⟩ (fun r6 ir6 hp7 => ?_)
      unfold inr at ir6
      have hp7 : (r6 = 1 ↔ 48 ≤ (r4) ∧ (r4) ≤ 57) ∧ 0 ≤ r6 ∧ r6 ≤ 1 := hp7
      refine q_ieq (tgt := 89) B dX12_nextNumber_39 (by decide) (by unfold inr; omega) (fun c8 => ?_) (fun c8 => ?_)
      · refine lv_aload_n B.1 B.2.1 dX12_nextNumber_89 rfl (lv_at hl 0 rfl) ?_
        refine lv_aload_n B.1 B.2.1 dX12_nextNumber_90 rfl (lv_at hl 0 rfl) ?_
        refine m_get (k := 9) (v := y28_9) B hM (by decide) rfl fl56 dX12_nextNumber_91 rfl ?_
        refine lv_iload_n B.1 B.2.1 dX12_nextNumber_94 rfl (lv_at hl 2 rfl) ?_
        refine q_sub B dX12_nextNumber_95 ?_
        refine q_bip B dX12_nextNumber_96 (by decide) ?_
        refine q_cgt (tgt := 115) B dX12_nextNumber_98 (by decide) (by unfold inr; omega) (by unfold inr; omega) (fun c9 => ?_) (fun c9 => ?_)
        · refine q_con B dX12_nextNumber_115 ?_
          refine lv_goto (tgt := 120) B.1 B.2.1 dX12_nextNumber_116 (by decide) ?_
          refine m_put (k := 7) B hM (by decide) rfl fl66 rfl dX12_nextNumber_120 rfl rfl (show (0 : Int) ≤ 1 by omega) (show 1 ≤ (6 : Int) by omega) (u1_up f [(9, y28_9), (10, y28_10), (7, y28_7)] 7 1) (fun H locs hM => ?_)
          have hM : MWd D dA h0 ad (mF dA h0 ad (f, g, A, L) s.heap.size) s.heap ((up f [(9, y28_9), (10, y28_10), (7, 1)]), g, A, L) H locs := hM
          refine lv_iload_n B.1 B.2.1 dX12_nextNumber_123 rfl (lv_at hl 1 rfl) ?_
          refine q_ieq (tgt := 136) B dX12_nextNumber_124 (by decide) (by unfold inr; omega) (fun c10 => ?_) (fun c10 => ?_)
          · subst hPST
            exact m_vret B hM dX12_nextNumber_136 ⟨y28_9, y28_10, 1, rfl, by omega⟩
          · refine lv_aload_n B.1 B.2.1 dX12_nextNumber_127 rfl (lv_at hl 0 rfl) ?_
            refine lv_aload_n B.1 B.2.1 dX12_nextNumber_128 rfl (lv_at hl 0 rfl) ?_
            refine m_get (k := 10) (v := y28_10) B hM (by decide) rfl fl91 dX12_nextNumber_129 rfl ?_
            refine q_neg B dX12_nextNumber_132 ?_
            refine q_wrap (fun x11 ix11 => ?_)
            refine m_put (k := 10) B hM (by decide) rfl fl91 rfl dX12_nextNumber_133 rfl rfl (show (-2147483648 : Int) ≤ x11 by omega) (show x11 ≤ (2147483647 : Int) by omega) (u1_up f [(9, y28_9), (10, y28_10), (7, 1)] 10 x11) (fun H locs hM => ?_)
            have hM : MWd D dA h0 ad (mF dA h0 ad (f, g, A, L) s.heap.size) s.heap ((up f [(9, y28_9), (10, x11), (7, 1)]), g, A, L) H locs := hM
            subst hPST
            exact m_vret B hM dX12_nextNumber_136 ⟨y28_9, x11, 1, rfl, by omega⟩
        · refine lv_aload_n B.1 B.2.1 dX12_nextNumber_101 rfl (lv_at hl 0 rfl) ?_
          refine lv_aload_n B.1 B.2.1 dX12_nextNumber_102 rfl (lv_at hl 0 rfl) ?_
          refine m_get (k := 9) (v := y28_9) B hM (by decide) rfl fl56 dX12_nextNumber_103 rfl ?_
          refine m_calli (n := 1) (rest := [.ref h0]) B hM hA hl.1 (k_sign l D dA h0 ad (up f [(9, y28_9), (10, y28_10), (7, y28_7)]) g A L y28_9 (by omega) (by first | omega | (simp only [wr_at]; omega) | assumption) (by first | omega | (simp only [wr_at]; omega) | assumption)) rfl ok_sign nm_sign ⟨rfl, rfl⟩ ⟨Nat.le_of_ble_eq_true rfl, Nat.le_of_ble_eq_true rfl⟩ dX12_nextNumber_106 rfl rfl (Nat.le_of_ble_eq_true rfl) ⟨Nat.zero_le _, Nat.zero_le _⟩ (fun r12 σr12 H locs ir12 hp13 hM => ?_)
          obtain ⟨rfl, hp13⟩ := hp13
          unfold inr at ir12
          have hp13 : r12 = sgn ((A 2)) (f 3) (f 4) (y28_9) ∧ 0 ≤ r12 ∧ r12 ≤ 255 ∧ (r12 ≠ 0 → (y28_9) < (f 4)) := hp13
          refine s_calli (n := 1) (rest := [.ref h0]) B hl.1 (k_isLetter l D dA r12 (by omega) ) rfl ok_isLetter nm_isLetter ⟨rfl, rfl⟩ ⟨Nat.le_of_ble_eq_true rfl, Nat.le_of_ble_eq_true rfl⟩ dX12_nextNumber_109 rfl rfl (Nat.le_of_ble_eq_true rfl) ⟨Nat.zero_le _, Nat.zero_le _⟩ (fun r14 ir14 hp15 => ?_)
          unfold inr at ir14
          have hp15 : (r14 = 1 ↔ 97 ≤ (r12) ∧ (r12) ≤ 122) ∧ 0 ≤ r14 ∧ r14 ≤ 1 := hp15
          refine q_ieq (tgt := 119) B dX12_nextNumber_112 (by decide) (by unfold inr; omega) (fun c16 => ?_) (fun c16 => ?_)
          · refine q_con B dX12_nextNumber_119 ?_
            refine m_put (k := 7) B hM (by decide) rfl fl66 rfl dX12_nextNumber_120 rfl rfl (show (0 : Int) ≤ 4 by omega) (show 4 ≤ (6 : Int) by omega) (u1_up f [(9, y28_9), (10, y28_10), (7, y28_7)] 7 4) (fun H locs hM => ?_)
            have hM : MWd D dA h0 ad (mF dA h0 ad (f, g, A, L) s.heap.size) s.heap ((up f [(9, y28_9), (10, y28_10), (7, 4)]), g, A, L) H locs := hM
            refine lv_iload_n B.1 B.2.1 dX12_nextNumber_123 rfl (lv_at hl 1 rfl) ?_
            refine q_ieq (tgt := 136) B dX12_nextNumber_124 (by decide) (by unfold inr; omega) (fun c17 => ?_) (fun c17 => ?_)
            · subst hPST
              exact m_vret B hM dX12_nextNumber_136 ⟨y28_9, y28_10, 4, rfl, by omega⟩
            · refine lv_aload_n B.1 B.2.1 dX12_nextNumber_127 rfl (lv_at hl 0 rfl) ?_
              refine lv_aload_n B.1 B.2.1 dX12_nextNumber_128 rfl (lv_at hl 0 rfl) ?_
              refine m_get (k := 10) (v := y28_10) B hM (by decide) rfl fl91 dX12_nextNumber_129 rfl ?_
              refine q_neg B dX12_nextNumber_132 ?_
              refine q_wrap (fun x18 ix18 => ?_)
              refine m_put (k := 10) B hM (by decide) rfl fl91 rfl dX12_nextNumber_133 rfl rfl (show (-2147483648 : Int) ≤ x18 by omega) (show x18 ≤ (2147483647 : Int) by omega) (u1_up f [(9, y28_9), (10, y28_10), (7, 4)] 10 x18) (fun H locs hM => ?_)
              have hM : MWd D dA h0 ad (mF dA h0 ad (f, g, A, L) s.heap.size) s.heap ((up f [(9, y28_9), (10, x18), (7, 4)]), g, A, L) H locs := hM
              subst hPST
              exact m_vret B hM dX12_nextNumber_136 ⟨y28_9, x18, 4, rfl, by omega⟩
          · refine q_con B dX12_nextNumber_115 ?_
            refine lv_goto (tgt := 120) B.1 B.2.1 dX12_nextNumber_116 (by decide) ?_
            refine m_put (k := 7) B hM (by decide) rfl fl66 rfl dX12_nextNumber_120 rfl rfl (show (0 : Int) ≤ 1 by omega) (show 1 ≤ (6 : Int) by omega) (u1_up f [(9, y28_9), (10, y28_10), (7, y28_7)] 7 1) (fun H locs hM => ?_)
            have hM : MWd D dA h0 ad (mF dA h0 ad (f, g, A, L) s.heap.size) s.heap ((up f [(9, y28_9), (10, y28_10), (7, 1)]), g, A, L) H locs := hM
            refine lv_iload_n B.1 B.2.1 dX12_nextNumber_123 rfl (lv_at hl 1 rfl) ?_
            refine q_ieq (tgt := 136) B dX12_nextNumber_124 (by decide) (by unfold inr; omega) (fun c19 => ?_) (fun c19 => ?_)
            · subst hPST
              exact m_vret B hM dX12_nextNumber_136 ⟨y28_9, y28_10, 1, rfl, by omega⟩
            · refine lv_aload_n B.1 B.2.1 dX12_nextNumber_127 rfl (lv_at hl 0 rfl) ?_
              refine lv_aload_n B.1 B.2.1 dX12_nextNumber_128 rfl (lv_at hl 0 rfl) ?_
              refine m_get (k := 10) (v := y28_10) B hM (by decide) rfl fl91 dX12_nextNumber_129 rfl ?_
              refine q_neg B dX12_nextNumber_132 ?_
              refine q_wrap (fun x20 ix20 => ?_)
              refine m_put (k := 10) B hM (by decide) rfl fl91 rfl dX12_nextNumber_133 rfl rfl (show (-2147483648 : Int) ≤ x20 by omega) (show x20 ≤ (2147483647 : Int) by omega) (u1_up f [(9, y28_9), (10, y28_10), (7, 1)] 10 x20) (fun H locs hM => ?_)
              have hM : MWd D dA h0 ad (mF dA h0 ad (f, g, A, L) s.heap.size) s.heap ((up f [(9, y28_9), (10, x20), (7, 1)]), g, A, L) H locs := hM
              subst hPST
              exact m_vret B hM dX12_nextNumber_136 ⟨y28_9, x20, 1, rfl, by omega⟩
      · refine lv_aload_n B.1 B.2.1 dX12_nextNumber_42 rfl (lv_at hl 0 rfl) ?_
        refine m_get (k := 9) (v := y28_9) B hM (by decide) rfl fl56 dX12_nextNumber_43 rfl ?_
        refine lv_iload_n B.1 B.2.1 dX12_nextNumber_46 rfl (lv_at hl 2 rfl) ?_
        refine q_sub B dX12_nextNumber_47 ?_
        refine q_bip B dX12_nextNumber_48 (by decide) ?_
        refine q_cge (tgt := 76) B dX12_nextNumber_50 (by decide) (by unfold inr; omega) (by unfold inr; omega) (fun c21 => ?_) (fun c21 => ?_)
        · refine lv_aload_n B.1 B.2.1 dX12_nextNumber_76 rfl (lv_at hl 0 rfl) ?_
          refine lv_dup B.1 B.2.1 dX12_nextNumber_77 rfl ?_
          refine m_get (k := 9) (v := y28_9) B hM (by decide) rfl fl56 dX12_nextNumber_78 rfl ?_
          refine q_con B dX12_nextNumber_81 ?_
          refine q_add B dX12_nextNumber_82 ?_
          refine m_put (k := 9) B hM (by decide) rfl fl56 rfl dX12_nextNumber_83 rfl rfl (show (0 : Int) ≤ y28_9 + 1 by omega) (show y28_9 + 1 ≤ (3002 : Int) by omega) (u1_up f [(9, y28_9), (10, y28_10), (7, y28_7)] 9 (y28_9 + 1)) (fun H locs hM => ?_)
          have hM : MWd D dA h0 ad (mF dA h0 ad (f, g, A, L) s.heap.size) s.heap ((up f [(9, y28_9 + 1), (10, y28_10), (7, y28_7)]), g, A, L) H locs := hM
          refine lv_goto (tgt := 28) B.1 B.2.1 dX12_nextNumber_86 (by decide) ?_
          exact IH28 v28_2 (y28_9 + 1) y28_10 y28_7 _ _ ls hM (lv_sub hl [0, 1, 2] rfl) (by omega) (by first | omega | (simp only [wr_at]; omega) | assumption) (by first | omega | (simp only [wr_at]; omega) | assumption) (by first | omega | (simp only [wr_at]; omega) | assumption) (by first | omega | (simp only [wr_at]; omega) | assumption) (by first | omega | (simp only [wr_at]; omega) | assumption) (by first | omega | (simp only [wr_at]; omega) | assumption) (by first | omega | (simp only [wr_at]; omega) | assumption)
        · refine lv_aload_n B.1 B.2.1 dX12_nextNumber_53 rfl (lv_at hl 0 rfl) ?_
          refine q_bip B dX12_nextNumber_54 (by decide) ?_
          refine lv_aload_n B.1 B.2.1 dX12_nextNumber_56 rfl (lv_at hl 0 rfl) ?_
          refine m_get (k := 10) (v := y28_10) B hM (by decide) rfl fl91 dX12_nextNumber_57 rfl ?_
          refine q_mul B dX12_nextNumber_60 ?_
          refine lv_aload_n B.1 B.2.1 dX12_nextNumber_61 rfl (lv_at hl 0 rfl) ?_
          refine lv_aload_n B.1 B.2.1 dX12_nextNumber_62 rfl (lv_at hl 0 rfl) ?_
          refine m_get (k := 9) (v := y28_9) B hM (by decide) rfl fl56 dX12_nextNumber_63 rfl ?_
          refine m_calli (n := 1) (rest := [.int (II (10 * y28_10)), .ref h0]) B hM hA hl.1 (k_sign l D dA h0 ad (up f [(9, y28_9), (10, y28_10), (7, y28_7)]) g A L y28_9 (by omega) (by first | omega | (simp only [wr_at]; omega) | assumption) (by first | omega | (simp only [wr_at]; omega) | assumption)) rfl ok_sign nm_sign ⟨rfl, rfl⟩ ⟨Nat.le_of_ble_eq_true rfl, Nat.le_of_ble_eq_true rfl⟩ dX12_nextNumber_66 rfl rfl (Nat.le_of_ble_eq_true rfl) ⟨Nat.zero_le _, Nat.zero_le _⟩ (fun r22 σr22 H locs ir22 hp23 hM => ?_)
          obtain ⟨rfl, hp23⟩ := hp23
          unfold inr at ir22
          have hp23 : r22 = sgn ((A 2)) (f 3) (f 4) (y28_9) ∧ 0 ≤ r22 ∧ r22 ≤ 255 ∧ (r22 ≠ 0 → (y28_9) < (f 4)) := hp23
          refine q_add B dX12_nextNumber_69 ?_
          refine q_bip B dX12_nextNumber_70 (by decide) ?_
          refine q_sub B dX12_nextNumber_72 ?_
          refine q_wrap (fun x24 ix24 => ?_)
          refine m_put (k := 10) B hM (by decide) rfl fl91 rfl dX12_nextNumber_73 rfl rfl (show (-2147483648 : Int) ≤ x24 by omega) (show x24 ≤ (2147483647 : Int) by omega) (u1_up f [(9, y28_9), (10, y28_10), (7, y28_7)] 10 x24) (fun H locs hM => ?_)
          have hM : MWd D dA h0 ad (mF dA h0 ad (f, g, A, L) s.heap.size) s.heap ((up f [(9, y28_9), (10, x24), (7, y28_7)]), g, A, L) H locs := hM
          refine lv_aload_n B.1 B.2.1 dX12_nextNumber_76 rfl (lv_at hl 0 rfl) ?_
          refine lv_dup B.1 B.2.1 dX12_nextNumber_77 rfl ?_
          refine m_get (k := 9) (v := y28_9) B hM (by decide) rfl fl56 dX12_nextNumber_78 rfl ?_
          refine q_con B dX12_nextNumber_81 ?_
          refine q_add B dX12_nextNumber_82 ?_
          refine m_put (k := 9) B hM (by decide) rfl fl56 rfl dX12_nextNumber_83 rfl rfl (show (0 : Int) ≤ y28_9 + 1 by omega) (show y28_9 + 1 ≤ (3002 : Int) by omega) (u1_up f [(9, y28_9), (10, x24), (7, y28_7)] 9 (y28_9 + 1)) (fun H locs hM => ?_)
          have hM : MWd D dA h0 ad (mF dA h0 ad (f, g, A, L) s.heap.size) s.heap ((up f [(9, y28_9 + 1), (10, x24), (7, y28_7)]), g, A, L) H locs := hM
          refine lv_goto (tgt := 28) B.1 B.2.1 dX12_nextNumber_86 (by decide) ?_
          exact IH28 v28_2 (y28_9 + 1) x24 y28_7 _ _ ls hM (lv_sub hl [0, 1, 2] rfl) (by omega) (by first | omega | (simp only [wr_at]; omega) | assumption) (by first | omega | (simp only [wr_at]; omega) | assumption) (by first | omega | (simp only [wr_at]; omega) | assumption) (by first | omega | (simp only [wr_at]; omega) | assumption) (by first | omega | (simp only [wr_at]; omega) | assumption) (by first | omega | (simp only [wr_at]; omega) | assumption) (by first | omega | (simp only [wr_at]; omega) | assumption)
  refine lv_iload_n B.1 B.2.1 dX12_nextNumber_0 rfl (lv_at hl 1 rfl) ?_
  refine q_ieq (tgt := 13) B dX12_nextNumber_1 (by decide) (by unfold inr; omega) (fun c25 => ?_) (fun c25 => ?_)
  · refine lv_aload_n B.1 B.2.1 dX12_nextNumber_13 rfl (lv_at hl 0 rfl) ?_
    refine m_get (k := 8) (v := f 8) B hM (by decide) rfl fl59 dX12_nextNumber_14 rfl ?_
    have r26 : (0 : Int) ≤ f 8 ∧ f 8 ≤ 3001 := hM.2.2.2.1 8
    refine lv_istore_n (lv' := [(2, .int (II (f 8))), (0, .ref h0), (1, .int (II a_below))]) B.1 B.2.1 dX12_nextNumber_17 rfl hl (by decide) rfl (fun ls hl => ?_)
    refine lv_aload_n B.1 B.2.1 dX12_nextNumber_18 rfl (lv_at hl 1 rfl) ?_
    refine lv_iload_n B.1 B.2.1 dX12_nextNumber_19 rfl (lv_at hl 0 rfl) ?_
    refine m_put (k := 9) B hM (by decide) rfl fl56 rfl dX12_nextNumber_20 rfl rfl (show (0 : Int) ≤ f 8 by omega) (show f 8 ≤ (3002 : Int) by omega) (u1_up f [(9, f 9), (10, f 10), (7, f 7)] 9 (f 8)) (fun H locs hM => ?_)
    have hM : MWd D dA h0 ad (mF dA h0 ad (f, g, A, L) s.heap.size) s.heap ((up f [(9, f 8), (10, f 10), (7, f 7)]), g, A, L) H locs := hM
    refine lv_aload_n B.1 B.2.1 dX12_nextNumber_23 rfl (lv_at hl 1 rfl) ?_
    refine q_con B dX12_nextNumber_24 ?_
    refine m_put (k := 10) B hM (by decide) rfl fl91 rfl dX12_nextNumber_25 rfl rfl (show (-2147483648 : Int) ≤ 0 by omega) (show 0 ≤ (2147483647 : Int) by omega) (u1_up f [(9, f 8), (10, f 10), (7, f 7)] 10 0) (fun H locs hM => ?_)
    have hM : MWd D dA h0 ad (mF dA h0 ad (f, g, A, L) s.heap.size) s.heap ((up f [(9, f 8), (10, 0), (7, f 7)]), g, A, L) H locs := hM
    exact LL28 ((f 4) - (f 8) + 1).toNat (f 8) (f 8) 0 (f 7) _ _ ls hM (lv_sub hl [1, 2, 0] rfl) (by omega) (by first | omega | (simp only [wr_at]; omega) | assumption) (by first | omega | (simp only [wr_at]; omega) | assumption) (by first | omega | (simp only [wr_at]; omega) | assumption) (by first | omega | (simp only [wr_at]; omega) | assumption) (by first | omega | (simp only [wr_at]; omega) | assumption) (by first | omega | (simp only [wr_at]; omega) | assumption) (by first | omega | (simp only [wr_at]; omega) | assumption)
  · refine lv_aload_n B.1 B.2.1 dX12_nextNumber_4 rfl (lv_at hl 0 rfl) ?_
    refine m_get (k := 8) (v := f 8) B hM (by decide) rfl fl59 dX12_nextNumber_5 rfl ?_
    have r27 : (0 : Int) ≤ f 8 ∧ f 8 ≤ 3001 := hM.2.2.2.1 8
    refine q_con B dX12_nextNumber_8 ?_
    refine q_add B dX12_nextNumber_9 ?_
    refine lv_goto (tgt := 17) B.1 B.2.1 dX12_nextNumber_10 (by decide) ?_
    refine lv_istore_n (lv' := [(2, .int (II ((f 8) + 1))), (0, .ref h0), (1, .int (II a_below))]) B.1 B.2.1 dX12_nextNumber_17 rfl hl (by decide) rfl (fun ls hl => ?_)
    refine lv_aload_n B.1 B.2.1 dX12_nextNumber_18 rfl (lv_at hl 1 rfl) ?_
    refine lv_iload_n B.1 B.2.1 dX12_nextNumber_19 rfl (lv_at hl 0 rfl) ?_
    refine m_put (k := 9) B hM (by decide) rfl fl56 rfl dX12_nextNumber_20 rfl rfl (show (0 : Int) ≤ (f 8) + 1 by omega) (show (f 8) + 1 ≤ (3002 : Int) by omega) (u1_up f [(9, f 9), (10, f 10), (7, f 7)] 9 ((f 8) + 1)) (fun H locs hM => ?_)
    have hM : MWd D dA h0 ad (mF dA h0 ad (f, g, A, L) s.heap.size) s.heap ((up f [(9, (f 8) + 1), (10, f 10), (7, f 7)]), g, A, L) H locs := hM
    refine lv_aload_n B.1 B.2.1 dX12_nextNumber_23 rfl (lv_at hl 1 rfl) ?_
    refine q_con B dX12_nextNumber_24 ?_
    refine m_put (k := 10) B hM (by decide) rfl fl91 rfl dX12_nextNumber_25 rfl rfl (show (-2147483648 : Int) ≤ 0 by omega) (show 0 ≤ (2147483647 : Int) by omega) (u1_up f [(9, (f 8) + 1), (10, f 10), (7, f 7)] 10 0) (fun H locs hM => ?_)
    have hM : MWd D dA h0 ad (mF dA h0 ad (f, g, A, L) s.heap.size) s.heap ((up f [(9, (f 8) + 1), (10, 0), (7, f 7)]), g, A, L) H locs := hM
    exact LL28 ((f 4) - ((f 8) + 1) + 1).toNat ((f 8) + 1) ((f 8) + 1) 0 (f 7) _ _ ls hM (lv_sub hl [1, 2, 0] rfl) (by omega) (by first | omega | (simp only [wr_at]; omega) | assumption) (by first | omega | (simp only [wr_at]; omega) | assumption) (by first | omega | (simp only [wr_at]; omega) | assumption) (by first | omega | (simp only [wr_at]; omega) | assumption) (by first | omega | (simp only [wr_at]; omega) | assumption) (by first | omega | (simp only [wr_at]; omega) | assumption) (by first | omega | (simp only [wr_at]; omega) | assumption)
set_option maxHeartbeats 4000000 in
set_option maxRecDepth 20000 in
theorem k_next (l : Launch) (D : va_G) (dA : Nat → ClassId) (h0 : Nat) (ad : Nat → Nat) (f : Nat → Int) (g : Nat → Int64) (A : Nat → Nat → Int) (L : Nat → Nat → Int64) (p_0 : (f 9) ≤ 3001) : MCv l yX12_next cX12_next 3 ({ frames := 2, cells := 0, slots := 0, locals := 43 }) D dA h0 ad (f, g, A, L) [] (fun σ => ∃ n8 : Int, ∃ n9 : Int, ∃ n7 : Int, ∃ n10 : Int, ∃ n11 : Int64, σ = ((up f [(8, n8), (9, n9), (7, n7), (10, n10)]), (up g [(11, n11)]), A, L) ∧ (((f 9) ≤ (n8) ∨ (n8) = (f 4)) ∧ (0 ≤ (n8) ∧ (n8) ≤ (f 4) ∧ (n9) ≤ (f 4) + 1 ∧ ((n7) = 0 ↔ (n8) = (f 4)) ∧ (2 ≤ (n7) → (n8) < (n9) ∧ (n9) ≤ (f 4)) ∧ ((n7) = 5 → (n8) + 2 ≤ (n9) ∧ (n9) ≤ (n8) + 32)))) := by
  generalize hPST : (fun σ => ∃ n8 : Int, ∃ n9 : Int, ∃ n7 : Int, ∃ n10 : Int, ∃ n11 : Int64, σ = ((up f [(8, n8), (9, n9), (7, n7), (10, n10)]), (up g [(11, n11)]), A, L) ∧ (((f 9) ≤ (n8) ∨ (n8) = (f 4)) ∧ (0 ≤ (n8) ∧ (n8) ≤ (f 4) ∧ (n9) ≤ (f 4) + 1 ∧ ((n7) = 0 ↔ (n8) = (f 4)) ∧ (2 ≤ (n7) → (n8) < (n9) ∧ (n9) ≤ (f 4)) ∧ ((n7) = 5 → (n8) + 2 ≤ (n9) ∧ (n9) ≤ (n8) + 32)))) = PST
  refine m_enterv (by decide) rfl (Nat.le_of_ble_eq_true rfl) (fun p e s m args below meth c ls B hM hl => ?_)
  have hA : ∀ q, s.heap.size ≤ q → mF dA h0 ad (f, g, A, L) s.heap.size q := fun q h => Or.inr h
  have hM : MWd D dA h0 ad (mF dA h0 ad (f, g, A, L) s.heap.size) s.heap ((up f [(8, f 8), (9, f 9), (7, f 7), (10, f 10)]), (up g [(11, g 11)]), A, L) s.heap [] := MW_pad hM (up_self f [8, 9, 7, 10]) (up_self g [11]) rfl rfl
  have hl : lv_has ls 3 [(0, .ref h0)] := hl
  have LL304 : ∀ N : Nat, ∀ (y304_8 : Int) (y304_9 : Int) (y304_7 : Int) (y304_10 : Int) (y304_11 : Int64) (H : Heap) (locs : List Loc) (ls : Array Slot), (MWd D dA h0 ad (mF dA h0 ad (f, g, A, L) s.heap.size) s.heap ((up f [(8, y304_8), (9, y304_9), (7, y304_7), (10, y304_10)]), (up g [(11, y304_11)]), A, L) H locs) → lv_has ls 3 [(0, .ref h0)] → ((f 9) ≤ (y304_8)) → ((y304_8) < (f 4)) → ((y304_8) < (y304_9)) → ((y304_9) ≤ (f 4)) → (0 ≤ (f 4) - (y304_9)) → ((f 4) - (y304_9) < (N : Int)) → W p l e ({ frames := 2, cells := 0, slots := 0, locals := 43 }) s m args below meth c H locs 0 0 (MQ below (mQv D dA h0 ad (f, g, A, L) s.heap.size PST) args s 0 0 (mF dA h0 ad (f, g, A, L) s.heap.size)) (F0 m 304 ls []) := by
    intro N
    induction N with
    | zero => intro y304_8 y304_9 y304_7 y304_10 y304_11 H locs ls hM hl hLL304_0 hLL304_1 hLL304_2 hLL304_3 hLL304_4 hN; exfalso; omega
    | succ N IH304 =>
      intro y304_8 y304_9 y304_7 y304_10 y304_11 H locs ls hM hl hLL304_0 hLL304_1 hLL304_2 hLL304_3 hLL304_4 hN
      have r1 : (0 : Int) ≤ y304_8 ∧ y304_8 ≤ 3001 := hM.2.2.2.1 8
      have r2 : (0 : Int) ≤ y304_9 ∧ y304_9 ≤ 3002 := hM.2.2.2.1 9
      have r3 : (0 : Int) ≤ y304_7 ∧ y304_7 ≤ 6 := hM.2.2.2.1 7
      have r4 : (-2147483648 : Int) ≤ y304_10 ∧ y304_10 ≤ 2147483647 := hM.2.2.2.1 10
      refine lv_aload_n B.1 B.2.1 dX12_next_304 rfl (lv_at hl 0 rfl) ?_
      refine m_get (k := 9) (v := y304_9) B hM (by decide) rfl fl56 dX12_next_305 rfl ?_
      refine lv_aload_n B.1 B.2.1 dX12_next_308 rfl (lv_at hl 0 rfl) ?_
      refine m_get (k := 4) (v := f 4) B hM (by decide) rfl fl1 dX12_next_309 rfl ?_
      have r5 : (0 : Int) ≤ f 4 ∧ f 4 ≤ 3000 := hM.2.2.2.1 4
      refine q_cge (tgt := 367) B dX12_next_312 (by decide) (by unfold inr; omega) (by unfold inr; omega) (fun c6 => ?_) (fun c6 => ?_)
      · refine lv_aload_n B.1 B.2.1 dX12_next_367 rfl (lv_at hl 0 rfl) ?_
        refine lv_aload_n B.1 B.2.1 dX12_next_368 rfl (lv_at hl 0 rfl) ?_
        refine lv_aload_n B.1 B.2.1 dX12_next_369 rfl (lv_at hl 0 rfl) ?_
        refine m_get (k := 9) (v := y304_9) B hM (by decide) rfl fl56 dX12_next_370 rfl ?_
        refine m_calli (n := 1) (rest := [.ref h0]) B hM hA hl.1 (k_sign l D dA h0 ad (up f [(8, y304_8), (9, y304_9), (7, y304_7), (10, y304_10)]) (up g [(11, y304_11)]) A L y304_9 (by omega) (by first | omega | (simp only [wr_at]; omega) | assumption) (by first | omega | (simp only [wr_at]; omega) | assumption)) rfl ok_sign nm_sign ⟨rfl, rfl⟩ ⟨Nat.le_of_ble_eq_true rfl, Nat.le_of_ble_eq_true rfl⟩ dX12_next_373 rfl rfl (Nat.le_of_ble_eq_true rfl) ⟨Nat.zero_le _, Nat.zero_le _⟩ (fun r7 σr7 H locs ir7 hp8 hM => ?_)
        obtain ⟨rfl, hp8⟩ := hp8
        unfold inr at ir7
        have hp8 : r7 = sgn ((A 2)) (f 3) (f 4) (y304_9) ∧ 0 ≤ r7 ∧ r7 ≤ 255 ∧ (r7 ≠ 0 → (y304_9) < (f 4)) := hp8
        refine q_bip B dX12_next_376 (by decide) ?_
        refine q_cne (tgt := 395) B dX12_next_378 (by decide) (by unfold inr; omega) (by unfold inr; omega) (fun c9 => ?_) (fun c9 => ?_)
        · refine q_con B dX12_next_395 ?_
          refine lv_goto (tgt := 400) B.1 B.2.1 dX12_next_396 (by decide) ?_
          refine m_put (k := 7) B hM (by decide) rfl fl66 rfl dX12_next_400 rfl rfl (show (0 : Int) ≤ 1 by omega) (show 1 ≤ (6 : Int) by omega) (u1_up f [(8, y304_8), (9, y304_9), (7, y304_7), (10, y304_10)] 7 1) (fun H locs hM => ?_)
          have hM : MWd D dA h0 ad (mF dA h0 ad (f, g, A, L) s.heap.size) s.heap ((up f [(8, y304_8), (9, y304_9), (7, 1), (10, y304_10)]), (up g [(11, y304_11)]), A, L) H locs := hM
          refine lv_aload_n B.1 B.2.1 dX12_next_403 rfl (lv_at hl 0 rfl) ?_
          refine lv_dup B.1 B.2.1 dX12_next_404 rfl ?_
          refine m_get (k := 9) (v := y304_9) B hM (by decide) rfl fl56 dX12_next_405 rfl ?_
          refine q_con B dX12_next_408 ?_
          refine q_add B dX12_next_409 ?_
          refine m_put (k := 9) B hM (by decide) rfl fl56 rfl dX12_next_410 rfl rfl (show (0 : Int) ≤ y304_9 + 1 by omega) (show y304_9 + 1 ≤ (3002 : Int) by omega) (u1_up f [(8, y304_8), (9, y304_9), (7, 1), (10, y304_10)] 9 (y304_9 + 1)) (fun H locs hM => ?_)
          have hM : MWd D dA h0 ad (mF dA h0 ad (f, g, A, L) s.heap.size) s.heap ((up f [(8, y304_8), (9, y304_9 + 1), (7, 1), (10, y304_10)]), (up g [(11, y304_11)]), A, L) H locs := hM
          refine lv_goto (tgt := 433) B.1 B.2.1 dX12_next_413 (by decide) ?_
          subst hPST
          exact m_vret B hM dX12_next_433 ⟨y304_8, (y304_9 + 1), 1, y304_10, y304_11, rfl, by omega⟩
        · refine lv_aload_n B.1 B.2.1 dX12_next_381 rfl (lv_at hl 0 rfl) ?_
          refine m_get (k := 9) (v := y304_9) B hM (by decide) rfl fl56 dX12_next_382 rfl ?_
          refine lv_aload_n B.1 B.2.1 dX12_next_385 rfl (lv_at hl 0 rfl) ?_
          refine m_get (k := 8) (v := y304_8) B hM (by decide) rfl fl59 dX12_next_386 rfl ?_
          refine q_sub B dX12_next_389 ?_
          refine q_bip B dX12_next_390 (by decide) ?_
          refine q_cle (tgt := 399) B dX12_next_392 (by decide) (by unfold inr; omega) (by unfold inr; omega) (fun c10 => ?_) (fun c10 => ?_)
          · refine q_con B dX12_next_399 ?_
            refine m_put (k := 7) B hM (by decide) rfl fl66 rfl dX12_next_400 rfl rfl (show (0 : Int) ≤ 5 by omega) (show 5 ≤ (6 : Int) by omega) (u1_up f [(8, y304_8), (9, y304_9), (7, y304_7), (10, y304_10)] 7 5) (fun H locs hM => ?_)
            have hM : MWd D dA h0 ad (mF dA h0 ad (f, g, A, L) s.heap.size) s.heap ((up f [(8, y304_8), (9, y304_9), (7, 5), (10, y304_10)]), (up g [(11, y304_11)]), A, L) H locs := hM
            refine lv_aload_n B.1 B.2.1 dX12_next_403 rfl (lv_at hl 0 rfl) ?_
            refine lv_dup B.1 B.2.1 dX12_next_404 rfl ?_
            refine m_get (k := 9) (v := y304_9) B hM (by decide) rfl fl56 dX12_next_405 rfl ?_
            refine q_con B dX12_next_408 ?_
            refine q_add B dX12_next_409 ?_
            refine m_put (k := 9) B hM (by decide) rfl fl56 rfl dX12_next_410 rfl rfl (show (0 : Int) ≤ y304_9 + 1 by omega) (show y304_9 + 1 ≤ (3002 : Int) by omega) (u1_up f [(8, y304_8), (9, y304_9), (7, 5), (10, y304_10)] 9 (y304_9 + 1)) (fun H locs hM => ?_)
            have hM : MWd D dA h0 ad (mF dA h0 ad (f, g, A, L) s.heap.size) s.heap ((up f [(8, y304_8), (9, y304_9 + 1), (7, 5), (10, y304_10)]), (up g [(11, y304_11)]), A, L) H locs := hM
            refine lv_goto (tgt := 433) B.1 B.2.1 dX12_next_413 (by decide) ?_
            subst hPST
            exact m_vret B hM dX12_next_433 ⟨y304_8, (y304_9 + 1), 5, y304_10, y304_11, rfl, by omega⟩
          · refine q_con B dX12_next_395 ?_
            refine lv_goto (tgt := 400) B.1 B.2.1 dX12_next_396 (by decide) ?_
            refine m_put (k := 7) B hM (by decide) rfl fl66 rfl dX12_next_400 rfl rfl (show (0 : Int) ≤ 1 by omega) (show 1 ≤ (6 : Int) by omega) (u1_up f [(8, y304_8), (9, y304_9), (7, y304_7), (10, y304_10)] 7 1) (fun H locs hM => ?_)
            have hM : MWd D dA h0 ad (mF dA h0 ad (f, g, A, L) s.heap.size) s.heap ((up f [(8, y304_8), (9, y304_9), (7, 1), (10, y304_10)]), (up g [(11, y304_11)]), A, L) H locs := hM
            refine lv_aload_n B.1 B.2.1 dX12_next_403 rfl (lv_at hl 0 rfl) ?_
            refine lv_dup B.1 B.2.1 dX12_next_404 rfl ?_
            refine m_get (k := 9) (v := y304_9) B hM (by decide) rfl fl56 dX12_next_405 rfl ?_
            refine q_con B dX12_next_408 ?_
            refine q_add B dX12_next_409 ?_
            refine m_put (k := 9) B hM (by decide) rfl fl56 rfl dX12_next_410 rfl rfl (show (0 : Int) ≤ y304_9 + 1 by omega) (show y304_9 + 1 ≤ (3002 : Int) by omega) (u1_up f [(8, y304_8), (9, y304_9), (7, 1), (10, y304_10)] 9 (y304_9 + 1)) (fun H locs hM => ?_)
            have hM : MWd D dA h0 ad (mF dA h0 ad (f, g, A, L) s.heap.size) s.heap ((up f [(8, y304_8), (9, y304_9 + 1), (7, 1), (10, y304_10)]), (up g [(11, y304_11)]), A, L) H locs := hM
            refine lv_goto (tgt := 433) B.1 B.2.1 dX12_next_413 (by decide) ?_
            subst hPST
            exact m_vret B hM dX12_next_433 ⟨y304_8, (y304_9 + 1), 1, y304_10, y304_11, rfl, by omega⟩
      · refine lv_aload_n B.1 B.2.1 dX12_next_315 rfl (lv_at hl 0 rfl) ?_
        refine lv_aload_n B.1 B.2.1 dX12_next_316 rfl (lv_at hl 0 rfl) ?_
        refine m_get (k := 9) (v := y304_9) B hM (by decide) rfl fl56 dX12_next_317 rfl ?_
        refine m_calli (n := 1) (rest := []) B hM hA hl.1 (k_sign l D dA h0 ad (up f [(8, y304_8), (9, y304_9), (7, y304_7), (10, y304_10)]) (up g [(11, y304_11)]) A L y304_9 (by omega) (by first | omega | (simp only [wr_at]; omega) | assumption) (by first | omega | (simp only [wr_at]; omega) | assumption)) rfl ok_sign nm_sign ⟨rfl, rfl⟩ ⟨Nat.le_of_ble_eq_true rfl, Nat.le_of_ble_eq_true rfl⟩ dX12_next_320 rfl rfl (Nat.le_of_ble_eq_true rfl) ⟨Nat.zero_le _, Nat.zero_le _⟩ (fun r11 σr11 H locs ir11 hp12 hM => ?_)
        obtain ⟨rfl, hp12⟩ := hp12
        unfold inr at ir11
        have hp12 : r11 = sgn ((A 2)) (f 3) (f 4) (y304_9) ∧ 0 ≤ r11 ∧ r11 ≤ 255 ∧ (r11 ≠ 0 → (y304_9) < (f 4)) := hp12
        refine q_bip B dX12_next_323 (by decide) ?_
        refine q_clt (tgt := 367) B dX12_next_325 (by decide) (by unfold inr; omega) (by unfold inr; omega) (fun c13 => ?_) (fun c13 => ?_)
        · refine lv_aload_n B.1 B.2.1 dX12_next_367 rfl (lv_at hl 0 rfl) ?_
          refine lv_aload_n B.1 B.2.1 dX12_next_368 rfl (lv_at hl 0 rfl) ?_
          refine lv_aload_n B.1 B.2.1 dX12_next_369 rfl (lv_at hl 0 rfl) ?_
          refine m_get (k := 9) (v := y304_9) B hM (by decide) rfl fl56 dX12_next_370 rfl ?_
          refine m_calli (n := 1) (rest := [.ref h0]) B hM hA hl.1 (k_sign l D dA h0 ad (up f [(8, y304_8), (9, y304_9), (7, y304_7), (10, y304_10)]) (up g [(11, y304_11)]) A L y304_9 (by omega) (by first | omega | (simp only [wr_at]; omega) | assumption) (by first | omega | (simp only [wr_at]; omega) | assumption)) rfl ok_sign nm_sign ⟨rfl, rfl⟩ ⟨Nat.le_of_ble_eq_true rfl, Nat.le_of_ble_eq_true rfl⟩ dX12_next_373 rfl rfl (Nat.le_of_ble_eq_true rfl) ⟨Nat.zero_le _, Nat.zero_le _⟩ (fun r14 σr14 H locs ir14 hp15 hM => ?_)
          obtain ⟨rfl, hp15⟩ := hp15
          unfold inr at ir14
          have hp15 : r14 = sgn ((A 2)) (f 3) (f 4) (y304_9) ∧ 0 ≤ r14 ∧ r14 ≤ 255 ∧ (r14 ≠ 0 → (y304_9) < (f 4)) := hp15
          refine q_bip B dX12_next_376 (by decide) ?_
          refine q_cne (tgt := 395) B dX12_next_378 (by decide) (by unfold inr; omega) (by unfold inr; omega) (fun c16 => ?_) (fun c16 => ?_)
          · refine q_con B dX12_next_395 ?_
            refine lv_goto (tgt := 400) B.1 B.2.1 dX12_next_396 (by decide) ?_
            refine m_put (k := 7) B hM (by decide) rfl fl66 rfl dX12_next_400 rfl rfl (show (0 : Int) ≤ 1 by omega) (show 1 ≤ (6 : Int) by omega) (u1_up f [(8, y304_8), (9, y304_9), (7, y304_7), (10, y304_10)] 7 1) (fun H locs hM => ?_)
            have hM : MWd D dA h0 ad (mF dA h0 ad (f, g, A, L) s.heap.size) s.heap ((up f [(8, y304_8), (9, y304_9), (7, 1), (10, y304_10)]), (up g [(11, y304_11)]), A, L) H locs := hM
            refine lv_aload_n B.1 B.2.1 dX12_next_403 rfl (lv_at hl 0 rfl) ?_
            refine lv_dup B.1 B.2.1 dX12_next_404 rfl ?_
            refine m_get (k := 9) (v := y304_9) B hM (by decide) rfl fl56 dX12_next_405 rfl ?_
            refine q_con B dX12_next_408 ?_
            refine q_add B dX12_next_409 ?_
            refine m_put (k := 9) B hM (by decide) rfl fl56 rfl dX12_next_410 rfl rfl (show (0 : Int) ≤ y304_9 + 1 by omega) (show y304_9 + 1 ≤ (3002 : Int) by omega) (u1_up f [(8, y304_8), (9, y304_9), (7, 1), (10, y304_10)] 9 (y304_9 + 1)) (fun H locs hM => ?_)
            have hM : MWd D dA h0 ad (mF dA h0 ad (f, g, A, L) s.heap.size) s.heap ((up f [(8, y304_8), (9, y304_9 + 1), (7, 1), (10, y304_10)]), (up g [(11, y304_11)]), A, L) H locs := hM
            refine lv_goto (tgt := 433) B.1 B.2.1 dX12_next_413 (by decide) ?_
            subst hPST
            exact m_vret B hM dX12_next_433 ⟨y304_8, (y304_9 + 1), 1, y304_10, y304_11, rfl, by omega⟩
          · refine lv_aload_n B.1 B.2.1 dX12_next_381 rfl (lv_at hl 0 rfl) ?_
            refine m_get (k := 9) (v := y304_9) B hM (by decide) rfl fl56 dX12_next_382 rfl ?_
            refine lv_aload_n B.1 B.2.1 dX12_next_385 rfl (lv_at hl 0 rfl) ?_
            refine m_get (k := 8) (v := y304_8) B hM (by decide) rfl fl59 dX12_next_386 rfl ?_
            refine q_sub B dX12_next_389 ?_
            refine q_bip B dX12_next_390 (by decide) ?_
            refine q_cle (tgt := 399) B dX12_next_392 (by decide) (by unfold inr; omega) (by unfold inr; omega) (fun c17 => ?_) (fun c17 => ?_)
            · refine q_con B dX12_next_399 ?_
              refine m_put (k := 7) B hM (by decide) rfl fl66 rfl dX12_next_400 rfl rfl (show (0 : Int) ≤ 5 by omega) (show 5 ≤ (6 : Int) by omega) (u1_up f [(8, y304_8), (9, y304_9), (7, y304_7), (10, y304_10)] 7 5) (fun H locs hM => ?_)
              have hM : MWd D dA h0 ad (mF dA h0 ad (f, g, A, L) s.heap.size) s.heap ((up f [(8, y304_8), (9, y304_9), (7, 5), (10, y304_10)]), (up g [(11, y304_11)]), A, L) H locs := hM
              refine lv_aload_n B.1 B.2.1 dX12_next_403 rfl (lv_at hl 0 rfl) ?_
              refine lv_dup B.1 B.2.1 dX12_next_404 rfl ?_
              refine m_get (k := 9) (v := y304_9) B hM (by decide) rfl fl56 dX12_next_405 rfl ?_
              refine q_con B dX12_next_408 ?_
              refine q_add B dX12_next_409 ?_
              refine m_put (k := 9) B hM (by decide) rfl fl56 rfl dX12_next_410 rfl rfl (show (0 : Int) ≤ y304_9 + 1 by omega) (show y304_9 + 1 ≤ (3002 : Int) by omega) (u1_up f [(8, y304_8), (9, y304_9), (7, 5), (10, y304_10)] 9 (y304_9 + 1)) (fun H locs hM => ?_)
              have hM : MWd D dA h0 ad (mF dA h0 ad (f, g, A, L) s.heap.size) s.heap ((up f [(8, y304_8), (9, y304_9 + 1), (7, 5), (10, y304_10)]), (up g [(11, y304_11)]), A, L) H locs := hM
              refine lv_goto (tgt := 433) B.1 B.2.1 dX12_next_413 (by decide) ?_
              subst hPST
              exact m_vret B hM dX12_next_433 ⟨y304_8, (y304_9 + 1), 5, y304_10, y304_11, rfl, by omega⟩
            · refine q_con B dX12_next_395 ?_
              refine lv_goto (tgt := 400) B.1 B.2.1 dX12_next_396 (by decide) ?_
              refine m_put (k := 7) B hM (by decide) rfl fl66 rfl dX12_next_400 rfl rfl (show (0 : Int) ≤ 1 by omega) (show 1 ≤ (6 : Int) by omega) (u1_up f [(8, y304_8), (9, y304_9), (7, y304_7), (10, y304_10)] 7 1) (fun H locs hM => ?_)
              have hM : MWd D dA h0 ad (mF dA h0 ad (f, g, A, L) s.heap.size) s.heap ((up f [(8, y304_8), (9, y304_9), (7, 1), (10, y304_10)]), (up g [(11, y304_11)]), A, L) H locs := hM
              refine lv_aload_n B.1 B.2.1 dX12_next_403 rfl (lv_at hl 0 rfl) ?_
              refine lv_dup B.1 B.2.1 dX12_next_404 rfl ?_
              refine m_get (k := 9) (v := y304_9) B hM (by decide) rfl fl56 dX12_next_405 rfl ?_
              refine q_con B dX12_next_408 ?_
              refine q_add B dX12_next_409 ?_
              refine m_put (k := 9) B hM (by decide) rfl fl56 rfl dX12_next_410 rfl rfl (show (0 : Int) ≤ y304_9 + 1 by omega) (show y304_9 + 1 ≤ (3002 : Int) by omega) (u1_up f [(8, y304_8), (9, y304_9), (7, 1), (10, y304_10)] 9 (y304_9 + 1)) (fun H locs hM => ?_)
              have hM : MWd D dA h0 ad (mF dA h0 ad (f, g, A, L) s.heap.size) s.heap ((up f [(8, y304_8), (9, y304_9 + 1), (7, 1), (10, y304_10)]), (up g [(11, y304_11)]), A, L) H locs := hM
              refine lv_goto (tgt := 433) B.1 B.2.1 dX12_next_413 (by decide) ?_
              subst hPST
              exact m_vret B hM dX12_next_433 ⟨y304_8, (y304_9 + 1), 1, y304_10, y304_11, rfl, by omega⟩
        · refine lv_aload_n B.1 B.2.1 dX12_next_328 rfl (lv_at hl 0 rfl) ?_
          refine lv_aload_n B.1 B.2.1 dX12_next_329 rfl (lv_at hl 0 rfl) ?_
          refine m_get (k := 9) (v := y304_9) B hM (by decide) rfl fl56 dX12_next_330 rfl ?_
          refine m_calli (n := 1) (rest := []) B hM hA hl.1 (k_sign l D dA h0 ad (up f [(8, y304_8), (9, y304_9), (7, y304_7), (10, y304_10)]) (up g [(11, y304_11)]) A L y304_9 (by omega) (by first | omega | (simp only [wr_at]; omega) | assumption) (by first | omega | (simp only [wr_at]; omega) | assumption)) rfl ok_sign nm_sign ⟨rfl, rfl⟩ ⟨Nat.le_of_ble_eq_true rfl, Nat.le_of_ble_eq_true rfl⟩ dX12_next_333 rfl rfl (Nat.le_of_ble_eq_true rfl) ⟨Nat.zero_le _, Nat.zero_le _⟩ (fun r18 σr18 H locs ir18 hp19 hM => ?_)
          obtain ⟨rfl, hp19⟩ := hp19
          unfold inr at ir18
          have hp19 : r18 = sgn ((A 2)) (f 3) (f 4) (y304_9) ∧ 0 ≤ r18 ∧ r18 ≤ 255 ∧ (r18 ≠ 0 → (y304_9) < (f 4)) := hp19
          refine q_bip B dX12_next_336 (by decide) ?_
          refine q_cgt (tgt := 367) B dX12_next_338 (by decide) (by unfold inr; omega) (by unfold inr; omega) (fun c20 => ?_) (fun c20 => ?_)
          · refine lv_aload_n B.1 B.2.1 dX12_next_367 rfl (lv_at hl 0 rfl) ?_
            refine lv_aload_n B.1 B.2.1 dX12_next_368 rfl (lv_at hl 0 rfl) ?_
            refine lv_aload_n B.1 B.2.1 dX12_next_369 rfl (lv_at hl 0 rfl) ?_
            refine m_get (k := 9) (v := y304_9) B hM (by decide) rfl fl56 dX12_next_370 rfl ?_
            refine m_calli (n := 1) (rest := [.ref h0]) B hM hA hl.1 (k_sign l D dA h0 ad (up f [(8, y304_8), (9, y304_9), (7, y304_7), (10, y304_10)]) (up g [(11, y304_11)]) A L y304_9 (by omega) (by first | omega | (simp only [wr_at]; omega) | assumption) (by first | omega | (simp only [wr_at]; omega) | assumption)) rfl ok_sign nm_sign ⟨rfl, rfl⟩ ⟨Nat.le_of_ble_eq_true rfl, Nat.le_of_ble_eq_true rfl⟩ dX12_next_373 rfl rfl (Nat.le_of_ble_eq_true rfl) ⟨Nat.zero_le _, Nat.zero_le _⟩ (fun r21 σr21 H locs ir21 hp22 hM => ?_)
            obtain ⟨rfl, hp22⟩ := hp22
            unfold inr at ir21
            have hp22 : r21 = sgn ((A 2)) (f 3) (f 4) (y304_9) ∧ 0 ≤ r21 ∧ r21 ≤ 255 ∧ (r21 ≠ 0 → (y304_9) < (f 4)) := hp22
            refine q_bip B dX12_next_376 (by decide) ?_
            refine q_cne (tgt := 395) B dX12_next_378 (by decide) (by unfold inr; omega) (by unfold inr; omega) (fun c23 => ?_) (fun c23 => ?_)
            · refine q_con B dX12_next_395 ?_
              refine lv_goto (tgt := 400) B.1 B.2.1 dX12_next_396 (by decide) ?_
              refine m_put (k := 7) B hM (by decide) rfl fl66 rfl dX12_next_400 rfl rfl (show (0 : Int) ≤ 1 by omega) (show 1 ≤ (6 : Int) by omega) (u1_up f [(8, y304_8), (9, y304_9), (7, y304_7), (10, y304_10)] 7 1) (fun H locs hM => ?_)
              have hM : MWd D dA h0 ad (mF dA h0 ad (f, g, A, L) s.heap.size) s.heap ((up f [(8, y304_8), (9, y304_9), (7, 1), (10, y304_10)]), (up g [(11, y304_11)]), A, L) H locs := hM
              refine lv_aload_n B.1 B.2.1 dX12_next_403 rfl (lv_at hl 0 rfl) ?_
              refine lv_dup B.1 B.2.1 dX12_next_404 rfl ?_
              refine m_get (k := 9) (v := y304_9) B hM (by decide) rfl fl56 dX12_next_405 rfl ?_
              refine q_con B dX12_next_408 ?_
              refine q_add B dX12_next_409 ?_
              refine m_put (k := 9) B hM (by decide) rfl fl56 rfl dX12_next_410 rfl rfl (show (0 : Int) ≤ y304_9 + 1 by omega) (show y304_9 + 1 ≤ (3002 : Int) by omega) (u1_up f [(8, y304_8), (9, y304_9), (7, 1), (10, y304_10)] 9 (y304_9 + 1)) (fun H locs hM => ?_)
              have hM : MWd D dA h0 ad (mF dA h0 ad (f, g, A, L) s.heap.size) s.heap ((up f [(8, y304_8), (9, y304_9 + 1), (7, 1), (10, y304_10)]), (up g [(11, y304_11)]), A, L) H locs := hM
              refine lv_goto (tgt := 433) B.1 B.2.1 dX12_next_413 (by decide) ?_
              subst hPST
              exact m_vret B hM dX12_next_433 ⟨y304_8, (y304_9 + 1), 1, y304_10, y304_11, rfl, by omega⟩
            · refine lv_aload_n B.1 B.2.1 dX12_next_381 rfl (lv_at hl 0 rfl) ?_
              refine m_get (k := 9) (v := y304_9) B hM (by decide) rfl fl56 dX12_next_382 rfl ?_
              refine lv_aload_n B.1 B.2.1 dX12_next_385 rfl (lv_at hl 0 rfl) ?_
              refine m_get (k := 8) (v := y304_8) B hM (by decide) rfl fl59 dX12_next_386 rfl ?_
              refine q_sub B dX12_next_389 ?_
              refine q_bip B dX12_next_390 (by decide) ?_
              refine q_cle (tgt := 399) B dX12_next_392 (by decide) (by unfold inr; omega) (by unfold inr; omega) (fun c24 => ?_) (fun c24 => ?_)
              · refine q_con B dX12_next_399 ?_
                refine m_put (k := 7) B hM (by decide) rfl fl66 rfl dX12_next_400 rfl rfl (show (0 : Int) ≤ 5 by omega) (show 5 ≤ (6 : Int) by omega) (u1_up f [(8, y304_8), (9, y304_9), (7, y304_7), (10, y304_10)] 7 5) (fun H locs hM => ?_)
                have hM : MWd D dA h0 ad (mF dA h0 ad (f, g, A, L) s.heap.size) s.heap ((up f [(8, y304_8), (9, y304_9), (7, 5), (10, y304_10)]), (up g [(11, y304_11)]), A, L) H locs := hM
                refine lv_aload_n B.1 B.2.1 dX12_next_403 rfl (lv_at hl 0 rfl) ?_
                refine lv_dup B.1 B.2.1 dX12_next_404 rfl ?_
                refine m_get (k := 9) (v := y304_9) B hM (by decide) rfl fl56 dX12_next_405 rfl ?_
                refine q_con B dX12_next_408 ?_
                refine q_add B dX12_next_409 ?_
                refine m_put (k := 9) B hM (by decide) rfl fl56 rfl dX12_next_410 rfl rfl (show (0 : Int) ≤ y304_9 + 1 by omega) (show y304_9 + 1 ≤ (3002 : Int) by omega) (u1_up f [(8, y304_8), (9, y304_9), (7, 5), (10, y304_10)] 9 (y304_9 + 1)) (fun H locs hM => ?_)
                have hM : MWd D dA h0 ad (mF dA h0 ad (f, g, A, L) s.heap.size) s.heap ((up f [(8, y304_8), (9, y304_9 + 1), (7, 5), (10, y304_10)]), (up g [(11, y304_11)]), A, L) H locs := hM
                refine lv_goto (tgt := 433) B.1 B.2.1 dX12_next_413 (by decide) ?_
                subst hPST
                exact m_vret B hM dX12_next_433 ⟨y304_8, (y304_9 + 1), 5, y304_10, y304_11, rfl, by omega⟩
              · refine q_con B dX12_next_395 ?_
                refine lv_goto (tgt := 400) B.1 B.2.1 dX12_next_396 (by decide) ?_
                refine m_put (k := 7) B hM (by decide) rfl fl66 rfl dX12_next_400 rfl rfl (show (0 : Int) ≤ 1 by omega) (show 1 ≤ (6 : Int) by omega) (u1_up f [(8, y304_8), (9, y304_9), (7, y304_7), (10, y304_10)] 7 1) (fun H locs hM => ?_)
                have hM : MWd D dA h0 ad (mF dA h0 ad (f, g, A, L) s.heap.size) s.heap ((up f [(8, y304_8), (9, y304_9), (7, 1), (10, y304_10)]), (up g [(11, y304_11)]), A, L) H locs := hM
                refine lv_aload_n B.1 B.2.1 dX12_next_403 rfl (lv_at hl 0 rfl) ?_
                refine lv_dup B.1 B.2.1 dX12_next_404 rfl ?_
                refine m_get (k := 9) (v := y304_9) B hM (by decide) rfl fl56 dX12_next_405 rfl ?_
                refine q_con B dX12_next_408 ?_
                refine q_add B dX12_next_409 ?_
                refine m_put (k := 9) B hM (by decide) rfl fl56 rfl dX12_next_410 rfl rfl (show (0 : Int) ≤ y304_9 + 1 by omega) (show y304_9 + 1 ≤ (3002 : Int) by omega) (u1_up f [(8, y304_8), (9, y304_9), (7, 1), (10, y304_10)] 9 (y304_9 + 1)) (fun H locs hM => ?_)
                have hM : MWd D dA h0 ad (mF dA h0 ad (f, g, A, L) s.heap.size) s.heap ((up f [(8, y304_8), (9, y304_9 + 1), (7, 1), (10, y304_10)]), (up g [(11, y304_11)]), A, L) H locs := hM
                refine lv_goto (tgt := 433) B.1 B.2.1 dX12_next_413 (by decide) ?_
                subst hPST
                exact m_vret B hM dX12_next_433 ⟨y304_8, (y304_9 + 1), 1, y304_10, y304_11, rfl, by omega⟩
          · refine lv_aload_n B.1 B.2.1 dX12_next_341 rfl (lv_at hl 0 rfl) ?_
            refine lv_aload_n B.1 B.2.1 dX12_next_342 rfl (lv_at hl 0 rfl) ?_
            refine m_get (k := 9) (v := y304_9) B hM (by decide) rfl fl56 dX12_next_343 rfl ?_
            refine m_calli (n := 1) (rest := []) B hM hA hl.1 (k_sign l D dA h0 ad (up f [(8, y304_8), (9, y304_9), (7, y304_7), (10, y304_10)]) (up g [(11, y304_11)]) A L y304_9 (by omega) (by first | omega | (simp only [wr_at]; omega) | assumption) (by first | omega | (simp only [wr_at]; omega) | assumption)) rfl ok_sign nm_sign ⟨rfl, rfl⟩ ⟨Nat.le_of_ble_eq_true rfl, Nat.le_of_ble_eq_true rfl⟩ dX12_next_346 rfl rfl (Nat.le_of_ble_eq_true rfl) ⟨Nat.zero_le _, Nat.zero_le _⟩ (fun r25 σr25 H locs ir25 hp26 hM => ?_)
            obtain ⟨rfl, hp26⟩ := hp26
            unfold inr at ir25
            have hp26 : r25 = sgn ((A 2)) (f 3) (f 4) (y304_9) ∧ 0 ≤ r25 ∧ r25 ≤ 255 ∧ (r25 ≠ 0 → (y304_9) < (f 4)) := hp26
            refine q_bip B dX12_next_349 (by decide) ?_
            refine q_ceq (tgt := 367) B dX12_next_351 (by decide) (by unfold inr; omega) (by unfold inr; omega) (fun c27 => ?_) (fun c27 => ?_)
            · refine lv_aload_n B.1 B.2.1 dX12_next_367 rfl (lv_at hl 0 rfl) ?_
              refine lv_aload_n B.1 B.2.1 dX12_next_368 rfl (lv_at hl 0 rfl) ?_
              refine lv_aload_n B.1 B.2.1 dX12_next_369 rfl (lv_at hl 0 rfl) ?_
              refine m_get (k := 9) (v := y304_9) B hM (by decide) rfl fl56 dX12_next_370 rfl ?_
              refine m_calli (n := 1) (rest := [.ref h0]) B hM hA hl.1 (k_sign l D dA h0 ad (up f [(8, y304_8), (9, y304_9), (7, y304_7), (10, y304_10)]) (up g [(11, y304_11)]) A L y304_9 (by omega) (by first | omega | (simp only [wr_at]; omega) | assumption) (by first | omega | (simp only [wr_at]; omega) | assumption)) rfl ok_sign nm_sign ⟨rfl, rfl⟩ ⟨Nat.le_of_ble_eq_true rfl, Nat.le_of_ble_eq_true rfl⟩ dX12_next_373 rfl rfl (Nat.le_of_ble_eq_true rfl) ⟨Nat.zero_le _, Nat.zero_le _⟩ (fun r28 σr28 H locs ir28 hp29 hM => ?_)
              obtain ⟨rfl, hp29⟩ := hp29
              unfold inr at ir28
              have hp29 : r28 = sgn ((A 2)) (f 3) (f 4) (y304_9) ∧ 0 ≤ r28 ∧ r28 ≤ 255 ∧ (r28 ≠ 0 → (y304_9) < (f 4)) := hp29
              refine q_bip B dX12_next_376 (by decide) ?_
              refine q_cne (tgt := 395) B dX12_next_378 (by decide) (by unfold inr; omega) (by unfold inr; omega) (fun c30 => ?_) (fun c30 => ?_)
              · refine q_con B dX12_next_395 ?_
                refine lv_goto (tgt := 400) B.1 B.2.1 dX12_next_396 (by decide) ?_
                refine m_put (k := 7) B hM (by decide) rfl fl66 rfl dX12_next_400 rfl rfl (show (0 : Int) ≤ 1 by omega) (show 1 ≤ (6 : Int) by omega) (u1_up f [(8, y304_8), (9, y304_9), (7, y304_7), (10, y304_10)] 7 1) (fun H locs hM => ?_)
                have hM : MWd D dA h0 ad (mF dA h0 ad (f, g, A, L) s.heap.size) s.heap ((up f [(8, y304_8), (9, y304_9), (7, 1), (10, y304_10)]), (up g [(11, y304_11)]), A, L) H locs := hM
                refine lv_aload_n B.1 B.2.1 dX12_next_403 rfl (lv_at hl 0 rfl) ?_
                refine lv_dup B.1 B.2.1 dX12_next_404 rfl ?_
                refine m_get (k := 9) (v := y304_9) B hM (by decide) rfl fl56 dX12_next_405 rfl ?_
                refine q_con B dX12_next_408 ?_
                refine q_add B dX12_next_409 ?_
                refine m_put (k := 9) B hM (by decide) rfl fl56 rfl dX12_next_410 rfl rfl (show (0 : Int) ≤ y304_9 + 1 by omega) (show y304_9 + 1 ≤ (3002 : Int) by omega) (u1_up f [(8, y304_8), (9, y304_9), (7, 1), (10, y304_10)] 9 (y304_9 + 1)) (fun H locs hM => ?_)
                have hM : MWd D dA h0 ad (mF dA h0 ad (f, g, A, L) s.heap.size) s.heap ((up f [(8, y304_8), (9, y304_9 + 1), (7, 1), (10, y304_10)]), (up g [(11, y304_11)]), A, L) H locs := hM
                refine lv_goto (tgt := 433) B.1 B.2.1 dX12_next_413 (by decide) ?_
                subst hPST
                exact m_vret B hM dX12_next_433 ⟨y304_8, (y304_9 + 1), 1, y304_10, y304_11, rfl, by omega⟩
              · refine lv_aload_n B.1 B.2.1 dX12_next_381 rfl (lv_at hl 0 rfl) ?_
                refine m_get (k := 9) (v := y304_9) B hM (by decide) rfl fl56 dX12_next_382 rfl ?_
                refine lv_aload_n B.1 B.2.1 dX12_next_385 rfl (lv_at hl 0 rfl) ?_
                refine m_get (k := 8) (v := y304_8) B hM (by decide) rfl fl59 dX12_next_386 rfl ?_
                refine q_sub B dX12_next_389 ?_
                refine q_bip B dX12_next_390 (by decide) ?_
                refine q_cle (tgt := 399) B dX12_next_392 (by decide) (by unfold inr; omega) (by unfold inr; omega) (fun c31 => ?_) (fun c31 => ?_)
                · refine q_con B dX12_next_399 ?_
                  refine m_put (k := 7) B hM (by decide) rfl fl66 rfl dX12_next_400 rfl rfl (show (0 : Int) ≤ 5 by omega) (show 5 ≤ (6 : Int) by omega) (u1_up f [(8, y304_8), (9, y304_9), (7, y304_7), (10, y304_10)] 7 5) (fun H locs hM => ?_)
                  have hM : MWd D dA h0 ad (mF dA h0 ad (f, g, A, L) s.heap.size) s.heap ((up f [(8, y304_8), (9, y304_9), (7, 5), (10, y304_10)]), (up g [(11, y304_11)]), A, L) H locs := hM
                  refine lv_aload_n B.1 B.2.1 dX12_next_403 rfl (lv_at hl 0 rfl) ?_
                  refine lv_dup B.1 B.2.1 dX12_next_404 rfl ?_
                  refine m_get (k := 9) (v := y304_9) B hM (by decide) rfl fl56 dX12_next_405 rfl ?_
                  refine q_con B dX12_next_408 ?_
                  refine q_add B dX12_next_409 ?_
                  refine m_put (k := 9) B hM (by decide) rfl fl56 rfl dX12_next_410 rfl rfl (show (0 : Int) ≤ y304_9 + 1 by omega) (show y304_9 + 1 ≤ (3002 : Int) by omega) (u1_up f [(8, y304_8), (9, y304_9), (7, 5), (10, y304_10)] 9 (y304_9 + 1)) (fun H locs hM => ?_)
                  have hM : MWd D dA h0 ad (mF dA h0 ad (f, g, A, L) s.heap.size) s.heap ((up f [(8, y304_8), (9, y304_9 + 1), (7, 5), (10, y304_10)]), (up g [(11, y304_11)]), A, L) H locs := hM
                  refine lv_goto (tgt := 433) B.1 B.2.1 dX12_next_413 (by decide) ?_
                  subst hPST
                  exact m_vret B hM dX12_next_433 ⟨y304_8, (y304_9 + 1), 5, y304_10, y304_11, rfl, by omega⟩
                · refine q_con B dX12_next_395 ?_
                  refine lv_goto (tgt := 400) B.1 B.2.1 dX12_next_396 (by decide) ?_
                  refine m_put (k := 7) B hM (by decide) rfl fl66 rfl dX12_next_400 rfl rfl (show (0 : Int) ≤ 1 by omega) (show 1 ≤ (6 : Int) by omega) (u1_up f [(8, y304_8), (9, y304_9), (7, y304_7), (10, y304_10)] 7 1) (fun H locs hM => ?_)
                  have hM : MWd D dA h0 ad (mF dA h0 ad (f, g, A, L) s.heap.size) s.heap ((up f [(8, y304_8), (9, y304_9), (7, 1), (10, y304_10)]), (up g [(11, y304_11)]), A, L) H locs := hM
                  refine lv_aload_n B.1 B.2.1 dX12_next_403 rfl (lv_at hl 0 rfl) ?_
                  refine lv_dup B.1 B.2.1 dX12_next_404 rfl ?_
                  refine m_get (k := 9) (v := y304_9) B hM (by decide) rfl fl56 dX12_next_405 rfl ?_
                  refine q_con B dX12_next_408 ?_
                  refine q_add B dX12_next_409 ?_
                  refine m_put (k := 9) B hM (by decide) rfl fl56 rfl dX12_next_410 rfl rfl (show (0 : Int) ≤ y304_9 + 1 by omega) (show y304_9 + 1 ≤ (3002 : Int) by omega) (u1_up f [(8, y304_8), (9, y304_9), (7, 1), (10, y304_10)] 9 (y304_9 + 1)) (fun H locs hM => ?_)
                  have hM : MWd D dA h0 ad (mF dA h0 ad (f, g, A, L) s.heap.size) s.heap ((up f [(8, y304_8), (9, y304_9 + 1), (7, 1), (10, y304_10)]), (up g [(11, y304_11)]), A, L) H locs := hM
                  refine lv_goto (tgt := 433) B.1 B.2.1 dX12_next_413 (by decide) ?_
                  subst hPST
                  exact m_vret B hM dX12_next_433 ⟨y304_8, (y304_9 + 1), 1, y304_10, y304_11, rfl, by omega⟩
            · refine lv_aload_n B.1 B.2.1 dX12_next_354 rfl (lv_at hl 0 rfl) ?_
              refine lv_dup B.1 B.2.1 dX12_next_355 rfl ?_
              refine m_get (k := 9) (v := y304_9) B hM (by decide) rfl fl56 dX12_next_356 rfl ?_
              refine q_con B dX12_next_359 ?_
              refine q_add B dX12_next_360 ?_
              refine m_put (k := 9) B hM (by decide) rfl fl56 rfl dX12_next_361 rfl rfl (show (0 : Int) ≤ y304_9 + 1 by omega) (show y304_9 + 1 ≤ (3002 : Int) by omega) (u1_up f [(8, y304_8), (9, y304_9), (7, y304_7), (10, y304_10)] 9 (y304_9 + 1)) (fun H locs hM => ?_)
              have hM : MWd D dA h0 ad (mF dA h0 ad (f, g, A, L) s.heap.size) s.heap ((up f [(8, y304_8), (9, y304_9 + 1), (7, y304_7), (10, y304_10)]), (up g [(11, y304_11)]), A, L) H locs := hM
              refine lv_goto (tgt := 304) B.1 B.2.1 dX12_next_364 (by decide) ?_
              exact IH304 y304_8 (y304_9 + 1) y304_7 y304_10 y304_11 _ _ ls hM (lv_sub hl [0] rfl) (by first | omega | (simp only [wr_at]; omega) | assumption) (by first | omega | (simp only [wr_at]; omega) | assumption) (by first | omega | (simp only [wr_at]; omega) | assumption) (by first | omega | (simp only [wr_at]; omega) | assumption) (by first | omega | (simp only [wr_at]; omega) | assumption) (by first | omega | (simp only [wr_at]; omega) | assumption)
  have LL170 : ∀ N : Nat, ∀ (v170_2 : Int) (y170_8 : Int) (y170_9 : Int) (y170_7 : Int) (y170_10 : Int) (y170_11 : Int64) (H : Heap) (locs : List Loc) (ls : Array Slot), (MWd D dA h0 ad (mF dA h0 ad (f, g, A, L) s.heap.size) s.heap ((up f [(8, y170_8), (9, y170_9), (7, y170_7), (10, y170_10)]), (up g [(11, y170_11)]), A, L) H locs) → lv_has ls 3 [(0, .ref h0), (2, .int (II v170_2))] → ((-2147483648 : Int) ≤ v170_2 ∧ v170_2 ≤ 2147483647) → ((f 9) ≤ (y170_8)) → ((y170_8) < (f 4)) → ((y170_8) < (y170_9)) → ((y170_9) ≤ (f 4)) → ((y170_8) ≤ (v170_2)) → ((v170_2) ≤ (y170_9)) → (0 ≤ (y170_9) - (v170_2)) → ((y170_9) - (v170_2) < (N : Int)) → W p l e ({ frames := 2, cells := 0, slots := 0, locals := 43 }) s m args below meth c H locs 0 0 (MQ below (mQv D dA h0 ad (f, g, A, L) s.heap.size PST) args s 0 0 (mF dA h0 ad (f, g, A, L) s.heap.size)) (F0 m 170 ls []) := by
    intro N
    induction N with
    | zero => intro v170_2 y170_8 y170_9 y170_7 y170_10 y170_11 H locs ls hM hl hLL170_0 hLL170_1 hLL170_2 hLL170_3 hLL170_4 hLL170_5 hLL170_6 hLL170_7 hN; exfalso; omega
    | succ N IH170 =>
      intro v170_2 y170_8 y170_9 y170_7 y170_10 y170_11 H locs ls hM hl hLL170_0 hLL170_1 hLL170_2 hLL170_3 hLL170_4 hLL170_5 hLL170_6 hLL170_7 hN
      have r32 : (0 : Int) ≤ y170_8 ∧ y170_8 ≤ 3001 := hM.2.2.2.1 8
      have r33 : (0 : Int) ≤ y170_9 ∧ y170_9 ≤ 3002 := hM.2.2.2.1 9
      have r34 : (0 : Int) ≤ y170_7 ∧ y170_7 ≤ 6 := hM.2.2.2.1 7
      have r35 : (-2147483648 : Int) ≤ y170_10 ∧ y170_10 ≤ 2147483647 := hM.2.2.2.1 10
      refine lv_iload_n B.1 B.2.1 dX12_next_170 rfl (lv_at hl 1 rfl) ?_
      refine lv_aload_n B.1 B.2.1 dX12_next_171 rfl (lv_at hl 0 rfl) ?_
      refine m_get (k := 9) (v := y170_9) B hM (by decide) rfl fl56 dX12_next_172 rfl ?_
      refine q_cge (tgt := 213) B dX12_next_175 (by decide) (by unfold inr; omega) (by unfold inr; omega) (fun c36 => ?_) (fun c36 => ?_)
      · refine lv_aload_n B.1 B.2.1 dX12_next_213 rfl (lv_at hl 0 rfl) ?_
        refine lv_aload_n B.1 B.2.1 dX12_next_214 rfl (lv_at hl 0 rfl) ?_
        refine m_get (k := 9) (v := y170_9) B hM (by decide) rfl fl56 dX12_next_215 rfl ?_
        refine lv_aload_n B.1 B.2.1 dX12_next_218 rfl (lv_at hl 0 rfl) ?_
        refine m_get (k := 8) (v := y170_8) B hM (by decide) rfl fl59 dX12_next_219 rfl ?_
        refine q_sub B dX12_next_222 ?_
        refine q_bip B dX12_next_223 (by decide) ?_
        refine q_cle (tgt := 232) B dX12_next_225 (by decide) (by unfold inr; omega) (by unfold inr; omega) (fun c37 => ?_) (fun c37 => ?_)
        · refine lv_aload_n B.1 B.2.1 dX12_next_232 rfl (lv_at hl 0 rfl) ?_
          refine m_getl (k := 11) B hM (by decide) rfl fl76 dX12_next_233 rfl ?_
          refine s_calli (n := 1) (rest := [.ref h0]) B hl.1 (k_isKept l D dA y170_11  ) rfl ok_isKept nm_isKept ⟨rfl, rfl⟩ ⟨Nat.le_of_ble_eq_true rfl, Nat.le_of_ble_eq_true rfl⟩ dX12_next_236 rfl rfl (Nat.le_of_ble_eq_true rfl) ⟨Nat.zero_le _, Nat.zero_le _⟩ (fun r38 ir38 hp39 => ?_)
          unfold inr at ir38
          have hp39 : 0 ≤ r38 ∧ r38 ≤ 1 := hp39
          refine q_ieq (tgt := 246) B dX12_next_239 (by decide) (by unfold inr; omega) (fun c40 => ?_) (fun c40 => ?_)
          · refine q_con B dX12_next_246 ?_
            refine m_put (k := 7) B hM (by decide) rfl fl66 rfl dX12_next_247 rfl rfl (show (0 : Int) ≤ 2 by omega) (show 2 ≤ (6 : Int) by omega) (u1_up f [(8, y170_8), (9, y170_9), (7, y170_7), (10, y170_10)] 7 2) (fun H locs hM => ?_)
            have hM : MWd D dA h0 ad (mF dA h0 ad (f, g, A, L) s.heap.size) s.heap ((up f [(8, y170_8), (9, y170_9), (7, 2), (10, y170_10)]), (up g [(11, y170_11)]), A, L) H locs := hM
            refine lv_goto (tgt := 433) B.1 B.2.1 dX12_next_250 (by decide) ?_
            subst hPST
            exact m_vret B hM dX12_next_433 ⟨y170_8, y170_9, 2, y170_10, y170_11, rfl, by omega⟩
          · refine q_con B dX12_next_242 ?_
            refine lv_goto (tgt := 247) B.1 B.2.1 dX12_next_243 (by decide) ?_
            refine m_put (k := 7) B hM (by decide) rfl fl66 rfl dX12_next_247 rfl rfl (show (0 : Int) ≤ 3 by omega) (show 3 ≤ (6 : Int) by omega) (u1_up f [(8, y170_8), (9, y170_9), (7, y170_7), (10, y170_10)] 7 3) (fun H locs hM => ?_)
            have hM : MWd D dA h0 ad (mF dA h0 ad (f, g, A, L) s.heap.size) s.heap ((up f [(8, y170_8), (9, y170_9), (7, 3), (10, y170_10)]), (up g [(11, y170_11)]), A, L) H locs := hM
            refine lv_goto (tgt := 433) B.1 B.2.1 dX12_next_250 (by decide) ?_
            subst hPST
            exact m_vret B hM dX12_next_433 ⟨y170_8, y170_9, 3, y170_10, y170_11, rfl, by omega⟩
        · refine q_con B dX12_next_228 ?_
          refine lv_goto (tgt := 247) B.1 B.2.1 dX12_next_229 (by decide) ?_
          refine m_put (k := 7) B hM (by decide) rfl fl66 rfl dX12_next_247 rfl rfl (show (0 : Int) ≤ 1 by omega) (show 1 ≤ (6 : Int) by omega) (u1_up f [(8, y170_8), (9, y170_9), (7, y170_7), (10, y170_10)] 7 1) (fun H locs hM => ?_)
          have hM : MWd D dA h0 ad (mF dA h0 ad (f, g, A, L) s.heap.size) s.heap ((up f [(8, y170_8), (9, y170_9), (7, 1), (10, y170_10)]), (up g [(11, y170_11)]), A, L) H locs := hM
          refine lv_goto (tgt := 433) B.1 B.2.1 dX12_next_250 (by decide) ?_
          subst hPST
          exact m_vret B hM dX12_next_433 ⟨y170_8, y170_9, 1, y170_10, y170_11, rfl, by omega⟩
      · refine lv_iload_n B.1 B.2.1 dX12_next_178 rfl (lv_at hl 1 rfl) ?_
        refine lv_aload_n B.1 B.2.1 dX12_next_179 rfl (lv_at hl 0 rfl) ?_
        refine m_get (k := 8) (v := y170_8) B hM (by decide) rfl fl59 dX12_next_180 rfl ?_
        refine q_bip B dX12_next_183 (by decide) ?_
        refine q_add B dX12_next_185 ?_
        refine q_cge (tgt := 213) B dX12_next_186 (by decide) (by unfold inr; omega) (by unfold inr; omega) (fun c41 => ?_) (fun c41 => ?_)
        · refine lv_aload_n B.1 B.2.1 dX12_next_213 rfl (lv_at hl 0 rfl) ?_
          refine lv_aload_n B.1 B.2.1 dX12_next_214 rfl (lv_at hl 0 rfl) ?_
          refine m_get (k := 9) (v := y170_9) B hM (by decide) rfl fl56 dX12_next_215 rfl ?_
          refine lv_aload_n B.1 B.2.1 dX12_next_218 rfl (lv_at hl 0 rfl) ?_
          refine m_get (k := 8) (v := y170_8) B hM (by decide) rfl fl59 dX12_next_219 rfl ?_
          refine q_sub B dX12_next_222 ?_
          refine q_bip B dX12_next_223 (by decide) ?_
          refine q_cle (tgt := 232) B dX12_next_225 (by decide) (by unfold inr; omega) (by unfold inr; omega) (fun c42 => ?_) (fun c42 => ?_)
          · refine lv_aload_n B.1 B.2.1 dX12_next_232 rfl (lv_at hl 0 rfl) ?_
            refine m_getl (k := 11) B hM (by decide) rfl fl76 dX12_next_233 rfl ?_
            refine s_calli (n := 1) (rest := [.ref h0]) B hl.1 (k_isKept l D dA y170_11  ) rfl ok_isKept nm_isKept ⟨rfl, rfl⟩ ⟨Nat.le_of_ble_eq_true rfl, Nat.le_of_ble_eq_true rfl⟩ dX12_next_236 rfl rfl (Nat.le_of_ble_eq_true rfl) ⟨Nat.zero_le _, Nat.zero_le _⟩ (fun r43 ir43 hp44 => ?_)
            unfold inr at ir43
            have hp44 : 0 ≤ r43 ∧ r43 ≤ 1 := hp44
            refine q_ieq (tgt := 246) B dX12_next_239 (by decide) (by unfold inr; omega) (fun c45 => ?_) (fun c45 => ?_)
            · refine q_con B dX12_next_246 ?_
              refine m_put (k := 7) B hM (by decide) rfl fl66 rfl dX12_next_247 rfl rfl (show (0 : Int) ≤ 2 by omega) (show 2 ≤ (6 : Int) by omega) (u1_up f [(8, y170_8), (9, y170_9), (7, y170_7), (10, y170_10)] 7 2) (fun H locs hM => ?_)
              have hM : MWd D dA h0 ad (mF dA h0 ad (f, g, A, L) s.heap.size) s.heap ((up f [(8, y170_8), (9, y170_9), (7, 2), (10, y170_10)]), (up g [(11, y170_11)]), A, L) H locs := hM
              refine lv_goto (tgt := 433) B.1 B.2.1 dX12_next_250 (by decide) ?_
              subst hPST
              exact m_vret B hM dX12_next_433 ⟨y170_8, y170_9, 2, y170_10, y170_11, rfl, by omega⟩
            · refine q_con B dX12_next_242 ?_
              refine lv_goto (tgt := 247) B.1 B.2.1 dX12_next_243 (by decide) ?_
              refine m_put (k := 7) B hM (by decide) rfl fl66 rfl dX12_next_247 rfl rfl (show (0 : Int) ≤ 3 by omega) (show 3 ≤ (6 : Int) by omega) (u1_up f [(8, y170_8), (9, y170_9), (7, y170_7), (10, y170_10)] 7 3) (fun H locs hM => ?_)
              have hM : MWd D dA h0 ad (mF dA h0 ad (f, g, A, L) s.heap.size) s.heap ((up f [(8, y170_8), (9, y170_9), (7, 3), (10, y170_10)]), (up g [(11, y170_11)]), A, L) H locs := hM
              refine lv_goto (tgt := 433) B.1 B.2.1 dX12_next_250 (by decide) ?_
              subst hPST
              exact m_vret B hM dX12_next_433 ⟨y170_8, y170_9, 3, y170_10, y170_11, rfl, by omega⟩
          · refine q_con B dX12_next_228 ?_
            refine lv_goto (tgt := 247) B.1 B.2.1 dX12_next_229 (by decide) ?_
            refine m_put (k := 7) B hM (by decide) rfl fl66 rfl dX12_next_247 rfl rfl (show (0 : Int) ≤ 1 by omega) (show 1 ≤ (6 : Int) by omega) (u1_up f [(8, y170_8), (9, y170_9), (7, y170_7), (10, y170_10)] 7 1) (fun H locs hM => ?_)
            have hM : MWd D dA h0 ad (mF dA h0 ad (f, g, A, L) s.heap.size) s.heap ((up f [(8, y170_8), (9, y170_9), (7, 1), (10, y170_10)]), (up g [(11, y170_11)]), A, L) H locs := hM
            refine lv_goto (tgt := 433) B.1 B.2.1 dX12_next_250 (by decide) ?_
            subst hPST
            exact m_vret B hM dX12_next_433 ⟨y170_8, y170_9, 1, y170_10, y170_11, rfl, by omega⟩
        · refine lv_aload_n B.1 B.2.1 dX12_next_189 rfl (lv_at hl 0 rfl) ?_
          refine lv_aload_n B.1 B.2.1 dX12_next_190 rfl (lv_at hl 0 rfl) ?_
          refine m_getl (k := 11) B hM (by decide) rfl fl76 dX12_next_191 rfl ?_
          refine q_bip B dX12_next_194 (by decide) ?_
          refine lv_lshl B.1 B.2.1 dX12_next_196 rfl ?_
          refine lv_topl (fun w46 ew46 => ?_)
          refine lv_aload_n B.1 B.2.1 dX12_next_197 rfl (lv_at hl 0 rfl) ?_
          refine lv_iload_n B.1 B.2.1 dX12_next_198 rfl (lv_at hl 1 rfl) ?_
          refine m_calli (n := 1) (rest := [.long w46, .ref h0]) B hM hA hl.1 (k_sign l D dA h0 ad (up f [(8, y170_8), (9, y170_9), (7, y170_7), (10, y170_10)]) (up g [(11, y170_11)]) A L v170_2 (by omega) (by first | omega | (simp only [wr_at]; omega) | assumption) (by first | omega | (simp only [wr_at]; omega) | assumption)) rfl ok_sign nm_sign ⟨rfl, rfl⟩ ⟨Nat.le_of_ble_eq_true rfl, Nat.le_of_ble_eq_true rfl⟩ dX12_next_199 rfl rfl (Nat.le_of_ble_eq_true rfl) ⟨Nat.zero_le _, Nat.zero_le _⟩ (fun r47 σr47 H locs ir47 hp48 hM => ?_)
          obtain ⟨rfl, hp48⟩ := hp48
          unfold inr at ir47
          have hp48 : r47 = sgn ((A 2)) (f 3) (f 4) (v170_2) ∧ 0 ≤ r47 ∧ r47 ≤ 255 ∧ (r47 ≠ 0 → (v170_2) < (f 4)) := hp48
          refine q_i2l B dX12_next_202 (fun w49 => ?_)
          refine lv_lor B.1 B.2.1 dX12_next_203 ?_
          refine lv_topl (fun w50 ew50 => ?_)
          refine m_putl (k := 11) B hM (by decide) rfl fl76 rfl dX12_next_204 rfl rfl (u1_up g [(11, y170_11)] 11 w50) (fun H locs hM => ?_)
          have hM : MWd D dA h0 ad (mF dA h0 ad (f, g, A, L) s.heap.size) s.heap ((up f [(8, y170_8), (9, y170_9), (7, y170_7), (10, y170_10)]), (up g [(11, w50)]), A, L) H locs := hM
          refine q_inc (k := 1) (x := v170_2) (lv' := [(2, .int (II (v170_2 + 1))), (0, .ref h0)]) B dX12_next_207 hl rfl (by decide) rfl (fun ls hl => ?_)
          refine lv_goto (tgt := 170) B.1 B.2.1 dX12_next_210 (by decide) ?_
          exact IH170 (v170_2 + 1) y170_8 y170_9 y170_7 y170_10 w50 _ _ ls hM (lv_sub hl [1, 0] rfl) (by omega) (by first | omega | (simp only [wr_at]; omega) | assumption) (by first | omega | (simp only [wr_at]; omega) | assumption) (by first | omega | (simp only [wr_at]; omega) | assumption) (by first | omega | (simp only [wr_at]; omega) | assumption) (by first | omega | (simp only [wr_at]; omega) | assumption) (by first | omega | (simp only [wr_at]; omega) | assumption) (by first | omega | (simp only [wr_at]; omega) | assumption) (by first | omega | (simp only [wr_at]; omega) | assumption)
  have LL119 : ∀ N : Nat, ∀ (y119_8 : Int) (y119_9 : Int) (y119_7 : Int) (y119_10 : Int) (y119_11 : Int64) (H : Heap) (locs : List Loc) (ls : Array Slot), (MWd D dA h0 ad (mF dA h0 ad (f, g, A, L) s.heap.size) s.heap ((up f [(8, y119_8), (9, y119_9), (7, y119_7), (10, y119_10)]), (up g [(11, y119_11)]), A, L) H locs) → lv_has ls 3 [(0, .ref h0)] → ((f 9) ≤ (y119_8)) → ((y119_8) < (f 4)) → ((y119_8) < (y119_9)) → ((y119_9) ≤ (f 4)) → (0 ≤ (f 4) - (y119_9)) → ((f 4) - (y119_9) < (N : Int)) → W p l e ({ frames := 2, cells := 0, slots := 0, locals := 43 }) s m args below meth c H locs 0 0 (MQ below (mQv D dA h0 ad (f, g, A, L) s.heap.size PST) args s 0 0 (mF dA h0 ad (f, g, A, L) s.heap.size)) (F0 m 119 ls []) := by
    intro N
    induction N with
    | zero => intro y119_8 y119_9 y119_7 y119_10 y119_11 H locs ls hM hl hLL119_0 hLL119_1 hLL119_2 hLL119_3 hLL119_4 hN; exfalso; omega
    | succ N IH119 =>
      intro y119_8 y119_9 y119_7 y119_10 y119_11 H locs ls hM hl hLL119_0 hLL119_1 hLL119_2 hLL119_3 hLL119_4 hN
      have r51 : (0 : Int) ≤ y119_8 ∧ y119_8 ≤ 3001 := hM.2.2.2.1 8
      have r52 : (0 : Int) ≤ y119_9 ∧ y119_9 ≤ 3002 := hM.2.2.2.1 9
      have r53 : (0 : Int) ≤ y119_7 ∧ y119_7 ≤ 6 := hM.2.2.2.1 7
      have r54 : (-2147483648 : Int) ≤ y119_10 ∧ y119_10 ≤ 2147483647 := hM.2.2.2.1 10
      refine lv_aload_n B.1 B.2.1 dX12_next_119 rfl (lv_at hl 0 rfl) ?_
      refine lv_aload_n B.1 B.2.1 dX12_next_120 rfl (lv_at hl 0 rfl) ?_
      refine m_get (k := 9) (v := y119_9) B hM (by decide) rfl fl56 dX12_next_121 rfl ?_
      refine m_calli (n := 1) (rest := []) B hM hA hl.1 (k_sign l D dA h0 ad (up f [(8, y119_8), (9, y119_9), (7, y119_7), (10, y119_10)]) (up g [(11, y119_11)]) A L y119_9 (by omega) (by first | omega | (simp only [wr_at]; omega) | assumption) (by first | omega | (simp only [wr_at]; omega) | assumption)) rfl ok_sign nm_sign ⟨rfl, rfl⟩ ⟨Nat.le_of_ble_eq_true rfl, Nat.le_of_ble_eq_true rfl⟩ dX12_next_124 rfl rfl (Nat.le_of_ble_eq_true rfl) ⟨Nat.zero_le _, Nat.zero_le _⟩ (fun r55 σr55 H locs ir55 hp56 hM => ?_)
      obtain ⟨rfl, hp56⟩ := hp56
      unfold inr at ir55
      have hp56 : r55 = sgn ((A 2)) (f 3) (f 4) (y119_9) ∧ 0 ≤ r55 ∧ r55 ≤ 255 ∧ (r55 ≠ 0 → (y119_9) < (f 4)) := hp56
      refine s_calli (n := 1) (rest := []) B hl.1 (k_isLetter l D dA r55 (by omega) ) rfl ok_isLetter nm_isLetter ⟨rfl, rfl⟩ ⟨Nat.le_of_ble_eq_true rfl, Nat.le_of_ble_eq_true rfl⟩ dX12_next_127 rfl rfl (Nat.le_of_ble_eq_true rfl) ⟨Nat.zero_le _, Nat.zero_le _⟩ (fun r57 ir57 hp58 => ?_)
      unfold inr at ir57
      have hp58 : (r57 = 1 ↔ 97 ≤ (r55) ∧ (r55) ≤ 122) ∧ 0 ≤ r57 ∧ r57 ≤ 1 := hp58
      refine q_ine (tgt := 147) B dX12_next_130 (by decide) (by unfold inr; omega) (fun c59 => ?_) (fun c59 => ?_)
      · refine lv_aload_n B.1 B.2.1 dX12_next_147 rfl (lv_at hl 0 rfl) ?_
        refine lv_dup B.1 B.2.1 dX12_next_148 rfl ?_
        refine m_get (k := 9) (v := y119_9) B hM (by decide) rfl fl56 dX12_next_149 rfl ?_
        refine q_con B dX12_next_152 ?_
        refine q_add B dX12_next_153 ?_
        refine m_put (k := 9) B hM (by decide) rfl fl56 rfl dX12_next_154 rfl rfl (show (0 : Int) ≤ y119_9 + 1 by omega) (show y119_9 + 1 ≤ (3002 : Int) by omega) (u1_up f [(8, y119_8), (9, y119_9), (7, y119_7), (10, y119_10)] 9 (y119_9 + 1)) (fun H locs hM => ?_)
        have hM : MWd D dA h0 ad (mF dA h0 ad (f, g, A, L) s.heap.size) s.heap ((up f [(8, y119_8), (9, y119_9 + 1), (7, y119_7), (10, y119_10)]), (up g [(11, y119_11)]), A, L) H locs := hM
        refine lv_goto (tgt := 119) B.1 B.2.1 dX12_next_157 (by decide) ?_
        exact IH119 y119_8 (y119_9 + 1) y119_7 y119_10 y119_11 _ _ ls hM (lv_sub hl [0] rfl) (by first | omega | (simp only [wr_at]; omega) | assumption) (by first | omega | (simp only [wr_at]; omega) | assumption) (by first | omega | (simp only [wr_at]; omega) | assumption) (by first | omega | (simp only [wr_at]; omega) | assumption) (by first | omega | (simp only [wr_at]; omega) | assumption) (by first | omega | (simp only [wr_at]; omega) | assumption)
      · refine lv_aload_n B.1 B.2.1 dX12_next_133 rfl (lv_at hl 0 rfl) ?_
        refine lv_aload_n B.1 B.2.1 dX12_next_134 rfl (lv_at hl 0 rfl) ?_
        refine m_get (k := 9) (v := y119_9) B hM (by decide) rfl fl56 dX12_next_135 rfl ?_
        refine m_calli (n := 1) (rest := []) B hM hA hl.1 (k_sign l D dA h0 ad (up f [(8, y119_8), (9, y119_9), (7, y119_7), (10, y119_10)]) (up g [(11, y119_11)]) A L y119_9 (by omega) (by first | omega | (simp only [wr_at]; omega) | assumption) (by first | omega | (simp only [wr_at]; omega) | assumption)) rfl ok_sign nm_sign ⟨rfl, rfl⟩ ⟨Nat.le_of_ble_eq_true rfl, Nat.le_of_ble_eq_true rfl⟩ dX12_next_138 rfl rfl (Nat.le_of_ble_eq_true rfl) ⟨Nat.zero_le _, Nat.zero_le _⟩ (fun r60 σr60 H locs ir60 hp61 hM => ?_)
        obtain ⟨rfl, hp61⟩ := hp61
        unfold inr at ir60
        have hp61 : r60 = sgn ((A 2)) (f 3) (f 4) (y119_9) ∧ 0 ≤ r60 ∧ r60 ≤ 255 ∧ (r60 ≠ 0 → (y119_9) < (f 4)) := hp61
        refine s_calli (n := 1) (rest := []) B hl.1 (k_isDigit l D dA r60 (by omega) ) rfl ok_isDigit nm_isDigit ⟨rfl, rfl⟩ ⟨Nat.le_of_ble_eq_true rfl, Nat.le_of_ble_eq_true rfl⟩ dX12_next_141 rfl rfl (Nat.le_of_ble_eq_true rfl) ⟨Nat.zero_le _, Nat.zero_le _⟩ (fun r62 ir62 hp63 => ?_)
        unfold inr at ir62
        have hp63 : (r62 = 1 ↔ 48 ≤ (r60) ∧ (r60) ≤ 57) ∧ 0 ≤ r62 ∧ r62 ≤ 1 := hp63
        refine q_ieq (tgt := 160) B dX12_next_144 (by decide) (by unfold inr; omega) (fun c64 => ?_) (fun c64 => ?_)
        · refine lv_aload_n B.1 B.2.1 dX12_next_160 rfl (lv_at hl 0 rfl) ?_
          refine lv_lconst (v := 0) B.1 B.2.1 dX12_next_161 (by decide) ?_
          refine m_putl (k := 11) B hM (by decide) rfl fl76 rfl dX12_next_162 rfl rfl (u1_up g [(11, y119_11)] 11 ((0 : Int64))) (fun H locs hM => ?_)
          have hM : MWd D dA h0 ad (mF dA h0 ad (f, g, A, L) s.heap.size) s.heap ((up f [(8, y119_8), (9, y119_9), (7, y119_7), (10, y119_10)]), (up g [(11, (0 : Int64))]), A, L) H locs := hM
          refine lv_aload_n B.1 B.2.1 dX12_next_165 rfl (lv_at hl 0 rfl) ?_
          refine m_get (k := 8) (v := y119_8) B hM (by decide) rfl fl59 dX12_next_166 rfl ?_
          refine lv_istore_n (lv' := [(2, .int (II y119_8)), (0, .ref h0)]) B.1 B.2.1 dX12_next_169 rfl hl (by decide) rfl (fun ls hl => ?_)
          exact LL170 ((y119_9) - (y119_8) + 1).toNat y119_8 y119_8 y119_9 y119_7 y119_10 ((0 : Int64)) _ _ ls hM (lv_sub hl [1, 0] rfl) (by omega) (by first | omega | (simp only [wr_at]; omega) | assumption) (by first | omega | (simp only [wr_at]; omega) | assumption) (by first | omega | (simp only [wr_at]; omega) | assumption) (by first | omega | (simp only [wr_at]; omega) | assumption) (by first | omega | (simp only [wr_at]; omega) | assumption) (by first | omega | (simp only [wr_at]; omega) | assumption) (by first | omega | (simp only [wr_at]; omega) | assumption) (by first | omega | (simp only [wr_at]; omega) | assumption)
        · refine lv_aload_n B.1 B.2.1 dX12_next_147 rfl (lv_at hl 0 rfl) ?_
          refine lv_dup B.1 B.2.1 dX12_next_148 rfl ?_
          refine m_get (k := 9) (v := y119_9) B hM (by decide) rfl fl56 dX12_next_149 rfl ?_
          refine q_con B dX12_next_152 ?_
          refine q_add B dX12_next_153 ?_
          refine m_put (k := 9) B hM (by decide) rfl fl56 rfl dX12_next_154 rfl rfl (show (0 : Int) ≤ y119_9 + 1 by omega) (show y119_9 + 1 ≤ (3002 : Int) by omega) (u1_up f [(8, y119_8), (9, y119_9), (7, y119_7), (10, y119_10)] 9 (y119_9 + 1)) (fun H locs hM => ?_)
          have hM : MWd D dA h0 ad (mF dA h0 ad (f, g, A, L) s.heap.size) s.heap ((up f [(8, y119_8), (9, y119_9 + 1), (7, y119_7), (10, y119_10)]), (up g [(11, y119_11)]), A, L) H locs := hM
          refine lv_goto (tgt := 119) B.1 B.2.1 dX12_next_157 (by decide) ?_
          exact IH119 y119_8 (y119_9 + 1) y119_7 y119_10 y119_11 _ _ ls hM (lv_sub hl [0] rfl) (by first | omega | (simp only [wr_at]; omega) | assumption) (by first | omega | (simp only [wr_at]; omega) | assumption) (by first | omega | (simp only [wr_at]; omega) | assumption) (by first | omega | (simp only [wr_at]; omega) | assumption) (by first | omega | (simp only [wr_at]; omega) | assumption) (by first | omega | (simp only [wr_at]; omega) | assumption)
  have JJ58 : ∀ (y58_8 : Int) (y58_11 : Int64) (H : Heap) (locs : List Loc) (ls : Array Slot), (MWd D dA h0 ad (mF dA h0 ad (f, g, A, L) s.heap.size) s.heap ((up f [(8, y58_8), (9, f 9), (7, f 7), (10, f 10)]), (up g [(11, y58_11)]), A, L) H locs) → lv_has ls 3 [(0, .ref h0)] → ((f 9) ≤ (y58_8)) → (((y58_8) ≤ (f 4) ∨ (y58_8) = (f 9))) → W p l e ({ frames := 2, cells := 0, slots := 0, locals := 43 }) s m args below meth c H locs 0 0 (MQ below (mQv D dA h0 ad (f, g, A, L) s.heap.size PST) args s 0 0 (mF dA h0 ad (f, g, A, L) s.heap.size)) (F0 m 58 ls []) := by
    intro y58_8 y58_11 H locs ls hM hl hJJ58_0 hJJ58_1
    have r65 : (0 : Int) ≤ y58_8 ∧ y58_8 ≤ 3001 := hM.2.2.2.1 8
    have r66 : (0 : Int) ≤ f 9 ∧ f 9 ≤ 3002 := hM.2.2.2.1 9
    have r67 : (0 : Int) ≤ f 7 ∧ f 7 ≤ 6 := hM.2.2.2.1 7
    have r68 : (-2147483648 : Int) ≤ f 10 ∧ f 10 ≤ 2147483647 := hM.2.2.2.1 10
    refine lv_aload_n B.1 B.2.1 dX12_next_58 rfl (lv_at hl 0 rfl) ?_
    refine lv_aload_n B.1 B.2.1 dX12_next_59 rfl (lv_at hl 0 rfl) ?_
    refine m_get (k := 8) (v := y58_8) B hM (by decide) rfl fl59 dX12_next_60 rfl ?_
    refine q_con B dX12_next_63 ?_
    refine q_add B dX12_next_64 ?_
    refine m_put (k := 9) B hM (by decide) rfl fl56 rfl dX12_next_65 rfl rfl (show (0 : Int) ≤ y58_8 + 1 by omega) (show y58_8 + 1 ≤ (3002 : Int) by omega) (u1_up f [(8, y58_8), (9, f 9), (7, f 7), (10, f 10)] 9 (y58_8 + 1)) (fun H locs hM => ?_)
    have hM : MWd D dA h0 ad (mF dA h0 ad (f, g, A, L) s.heap.size) s.heap ((up f [(8, y58_8), (9, y58_8 + 1), (7, f 7), (10, f 10)]), (up g [(11, y58_11)]), A, L) H locs := hM
    refine lv_aload_n B.1 B.2.1 dX12_next_68 rfl (lv_at hl 0 rfl) ?_
    refine lv_aload_n B.1 B.2.1 dX12_next_69 rfl (lv_at hl 0 rfl) ?_
    refine m_get (k := 8) (v := y58_8) B hM (by decide) rfl fl59 dX12_next_70 rfl ?_
    refine m_calli (n := 1) (rest := []) B hM hA hl.1 (k_sign l D dA h0 ad (up f [(8, y58_8), (9, y58_8 + 1), (7, f 7), (10, f 10)]) (up g [(11, y58_11)]) A L y58_8 (by omega) (by first | omega | (simp only [wr_at]; omega) | assumption) (by first | omega | (simp only [wr_at]; omega) | assumption)) rfl ok_sign nm_sign ⟨rfl, rfl⟩ ⟨Nat.le_of_ble_eq_true rfl, Nat.le_of_ble_eq_true rfl⟩ dX12_next_73 rfl rfl (Nat.le_of_ble_eq_true rfl) ⟨Nat.zero_le _, Nat.zero_le _⟩ (fun r69 σr69 H locs ir69 hp70 hM => ?_)
    obtain ⟨rfl, hp70⟩ := hp70
    unfold inr at ir69
    have hp70 : r69 = sgn ((A 2)) (f 3) (f 4) (y58_8) ∧ 0 ≤ r69 ∧ r69 ≤ 255 ∧ (r69 ≠ 0 → (y58_8) < (f 4)) := hp70
    refine lv_istore_n (lv' := [(1, .int (II r69)), (0, .ref h0)]) B.1 B.2.1 dX12_next_76 rfl hl (by decide) rfl (fun ls hl => ?_)
    refine lv_aload_n B.1 B.2.1 dX12_next_77 rfl (lv_at hl 1 rfl) ?_
    refine m_get (k := 8) (v := y58_8) B hM (by decide) rfl fl59 dX12_next_78 rfl ?_
    refine lv_aload_n B.1 B.2.1 dX12_next_81 rfl (lv_at hl 1 rfl) ?_
    refine m_get (k := 4) (v := f 4) B hM (by decide) rfl fl1 dX12_next_82 rfl ?_
    have r71 : (0 : Int) ≤ f 4 ∧ f 4 ≤ 3000 := hM.2.2.2.1 4
    refine q_clt (tgt := 112) B dX12_next_85 (by decide) (by unfold inr; omega) (by unfold inr; omega) (fun c72 => ?_) (fun c72 => ?_)
    · refine lv_iload_n B.1 B.2.1 dX12_next_112 rfl (lv_at hl 0 rfl) ?_
      refine s_calli (n := 1) (rest := []) B hl.1 (k_isLetter l D dA r69 (by omega) ) rfl ok_isLetter nm_isLetter ⟨rfl, rfl⟩ ⟨Nat.le_of_ble_eq_true rfl, Nat.le_of_ble_eq_true rfl⟩ dX12_next_113 rfl rfl (Nat.le_of_ble_eq_true rfl) ⟨Nat.zero_le _, Nat.zero_le _⟩ (fun r73 ir73 hp74 => ?_)
      unfold inr at ir73
      have hp74 : (r73 = 1 ↔ 97 ≤ (r69) ∧ (r69) ≤ 122) ∧ 0 ≤ r73 ∧ r73 ≤ 1 := hp74
      refine q_ieq (tgt := 253) B dX12_next_116 (by decide) (by unfold inr; omega) (fun c75 => ?_) (fun c75 => ?_)
      · refine lv_iload_n B.1 B.2.1 dX12_next_253 rfl (lv_at hl 0 rfl) ?_
        refine s_calli (n := 1) (rest := []) B hl.1 (k_isDigit l D dA r69 (by omega) ) rfl ok_isDigit nm_isDigit ⟨rfl, rfl⟩ ⟨Nat.le_of_ble_eq_true rfl, Nat.le_of_ble_eq_true rfl⟩ dX12_next_254 rfl rfl (Nat.le_of_ble_eq_true rfl) ⟨Nat.zero_le _, Nat.zero_le _⟩ (fun r76 ir76 hp77 => ?_)
        unfold inr at ir76
        have hp77 : (r76 = 1 ↔ 48 ≤ (r69) ∧ (r69) ≤ 57) ∧ 0 ≤ r76 ∧ r76 ≤ 1 := hp77
        refine q_ine (tgt := 280) B dX12_next_257 (by decide) (by unfold inr; omega) (fun c78 => ?_) (fun c78 => ?_)
        · refine lv_aload_n B.1 B.2.1 dX12_next_280 rfl (lv_at hl 1 rfl) ?_
          refine lv_iload_n B.1 B.2.1 dX12_next_281 rfl (lv_at hl 0 rfl) ?_
          refine q_bip B dX12_next_282 (by decide) ?_
          refine q_cne (tgt := 291) B dX12_next_284 (by decide) (by unfold inr; omega) (by unfold inr; omega) (fun c79 => ?_) (fun c79 => ?_)
          · refine q_con B dX12_next_291 ?_
            refine m_callv (n := 1) (rest := []) B hM hA hl.1 (k_nextNumber l D dA h0 ad (up f [(8, y58_8), (9, y58_8 + 1), (7, f 7), (10, f 10)]) (up g [(11, y58_11)]) A L 0 (by omega) (by first | omega | (simp only [wr_at]; omega) | assumption) (by first | omega | (simp only [wr_at]; omega) | assumption) (by first | omega | (simp only [wr_at]; omega) | assumption)) rfl ok_nextNumber nm_nextNumber ⟨rfl, rfl⟩ ⟨Nat.le_of_ble_eq_true rfl, Nat.le_of_ble_eq_true rfl⟩ dX12_next_292 rfl rfl (Nat.le_of_ble_eq_true rfl) ⟨Nat.zero_le _, Nat.zero_le _⟩ (fun σr80 H locs hp81 hM => ?_)
            obtain ⟨x82, x83, x84, rfl, hp81⟩ := hp81
            have hp81 : (x82) ≤ (f 4) ∧ (y58_8) < (x82) ∧ ((x84) = 1 ∨ (x84) = 4) := hp81
            simp only [up_up] at hM
            have hM : MWd D dA h0 ad (mF dA h0 ad (f, g, A, L) s.heap.size) s.heap ((up f [(8, y58_8), (9, x82), (7, x84), (10, x83)]), (up g [(11, y58_11)]), A, L) H locs := hM
            have r85 : (0 : Int) ≤ x82 ∧ x82 ≤ 3002 := hM.2.2.2.1 9
            have r86 : (-2147483648 : Int) ≤ x83 ∧ x83 ≤ 2147483647 := hM.2.2.2.1 10
            have r87 : (0 : Int) ≤ x84 ∧ x84 ≤ 6 := hM.2.2.2.1 7
            refine lv_goto (tgt := 433) B.1 B.2.1 dX12_next_295 (by decide) ?_
            subst hPST
            exact m_vret B hM dX12_next_433 ⟨y58_8, x82, x84, x83, y58_11, rfl, by omega⟩
          · refine q_con B dX12_next_287 ?_
            refine lv_goto (tgt := 292) B.1 B.2.1 dX12_next_288 (by decide) ?_
            refine m_callv (n := 1) (rest := []) B hM hA hl.1 (k_nextNumber l D dA h0 ad (up f [(8, y58_8), (9, y58_8 + 1), (7, f 7), (10, f 10)]) (up g [(11, y58_11)]) A L 1 (by omega) (by first | omega | (simp only [wr_at]; omega) | assumption) (by first | omega | (simp only [wr_at]; omega) | assumption) (by first | omega | (simp only [wr_at]; omega) | assumption)) rfl ok_nextNumber nm_nextNumber ⟨rfl, rfl⟩ ⟨Nat.le_of_ble_eq_true rfl, Nat.le_of_ble_eq_true rfl⟩ dX12_next_292 rfl rfl (Nat.le_of_ble_eq_true rfl) ⟨Nat.zero_le _, Nat.zero_le _⟩ (fun σr88 H locs hp89 hM => ?_)
            obtain ⟨x90, x91, x92, rfl, hp89⟩ := hp89
            have hp89 : (x90) ≤ (f 4) ∧ (y58_8) < (x90) ∧ ((x92) = 1 ∨ (x92) = 4) := hp89
            simp only [up_up] at hM
            have hM : MWd D dA h0 ad (mF dA h0 ad (f, g, A, L) s.heap.size) s.heap ((up f [(8, y58_8), (9, x90), (7, x92), (10, x91)]), (up g [(11, y58_11)]), A, L) H locs := hM
            have r93 : (0 : Int) ≤ x90 ∧ x90 ≤ 3002 := hM.2.2.2.1 9
            have r94 : (-2147483648 : Int) ≤ x91 ∧ x91 ≤ 2147483647 := hM.2.2.2.1 10
            have r95 : (0 : Int) ≤ x92 ∧ x92 ≤ 6 := hM.2.2.2.1 7
            refine lv_goto (tgt := 433) B.1 B.2.1 dX12_next_295 (by decide) ?_
            subst hPST
            exact m_vret B hM dX12_next_433 ⟨y58_8, x90, x92, x91, y58_11, rfl, by omega⟩
        · refine lv_iload_n B.1 B.2.1 dX12_next_260 rfl (lv_at hl 0 rfl) ?_
          refine q_bip B dX12_next_261 (by decide) ?_
          refine q_cne (tgt := 298) B dX12_next_263 (by decide) (by unfold inr; omega) (by unfold inr; omega) (fun c96 => ?_) (fun c96 => ?_)
          · refine lv_iload_n B.1 B.2.1 dX12_next_298 rfl (lv_at hl 0 rfl) ?_
            refine q_bip B dX12_next_299 (by decide) ?_
            refine q_cne (tgt := 416) B dX12_next_301 (by decide) (by unfold inr; omega) (by unfold inr; omega) (fun c97 => ?_) (fun c97 => ?_)
            · refine lv_aload_n B.1 B.2.1 dX12_next_416 rfl (lv_at hl 1 rfl) ?_
              refine lv_iload_n B.1 B.2.1 dX12_next_417 rfl (lv_at hl 0 rfl) ?_
              refine s_calli (n := 1) (rest := [.ref h0]) B hl.1 (k_isSignOf l D dA r69 (by omega) ) rfl ok_isSignOf nm_isSignOf ⟨rfl, rfl⟩ ⟨Nat.le_of_ble_eq_true rfl, Nat.le_of_ble_eq_true rfl⟩ dX12_next_418 rfl rfl (Nat.le_of_ble_eq_true rfl) ⟨Nat.zero_le _, Nat.zero_le _⟩ (fun r98 ir98 hp99 => ?_)
              unfold inr at ir98
              have hp99 : 0 ≤ r98 ∧ r98 ≤ 1 := hp99
              refine q_ieq (tgt := 429) B dX12_next_421 (by decide) (by unfold inr; omega) (fun c100 => ?_) (fun c100 => ?_)
              · refine q_con B dX12_next_429 ?_
                refine m_put (k := 7) B hM (by decide) rfl fl66 rfl dX12_next_430 rfl rfl (show (0 : Int) ≤ 1 by omega) (show 1 ≤ (6 : Int) by omega) (u1_up f [(8, y58_8), (9, y58_8 + 1), (7, f 7), (10, f 10)] 7 1) (fun H locs hM => ?_)
                have hM : MWd D dA h0 ad (mF dA h0 ad (f, g, A, L) s.heap.size) s.heap ((up f [(8, y58_8), (9, y58_8 + 1), (7, 1), (10, f 10)]), (up g [(11, y58_11)]), A, L) H locs := hM
                subst hPST
                exact m_vret B hM dX12_next_433 ⟨y58_8, (y58_8 + 1), 1, (f 10), y58_11, rfl, by omega⟩
              · refine q_bip B dX12_next_424 (by decide) ?_
                refine lv_goto (tgt := 430) B.1 B.2.1 dX12_next_426 (by decide) ?_
                refine m_put (k := 7) B hM (by decide) rfl fl66 rfl dX12_next_430 rfl rfl (show (0 : Int) ≤ 6 by omega) (show 6 ≤ (6 : Int) by omega) (u1_up f [(8, y58_8), (9, y58_8 + 1), (7, f 7), (10, f 10)] 7 6) (fun H locs hM => ?_)
                have hM : MWd D dA h0 ad (mF dA h0 ad (f, g, A, L) s.heap.size) s.heap ((up f [(8, y58_8), (9, y58_8 + 1), (7, 6), (10, f 10)]), (up g [(11, y58_11)]), A, L) H locs := hM
                subst hPST
                exact m_vret B hM dX12_next_433 ⟨y58_8, (y58_8 + 1), 6, (f 10), y58_11, rfl, by omega⟩
            · exact LL304 ((f 4) - (y58_8 + 1) + 1).toNat y58_8 (y58_8 + 1) (f 7) (f 10) y58_11 _ _ ls hM (lv_sub hl [1] rfl) (by first | omega | (simp only [wr_at]; omega) | assumption) (by first | omega | (simp only [wr_at]; omega) | assumption) (by first | omega | (simp only [wr_at]; omega) | assumption) (by first | omega | (simp only [wr_at]; omega) | assumption) (by first | omega | (simp only [wr_at]; omega) | assumption) (by first | omega | (simp only [wr_at]; omega) | assumption)
          · refine lv_aload_n B.1 B.2.1 dX12_next_266 rfl (lv_at hl 1 rfl) ?_
            refine lv_aload_n B.1 B.2.1 dX12_next_267 rfl (lv_at hl 1 rfl) ?_
            refine m_get (k := 9) (v := y58_8 + 1) B hM (by decide) rfl fl56 dX12_next_268 rfl ?_
            have r101 : (0 : Int) ≤ y58_8 + 1 ∧ y58_8 + 1 ≤ 3002 := hM.2.2.2.1 9
            refine m_calli (n := 1) (rest := []) B hM hA hl.1 (k_sign l D dA h0 ad (up f [(8, y58_8), (9, y58_8 + 1), (7, f 7), (10, f 10)]) (up g [(11, y58_11)]) A L (y58_8 + 1) (by omega) (by first | omega | (simp only [wr_at]; omega) | assumption) (by first | omega | (simp only [wr_at]; omega) | assumption)) rfl ok_sign nm_sign ⟨rfl, rfl⟩ ⟨Nat.le_of_ble_eq_true rfl, Nat.le_of_ble_eq_true rfl⟩ dX12_next_271 rfl rfl (Nat.le_of_ble_eq_true rfl) ⟨Nat.zero_le _, Nat.zero_le _⟩ (fun r102 σr102 H locs ir102 hp103 hM => ?_)
            obtain ⟨rfl, hp103⟩ := hp103
            unfold inr at ir102
            have hp103 : r102 = sgn ((A 2)) (f 3) (f 4) (y58_8 + 1) ∧ 0 ≤ r102 ∧ r102 ≤ 255 ∧ (r102 ≠ 0 → (y58_8 + 1) < (f 4)) := hp103
            refine s_calli (n := 1) (rest := []) B hl.1 (k_isDigit l D dA r102 (by omega) ) rfl ok_isDigit nm_isDigit ⟨rfl, rfl⟩ ⟨Nat.le_of_ble_eq_true rfl, Nat.le_of_ble_eq_true rfl⟩ dX12_next_274 rfl rfl (Nat.le_of_ble_eq_true rfl) ⟨Nat.zero_le _, Nat.zero_le _⟩ (fun r104 ir104 hp105 => ?_)
            unfold inr at ir104
            have hp105 : (r104 = 1 ↔ 48 ≤ (r102) ∧ (r102) ≤ 57) ∧ 0 ≤ r104 ∧ r104 ≤ 1 := hp105
            refine q_ieq (tgt := 298) B dX12_next_277 (by decide) (by unfold inr; omega) (fun c106 => ?_) (fun c106 => ?_)
            · refine lv_iload_n B.1 B.2.1 dX12_next_298 rfl (lv_at hl 0 rfl) ?_
              refine q_bip B dX12_next_299 (by decide) ?_
              refine q_cne (tgt := 416) B dX12_next_301 (by decide) (by unfold inr; omega) (by unfold inr; omega) (fun c107 => ?_) (fun c107 => ?_)
              · refine lv_aload_n B.1 B.2.1 dX12_next_416 rfl (lv_at hl 1 rfl) ?_
                refine lv_iload_n B.1 B.2.1 dX12_next_417 rfl (lv_at hl 0 rfl) ?_
                refine s_calli (n := 1) (rest := [.ref h0]) B hl.1 (k_isSignOf l D dA r69 (by omega) ) rfl ok_isSignOf nm_isSignOf ⟨rfl, rfl⟩ ⟨Nat.le_of_ble_eq_true rfl, Nat.le_of_ble_eq_true rfl⟩ dX12_next_418 rfl rfl (Nat.le_of_ble_eq_true rfl) ⟨Nat.zero_le _, Nat.zero_le _⟩ (fun r108 ir108 hp109 => ?_)
                unfold inr at ir108
                have hp109 : 0 ≤ r108 ∧ r108 ≤ 1 := hp109
                refine q_ieq (tgt := 429) B dX12_next_421 (by decide) (by unfold inr; omega) (fun c110 => ?_) (fun c110 => ?_)
                · refine q_con B dX12_next_429 ?_
                  refine m_put (k := 7) B hM (by decide) rfl fl66 rfl dX12_next_430 rfl rfl (show (0 : Int) ≤ 1 by omega) (show 1 ≤ (6 : Int) by omega) (u1_up f [(8, y58_8), (9, y58_8 + 1), (7, f 7), (10, f 10)] 7 1) (fun H locs hM => ?_)
                  have hM : MWd D dA h0 ad (mF dA h0 ad (f, g, A, L) s.heap.size) s.heap ((up f [(8, y58_8), (9, y58_8 + 1), (7, 1), (10, f 10)]), (up g [(11, y58_11)]), A, L) H locs := hM
                  subst hPST
                  exact m_vret B hM dX12_next_433 ⟨y58_8, (y58_8 + 1), 1, (f 10), y58_11, rfl, by omega⟩
                · refine q_bip B dX12_next_424 (by decide) ?_
                  refine lv_goto (tgt := 430) B.1 B.2.1 dX12_next_426 (by decide) ?_
                  refine m_put (k := 7) B hM (by decide) rfl fl66 rfl dX12_next_430 rfl rfl (show (0 : Int) ≤ 6 by omega) (show 6 ≤ (6 : Int) by omega) (u1_up f [(8, y58_8), (9, y58_8 + 1), (7, f 7), (10, f 10)] 7 6) (fun H locs hM => ?_)
                  have hM : MWd D dA h0 ad (mF dA h0 ad (f, g, A, L) s.heap.size) s.heap ((up f [(8, y58_8), (9, y58_8 + 1), (7, 6), (10, f 10)]), (up g [(11, y58_11)]), A, L) H locs := hM
                  subst hPST
                  exact m_vret B hM dX12_next_433 ⟨y58_8, (y58_8 + 1), 6, (f 10), y58_11, rfl, by omega⟩
              · exact LL304 ((f 4) - (y58_8 + 1) + 1).toNat y58_8 (y58_8 + 1) (f 7) (f 10) y58_11 _ _ ls hM (lv_sub hl [1] rfl) (by first | omega | (simp only [wr_at]; omega) | assumption) (by first | omega | (simp only [wr_at]; omega) | assumption) (by first | omega | (simp only [wr_at]; omega) | assumption) (by first | omega | (simp only [wr_at]; omega) | assumption) (by first | omega | (simp only [wr_at]; omega) | assumption) (by first | omega | (simp only [wr_at]; omega) | assumption)
            · refine lv_aload_n B.1 B.2.1 dX12_next_280 rfl (lv_at hl 1 rfl) ?_
              refine lv_iload_n B.1 B.2.1 dX12_next_281 rfl (lv_at hl 0 rfl) ?_
              refine q_bip B dX12_next_282 (by decide) ?_
              refine q_cne (tgt := 291) B dX12_next_284 (by decide) (by unfold inr; omega) (by unfold inr; omega) (fun c111 => ?_) (fun c111 => ?_)
              · refine q_con B dX12_next_291 ?_
                refine m_callv (n := 1) (rest := []) B hM hA hl.1 (k_nextNumber l D dA h0 ad (up f [(8, y58_8), (9, y58_8 + 1), (7, f 7), (10, f 10)]) (up g [(11, y58_11)]) A L 0 (by omega) (by first | omega | (simp only [wr_at]; omega) | assumption) (by first | omega | (simp only [wr_at]; omega) | assumption) (by first | omega | (simp only [wr_at]; omega) | assumption)) rfl ok_nextNumber nm_nextNumber ⟨rfl, rfl⟩ ⟨Nat.le_of_ble_eq_true rfl, Nat.le_of_ble_eq_true rfl⟩ dX12_next_292 rfl rfl (Nat.le_of_ble_eq_true rfl) ⟨Nat.zero_le _, Nat.zero_le _⟩ (fun σr112 H locs hp113 hM => ?_)
                obtain ⟨x114, x115, x116, rfl, hp113⟩ := hp113
                have hp113 : (x114) ≤ (f 4) ∧ (y58_8) < (x114) ∧ ((x116) = 1 ∨ (x116) = 4) := hp113
                simp only [up_up] at hM
                have hM : MWd D dA h0 ad (mF dA h0 ad (f, g, A, L) s.heap.size) s.heap ((up f [(8, y58_8), (9, x114), (7, x116), (10, x115)]), (up g [(11, y58_11)]), A, L) H locs := hM
                have r117 : (0 : Int) ≤ x114 ∧ x114 ≤ 3002 := hM.2.2.2.1 9
                have r118 : (-2147483648 : Int) ≤ x115 ∧ x115 ≤ 2147483647 := hM.2.2.2.1 10
                have r119 : (0 : Int) ≤ x116 ∧ x116 ≤ 6 := hM.2.2.2.1 7
                refine lv_goto (tgt := 433) B.1 B.2.1 dX12_next_295 (by decide) ?_
                subst hPST
                exact m_vret B hM dX12_next_433 ⟨y58_8, x114, x116, x115, y58_11, rfl, by omega⟩
              · refine q_con B dX12_next_287 ?_
                refine lv_goto (tgt := 292) B.1 B.2.1 dX12_next_288 (by decide) ?_
                refine m_callv (n := 1) (rest := []) B hM hA hl.1 (k_nextNumber l D dA h0 ad (up f [(8, y58_8), (9, y58_8 + 1), (7, f 7), (10, f 10)]) (up g [(11, y58_11)]) A L 1 (by omega) (by first | omega | (simp only [wr_at]; omega) | assumption) (by first | omega | (simp only [wr_at]; omega) | assumption) (by first | omega | (simp only [wr_at]; omega) | assumption)) rfl ok_nextNumber nm_nextNumber ⟨rfl, rfl⟩ ⟨Nat.le_of_ble_eq_true rfl, Nat.le_of_ble_eq_true rfl⟩ dX12_next_292 rfl rfl (Nat.le_of_ble_eq_true rfl) ⟨Nat.zero_le _, Nat.zero_le _⟩ (fun σr120 H locs hp121 hM => ?_)
                obtain ⟨x122, x123, x124, rfl, hp121⟩ := hp121
                have hp121 : (x122) ≤ (f 4) ∧ (y58_8) < (x122) ∧ ((x124) = 1 ∨ (x124) = 4) := hp121
                simp only [up_up] at hM
                have hM : MWd D dA h0 ad (mF dA h0 ad (f, g, A, L) s.heap.size) s.heap ((up f [(8, y58_8), (9, x122), (7, x124), (10, x123)]), (up g [(11, y58_11)]), A, L) H locs := hM
                have r125 : (0 : Int) ≤ x122 ∧ x122 ≤ 3002 := hM.2.2.2.1 9
                have r126 : (-2147483648 : Int) ≤ x123 ∧ x123 ≤ 2147483647 := hM.2.2.2.1 10
                have r127 : (0 : Int) ≤ x124 ∧ x124 ≤ 6 := hM.2.2.2.1 7
                refine lv_goto (tgt := 433) B.1 B.2.1 dX12_next_295 (by decide) ?_
                subst hPST
                exact m_vret B hM dX12_next_433 ⟨y58_8, x122, x124, x123, y58_11, rfl, by omega⟩
      · exact LL119 ((f 4) - (y58_8 + 1) + 1).toNat y58_8 (y58_8 + 1) (f 7) (f 10) y58_11 _ _ ls hM (lv_sub hl [1] rfl) (by first | omega | (simp only [wr_at]; omega) | assumption) (by first | omega | (simp only [wr_at]; omega) | assumption) (by first | omega | (simp only [wr_at]; omega) | assumption) (by first | omega | (simp only [wr_at]; omega) | assumption) (by first | omega | (simp only [wr_at]; omega) | assumption) (by first | omega | (simp only [wr_at]; omega) | assumption)
    · refine lv_aload_n B.1 B.2.1 dX12_next_88 rfl (lv_at hl 1 rfl) ?_
      refine lv_aload_n B.1 B.2.1 dX12_next_89 rfl (lv_at hl 1 rfl) ?_
      refine m_get (k := 4) (v := f 4) B hM (by decide) rfl fl1 dX12_next_90 rfl ?_
      refine m_put (k := 8) B hM (by decide) rfl fl59 rfl dX12_next_93 rfl rfl (show (0 : Int) ≤ f 4 by omega) (show f 4 ≤ (3001 : Int) by omega) (u1_up f [(8, y58_8), (9, y58_8 + 1), (7, f 7), (10, f 10)] 8 (f 4)) (fun H locs hM => ?_)
      have hM : MWd D dA h0 ad (mF dA h0 ad (f, g, A, L) s.heap.size) s.heap ((up f [(8, f 4), (9, y58_8 + 1), (7, f 7), (10, f 10)]), (up g [(11, y58_11)]), A, L) H locs := hM
      refine lv_aload_n B.1 B.2.1 dX12_next_96 rfl (lv_at hl 1 rfl) ?_
      refine lv_aload_n B.1 B.2.1 dX12_next_97 rfl (lv_at hl 1 rfl) ?_
      refine m_get (k := 4) (v := f 4) B hM (by decide) rfl fl1 dX12_next_98 rfl ?_
      refine m_put (k := 9) B hM (by decide) rfl fl56 rfl dX12_next_101 rfl rfl (show (0 : Int) ≤ f 4 by omega) (show f 4 ≤ (3002 : Int) by omega) (u1_up f [(8, f 4), (9, y58_8 + 1), (7, f 7), (10, f 10)] 9 (f 4)) (fun H locs hM => ?_)
      have hM : MWd D dA h0 ad (mF dA h0 ad (f, g, A, L) s.heap.size) s.heap ((up f [(8, f 4), (9, f 4), (7, f 7), (10, f 10)]), (up g [(11, y58_11)]), A, L) H locs := hM
      refine lv_aload_n B.1 B.2.1 dX12_next_104 rfl (lv_at hl 1 rfl) ?_
      refine q_con B dX12_next_105 ?_
      refine m_put (k := 7) B hM (by decide) rfl fl66 rfl dX12_next_106 rfl rfl (show (0 : Int) ≤ 0 by omega) (show 0 ≤ (6 : Int) by omega) (u1_up f [(8, f 4), (9, f 4), (7, f 7), (10, f 10)] 7 0) (fun H locs hM => ?_)
      have hM : MWd D dA h0 ad (mF dA h0 ad (f, g, A, L) s.heap.size) s.heap ((up f [(8, f 4), (9, f 4), (7, 0), (10, f 10)]), (up g [(11, y58_11)]), A, L) H locs := hM
      refine lv_goto (tgt := 433) B.1 B.2.1 dX12_next_109 (by decide) ?_
      subst hPST
      exact m_vret B hM dX12_next_433 ⟨(f 4), (f 4), 0, (f 10), y58_11, rfl, by omega⟩
  have LL8 : ∀ N : Nat, ∀ (y8_8 : Int) (y8_11 : Int64) (H : Heap) (locs : List Loc) (ls : Array Slot), (MWd D dA h0 ad (mF dA h0 ad (f, g, A, L) s.heap.size) s.heap ((up f [(8, y8_8), (9, f 9), (7, f 7), (10, f 10)]), (up g [(11, y8_11)]), A, L) H locs) → lv_has ls 3 [(0, .ref h0)] → ((f 9) ≤ (y8_8)) → (((y8_8) ≤ (f 4) ∨ (y8_8) = (f 9))) → (0 ≤ 3001 - (y8_8)) → (3001 - (y8_8) < (N : Int)) → W p l e ({ frames := 2, cells := 0, slots := 0, locals := 43 }) s m args below meth c H locs 0 0 (MQ below (mQv D dA h0 ad (f, g, A, L) s.heap.size PST) args s 0 0 (mF dA h0 ad (f, g, A, L) s.heap.size)) (F0 m 8 ls []) := by
    intro N
    induction N with
    | zero => intro y8_8 y8_11 H locs ls hM hl hLL8_0 hLL8_1 hLL8_2 hN; exfalso; omega
    | succ N IH8 =>
      intro y8_8 y8_11 H locs ls hM hl hLL8_0 hLL8_1 hLL8_2 hN
      have r128 : (0 : Int) ≤ y8_8 ∧ y8_8 ≤ 3001 := hM.2.2.2.1 8
      have r129 : (0 : Int) ≤ f 9 ∧ f 9 ≤ 3002 := hM.2.2.2.1 9
      have r130 : (0 : Int) ≤ f 7 ∧ f 7 ≤ 6 := hM.2.2.2.1 7
      have r131 : (-2147483648 : Int) ≤ f 10 ∧ f 10 ≤ 2147483647 := hM.2.2.2.1 10
      refine lv_aload_n B.1 B.2.1 dX12_next_8 rfl (lv_at hl 0 rfl) ?_
      refine m_get (k := 8) (v := y8_8) B hM (by decide) rfl fl59 dX12_next_9 rfl ?_
      refine lv_aload_n B.1 B.2.1 dX12_next_12 rfl (lv_at hl 0 rfl) ?_
      refine m_get (k := 4) (v := f 4) B hM (by decide) rfl fl1 dX12_next_13 rfl ?_
      have r132 : (0 : Int) ≤ f 4 ∧ f 4 ≤ 3000 := hM.2.2.2.1 4
      refine q_cge (tgt := 58) B dX12_next_16 (by decide) (by unfold inr; omega) (by unfold inr; omega) (fun c133 => ?_) (fun c133 => ?_)
      · exact JJ58 y8_8 y8_11 _ _ ls hM (lv_sub hl [0] rfl) (by first | omega | (simp only [wr_at]; omega) | assumption) (by first | omega | (simp only [wr_at]; omega) | assumption)
      · refine lv_aload_n B.1 B.2.1 dX12_next_19 rfl (lv_at hl 0 rfl) ?_
        refine lv_aload_n B.1 B.2.1 dX12_next_20 rfl (lv_at hl 0 rfl) ?_
        refine m_get (k := 8) (v := y8_8) B hM (by decide) rfl fl59 dX12_next_21 rfl ?_
        refine m_calli (n := 1) (rest := []) B hM hA hl.1 (k_sign l D dA h0 ad (up f [(8, y8_8), (9, f 9), (7, f 7), (10, f 10)]) (up g [(11, y8_11)]) A L y8_8 (by omega) (by first | omega | (simp only [wr_at]; omega) | assumption) (by first | omega | (simp only [wr_at]; omega) | assumption)) rfl ok_sign nm_sign ⟨rfl, rfl⟩ ⟨Nat.le_of_ble_eq_true rfl, Nat.le_of_ble_eq_true rfl⟩ dX12_next_24 rfl rfl (Nat.le_of_ble_eq_true rfl) ⟨Nat.zero_le _, Nat.zero_le _⟩ (fun r134 σr134 H locs ir134 hp135 hM => ?_)
        obtain ⟨rfl, hp135⟩ := hp135
        unfold inr at ir134
        have hp135 : r134 = sgn ((A 2)) (f 3) (f 4) (y8_8) ∧ 0 ≤ r134 ∧ r134 ≤ 255 ∧ (r134 ≠ 0 → (y8_8) < (f 4)) := hp135
        refine q_bip B dX12_next_27 (by decide) ?_
        refine q_ceq (tgt := 45) B dX12_next_29 (by decide) (by unfold inr; omega) (by unfold inr; omega) (fun c136 => ?_) (fun c136 => ?_)
        · refine lv_aload_n B.1 B.2.1 dX12_next_45 rfl (lv_at hl 0 rfl) ?_
          refine lv_dup B.1 B.2.1 dX12_next_46 rfl ?_
          refine m_get (k := 8) (v := y8_8) B hM (by decide) rfl fl59 dX12_next_47 rfl ?_
          refine q_con B dX12_next_50 ?_
          refine q_add B dX12_next_51 ?_
          refine m_put (k := 8) B hM (by decide) rfl fl59 rfl dX12_next_52 rfl rfl (show (0 : Int) ≤ y8_8 + 1 by omega) (show y8_8 + 1 ≤ (3001 : Int) by omega) (u1_up f [(8, y8_8), (9, f 9), (7, f 7), (10, f 10)] 8 (y8_8 + 1)) (fun H locs hM => ?_)
          have hM : MWd D dA h0 ad (mF dA h0 ad (f, g, A, L) s.heap.size) s.heap ((up f [(8, y8_8 + 1), (9, f 9), (7, f 7), (10, f 10)]), (up g [(11, y8_11)]), A, L) H locs := hM
          refine lv_goto (tgt := 8) B.1 B.2.1 dX12_next_55 (by decide) ?_
          exact IH8 (y8_8 + 1) y8_11 _ _ ls hM (lv_sub hl [0] rfl) (by first | omega | (simp only [wr_at]; omega) | assumption) (by first | omega | (simp only [wr_at]; omega) | assumption) (by first | omega | (simp only [wr_at]; omega) | assumption) (by first | omega | (simp only [wr_at]; omega) | assumption)
        · refine lv_aload_n B.1 B.2.1 dX12_next_32 rfl (lv_at hl 0 rfl) ?_
          refine lv_aload_n B.1 B.2.1 dX12_next_33 rfl (lv_at hl 0 rfl) ?_
          refine m_get (k := 8) (v := y8_8) B hM (by decide) rfl fl59 dX12_next_34 rfl ?_
          refine m_calli (n := 1) (rest := []) B hM hA hl.1 (k_sign l D dA h0 ad (up f [(8, y8_8), (9, f 9), (7, f 7), (10, f 10)]) (up g [(11, y8_11)]) A L y8_8 (by omega) (by first | omega | (simp only [wr_at]; omega) | assumption) (by first | omega | (simp only [wr_at]; omega) | assumption)) rfl ok_sign nm_sign ⟨rfl, rfl⟩ ⟨Nat.le_of_ble_eq_true rfl, Nat.le_of_ble_eq_true rfl⟩ dX12_next_37 rfl rfl (Nat.le_of_ble_eq_true rfl) ⟨Nat.zero_le _, Nat.zero_le _⟩ (fun r137 σr137 H locs ir137 hp138 hM => ?_)
          obtain ⟨rfl, hp138⟩ := hp138
          unfold inr at ir137
          have hp138 : r137 = sgn ((A 2)) (f 3) (f 4) (y8_8) ∧ 0 ≤ r137 ∧ r137 ≤ 255 ∧ (r137 ≠ 0 → (y8_8) < (f 4)) := hp138
          refine q_bip B dX12_next_40 (by decide) ?_
          refine q_cne (tgt := 58) B dX12_next_42 (by decide) (by unfold inr; omega) (by unfold inr; omega) (fun c139 => ?_) (fun c139 => ?_)
          · exact JJ58 y8_8 y8_11 _ _ ls hM (lv_sub hl [0] rfl) (by first | omega | (simp only [wr_at]; omega) | assumption) (by first | omega | (simp only [wr_at]; omega) | assumption)
          · refine lv_aload_n B.1 B.2.1 dX12_next_45 rfl (lv_at hl 0 rfl) ?_
            refine lv_dup B.1 B.2.1 dX12_next_46 rfl ?_
            refine m_get (k := 8) (v := y8_8) B hM (by decide) rfl fl59 dX12_next_47 rfl ?_
            refine q_con B dX12_next_50 ?_
            refine q_add B dX12_next_51 ?_
            refine m_put (k := 8) B hM (by decide) rfl fl59 rfl dX12_next_52 rfl rfl (show (0 : Int) ≤ y8_8 + 1 by omega) (show y8_8 + 1 ≤ (3001 : Int) by omega) (u1_up f [(8, y8_8), (9, f 9), (7, f 7), (10, f 10)] 8 (y8_8 + 1)) (fun H locs hM => ?_)
            have hM : MWd D dA h0 ad (mF dA h0 ad (f, g, A, L) s.heap.size) s.heap ((up f [(8, y8_8 + 1), (9, f 9), (7, f 7), (10, f 10)]), (up g [(11, y8_11)]), A, L) H locs := hM
            refine lv_goto (tgt := 8) B.1 B.2.1 dX12_next_55 (by decide) ?_
            exact IH8 (y8_8 + 1) y8_11 _ _ ls hM (lv_sub hl [0] rfl) (by first | omega | (simp only [wr_at]; omega) | assumption) (by first | omega | (simp only [wr_at]; omega) | assumption) (by first | omega | (simp only [wr_at]; omega) | assumption) (by first | omega | (simp only [wr_at]; omega) | assumption)
  refine lv_aload_n B.1 B.2.1 dX12_next_0 rfl (lv_at hl 0 rfl) ?_
  refine lv_aload_n B.1 B.2.1 dX12_next_1 rfl (lv_at hl 0 rfl) ?_
  refine m_get (k := 9) (v := f 9) B hM (by decide) rfl fl56 dX12_next_2 rfl ?_
  have r140 : (0 : Int) ≤ f 9 ∧ f 9 ≤ 3002 := hM.2.2.2.1 9
  refine m_put (k := 8) B hM (by decide) rfl fl59 rfl dX12_next_5 rfl rfl (show (0 : Int) ≤ f 9 by omega) (show f 9 ≤ (3001 : Int) by omega) (u1_up f [(8, f 8), (9, f 9), (7, f 7), (10, f 10)] 8 (f 9)) (fun H locs hM => ?_)
  have hM : MWd D dA h0 ad (mF dA h0 ad (f, g, A, L) s.heap.size) s.heap ((up f [(8, f 9), (9, f 9), (7, f 7), (10, f 10)]), (up g [(11, g 11)]), A, L) H locs := hM
  exact LL8 (3001 - (f 9) + 1).toNat (f 9) (g 11) _ _ ls hM (lv_sub hl [0] rfl) (by first | omega | (simp only [wr_at]; omega) | assumption) (by first | omega | (simp only [wr_at]; omega) | assumption) (by first | omega | (simp only [wr_at]; omega) | assumption) (by first | omega | (simp only [wr_at]; omega) | assumption)
set_option maxHeartbeats 4000000 in
set_option maxRecDepth 20000 in
theorem k_isSign (l : Launch) (D : va_G) (dA : Nat → ClassId) (h0 : Nat) (ad : Nat → Nat) (f : Nat → Int) (g : Nat → Int64) (A : Nat → Nat → Int) (L : Nat → Nat → Int64) (a_c : Int) (i_c : (-2147483648 : Int) ≤ a_c ∧ a_c ≤ 2147483647) (p_0 : (0 ≤ (f 8) ∧ (f 8) ≤ (f 4) ∧ (f 9) ≤ (f 4) + 1 ∧ ((f 7) = 0 ↔ (f 8) = (f 4)) ∧ (2 ≤ (f 7) → (f 8) < (f 9) ∧ (f 9) ≤ (f 4)) ∧ ((f 7) = 5 → (f 8) + 2 ≤ (f 9) ∧ (f 9) ≤ (f 8) + 32))) : MCi l yX12_isSign cX12_isSign 2 (some .boolean) ({ frames := 1, cells := 0, slots := 0, locals := 21 }) D dA h0 ad (f, g, A, L) [.int (II a_c)] (fun r σ => σ = (f, g, A, L) ∧ (0 ≤ r ∧ r ≤ 1 ∧ (r = 1 ↔ (f 7) = 6 ∧ sgn ((A 2)) (f 3) (f 4) (f 8) = (a_c)))) := by
  generalize hPST : (fun r σ => σ = (f, g, A, L) ∧ (0 ≤ r ∧ r ≤ 1 ∧ (r = 1 ↔ (f 7) = 6 ∧ sgn ((A 2)) (f 3) (f 4) (f 8) = (a_c)))) = PST
  refine m_enter (by decide) rfl (Nat.le_of_ble_eq_true rfl) (fun p e s m args below meth c ls B hM hl => ?_)
  have hA : ∀ q, s.heap.size ≤ q → mF dA h0 ad (f, g, A, L) s.heap.size q := fun q h => Or.inr h
  have hl : lv_has ls 2 [(0, .ref h0), (1, .int (II a_c))] := hl
  refine lv_aload_n B.1 B.2.1 dX12_isSign_0 rfl (lv_at hl 0 rfl) ?_
  refine m_get (k := 7) (v := f 7) B hM (by decide) rfl fl66 dX12_isSign_1 rfl ?_
  have r1 : (0 : Int) ≤ f 7 ∧ f 7 ≤ 6 := hM.2.2.2.1 7
  refine q_bip B dX12_isSign_4 (by decide) ?_
  refine q_cne (tgt := 25) B dX12_isSign_6 (by decide) (by unfold inr; omega) (by unfold inr; omega) (fun c2 => ?_) (fun c2 => ?_)
  · refine q_con B dX12_isSign_25 ?_
    subst hPST
    exact m_zret B hM dX12_isSign_26 (by omega) ⟨rfl, by omega⟩
  · refine lv_aload_n B.1 B.2.1 dX12_isSign_9 rfl (lv_at hl 0 rfl) ?_
    refine lv_aload_n B.1 B.2.1 dX12_isSign_10 rfl (lv_at hl 0 rfl) ?_
    refine m_get (k := 8) (v := f 8) B hM (by decide) rfl fl59 dX12_isSign_11 rfl ?_
    have r3 : (0 : Int) ≤ f 8 ∧ f 8 ≤ 3001 := hM.2.2.2.1 8
    refine m_calli (n := 1) (rest := []) B hM hA hl.1 (k_sign l D dA h0 ad f g A L (f 8) (by omega) (by first | omega | (simp only [wr_at]; omega) | assumption) (by first | omega | (simp only [wr_at]; omega) | assumption)) rfl ok_sign nm_sign ⟨rfl, rfl⟩ ⟨Nat.le_of_ble_eq_true rfl, Nat.le_of_ble_eq_true rfl⟩ dX12_isSign_14 rfl rfl (Nat.le_of_ble_eq_true rfl) ⟨Nat.zero_le _, Nat.zero_le _⟩ (fun r4 σr4 H locs ir4 hp5 hM => ?_)
    obtain ⟨rfl, hp5⟩ := hp5
    unfold inr at ir4
    have hp5 : r4 = sgn ((A 2)) (f 3) (f 4) (f 8) ∧ 0 ≤ r4 ∧ r4 ≤ 255 ∧ (r4 ≠ 0 → (f 8) < (f 4)) := hp5
    refine lv_iload_n B.1 B.2.1 dX12_isSign_17 rfl (lv_at hl 1 rfl) ?_
    refine q_cne (tgt := 25) B dX12_isSign_18 (by decide) (by unfold inr; omega) (by unfold inr; omega) (fun c6 => ?_) (fun c6 => ?_)
    · refine q_con B dX12_isSign_25 ?_
      subst hPST
      exact m_zret B hM dX12_isSign_26 (by omega) ⟨rfl, by omega⟩
    · refine q_con B dX12_isSign_21 ?_
      refine lv_goto (tgt := 26) B.1 B.2.1 dX12_isSign_22 (by decide) ?_
      subst hPST
      exact m_zret B hM dX12_isSign_26 (by omega) ⟨rfl, by omega⟩
set_option maxHeartbeats 4000000 in
set_option maxRecDepth 20000 in
theorem k_isWord (l : Launch) (D : va_G) (dA : Nat → ClassId) (h0 : Nat) (ad : Nat → Nat) (f : Nat → Int) (g : Nat → Int64) (A : Nat → Nat → Int) (L : Nat → Nat → Int64) (a_w : Int64) : MCi l yX12_isWord cX12_isWord 3 (some .boolean) ({ frames := 0, cells := 0, slots := 0, locals := 0 }) D dA h0 ad (f, g, A, L) [.long a_w] (fun r σ => σ = (f, g, A, L) ∧ (0 ≤ r ∧ r ≤ 1 ∧ (r = 1 → (f 7) = 3))) := by
  generalize hPST : (fun r σ => σ = (f, g, A, L) ∧ (0 ≤ r ∧ r ≤ 1 ∧ (r = 1 → (f 7) = 3))) = PST
  refine m_enter (by decide) rfl (Nat.le_of_ble_eq_true rfl) (fun p e s m args below meth c ls B hM hl => ?_)
  have hA : ∀ q, s.heap.size ≤ q → mF dA h0 ad (f, g, A, L) s.heap.size q := fun q h => Or.inr h
  have hl : lv_has ls 3 [(0, .ref h0), (1, .long a_w)] := hl
  refine lv_aload_n B.1 B.2.1 dX12_isWord_0 rfl (lv_at hl 0 rfl) ?_
  refine m_get (k := 7) (v := f 7) B hM (by decide) rfl fl66 dX12_isWord_1 rfl ?_
  have r1 : (0 : Int) ≤ f 7 ∧ f 7 ≤ 6 := hM.2.2.2.1 7
  refine q_con B dX12_isWord_4 ?_
  refine q_cne (tgt := 21) B dX12_isWord_5 (by decide) (by unfold inr; omega) (by unfold inr; omega) (fun c2 => ?_) (fun c2 => ?_)
  · refine q_con B dX12_isWord_21 ?_
    subst hPST
    exact m_zret B hM dX12_isWord_22 (by omega) ⟨rfl, by omega⟩
  · refine lv_aload_n B.1 B.2.1 dX12_isWord_8 rfl (lv_at hl 0 rfl) ?_
    refine m_getl (k := 11) B hM (by decide) rfl fl76 dX12_isWord_9 rfl ?_
    refine lv_lload_n B.1 B.2.1 dX12_isWord_12 rfl (lv_at hl 1 rfl) ?_
    refine q_lcmp B dX12_isWord_13 (fun x3 lx3 ux3 ex3 => ?_)
    refine q_ine (tgt := 21) B dX12_isWord_14 (by decide) (by unfold inr; omega) (fun c4 => ?_) (fun c4 => ?_)
    · refine q_con B dX12_isWord_21 ?_
      subst hPST
      exact m_zret B hM dX12_isWord_22 (by omega) ⟨rfl, by omega⟩
    · refine q_con B dX12_isWord_17 ?_
      refine lv_goto (tgt := 22) B.1 B.2.1 dX12_isWord_18 (by decide) ?_
      subst hPST
      exact m_zret B hM dX12_isWord_22 (by omega) ⟨rfl, by omega⟩
set_option maxHeartbeats 4000000 in
set_option maxRecDepth 20000 in
theorem k_wrong (l : Launch) (D : va_G) (dA : Nat → ClassId) (h0 : Nat) (ad : Nat → Nat) (f : Nat → Int) (g : Nat → Int64) (A : Nat → Nat → Int) (L : Nat → Nat → Int64) : MCv l yX12_wrong cX12_wrong 1 ({ frames := 1, cells := 0, slots := 0, locals := 22 }) D dA h0 ad (f, g, A, L) [] (fun σ => ∃ n5 : Int, ∃ n6 : Int, σ = ((up f [(5, n5), (6, n6)]), g, A, L) ∧ ((n5) ≠ 0)) := by
  generalize hPST : (fun σ => ∃ n5 : Int, ∃ n6 : Int, σ = ((up f [(5, n5), (6, n6)]), g, A, L) ∧ ((n5) ≠ 0)) = PST
  refine m_enterv (by decide) rfl (Nat.le_of_ble_eq_true rfl) (fun p e s m args below meth c ls B hM hl => ?_)
  have hA : ∀ q, s.heap.size ≤ q → mF dA h0 ad (f, g, A, L) s.heap.size q := fun q h => Or.inr h
  have hM : MWd D dA h0 ad (mF dA h0 ad (f, g, A, L) s.heap.size) s.heap ((up f [(5, f 5), (6, f 6)]), g, A, L) s.heap [] := MW_pad hM (up_self f [5, 6]) rfl rfl rfl
  have hl : lv_has ls 1 [(0, .ref h0)] := hl
  refine lv_aload_n B.1 B.2.1 dX12_wrong_0 rfl (lv_at hl 0 rfl) ?_
  refine lv_aload_n B.1 B.2.1 dX12_wrong_1 rfl (lv_at hl 0 rfl) ?_
  refine m_get (k := 7) (v := f 7) B hM (by decide) rfl fl66 dX12_wrong_2 rfl ?_
  have r1 : (0 : Int) ≤ f 7 ∧ f 7 ≤ 6 := hM.2.2.2.1 7
  refine q_con B dX12_wrong_5 ?_
  refine q_cne (tgt := 13) B dX12_wrong_6 (by decide) (by unfold inr; omega) (by unfold inr; omega) (fun c2 => ?_) (fun c2 => ?_)
  · refine q_con B dX12_wrong_13 ?_
    refine lv_aload_n B.1 B.2.1 dX12_wrong_14 rfl (lv_at hl 0 rfl) ?_
    refine m_get (k := 8) (v := f 8) B hM (by decide) rfl fl59 dX12_wrong_15 rfl ?_
    have r3 : (0 : Int) ≤ f 8 ∧ f 8 ≤ 3001 := hM.2.2.2.1 8
    refine m_calli (n := 2) (rest := []) B hM hA hl.1 (k_fails l D dA h0 ad (up f [(5, f 5), (6, f 6)]) g A L 2 (f 8) (by omega) (by omega) ) rfl ok_fails nm_fails ⟨rfl, rfl⟩ ⟨Nat.le_of_ble_eq_true rfl, Nat.le_of_ble_eq_true rfl⟩ dX12_wrong_18 rfl rfl (Nat.le_of_ble_eq_true rfl) ⟨Nat.zero_le _, Nat.zero_le _⟩ (fun r4 σr4 H locs ir4 hp5 hM => ?_)
    obtain ⟨x6, x7, rfl, hp5⟩ := hp5
    unfold inr at ir4
    have hp5 : r4 = 0 ∧ ((f 5) ≠ 0 → (x6) = (f 5)) ∧ ((f 5) = 0 → (x6) = (2)) := hp5
    simp only [up_up] at hM
    have hM : MWd D dA h0 ad (mF dA h0 ad (f, g, A, L) s.heap.size) s.heap ((up f [(5, x6), (6, x7)]), g, A, L) H locs := hM
    have r8 : (-2147483648 : Int) ≤ x6 ∧ x6 ≤ 2147483647 := hM.2.2.2.1 5
    have r9 : (-2147483648 : Int) ≤ x7 ∧ x7 ≤ 2147483647 := hM.2.2.2.1 6
    refine lv_pop B.1 B.2.1 dX12_wrong_21 rfl ?_
    subst hPST
    exact m_vret B hM dX12_wrong_22 ⟨x6, x7, rfl, by omega⟩
  · refine q_con B dX12_wrong_9 ?_
    refine lv_goto (tgt := 14) B.1 B.2.1 dX12_wrong_10 (by decide) ?_
    refine lv_aload_n B.1 B.2.1 dX12_wrong_14 rfl (lv_at hl 0 rfl) ?_
    refine m_get (k := 8) (v := f 8) B hM (by decide) rfl fl59 dX12_wrong_15 rfl ?_
    have r10 : (0 : Int) ≤ f 8 ∧ f 8 ≤ 3001 := hM.2.2.2.1 8
    refine m_calli (n := 2) (rest := []) B hM hA hl.1 (k_fails l D dA h0 ad (up f [(5, f 5), (6, f 6)]) g A L 1 (f 8) (by omega) (by omega) ) rfl ok_fails nm_fails ⟨rfl, rfl⟩ ⟨Nat.le_of_ble_eq_true rfl, Nat.le_of_ble_eq_true rfl⟩ dX12_wrong_18 rfl rfl (Nat.le_of_ble_eq_true rfl) ⟨Nat.zero_le _, Nat.zero_le _⟩ (fun r11 σr11 H locs ir11 hp12 hM => ?_)
    obtain ⟨x13, x14, rfl, hp12⟩ := hp12
    unfold inr at ir11
    have hp12 : r11 = 0 ∧ ((f 5) ≠ 0 → (x13) = (f 5)) ∧ ((f 5) = 0 → (x13) = (1)) := hp12
    simp only [up_up] at hM
    have hM : MWd D dA h0 ad (mF dA h0 ad (f, g, A, L) s.heap.size) s.heap ((up f [(5, x13), (6, x14)]), g, A, L) H locs := hM
    have r15 : (-2147483648 : Int) ≤ x13 ∧ x13 ≤ 2147483647 := hM.2.2.2.1 5
    have r16 : (-2147483648 : Int) ≤ x14 ∧ x14 ≤ 2147483647 := hM.2.2.2.1 6
    refine lv_pop B.1 B.2.1 dX12_wrong_21 rfl ?_
    subst hPST
    exact m_vret B hM dX12_wrong_22 ⟨x13, x14, rfl, by omega⟩
set_option maxHeartbeats 4000000 in
set_option maxRecDepth 20000 in
theorem k_wrong2 (l : Launch) (D : va_G) (dA : Nat → ClassId) (h0 : Nat) (ad : Nat → Nat) (f : Nat → Int) (g : Nat → Int64) (A : Nat → Nat → Int) (L : Nat → Nat → Int64) : MCv l yX12_wrong2 cX12_wrong2 1 ({ frames := 1, cells := 0, slots := 0, locals := 22 }) D dA h0 ad (f, g, A, L) [] (fun σ => ∃ n5 : Int, ∃ n6 : Int, σ = ((up f [(5, n5), (6, n6)]), g, A, L) ∧ ((n5) ≠ 0)) := by
  generalize hPST : (fun σ => ∃ n5 : Int, ∃ n6 : Int, σ = ((up f [(5, n5), (6, n6)]), g, A, L) ∧ ((n5) ≠ 0)) = PST
  refine m_enterv (by decide) rfl (Nat.le_of_ble_eq_true rfl) (fun p e s m args below meth c ls B hM hl => ?_)
  have hA : ∀ q, s.heap.size ≤ q → mF dA h0 ad (f, g, A, L) s.heap.size q := fun q h => Or.inr h
  have hM : MWd D dA h0 ad (mF dA h0 ad (f, g, A, L) s.heap.size) s.heap ((up f [(5, f 5), (6, f 6)]), g, A, L) s.heap [] := MW_pad hM (up_self f [5, 6]) rfl rfl rfl
  have hl : lv_has ls 1 [(0, .ref h0)] := hl
  refine lv_aload_n B.1 B.2.1 dX12_wrong2_0 rfl (lv_at hl 0 rfl) ?_
  refine lv_aload_n B.1 B.2.1 dX12_wrong2_1 rfl (lv_at hl 0 rfl) ?_
  refine m_get (k := 7) (v := f 7) B hM (by decide) rfl fl66 dX12_wrong2_2 rfl ?_
  have r1 : (0 : Int) ≤ f 7 ∧ f 7 ≤ 6 := hM.2.2.2.1 7
  refine q_con B dX12_wrong2_5 ?_
  refine q_cne (tgt := 13) B dX12_wrong2_6 (by decide) (by unfold inr; omega) (by unfold inr; omega) (fun c2 => ?_) (fun c2 => ?_)
  · refine q_con B dX12_wrong2_13 ?_
    refine lv_aload_n B.1 B.2.1 dX12_wrong2_14 rfl (lv_at hl 0 rfl) ?_
    refine m_get (k := 8) (v := f 8) B hM (by decide) rfl fl59 dX12_wrong2_15 rfl ?_
    have r3 : (0 : Int) ≤ f 8 ∧ f 8 ≤ 3001 := hM.2.2.2.1 8
    refine m_calli (n := 2) (rest := []) B hM hA hl.1 (k_fails l D dA h0 ad (up f [(5, f 5), (6, f 6)]) g A L 2 (f 8) (by omega) (by omega) ) rfl ok_fails nm_fails ⟨rfl, rfl⟩ ⟨Nat.le_of_ble_eq_true rfl, Nat.le_of_ble_eq_true rfl⟩ dX12_wrong2_18 rfl rfl (Nat.le_of_ble_eq_true rfl) ⟨Nat.zero_le _, Nat.zero_le _⟩ (fun r4 σr4 H locs ir4 hp5 hM => ?_)
    obtain ⟨x6, x7, rfl, hp5⟩ := hp5
    unfold inr at ir4
    have hp5 : r4 = 0 ∧ ((f 5) ≠ 0 → (x6) = (f 5)) ∧ ((f 5) = 0 → (x6) = (2)) := hp5
    simp only [up_up] at hM
    have hM : MWd D dA h0 ad (mF dA h0 ad (f, g, A, L) s.heap.size) s.heap ((up f [(5, x6), (6, x7)]), g, A, L) H locs := hM
    have r8 : (-2147483648 : Int) ≤ x6 ∧ x6 ≤ 2147483647 := hM.2.2.2.1 5
    have r9 : (-2147483648 : Int) ≤ x7 ∧ x7 ≤ 2147483647 := hM.2.2.2.1 6
    refine lv_pop B.1 B.2.1 dX12_wrong2_21 rfl ?_
    subst hPST
    exact m_vret B hM dX12_wrong2_22 ⟨x6, x7, rfl, by omega⟩
  · refine q_con B dX12_wrong2_9 ?_
    refine lv_goto (tgt := 14) B.1 B.2.1 dX12_wrong2_10 (by decide) ?_
    refine lv_aload_n B.1 B.2.1 dX12_wrong2_14 rfl (lv_at hl 0 rfl) ?_
    refine m_get (k := 8) (v := f 8) B hM (by decide) rfl fl59 dX12_wrong2_15 rfl ?_
    have r10 : (0 : Int) ≤ f 8 ∧ f 8 ≤ 3001 := hM.2.2.2.1 8
    refine m_calli (n := 2) (rest := []) B hM hA hl.1 (k_fails l D dA h0 ad (up f [(5, f 5), (6, f 6)]) g A L 1 (f 8) (by omega) (by omega) ) rfl ok_fails nm_fails ⟨rfl, rfl⟩ ⟨Nat.le_of_ble_eq_true rfl, Nat.le_of_ble_eq_true rfl⟩ dX12_wrong2_18 rfl rfl (Nat.le_of_ble_eq_true rfl) ⟨Nat.zero_le _, Nat.zero_le _⟩ (fun r11 σr11 H locs ir11 hp12 hM => ?_)
    obtain ⟨x13, x14, rfl, hp12⟩ := hp12
    unfold inr at ir11
    have hp12 : r11 = 0 ∧ ((f 5) ≠ 0 → (x13) = (f 5)) ∧ ((f 5) = 0 → (x13) = (1)) := hp12
    simp only [up_up] at hM
    have hM : MWd D dA h0 ad (mF dA h0 ad (f, g, A, L) s.heap.size) s.heap ((up f [(5, x13), (6, x14)]), g, A, L) H locs := hM
    have r15 : (-2147483648 : Int) ≤ x13 ∧ x13 ≤ 2147483647 := hM.2.2.2.1 5
    have r16 : (-2147483648 : Int) ≤ x14 ∧ x14 ≤ 2147483647 := hM.2.2.2.1 6
    refine lv_pop B.1 B.2.1 dX12_wrong2_21 rfl ?_
    subst hPST
    exact m_vret B hM dX12_wrong2_22 ⟨x13, x14, rfl, by omega⟩
set_option maxHeartbeats 4000000 in
set_option maxRecDepth 20000 in
theorem k_must (l : Launch) (D : va_G) (dA : Nat → ClassId) (h0 : Nat) (ad : Nat → Nat) (f : Nat → Int) (g : Nat → Int64) (A : Nat → Nat → Int) (L : Nat → Nat → Int64) (a_c : Int) (i_c : (-2147483648 : Int) ≤ a_c ∧ a_c ≤ 2147483647) (p_0 : (0 ≤ (f 8) ∧ (f 8) ≤ (f 4) ∧ (f 9) ≤ (f 4) + 1 ∧ ((f 7) = 0 ↔ (f 8) = (f 4)) ∧ (2 ≤ (f 7) → (f 8) < (f 9) ∧ (f 9) ≤ (f 4)) ∧ ((f 7) = 5 → (f 8) + 2 ≤ (f 9) ∧ (f 9) ≤ (f 8) + 32))) : MCv l yX12_must cX12_must 2 ({ frames := 3, cells := 0, slots := 0, locals := 65 }) D dA h0 ad (f, g, A, L) [.int (II a_c)] (fun σ => ∃ n8 : Int, ∃ n9 : Int, ∃ n7 : Int, ∃ n10 : Int, ∃ n5 : Int, ∃ n6 : Int, ∃ n11 : Int64, σ = ((up f [(8, n8), (9, n9), (7, n7), (10, n10), (5, n5), (6, n6)]), (up g [(11, n11)]), A, L) ∧ (((0 ≤ (n8) ∧ (n8) ≤ (f 4) ∧ (n9) ≤ (f 4) + 1 ∧ ((n7) = 0 ↔ (n8) = (f 4)) ∧ (2 ≤ (n7) → (n8) < (n9) ∧ (n9) ≤ (f 4)) ∧ ((n7) = 5 → (n8) + 2 ≤ (n9) ∧ (n9) ≤ (n8) + 32))) ∧ (f 8) ≤ (n8) ∧ ((n5) = 0 → (f 5) = 0 ∧ (f 8) + 1 ≤ (n8) ∧ (f 9) ≤ (n8)))) := by
  generalize hPST : (fun σ => ∃ n8 : Int, ∃ n9 : Int, ∃ n7 : Int, ∃ n10 : Int, ∃ n5 : Int, ∃ n6 : Int, ∃ n11 : Int64, σ = ((up f [(8, n8), (9, n9), (7, n7), (10, n10), (5, n5), (6, n6)]), (up g [(11, n11)]), A, L) ∧ (((0 ≤ (n8) ∧ (n8) ≤ (f 4) ∧ (n9) ≤ (f 4) + 1 ∧ ((n7) = 0 ↔ (n8) = (f 4)) ∧ (2 ≤ (n7) → (n8) < (n9) ∧ (n9) ≤ (f 4)) ∧ ((n7) = 5 → (n8) + 2 ≤ (n9) ∧ (n9) ≤ (n8) + 32))) ∧ (f 8) ≤ (n8) ∧ ((n5) = 0 → (f 5) = 0 ∧ (f 8) + 1 ≤ (n8) ∧ (f 9) ≤ (n8)))) = PST
  refine m_enterv (by decide) rfl (Nat.le_of_ble_eq_true rfl) (fun p e s m args below meth c ls B hM hl => ?_)
  have hA : ∀ q, s.heap.size ≤ q → mF dA h0 ad (f, g, A, L) s.heap.size q := fun q h => Or.inr h
  have hM : MWd D dA h0 ad (mF dA h0 ad (f, g, A, L) s.heap.size) s.heap ((up f [(8, f 8), (9, f 9), (7, f 7), (10, f 10), (5, f 5), (6, f 6)]), (up g [(11, g 11)]), A, L) s.heap [] := MW_pad hM (up_self f [8, 9, 7, 10, 5, 6]) (up_self g [11]) rfl rfl
  have hl : lv_has ls 2 [(0, .ref h0), (1, .int (II a_c))] := hl
  refine lv_aload_n B.1 B.2.1 dX12_must_0 rfl (lv_at hl 0 rfl) ?_
  refine lv_iload_n B.1 B.2.1 dX12_must_1 rfl (lv_at hl 1 rfl) ?_
  refine m_calli (n := 1) (rest := []) B hM hA hl.1 (k_isSign l D dA h0 ad (up f [(8, f 8), (9, f 9), (7, f 7), (10, f 10), (5, f 5), (6, f 6)]) (up g [(11, g 11)]) A L a_c (by omega) (by first | omega | (simp only [wr_at]; omega) | assumption)) rfl ok_isSign nm_isSign ⟨rfl, rfl⟩ ⟨Nat.le_of_ble_eq_true rfl, Nat.le_of_ble_eq_true rfl⟩ dX12_must_2 rfl rfl (Nat.le_of_ble_eq_true rfl) ⟨Nat.zero_le _, Nat.zero_le _⟩ (fun r1 σr1 H locs ir1 hp2 hM => ?_)
  obtain ⟨rfl, hp2⟩ := hp2
  unfold inr at ir1
  have hp2 : 0 ≤ r1 ∧ r1 ≤ 1 ∧ (r1 = 1 ↔ (f 7) = 6 ∧ sgn ((A 2)) (f 3) (f 4) (f 8) = (a_c)) := hp2
  refine q_ine (tgt := 15) B dX12_must_5 (by decide) (by unfold inr; omega) (fun c3 => ?_) (fun c3 => ?_)
  · refine lv_aload_n B.1 B.2.1 dX12_must_15 rfl (lv_at hl 0 rfl) ?_
    refine m_callv (n := 0) (rest := []) B hM hA hl.1 (k_next l D dA h0 ad (up f [(8, f 8), (9, f 9), (7, f 7), (10, f 10), (5, f 5), (6, f 6)]) (up g [(11, g 11)]) A L   (by first | omega | (simp only [wr_at]; omega) | assumption)) rfl ok_next nm_next ⟨rfl, rfl⟩ ⟨Nat.le_of_ble_eq_true rfl, Nat.le_of_ble_eq_true rfl⟩ dX12_must_16 rfl rfl (Nat.le_of_ble_eq_true rfl) ⟨Nat.zero_le _, Nat.zero_le _⟩ (fun σr4 H locs hp5 hM => ?_)
    obtain ⟨x6, x7, x8, x9, w10, rfl, hp5⟩ := hp5
    have hp5 : ((f 9) ≤ (x6) ∨ (x6) = (f 4)) ∧ (0 ≤ (x6) ∧ (x6) ≤ (f 4) ∧ (x7) ≤ (f 4) + 1 ∧ ((x8) = 0 ↔ (x6) = (f 4)) ∧ (2 ≤ (x8) → (x6) < (x7) ∧ (x7) ≤ (f 4)) ∧ ((x8) = 5 → (x6) + 2 ≤ (x7) ∧ (x7) ≤ (x6) + 32)) := hp5
    simp only [up_up] at hM
    have hM : MWd D dA h0 ad (mF dA h0 ad (f, g, A, L) s.heap.size) s.heap ((up f [(8, x6), (9, x7), (7, x8), (10, x9), (5, f 5), (6, f 6)]), (up g [(11, w10)]), A, L) H locs := hM
    have r11 : (0 : Int) ≤ x6 ∧ x6 ≤ 3001 := hM.2.2.2.1 8
    have r12 : (0 : Int) ≤ x7 ∧ x7 ≤ 3002 := hM.2.2.2.1 9
    have r13 : (0 : Int) ≤ x8 ∧ x8 ≤ 6 := hM.2.2.2.1 7
    have r14 : (-2147483648 : Int) ≤ x9 ∧ x9 ≤ 2147483647 := hM.2.2.2.1 10
    subst hPST
    exact m_vret B hM dX12_must_19 ⟨x6, x7, x8, x9, (f 5), (f 6), w10, rfl, by omega⟩
  · refine lv_aload_n B.1 B.2.1 dX12_must_8 rfl (lv_at hl 0 rfl) ?_
    refine m_callv (n := 0) (rest := []) B hM hA hl.1 (k_wrong l D dA h0 ad (up f [(8, f 8), (9, f 9), (7, f 7), (10, f 10), (5, f 5), (6, f 6)]) (up g [(11, g 11)]) A L   ) rfl ok_wrong nm_wrong ⟨rfl, rfl⟩ ⟨Nat.le_of_ble_eq_true rfl, Nat.le_of_ble_eq_true rfl⟩ dX12_must_9 rfl rfl (Nat.le_of_ble_eq_true rfl) ⟨Nat.zero_le _, Nat.zero_le _⟩ (fun σr15 H locs hp16 hM => ?_)
    obtain ⟨x17, x18, rfl, hp16⟩ := hp16
    have hp16 : (x17) ≠ 0 := hp16
    simp only [up_up] at hM
    have hM : MWd D dA h0 ad (mF dA h0 ad (f, g, A, L) s.heap.size) s.heap ((up f [(8, f 8), (9, f 9), (7, f 7), (10, f 10), (5, x17), (6, x18)]), (up g [(11, g 11)]), A, L) H locs := hM
    have r19 : (-2147483648 : Int) ≤ x17 ∧ x17 ≤ 2147483647 := hM.2.2.2.1 5
    have r20 : (-2147483648 : Int) ≤ x18 ∧ x18 ≤ 2147483647 := hM.2.2.2.1 6
    refine lv_goto (tgt := 19) B.1 B.2.1 dX12_must_12 (by decide) ?_
    subst hPST
    exact m_vret B hM dX12_must_19 ⟨(f 8), (f 9), (f 7), (f 10), x17, x18, (g 11), rfl, by omega⟩
set_option maxHeartbeats 4000000 in
set_option maxRecDepth 20000 in
theorem k_nameOf (l : Launch) (D : va_G) (dA : Nat → ClassId) (h0 : Nat) (ad : Nat → Nat) (f : Nat → Int) (g : Nat → Int64) (A : Nat → Nat → Int) (L : Nat → Nat → Int64) (a_v : Int64) : MCi l yX12_nameOf cX12_nameOf 4 (some .int) ({ frames := 0, cells := 0, slots := 0, locals := 0 }) D dA h0 ad (f, g, A, L) [.long a_v] (fun r σ => σ = (f, g, A, L) ∧ (r = -1 ∨ (64 * (f 3) ≤ r ∧ r < 64 * (f 3) + (f 15)))) := by
  generalize hPST : (fun r σ => σ = (f, g, A, L) ∧ (r = -1 ∨ (64 * (f 3) ≤ r ∧ r < 64 * (f 3) + (f 15)))) = PST
  refine m_enter (by decide) rfl (Nat.le_of_ble_eq_true rfl) (fun p e s m args below meth c ls B hM hl => ?_)
  have hA : ∀ q, s.heap.size ≤ q → mF dA h0 ad (f, g, A, L) s.heap.size q := fun q h => Or.inr h
  have hl : lv_has ls 4 [(0, .ref h0), (1, .long a_v)] := hl
  have LL2 : ∀ N : Nat, ∀ (v2_3 : Int) (H : Heap) (locs : List Loc) (ls : Array Slot), (MWd D dA h0 ad (mF dA h0 ad (f, g, A, L) s.heap.size) s.heap (f, g, A, L) H locs) → lv_has ls 4 [(0, .ref h0), (1, .long a_v), (3, .int (II v2_3))] → ((-2147483648 : Int) ≤ v2_3 ∧ v2_3 ≤ 2147483647) → (0 ≤ (v2_3)) → ((v2_3) ≤ (f 15)) → (0 ≤ (f 15) - (v2_3)) → ((f 15) - (v2_3) < (N : Int)) → W p l e ({ frames := 0, cells := 0, slots := 0, locals := 0 }) s m args below meth c H locs 0 0 (MQ below (mQi D dA h0 ad (f, g, A, L) s.heap.size PST) args s 0 0 (mF dA h0 ad (f, g, A, L) s.heap.size)) (F0 m 2 ls []) := by
    intro N
    induction N with
    | zero => intro v2_3 H locs ls hM hl hLL2_0 hLL2_1 hLL2_2 hLL2_3 hN; exfalso; omega
    | succ N IH2 =>
      intro v2_3 H locs ls hM hl hLL2_0 hLL2_1 hLL2_2 hLL2_3 hN
      refine lv_iload_n B.1 B.2.1 dX12_nameOf_2 rfl (lv_at hl 2 rfl) ?_
      refine lv_aload_n B.1 B.2.1 dX12_nameOf_3 rfl (lv_at hl 0 rfl) ?_
      refine m_get (k := 15) (v := f 15) B hM (by decide) rfl fl108 dX12_nameOf_4 rfl ?_
      have r1 : (0 : Int) ≤ f 15 ∧ f 15 ≤ 64 := hM.2.2.2.1 15
      refine q_cge (tgt := 45) B dX12_nameOf_7 (by decide) (by unfold inr; omega) (by unfold inr; omega) (fun c2 => ?_) (fun c2 => ?_)
      · refine q_con B dX12_nameOf_45 ?_
        subst hPST
        exact m_iret B hM dX12_nameOf_46 (by unfold inr; omega) ⟨rfl, by omega⟩
      · refine lv_aload_n B.1 B.2.1 dX12_nameOf_10 rfl (lv_at hl 0 rfl) ?_
        refine m_geta (k := 12) B hM (by decide) rfl fl111 dX12_nameOf_11 ?_
        refine q_bip B dX12_nameOf_14 (by decide) ?_
        refine lv_aload_n B.1 B.2.1 dX12_nameOf_16 rfl (lv_at hl 0 rfl) ?_
        refine m_get (k := 3) (v := f 3) B hM (by decide) rfl fl11 dX12_nameOf_17 rfl ?_
        have r3 : (0 : Int) ≤ f 3 ∧ f 3 ≤ 1 := hM.2.2.2.1 3
        refine q_mul B dX12_nameOf_20 ?_
        refine lv_iload_n B.1 B.2.1 dX12_nameOf_21 rfl (lv_at hl 2 rfl) ?_
        refine q_add B dX12_nameOf_22 ?_
        refine m_lld (k := 12) (i := 2) (n := 128) (z := (64 * (f 3)) + v2_3) (v := (L 12) ((64 * (f 3)) + v2_3).toNat) B hM rfl rfl rfl (by decide) dX12_nameOf_23 (by omega) (by omega) rfl ?_
        refine lv_lload_n B.1 B.2.1 dX12_nameOf_24 rfl (lv_at hl 1 rfl) ?_
        refine q_lcmp B dX12_nameOf_25 (fun x4 lx4 ux4 ex4 => ?_)
        refine q_ine (tgt := 39) B dX12_nameOf_26 (by decide) (by unfold inr; omega) (fun c5 => ?_) (fun c5 => ?_)
        · refine q_inc (k := 2) (x := v2_3) (lv' := [(3, .int (II (v2_3 + 1))), (0, .ref h0), (1, .long a_v)]) B dX12_nameOf_39 hl rfl (by decide) rfl (fun ls hl => ?_)
          refine lv_goto (tgt := 2) B.1 B.2.1 dX12_nameOf_42 (by decide) ?_
          exact IH2 (v2_3 + 1) _ _ ls hM (lv_sub hl [1, 2, 0] rfl) (by omega) (by first | omega | (simp only [wr_at]; omega) | assumption) (by first | omega | (simp only [wr_at]; omega) | assumption) (by first | omega | (simp only [wr_at]; omega) | assumption) (by first | omega | (simp only [wr_at]; omega) | assumption)
        · refine q_bip B dX12_nameOf_29 (by decide) ?_
          refine lv_aload_n B.1 B.2.1 dX12_nameOf_31 rfl (lv_at hl 0 rfl) ?_
          refine m_get (k := 3) (v := f 3) B hM (by decide) rfl fl11 dX12_nameOf_32 rfl ?_
          refine q_mul B dX12_nameOf_35 ?_
          refine lv_iload_n B.1 B.2.1 dX12_nameOf_36 rfl (lv_at hl 2 rfl) ?_
          refine q_add B dX12_nameOf_37 ?_
          subst hPST
          exact m_iret B hM dX12_nameOf_38 (by unfold inr; omega) ⟨rfl, by omega⟩
  refine q_con B dX12_nameOf_0 ?_
  refine lv_istore_n (lv' := [(3, .int (II 0)), (0, .ref h0), (1, .long a_v)]) B.1 B.2.1 dX12_nameOf_1 rfl hl (by decide) rfl (fun ls hl => ?_)
  exact LL2 ((f 15) - (0) + 1).toNat 0 _ _ ls hM (lv_sub hl [1, 2, 0] rfl) (by omega) (by first | omega | (simp only [wr_at]; omega) | assumption) (by first | omega | (simp only [wr_at]; omega) | assumption) (by first | omega | (simp only [wr_at]; omega) | assumption) (by first | omega | (simp only [wr_at]; omega) | assumption)
set_option maxHeartbeats 4000000 in
set_option maxRecDepth 20000 in
theorem k_add (l : Launch) (D : va_G) (dA : Nat → ClassId) (h0 : Nat) (ad : Nat → Nat) (f : Nat → Int) (g : Nat → Int64) (A : Nat → Nat → Int) (L : Nat → Nat → Int64) (a_v : Int64) (a_sort : Int) (a_its : Int) (i_sort : (-2147483648 : Int) ≤ a_sort ∧ a_sort ≤ 2147483647) (i_its : (-2147483648 : Int) ≤ a_its ∧ a_its ≤ 2147483647) (p_0 : (f 15) ≤ 63) (p_1 : 0 ≤ (a_sort)) (p_2 : (a_sort) ≤ 5) (p_3 : 0 ≤ (a_its)) (p_4 : (a_its) ≤ 15) : MCv l yX12_add cX12_add 5 ({ frames := 0, cells := 0, slots := 0, locals := 0 }) D dA h0 ad (f, g, A, L) [.long a_v, .int (II a_sort), .int (II a_its)] (fun σ => ∃ b12 : Nat → Int64, σ = ((up f [(15, ((f 15) + 1))]), g, (up A [(13, (wr (A 13) (64 * (f 3) + (f 15)) (a_sort))), (14, (wr (A 14) (64 * (f 3) + (f 15)) (a_its)))]), (up L [(12, b12)])) ∧ (True)) := by
  generalize hPST : (fun σ => ∃ b12 : Nat → Int64, σ = ((up f [(15, ((f 15) + 1))]), g, (up A [(13, (wr (A 13) (64 * (f 3) + (f 15)) (a_sort))), (14, (wr (A 14) (64 * (f 3) + (f 15)) (a_its)))]), (up L [(12, b12)])) ∧ (True)) = PST
  refine m_enterv (by decide) rfl (Nat.le_of_ble_eq_true rfl) (fun p e s m args below meth c ls B hM hl => ?_)
  have hA : ∀ q, s.heap.size ≤ q → mF dA h0 ad (f, g, A, L) s.heap.size q := fun q h => Or.inr h
  have hM : MWd D dA h0 ad (mF dA h0 ad (f, g, A, L) s.heap.size) s.heap ((up f [(15, f 15)]), g, (up A [(13, (A 13)), (14, (A 14))]), (up L [(12, (L 12))])) s.heap [] := MW_pad hM (up_self f [15]) rfl (up_self A [13, 14]) (up_self L [12])
  have hl : lv_has ls 5 [(0, .ref h0), (1, .long a_v), (3, .int (II a_sort)), (4, .int (II a_its))] := hl
  refine lv_aload_n B.1 B.2.1 dX12_add_0 rfl (lv_at hl 0 rfl) ?_
  refine m_geta (k := 12) B hM (by decide) rfl fl111 dX12_add_1 ?_
  refine q_bip B dX12_add_4 (by decide) ?_
  refine lv_aload_n B.1 B.2.1 dX12_add_6 rfl (lv_at hl 0 rfl) ?_
  refine m_get (k := 3) (v := f 3) B hM (by decide) rfl fl11 dX12_add_7 rfl ?_
  have r1 : (0 : Int) ≤ f 3 ∧ f 3 ≤ 1 := hM.2.2.2.1 3
  refine q_mul B dX12_add_10 ?_
  refine lv_aload_n B.1 B.2.1 dX12_add_11 rfl (lv_at hl 0 rfl) ?_
  refine m_get (k := 15) (v := f 15) B hM (by decide) rfl fl108 dX12_add_12 rfl ?_
  have r2 : (0 : Int) ≤ f 15 ∧ f 15 ≤ 64 := hM.2.2.2.1 15
  refine q_add B dX12_add_15 ?_
  refine lv_lload_n B.1 B.2.1 dX12_add_16 rfl (lv_at hl 1 rfl) ?_
  refine m_lst (k := 12) (i := 2) (n := 128) B hM rfl rfl rfl (by decide) dX12_add_17 (by omega) (by omega) (u1_up L [(12, (L 12))] 12 (wr (L 12) ((64 * (f 3)) + (f 15)) a_v)) (fun H locs hM => ?_)
  have hM : MWd D dA h0 ad (mF dA h0 ad (f, g, A, L) s.heap.size) s.heap ((up f [(15, f 15)]), g, (up A [(13, (A 13)), (14, (A 14))]), (up L [(12, (wr (L 12) ((64 * (f 3)) + (f 15)) a_v))])) H locs := hM
  refine lv_aload_n B.1 B.2.1 dX12_add_18 rfl (lv_at hl 0 rfl) ?_
  refine m_geta (k := 13) B hM (by decide) rfl fl138 dX12_add_19 ?_
  refine q_bip B dX12_add_22 (by decide) ?_
  refine lv_aload_n B.1 B.2.1 dX12_add_24 rfl (lv_at hl 0 rfl) ?_
  refine m_get (k := 3) (v := f 3) B hM (by decide) rfl fl11 dX12_add_25 rfl ?_
  refine q_mul B dX12_add_28 ?_
  refine lv_aload_n B.1 B.2.1 dX12_add_29 rfl (lv_at hl 0 rfl) ?_
  refine m_get (k := 15) (v := f 15) B hM (by decide) rfl fl108 dX12_add_30 rfl ?_
  refine q_add B dX12_add_33 ?_
  refine lv_iload_n B.1 B.2.1 dX12_add_34 rfl (lv_at hl 2 rfl) ?_
  refine m_ist (k := 13) (i := 3) (n := 128) B hM rfl rfl rfl (by decide) dX12_add_35 (by omega) (by omega) (show (0 : Int) ≤ a_sort by omega) (show a_sort ≤ (5 : Int) by omega) (u1_up A [(13, (A 13)), (14, (A 14))] 13 (wr (A 13) ((64 * (f 3)) + (f 15)) a_sort)) (fun H locs hM => ?_)
  have hM : MWd D dA h0 ad (mF dA h0 ad (f, g, A, L) s.heap.size) s.heap ((up f [(15, f 15)]), g, (up A [(13, (wr (A 13) ((64 * (f 3)) + (f 15)) a_sort)), (14, (A 14))]), (up L [(12, (wr (L 12) ((64 * (f 3)) + (f 15)) a_v))])) H locs := hM
  refine lv_aload_n B.1 B.2.1 dX12_add_36 rfl (lv_at hl 0 rfl) ?_
  refine m_geta (k := 14) B hM (by decide) rfl fl142 dX12_add_37 ?_
  refine q_bip B dX12_add_40 (by decide) ?_
  refine lv_aload_n B.1 B.2.1 dX12_add_42 rfl (lv_at hl 0 rfl) ?_
  refine m_get (k := 3) (v := f 3) B hM (by decide) rfl fl11 dX12_add_43 rfl ?_
  refine q_mul B dX12_add_46 ?_
  refine lv_aload_n B.1 B.2.1 dX12_add_47 rfl (lv_at hl 0 rfl) ?_
  refine m_get (k := 15) (v := f 15) B hM (by decide) rfl fl108 dX12_add_48 rfl ?_
  refine q_add B dX12_add_51 ?_
  refine lv_iload B.1 B.2.1 dX12_add_52 (lv_at hl 3 rfl) ?_
  refine m_ist (k := 14) (i := 4) (n := 128) B hM rfl rfl rfl (by decide) dX12_add_54 (by omega) (by omega) (show (0 : Int) ≤ a_its by omega) (show a_its ≤ (15 : Int) by omega) (u1_up A [(13, (wr (A 13) ((64 * (f 3)) + (f 15)) a_sort)), (14, (A 14))] 14 (wr (A 14) ((64 * (f 3)) + (f 15)) a_its)) (fun H locs hM => ?_)
  have hM : MWd D dA h0 ad (mF dA h0 ad (f, g, A, L) s.heap.size) s.heap ((up f [(15, f 15)]), g, (up A [(13, (wr (A 13) ((64 * (f 3)) + (f 15)) a_sort)), (14, (wr (A 14) ((64 * (f 3)) + (f 15)) a_its))]), (up L [(12, (wr (L 12) ((64 * (f 3)) + (f 15)) a_v))])) H locs := hM
  refine lv_aload_n B.1 B.2.1 dX12_add_55 rfl (lv_at hl 0 rfl) ?_
  refine lv_dup B.1 B.2.1 dX12_add_56 rfl ?_
  refine m_get (k := 15) (v := f 15) B hM (by decide) rfl fl108 dX12_add_57 rfl ?_
  refine q_con B dX12_add_60 ?_
  refine q_add B dX12_add_61 ?_
  refine m_put (k := 15) B hM (by decide) rfl fl108 rfl dX12_add_62 rfl rfl (show (0 : Int) ≤ (f 15) + 1 by omega) (show (f 15) + 1 ≤ (64 : Int) by omega) (u1_up f [(15, f 15)] 15 ((f 15) + 1)) (fun H locs hM => ?_)
  have hM : MWd D dA h0 ad (mF dA h0 ad (f, g, A, L) s.heap.size) s.heap ((up f [(15, (f 15) + 1)]), g, (up A [(13, (wr (A 13) ((64 * (f 3)) + (f 15)) a_sort)), (14, (wr (A 14) ((64 * (f 3)) + (f 15)) a_its))]), (up L [(12, (wr (L 12) ((64 * (f 3)) + (f 15)) a_v))])) H locs := hM
  subst hPST
  exact m_vret B hM dX12_add_65 ⟨((wr (L 12) ((64 * (f 3)) + (f 15)) a_v)), rfl, by trivial⟩
set_option maxHeartbeats 4000000 in
set_option maxRecDepth 20000 in
theorem k_tell (l : Launch) (D : va_G) (dA : Nat → ClassId) (h0 : Nat) (ad : Nat → Nat) (f : Nat → Int) (g : Nat → Int64) (A : Nat → Nat → Int) (L : Nat → Nat → Int64) (a_sort : Int) (a_many : Int) (i_sort : (-2147483648 : Int) ≤ a_sort ∧ a_sort ≤ 2147483647) (i_many : (-2147483648 : Int) ≤ a_many ∧ a_many ≤ 2147483647) (p_0 : (0 ≤ (f 8) ∧ (f 8) ≤ (f 4) ∧ (f 9) ≤ (f 4) + 1 ∧ ((f 7) = 0 ↔ (f 8) = (f 4)) ∧ (2 ≤ (f 7) → (f 8) < (f 9) ∧ (f 9) ≤ (f 4)) ∧ ((f 7) = 5 → (f 8) + 2 ≤ (f 9) ∧ (f 9) ≤ (f 8) + 32))) (p_1 : (f 15) ≤ 62) (p_2 : 1 ≤ (a_sort)) (p_3 : (a_sort) ≤ 5) (p_4 : 0 ≤ (a_many)) (p_5 : (a_many) ≤ 15) (p_6 : ((a_sort) = 1 → (a_many) ≤ 7)) (p_7 : NIp (f 15) (f 3) (A 13) (A 14)) : MCv l yX12_tell cX12_tell 3 ({ frames := 3, cells := 0, slots := 0, locals := 65 }) D dA h0 ad (f, g, A, L) [.int (II a_sort), .int (II a_many)] (fun σ => ∃ n8 : Int, ∃ n9 : Int, ∃ n7 : Int, ∃ n10 : Int, ∃ n5 : Int, ∃ n6 : Int, ∃ n15 : Int, ∃ n11 : Int64, ∃ b13 : Nat → Int, ∃ b14 : Nat → Int, ∃ b12 : Nat → Int64, σ = ((up f [(8, n8), (9, n9), (7, n7), (10, n10), (5, n5), (6, n6), (15, n15)]), (up g [(11, n11)]), (up A [(13, b13), (14, b14)]), (up L [(12, b12)])) ∧ (((0 ≤ (n8) ∧ (n8) ≤ (f 4) ∧ (n9) ≤ (f 4) + 1 ∧ ((n7) = 0 ↔ (n8) = (f 4)) ∧ (2 ≤ (n7) → (n8) < (n9) ∧ (n9) ≤ (f 4)) ∧ ((n7) = 5 → (n8) + 2 ≤ (n9) ∧ (n9) ≤ (n8) + 32))) ∧ (f 8) ≤ (n8) ∧ ((n5) = 0 → (f 5) = 0 ∧ (f 8) + 1 ≤ (n8) ∧ (n15) = (f 15) + 1) ∧ (f 15) ≤ (n15) ∧ (n15) ≤ (f 15) + 1 ∧ NIp (n15) (f 3) b13 b14)) := by
  generalize hPST : (fun σ => ∃ n8 : Int, ∃ n9 : Int, ∃ n7 : Int, ∃ n10 : Int, ∃ n5 : Int, ∃ n6 : Int, ∃ n15 : Int, ∃ n11 : Int64, ∃ b13 : Nat → Int, ∃ b14 : Nat → Int, ∃ b12 : Nat → Int64, σ = ((up f [(8, n8), (9, n9), (7, n7), (10, n10), (5, n5), (6, n6), (15, n15)]), (up g [(11, n11)]), (up A [(13, b13), (14, b14)]), (up L [(12, b12)])) ∧ (((0 ≤ (n8) ∧ (n8) ≤ (f 4) ∧ (n9) ≤ (f 4) + 1 ∧ ((n7) = 0 ↔ (n8) = (f 4)) ∧ (2 ≤ (n7) → (n8) < (n9) ∧ (n9) ≤ (f 4)) ∧ ((n7) = 5 → (n8) + 2 ≤ (n9) ∧ (n9) ≤ (n8) + 32))) ∧ (f 8) ≤ (n8) ∧ ((n5) = 0 → (f 5) = 0 ∧ (f 8) + 1 ≤ (n8) ∧ (n15) = (f 15) + 1) ∧ (f 15) ≤ (n15) ∧ (n15) ≤ (f 15) + 1 ∧ NIp (n15) (f 3) b13 b14)) = PST
  refine m_enterv (by decide) rfl (Nat.le_of_ble_eq_true rfl) (fun p e s m args below meth c ls B hM hl => ?_)
  have hA : ∀ q, s.heap.size ≤ q → mF dA h0 ad (f, g, A, L) s.heap.size q := fun q h => Or.inr h
  have hM : MWd D dA h0 ad (mF dA h0 ad (f, g, A, L) s.heap.size) s.heap ((up f [(8, f 8), (9, f 9), (7, f 7), (10, f 10), (5, f 5), (6, f 6), (15, f 15)]), (up g [(11, g 11)]), (up A [(13, (A 13)), (14, (A 14))]), (up L [(12, (L 12))])) s.heap [] := MW_pad hM (up_self f [8, 9, 7, 10, 5, 6, 15]) (up_self g [11]) (up_self A [13, 14]) (up_self L [12])
  have hl : lv_has ls 3 [(0, .ref h0), (1, .int (II a_sort)), (2, .int (II a_many))] := hl
  refine lv_aload_n B.1 B.2.1 dX12_tell_0 rfl (lv_at hl 0 rfl) ?_
  refine m_get (k := 7) (v := f 7) B hM (by decide) rfl fl66 dX12_tell_1 rfl ?_
  have r1 : (0 : Int) ≤ f 7 ∧ f 7 ≤ 6 := hM.2.2.2.1 7
  refine q_con B dX12_tell_4 ?_
  refine q_ceq (tgt := 12) B dX12_tell_5 (by decide) (by unfold inr; omega) (by unfold inr; omega) (fun c2 => ?_) (fun c2 => ?_)
  · refine lv_aload_n B.1 B.2.1 dX12_tell_12 rfl (lv_at hl 0 rfl) ?_
    refine m_calli (n := 0) (rest := []) B hM hA hl.1 (k_isGood l D dA h0 ad (up f [(8, f 8), (9, f 9), (7, f 7), (10, f 10), (5, f 5), (6, f 6), (15, f 15)]) (up g [(11, g 11)]) (up A [(13, (A 13)), (14, (A 14))]) (up L [(12, (L 12))])   ) rfl ok_isGood nm_isGood ⟨rfl, rfl⟩ ⟨Nat.le_of_ble_eq_true rfl, Nat.le_of_ble_eq_true rfl⟩ dX12_tell_13 rfl rfl (Nat.le_of_ble_eq_true rfl) ⟨Nat.zero_le _, Nat.zero_le _⟩ (fun r3 σr3 H locs ir3 hp4 hM => ?_)
    obtain ⟨rfl, hp4⟩ := hp4
    unfold inr at ir3
    have hp4 : 0 ≤ r3 ∧ r3 ≤ 1 ∧ (r3 = 1 ↔ (f 5) = 0) := hp4
    refine q_ine (tgt := 20) B dX12_tell_16 (by decide) (by unfold inr; omega) (fun c5 => ?_) (fun c5 => ?_)
    · refine lv_aload_n B.1 B.2.1 dX12_tell_20 rfl (lv_at hl 0 rfl) ?_
      refine lv_aload_n B.1 B.2.1 dX12_tell_21 rfl (lv_at hl 0 rfl) ?_
      refine m_getl (k := 11) B hM (by decide) rfl fl76 dX12_tell_22 rfl ?_
      refine m_calli (n := 1) (rest := []) B hM hA hl.1 (k_nameOf l D dA h0 ad (up f [(8, f 8), (9, f 9), (7, f 7), (10, f 10), (5, f 5), (6, f 6), (15, f 15)]) (up g [(11, g 11)]) (up A [(13, (A 13)), (14, (A 14))]) (up L [(12, (L 12))]) (g 11)  ) rfl ok_nameOf nm_nameOf ⟨rfl, rfl⟩ ⟨Nat.le_of_ble_eq_true rfl, Nat.le_of_ble_eq_true rfl⟩ dX12_tell_25 rfl rfl (Nat.le_of_ble_eq_true rfl) ⟨Nat.zero_le _, Nat.zero_le _⟩ (fun r6 σr6 H locs ir6 hp7 hM => ?_)
      obtain ⟨rfl, hp7⟩ := hp7
      unfold inr at ir6
      have hp7 : r6 = -1 ∨ (64 * (f 3) ≤ r6 ∧ r6 < 64 * (f 3) + (f 15)) := hp7
      refine q_ige (tgt := 41) B dX12_tell_28 (by decide) (by unfold inr; omega) (fun c8 => ?_) (fun c8 => ?_)
      · refine lv_aload_n B.1 B.2.1 dX12_tell_41 rfl (lv_at hl 0 rfl) ?_
        refine q_con B dX12_tell_42 ?_
        refine lv_aload_n B.1 B.2.1 dX12_tell_43 rfl (lv_at hl 0 rfl) ?_
        refine m_get (k := 8) (v := f 8) B hM (by decide) rfl fl59 dX12_tell_44 rfl ?_
        have r9 : (0 : Int) ≤ f 8 ∧ f 8 ≤ 3001 := hM.2.2.2.1 8
        refine m_calli (n := 2) (rest := []) B hM hA hl.1 (k_fails l D dA h0 ad (up f [(8, f 8), (9, f 9), (7, f 7), (10, f 10), (5, f 5), (6, f 6), (15, f 15)]) (up g [(11, g 11)]) (up A [(13, (A 13)), (14, (A 14))]) (up L [(12, (L 12))]) 3 (f 8) (by omega) (by omega) ) rfl ok_fails nm_fails ⟨rfl, rfl⟩ ⟨Nat.le_of_ble_eq_true rfl, Nat.le_of_ble_eq_true rfl⟩ dX12_tell_47 rfl rfl (Nat.le_of_ble_eq_true rfl) ⟨Nat.zero_le _, Nat.zero_le _⟩ (fun r10 σr10 H locs ir10 hp11 hM => ?_)
        obtain ⟨x12, x13, rfl, hp11⟩ := hp11
        unfold inr at ir10
        have hp11 : r10 = 0 ∧ ((f 5) ≠ 0 → (x12) = (f 5)) ∧ ((f 5) = 0 → (x12) = (3)) := hp11
        simp only [up_up] at hM
        have hM : MWd D dA h0 ad (mF dA h0 ad (f, g, A, L) s.heap.size) s.heap ((up f [(8, f 8), (9, f 9), (7, f 7), (10, f 10), (5, x12), (6, x13), (15, f 15)]), (up g [(11, g 11)]), (up A [(13, (A 13)), (14, (A 14))]), (up L [(12, (L 12))])) H locs := hM
        have r14 : (-2147483648 : Int) ≤ x12 ∧ x12 ≤ 2147483647 := hM.2.2.2.1 5
        have r15 : (-2147483648 : Int) ≤ x13 ∧ x13 ≤ 2147483647 := hM.2.2.2.1 6
        refine lv_pop B.1 B.2.1 dX12_tell_50 rfl ?_
        refine lv_aload_n B.1 B.2.1 dX12_tell_51 rfl (lv_at hl 0 rfl) ?_
        refine m_calli (n := 0) (rest := []) B hM hA hl.1 (k_isGood l D dA h0 ad (up f [(8, f 8), (9, f 9), (7, f 7), (10, f 10), (5, x12), (6, x13), (15, f 15)]) (up g [(11, g 11)]) (up A [(13, (A 13)), (14, (A 14))]) (up L [(12, (L 12))])   ) rfl ok_isGood nm_isGood ⟨rfl, rfl⟩ ⟨Nat.le_of_ble_eq_true rfl, Nat.le_of_ble_eq_true rfl⟩ dX12_tell_52 rfl rfl (Nat.le_of_ble_eq_true rfl) ⟨Nat.zero_le _, Nat.zero_le _⟩ (fun r16 σr16 H locs ir16 hp17 hM => ?_)
        obtain ⟨rfl, hp17⟩ := hp17
        unfold inr at ir16
        have hp17 : 0 ≤ r16 ∧ r16 ≤ 1 ∧ (r16 = 1 ↔ (x12) = 0) := hp17
        refine q_ine (tgt := 59) B dX12_tell_55 (by decide) (by unfold inr; omega) (fun c18 => ?_) (fun c18 => ?_)
        · refine lv_aload_n B.1 B.2.1 dX12_tell_59 rfl (lv_at hl 0 rfl) ?_
          refine lv_aload_n B.1 B.2.1 dX12_tell_60 rfl (lv_at hl 0 rfl) ?_
          refine m_getl (k := 11) B hM (by decide) rfl fl76 dX12_tell_61 rfl ?_
          refine lv_iload_n B.1 B.2.1 dX12_tell_64 rfl (lv_at hl 1 rfl) ?_
          refine lv_iload_n B.1 B.2.1 dX12_tell_65 rfl (lv_at hl 2 rfl) ?_
          refine m_callv (n := 3) (rest := []) B hM hA hl.1 (k_add l D dA h0 ad (up f [(8, f 8), (9, f 9), (7, f 7), (10, f 10), (5, x12), (6, x13), (15, f 15)]) (up g [(11, g 11)]) (up A [(13, (A 13)), (14, (A 14))]) (up L [(12, (L 12))]) (g 11) a_sort a_many (by omega) (by omega) (by first | omega | (simp only [wr_at]; omega) | assumption) (by first | omega | (simp only [wr_at]; omega) | assumption) (by first | omega | (simp only [wr_at]; omega) | assumption) (by first | omega | (simp only [wr_at]; omega) | assumption) (by first | omega | (simp only [wr_at]; omega) | assumption)) rfl ok_add nm_add ⟨rfl, rfl⟩ ⟨Nat.le_of_ble_eq_true rfl, Nat.le_of_ble_eq_true rfl⟩ dX12_tell_66 rfl rfl (Nat.le_of_ble_eq_true rfl) ⟨Nat.zero_le _, Nat.zero_le _⟩ (fun σr19 H locs hp20 hM => ?_)
          obtain ⟨b21, rfl, hp20⟩ := hp20
          have hp20 : True := hp20
          simp only [up_up] at hM
          have hM : MWd D dA h0 ad (mF dA h0 ad (f, g, A, L) s.heap.size) s.heap ((up f [(8, f 8), (9, f 9), (7, f 7), (10, f 10), (5, x12), (6, x13), (15, (f 15) + 1)]), (up g [(11, g 11)]), (up A [(13, (wr (A 13) (64 * (f 3) + (f 15)) (a_sort))), (14, (wr (A 14) (64 * (f 3) + (f 15)) (a_many)))]), (up L [(12, b21)])) H locs := hM
          have r22 : (0 : Int) ≤ (f 15) + 1 ∧ (f 15) + 1 ≤ 64 := hM.2.2.2.1 15
          refine lv_aload_n B.1 B.2.1 dX12_tell_69 rfl (lv_at hl 0 rfl) ?_
          refine m_callv (n := 0) (rest := []) B hM hA hl.1 (k_next l D dA h0 ad (up f [(8, f 8), (9, f 9), (7, f 7), (10, f 10), (5, x12), (6, x13), (15, (f 15) + 1)]) (up g [(11, g 11)]) (up A [(13, (wr (A 13) (64 * (f 3) + (f 15)) (a_sort))), (14, (wr (A 14) (64 * (f 3) + (f 15)) (a_many)))]) (up L [(12, b21)])   (by first | omega | (simp only [wr_at]; omega) | assumption)) rfl ok_next nm_next ⟨rfl, rfl⟩ ⟨Nat.le_of_ble_eq_true rfl, Nat.le_of_ble_eq_true rfl⟩ dX12_tell_70 rfl rfl (Nat.le_of_ble_eq_true rfl) ⟨Nat.zero_le _, Nat.zero_le _⟩ (fun σr23 H locs hp24 hM => ?_)
          obtain ⟨x25, x26, x27, x28, w29, rfl, hp24⟩ := hp24
          have hp24 : ((f 9) ≤ (x25) ∨ (x25) = (f 4)) ∧ (0 ≤ (x25) ∧ (x25) ≤ (f 4) ∧ (x26) ≤ (f 4) + 1 ∧ ((x27) = 0 ↔ (x25) = (f 4)) ∧ (2 ≤ (x27) → (x25) < (x26) ∧ (x26) ≤ (f 4)) ∧ ((x27) = 5 → (x25) + 2 ≤ (x26) ∧ (x26) ≤ (x25) + 32)) := hp24
          simp only [up_up] at hM
          have hM : MWd D dA h0 ad (mF dA h0 ad (f, g, A, L) s.heap.size) s.heap ((up f [(8, x25), (9, x26), (7, x27), (10, x28), (5, x12), (6, x13), (15, (f 15) + 1)]), (up g [(11, w29)]), (up A [(13, (wr (A 13) (64 * (f 3) + (f 15)) (a_sort))), (14, (wr (A 14) (64 * (f 3) + (f 15)) (a_many)))]), (up L [(12, b21)])) H locs := hM
          have r30 : (0 : Int) ≤ x25 ∧ x25 ≤ 3001 := hM.2.2.2.1 8
          have r31 : (0 : Int) ≤ x26 ∧ x26 ≤ 3002 := hM.2.2.2.1 9
          have r32 : (0 : Int) ≤ x27 ∧ x27 ≤ 6 := hM.2.2.2.1 7
          have r33 : (-2147483648 : Int) ≤ x28 ∧ x28 ≤ 2147483647 := hM.2.2.2.1 10
          subst hPST
          exact m_vret B hM dX12_tell_73 ⟨x25, x26, x27, x28, x12, x13, ((f 15) + 1), w29, ((wr (A 13) (64 * (f 3) + (f 15)) (a_sort))), ((wr (A 14) (64 * (f 3) + (f 15)) (a_many))), b21, rfl, by (refine ⟨by omega, by omega, by omega, by omega, by omega, ?_⟩; first | exact p_7 | exact NIp_push p_7 (by omega) (by omega) (by omega))⟩
        · subst hPST
          exact m_vret B hM dX12_tell_58 ⟨(f 8), (f 9), (f 7), (f 10), x12, x13, (f 15), (g 11), ((A 13)), ((A 14)), ((L 12)), rfl, by (refine ⟨by omega, by omega, by omega, by omega, by omega, ?_⟩; first | exact p_7 | exact NIp_push p_7 (by omega) (by omega) (by omega))⟩
      · refine lv_aload_n B.1 B.2.1 dX12_tell_31 rfl (lv_at hl 0 rfl) ?_
        refine m_getl (k := 11) B hM (by decide) rfl fl76 dX12_tell_32 rfl ?_
        refine s_calli (n := 1) (rest := []) B hl.1 (k_built l D dA (g 11)  ) rfl ok_built nm_built ⟨rfl, rfl⟩ ⟨Nat.le_of_ble_eq_true rfl, Nat.le_of_ble_eq_true rfl⟩ dX12_tell_35 rfl rfl (Nat.le_of_ble_eq_true rfl) ⟨Nat.zero_le _, Nat.zero_le _⟩ (fun r34 ir34 hp35 => ?_)
        unfold inr at ir34
        have hp35 : 0 ≤ r34 ∧ r34 ≤ 8 := hp35
        refine q_ile (tgt := 51) B dX12_tell_38 (by decide) (by unfold inr; omega) (fun c36 => ?_) (fun c36 => ?_)
        · refine lv_aload_n B.1 B.2.1 dX12_tell_51 rfl (lv_at hl 0 rfl) ?_
          refine m_calli (n := 0) (rest := []) B hM hA hl.1 (k_isGood l D dA h0 ad (up f [(8, f 8), (9, f 9), (7, f 7), (10, f 10), (5, f 5), (6, f 6), (15, f 15)]) (up g [(11, g 11)]) (up A [(13, (A 13)), (14, (A 14))]) (up L [(12, (L 12))])   ) rfl ok_isGood nm_isGood ⟨rfl, rfl⟩ ⟨Nat.le_of_ble_eq_true rfl, Nat.le_of_ble_eq_true rfl⟩ dX12_tell_52 rfl rfl (Nat.le_of_ble_eq_true rfl) ⟨Nat.zero_le _, Nat.zero_le _⟩ (fun r37 σr37 H locs ir37 hp38 hM => ?_)
          obtain ⟨rfl, hp38⟩ := hp38
          unfold inr at ir37
          have hp38 : 0 ≤ r37 ∧ r37 ≤ 1 ∧ (r37 = 1 ↔ (f 5) = 0) := hp38
          refine q_ine (tgt := 59) B dX12_tell_55 (by decide) (by unfold inr; omega) (fun c39 => ?_) (fun c39 => ?_)
          · refine lv_aload_n B.1 B.2.1 dX12_tell_59 rfl (lv_at hl 0 rfl) ?_
            refine lv_aload_n B.1 B.2.1 dX12_tell_60 rfl (lv_at hl 0 rfl) ?_
            refine m_getl (k := 11) B hM (by decide) rfl fl76 dX12_tell_61 rfl ?_
            refine lv_iload_n B.1 B.2.1 dX12_tell_64 rfl (lv_at hl 1 rfl) ?_
            refine lv_iload_n B.1 B.2.1 dX12_tell_65 rfl (lv_at hl 2 rfl) ?_
            refine m_callv (n := 3) (rest := []) B hM hA hl.1 (k_add l D dA h0 ad (up f [(8, f 8), (9, f 9), (7, f 7), (10, f 10), (5, f 5), (6, f 6), (15, f 15)]) (up g [(11, g 11)]) (up A [(13, (A 13)), (14, (A 14))]) (up L [(12, (L 12))]) (g 11) a_sort a_many (by omega) (by omega) (by first | omega | (simp only [wr_at]; omega) | assumption) (by first | omega | (simp only [wr_at]; omega) | assumption) (by first | omega | (simp only [wr_at]; omega) | assumption) (by first | omega | (simp only [wr_at]; omega) | assumption) (by first | omega | (simp only [wr_at]; omega) | assumption)) rfl ok_add nm_add ⟨rfl, rfl⟩ ⟨Nat.le_of_ble_eq_true rfl, Nat.le_of_ble_eq_true rfl⟩ dX12_tell_66 rfl rfl (Nat.le_of_ble_eq_true rfl) ⟨Nat.zero_le _, Nat.zero_le _⟩ (fun σr40 H locs hp41 hM => ?_)
            obtain ⟨b42, rfl, hp41⟩ := hp41
            have hp41 : True := hp41
            simp only [up_up] at hM
            have hM : MWd D dA h0 ad (mF dA h0 ad (f, g, A, L) s.heap.size) s.heap ((up f [(8, f 8), (9, f 9), (7, f 7), (10, f 10), (5, f 5), (6, f 6), (15, (f 15) + 1)]), (up g [(11, g 11)]), (up A [(13, (wr (A 13) (64 * (f 3) + (f 15)) (a_sort))), (14, (wr (A 14) (64 * (f 3) + (f 15)) (a_many)))]), (up L [(12, b42)])) H locs := hM
            have r43 : (0 : Int) ≤ (f 15) + 1 ∧ (f 15) + 1 ≤ 64 := hM.2.2.2.1 15
            refine lv_aload_n B.1 B.2.1 dX12_tell_69 rfl (lv_at hl 0 rfl) ?_
            refine m_callv (n := 0) (rest := []) B hM hA hl.1 (k_next l D dA h0 ad (up f [(8, f 8), (9, f 9), (7, f 7), (10, f 10), (5, f 5), (6, f 6), (15, (f 15) + 1)]) (up g [(11, g 11)]) (up A [(13, (wr (A 13) (64 * (f 3) + (f 15)) (a_sort))), (14, (wr (A 14) (64 * (f 3) + (f 15)) (a_many)))]) (up L [(12, b42)])   (by first | omega | (simp only [wr_at]; omega) | assumption)) rfl ok_next nm_next ⟨rfl, rfl⟩ ⟨Nat.le_of_ble_eq_true rfl, Nat.le_of_ble_eq_true rfl⟩ dX12_tell_70 rfl rfl (Nat.le_of_ble_eq_true rfl) ⟨Nat.zero_le _, Nat.zero_le _⟩ (fun σr44 H locs hp45 hM => ?_)
            obtain ⟨x46, x47, x48, x49, w50, rfl, hp45⟩ := hp45
            have hp45 : ((f 9) ≤ (x46) ∨ (x46) = (f 4)) ∧ (0 ≤ (x46) ∧ (x46) ≤ (f 4) ∧ (x47) ≤ (f 4) + 1 ∧ ((x48) = 0 ↔ (x46) = (f 4)) ∧ (2 ≤ (x48) → (x46) < (x47) ∧ (x47) ≤ (f 4)) ∧ ((x48) = 5 → (x46) + 2 ≤ (x47) ∧ (x47) ≤ (x46) + 32)) := hp45
            simp only [up_up] at hM
            have hM : MWd D dA h0 ad (mF dA h0 ad (f, g, A, L) s.heap.size) s.heap ((up f [(8, x46), (9, x47), (7, x48), (10, x49), (5, f 5), (6, f 6), (15, (f 15) + 1)]), (up g [(11, w50)]), (up A [(13, (wr (A 13) (64 * (f 3) + (f 15)) (a_sort))), (14, (wr (A 14) (64 * (f 3) + (f 15)) (a_many)))]), (up L [(12, b42)])) H locs := hM
            have r51 : (0 : Int) ≤ x46 ∧ x46 ≤ 3001 := hM.2.2.2.1 8
            have r52 : (0 : Int) ≤ x47 ∧ x47 ≤ 3002 := hM.2.2.2.1 9
            have r53 : (0 : Int) ≤ x48 ∧ x48 ≤ 6 := hM.2.2.2.1 7
            have r54 : (-2147483648 : Int) ≤ x49 ∧ x49 ≤ 2147483647 := hM.2.2.2.1 10
            subst hPST
            exact m_vret B hM dX12_tell_73 ⟨x46, x47, x48, x49, (f 5), (f 6), ((f 15) + 1), w50, ((wr (A 13) (64 * (f 3) + (f 15)) (a_sort))), ((wr (A 14) (64 * (f 3) + (f 15)) (a_many))), b42, rfl, by (refine ⟨by omega, by omega, by omega, by omega, by omega, ?_⟩; first | exact p_7 | exact NIp_push p_7 (by omega) (by omega) (by omega))⟩
          · subst hPST
            exact m_vret B hM dX12_tell_58 ⟨(f 8), (f 9), (f 7), (f 10), (f 5), (f 6), (f 15), (g 11), ((A 13)), ((A 14)), ((L 12)), rfl, by (refine ⟨by omega, by omega, by omega, by omega, by omega, ?_⟩; first | exact p_7 | exact NIp_push p_7 (by omega) (by omega) (by omega))⟩
        · refine lv_aload_n B.1 B.2.1 dX12_tell_41 rfl (lv_at hl 0 rfl) ?_
          refine q_con B dX12_tell_42 ?_
          refine lv_aload_n B.1 B.2.1 dX12_tell_43 rfl (lv_at hl 0 rfl) ?_
          refine m_get (k := 8) (v := f 8) B hM (by decide) rfl fl59 dX12_tell_44 rfl ?_
          have r55 : (0 : Int) ≤ f 8 ∧ f 8 ≤ 3001 := hM.2.2.2.1 8
          refine m_calli (n := 2) (rest := []) B hM hA hl.1 (k_fails l D dA h0 ad (up f [(8, f 8), (9, f 9), (7, f 7), (10, f 10), (5, f 5), (6, f 6), (15, f 15)]) (up g [(11, g 11)]) (up A [(13, (A 13)), (14, (A 14))]) (up L [(12, (L 12))]) 3 (f 8) (by omega) (by omega) ) rfl ok_fails nm_fails ⟨rfl, rfl⟩ ⟨Nat.le_of_ble_eq_true rfl, Nat.le_of_ble_eq_true rfl⟩ dX12_tell_47 rfl rfl (Nat.le_of_ble_eq_true rfl) ⟨Nat.zero_le _, Nat.zero_le _⟩ (fun r56 σr56 H locs ir56 hp57 hM => ?_)
          obtain ⟨x58, x59, rfl, hp57⟩ := hp57
          unfold inr at ir56
          have hp57 : r56 = 0 ∧ ((f 5) ≠ 0 → (x58) = (f 5)) ∧ ((f 5) = 0 → (x58) = (3)) := hp57
          simp only [up_up] at hM
          have hM : MWd D dA h0 ad (mF dA h0 ad (f, g, A, L) s.heap.size) s.heap ((up f [(8, f 8), (9, f 9), (7, f 7), (10, f 10), (5, x58), (6, x59), (15, f 15)]), (up g [(11, g 11)]), (up A [(13, (A 13)), (14, (A 14))]), (up L [(12, (L 12))])) H locs := hM
          have r60 : (-2147483648 : Int) ≤ x58 ∧ x58 ≤ 2147483647 := hM.2.2.2.1 5
          have r61 : (-2147483648 : Int) ≤ x59 ∧ x59 ≤ 2147483647 := hM.2.2.2.1 6
          refine lv_pop B.1 B.2.1 dX12_tell_50 rfl ?_
          refine lv_aload_n B.1 B.2.1 dX12_tell_51 rfl (lv_at hl 0 rfl) ?_
          refine m_calli (n := 0) (rest := []) B hM hA hl.1 (k_isGood l D dA h0 ad (up f [(8, f 8), (9, f 9), (7, f 7), (10, f 10), (5, x58), (6, x59), (15, f 15)]) (up g [(11, g 11)]) (up A [(13, (A 13)), (14, (A 14))]) (up L [(12, (L 12))])   ) rfl ok_isGood nm_isGood ⟨rfl, rfl⟩ ⟨Nat.le_of_ble_eq_true rfl, Nat.le_of_ble_eq_true rfl⟩ dX12_tell_52 rfl rfl (Nat.le_of_ble_eq_true rfl) ⟨Nat.zero_le _, Nat.zero_le _⟩ (fun r62 σr62 H locs ir62 hp63 hM => ?_)
          obtain ⟨rfl, hp63⟩ := hp63
          unfold inr at ir62
          have hp63 : 0 ≤ r62 ∧ r62 ≤ 1 ∧ (r62 = 1 ↔ (x58) = 0) := hp63
          refine q_ine (tgt := 59) B dX12_tell_55 (by decide) (by unfold inr; omega) (fun c64 => ?_) (fun c64 => ?_)
          · refine lv_aload_n B.1 B.2.1 dX12_tell_59 rfl (lv_at hl 0 rfl) ?_
            refine lv_aload_n B.1 B.2.1 dX12_tell_60 rfl (lv_at hl 0 rfl) ?_
            refine m_getl (k := 11) B hM (by decide) rfl fl76 dX12_tell_61 rfl ?_
            refine lv_iload_n B.1 B.2.1 dX12_tell_64 rfl (lv_at hl 1 rfl) ?_
            refine lv_iload_n B.1 B.2.1 dX12_tell_65 rfl (lv_at hl 2 rfl) ?_
            refine m_callv (n := 3) (rest := []) B hM hA hl.1 (k_add l D dA h0 ad (up f [(8, f 8), (9, f 9), (7, f 7), (10, f 10), (5, x58), (6, x59), (15, f 15)]) (up g [(11, g 11)]) (up A [(13, (A 13)), (14, (A 14))]) (up L [(12, (L 12))]) (g 11) a_sort a_many (by omega) (by omega) (by first | omega | (simp only [wr_at]; omega) | assumption) (by first | omega | (simp only [wr_at]; omega) | assumption) (by first | omega | (simp only [wr_at]; omega) | assumption) (by first | omega | (simp only [wr_at]; omega) | assumption) (by first | omega | (simp only [wr_at]; omega) | assumption)) rfl ok_add nm_add ⟨rfl, rfl⟩ ⟨Nat.le_of_ble_eq_true rfl, Nat.le_of_ble_eq_true rfl⟩ dX12_tell_66 rfl rfl (Nat.le_of_ble_eq_true rfl) ⟨Nat.zero_le _, Nat.zero_le _⟩ (fun σr65 H locs hp66 hM => ?_)
            obtain ⟨b67, rfl, hp66⟩ := hp66
            have hp66 : True := hp66
            simp only [up_up] at hM
            have hM : MWd D dA h0 ad (mF dA h0 ad (f, g, A, L) s.heap.size) s.heap ((up f [(8, f 8), (9, f 9), (7, f 7), (10, f 10), (5, x58), (6, x59), (15, (f 15) + 1)]), (up g [(11, g 11)]), (up A [(13, (wr (A 13) (64 * (f 3) + (f 15)) (a_sort))), (14, (wr (A 14) (64 * (f 3) + (f 15)) (a_many)))]), (up L [(12, b67)])) H locs := hM
            have r68 : (0 : Int) ≤ (f 15) + 1 ∧ (f 15) + 1 ≤ 64 := hM.2.2.2.1 15
            refine lv_aload_n B.1 B.2.1 dX12_tell_69 rfl (lv_at hl 0 rfl) ?_
            refine m_callv (n := 0) (rest := []) B hM hA hl.1 (k_next l D dA h0 ad (up f [(8, f 8), (9, f 9), (7, f 7), (10, f 10), (5, x58), (6, x59), (15, (f 15) + 1)]) (up g [(11, g 11)]) (up A [(13, (wr (A 13) (64 * (f 3) + (f 15)) (a_sort))), (14, (wr (A 14) (64 * (f 3) + (f 15)) (a_many)))]) (up L [(12, b67)])   (by first | omega | (simp only [wr_at]; omega) | assumption)) rfl ok_next nm_next ⟨rfl, rfl⟩ ⟨Nat.le_of_ble_eq_true rfl, Nat.le_of_ble_eq_true rfl⟩ dX12_tell_70 rfl rfl (Nat.le_of_ble_eq_true rfl) ⟨Nat.zero_le _, Nat.zero_le _⟩ (fun σr69 H locs hp70 hM => ?_)
            obtain ⟨x71, x72, x73, x74, w75, rfl, hp70⟩ := hp70
            have hp70 : ((f 9) ≤ (x71) ∨ (x71) = (f 4)) ∧ (0 ≤ (x71) ∧ (x71) ≤ (f 4) ∧ (x72) ≤ (f 4) + 1 ∧ ((x73) = 0 ↔ (x71) = (f 4)) ∧ (2 ≤ (x73) → (x71) < (x72) ∧ (x72) ≤ (f 4)) ∧ ((x73) = 5 → (x71) + 2 ≤ (x72) ∧ (x72) ≤ (x71) + 32)) := hp70
            simp only [up_up] at hM
            have hM : MWd D dA h0 ad (mF dA h0 ad (f, g, A, L) s.heap.size) s.heap ((up f [(8, x71), (9, x72), (7, x73), (10, x74), (5, x58), (6, x59), (15, (f 15) + 1)]), (up g [(11, w75)]), (up A [(13, (wr (A 13) (64 * (f 3) + (f 15)) (a_sort))), (14, (wr (A 14) (64 * (f 3) + (f 15)) (a_many)))]), (up L [(12, b67)])) H locs := hM
            have r76 : (0 : Int) ≤ x71 ∧ x71 ≤ 3001 := hM.2.2.2.1 8
            have r77 : (0 : Int) ≤ x72 ∧ x72 ≤ 3002 := hM.2.2.2.1 9
            have r78 : (0 : Int) ≤ x73 ∧ x73 ≤ 6 := hM.2.2.2.1 7
            have r79 : (-2147483648 : Int) ≤ x74 ∧ x74 ≤ 2147483647 := hM.2.2.2.1 10
            subst hPST
            exact m_vret B hM dX12_tell_73 ⟨x71, x72, x73, x74, x58, x59, ((f 15) + 1), w75, ((wr (A 13) (64 * (f 3) + (f 15)) (a_sort))), ((wr (A 14) (64 * (f 3) + (f 15)) (a_many))), b67, rfl, by (refine ⟨by omega, by omega, by omega, by omega, by omega, ?_⟩; first | exact p_7 | exact NIp_push p_7 (by omega) (by omega) (by omega))⟩
          · subst hPST
            exact m_vret B hM dX12_tell_58 ⟨(f 8), (f 9), (f 7), (f 10), x58, x59, (f 15), (g 11), ((A 13)), ((A 14)), ((L 12)), rfl, by (refine ⟨by omega, by omega, by omega, by omega, by omega, ?_⟩; first | exact p_7 | exact NIp_push p_7 (by omega) (by omega) (by omega))⟩
    · subst hPST
      exact m_vret B hM dX12_tell_19 ⟨(f 8), (f 9), (f 7), (f 10), (f 5), (f 6), (f 15), (g 11), ((A 13)), ((A 14)), ((L 12)), rfl, by (refine ⟨by omega, by omega, by omega, by omega, by omega, ?_⟩; first | exact p_7 | exact NIp_push p_7 (by omega) (by omega) (by omega))⟩
  · refine lv_aload_n B.1 B.2.1 dX12_tell_8 rfl (lv_at hl 0 rfl) ?_
    refine m_callv (n := 0) (rest := []) B hM hA hl.1 (k_wrong l D dA h0 ad (up f [(8, f 8), (9, f 9), (7, f 7), (10, f 10), (5, f 5), (6, f 6), (15, f 15)]) (up g [(11, g 11)]) (up A [(13, (A 13)), (14, (A 14))]) (up L [(12, (L 12))])   ) rfl ok_wrong nm_wrong ⟨rfl, rfl⟩ ⟨Nat.le_of_ble_eq_true rfl, Nat.le_of_ble_eq_true rfl⟩ dX12_tell_9 rfl rfl (Nat.le_of_ble_eq_true rfl) ⟨Nat.zero_le _, Nat.zero_le _⟩ (fun σr80 H locs hp81 hM => ?_)
    obtain ⟨x82, x83, rfl, hp81⟩ := hp81
    have hp81 : (x82) ≠ 0 := hp81
    simp only [up_up] at hM
    have hM : MWd D dA h0 ad (mF dA h0 ad (f, g, A, L) s.heap.size) s.heap ((up f [(8, f 8), (9, f 9), (7, f 7), (10, f 10), (5, x82), (6, x83), (15, f 15)]), (up g [(11, g 11)]), (up A [(13, (A 13)), (14, (A 14))]), (up L [(12, (L 12))])) H locs := hM
    have r84 : (-2147483648 : Int) ≤ x82 ∧ x82 ≤ 2147483647 := hM.2.2.2.1 5
    have r85 : (-2147483648 : Int) ≤ x83 ∧ x83 ≤ 2147483647 := hM.2.2.2.1 6
    refine lv_aload_n B.1 B.2.1 dX12_tell_12 rfl (lv_at hl 0 rfl) ?_
    refine m_calli (n := 0) (rest := []) B hM hA hl.1 (k_isGood l D dA h0 ad (up f [(8, f 8), (9, f 9), (7, f 7), (10, f 10), (5, x82), (6, x83), (15, f 15)]) (up g [(11, g 11)]) (up A [(13, (A 13)), (14, (A 14))]) (up L [(12, (L 12))])   ) rfl ok_isGood nm_isGood ⟨rfl, rfl⟩ ⟨Nat.le_of_ble_eq_true rfl, Nat.le_of_ble_eq_true rfl⟩ dX12_tell_13 rfl rfl (Nat.le_of_ble_eq_true rfl) ⟨Nat.zero_le _, Nat.zero_le _⟩ (fun r86 σr86 H locs ir86 hp87 hM => ?_)
    obtain ⟨rfl, hp87⟩ := hp87
    unfold inr at ir86
    have hp87 : 0 ≤ r86 ∧ r86 ≤ 1 ∧ (r86 = 1 ↔ (x82) = 0) := hp87
    refine q_ine (tgt := 20) B dX12_tell_16 (by decide) (by unfold inr; omega) (fun c88 => ?_) (fun c88 => ?_)
    · refine lv_aload_n B.1 B.2.1 dX12_tell_20 rfl (lv_at hl 0 rfl) ?_
      refine lv_aload_n B.1 B.2.1 dX12_tell_21 rfl (lv_at hl 0 rfl) ?_
      refine m_getl (k := 11) B hM (by decide) rfl fl76 dX12_tell_22 rfl ?_
      refine m_calli (n := 1) (rest := []) B hM hA hl.1 (k_nameOf l D dA h0 ad (up f [(8, f 8), (9, f 9), (7, f 7), (10, f 10), (5, x82), (6, x83), (15, f 15)]) (up g [(11, g 11)]) (up A [(13, (A 13)), (14, (A 14))]) (up L [(12, (L 12))]) (g 11)  ) rfl ok_nameOf nm_nameOf ⟨rfl, rfl⟩ ⟨Nat.le_of_ble_eq_true rfl, Nat.le_of_ble_eq_true rfl⟩ dX12_tell_25 rfl rfl (Nat.le_of_ble_eq_true rfl) ⟨Nat.zero_le _, Nat.zero_le _⟩ (fun r89 σr89 H locs ir89 hp90 hM => ?_)
      obtain ⟨rfl, hp90⟩ := hp90
      unfold inr at ir89
      have hp90 : r89 = -1 ∨ (64 * (f 3) ≤ r89 ∧ r89 < 64 * (f 3) + (f 15)) := hp90
      refine q_ige (tgt := 41) B dX12_tell_28 (by decide) (by unfold inr; omega) (fun c91 => ?_) (fun c91 => ?_)
      · refine lv_aload_n B.1 B.2.1 dX12_tell_41 rfl (lv_at hl 0 rfl) ?_
        refine q_con B dX12_tell_42 ?_
        refine lv_aload_n B.1 B.2.1 dX12_tell_43 rfl (lv_at hl 0 rfl) ?_
        refine m_get (k := 8) (v := f 8) B hM (by decide) rfl fl59 dX12_tell_44 rfl ?_
        have r92 : (0 : Int) ≤ f 8 ∧ f 8 ≤ 3001 := hM.2.2.2.1 8
        refine m_calli (n := 2) (rest := []) B hM hA hl.1 (k_fails l D dA h0 ad (up f [(8, f 8), (9, f 9), (7, f 7), (10, f 10), (5, x82), (6, x83), (15, f 15)]) (up g [(11, g 11)]) (up A [(13, (A 13)), (14, (A 14))]) (up L [(12, (L 12))]) 3 (f 8) (by omega) (by omega) ) rfl ok_fails nm_fails ⟨rfl, rfl⟩ ⟨Nat.le_of_ble_eq_true rfl, Nat.le_of_ble_eq_true rfl⟩ dX12_tell_47 rfl rfl (Nat.le_of_ble_eq_true rfl) ⟨Nat.zero_le _, Nat.zero_le _⟩ (fun r93 σr93 H locs ir93 hp94 hM => ?_)
        obtain ⟨x95, x96, rfl, hp94⟩ := hp94
        unfold inr at ir93
        have hp94 : r93 = 0 ∧ ((x82) ≠ 0 → (x95) = (x82)) ∧ ((x82) = 0 → (x95) = (3)) := hp94
        simp only [up_up] at hM
        have hM : MWd D dA h0 ad (mF dA h0 ad (f, g, A, L) s.heap.size) s.heap ((up f [(8, f 8), (9, f 9), (7, f 7), (10, f 10), (5, x95), (6, x96), (15, f 15)]), (up g [(11, g 11)]), (up A [(13, (A 13)), (14, (A 14))]), (up L [(12, (L 12))])) H locs := hM
        have r97 : (-2147483648 : Int) ≤ x95 ∧ x95 ≤ 2147483647 := hM.2.2.2.1 5
        have r98 : (-2147483648 : Int) ≤ x96 ∧ x96 ≤ 2147483647 := hM.2.2.2.1 6
        refine lv_pop B.1 B.2.1 dX12_tell_50 rfl ?_
        refine lv_aload_n B.1 B.2.1 dX12_tell_51 rfl (lv_at hl 0 rfl) ?_
        refine m_calli (n := 0) (rest := []) B hM hA hl.1 (k_isGood l D dA h0 ad (up f [(8, f 8), (9, f 9), (7, f 7), (10, f 10), (5, x95), (6, x96), (15, f 15)]) (up g [(11, g 11)]) (up A [(13, (A 13)), (14, (A 14))]) (up L [(12, (L 12))])   ) rfl ok_isGood nm_isGood ⟨rfl, rfl⟩ ⟨Nat.le_of_ble_eq_true rfl, Nat.le_of_ble_eq_true rfl⟩ dX12_tell_52 rfl rfl (Nat.le_of_ble_eq_true rfl) ⟨Nat.zero_le _, Nat.zero_le _⟩ (fun r99 σr99 H locs ir99 hp100 hM => ?_)
        obtain ⟨rfl, hp100⟩ := hp100
        unfold inr at ir99
        have hp100 : 0 ≤ r99 ∧ r99 ≤ 1 ∧ (r99 = 1 ↔ (x95) = 0) := hp100
        refine q_ine (tgt := 59) B dX12_tell_55 (by decide) (by unfold inr; omega) (fun c101 => ?_) (fun c101 => ?_)
        · refine lv_aload_n B.1 B.2.1 dX12_tell_59 rfl (lv_at hl 0 rfl) ?_
          refine lv_aload_n B.1 B.2.1 dX12_tell_60 rfl (lv_at hl 0 rfl) ?_
          refine m_getl (k := 11) B hM (by decide) rfl fl76 dX12_tell_61 rfl ?_
          refine lv_iload_n B.1 B.2.1 dX12_tell_64 rfl (lv_at hl 1 rfl) ?_
          refine lv_iload_n B.1 B.2.1 dX12_tell_65 rfl (lv_at hl 2 rfl) ?_
          refine m_callv (n := 3) (rest := []) B hM hA hl.1 (k_add l D dA h0 ad (up f [(8, f 8), (9, f 9), (7, f 7), (10, f 10), (5, x95), (6, x96), (15, f 15)]) (up g [(11, g 11)]) (up A [(13, (A 13)), (14, (A 14))]) (up L [(12, (L 12))]) (g 11) a_sort a_many (by omega) (by omega) (by first | omega | (simp only [wr_at]; omega) | assumption) (by first | omega | (simp only [wr_at]; omega) | assumption) (by first | omega | (simp only [wr_at]; omega) | assumption) (by first | omega | (simp only [wr_at]; omega) | assumption) (by first | omega | (simp only [wr_at]; omega) | assumption)) rfl ok_add nm_add ⟨rfl, rfl⟩ ⟨Nat.le_of_ble_eq_true rfl, Nat.le_of_ble_eq_true rfl⟩ dX12_tell_66 rfl rfl (Nat.le_of_ble_eq_true rfl) ⟨Nat.zero_le _, Nat.zero_le _⟩ (fun σr102 H locs hp103 hM => ?_)
          obtain ⟨b104, rfl, hp103⟩ := hp103
          have hp103 : True := hp103
          simp only [up_up] at hM
          have hM : MWd D dA h0 ad (mF dA h0 ad (f, g, A, L) s.heap.size) s.heap ((up f [(8, f 8), (9, f 9), (7, f 7), (10, f 10), (5, x95), (6, x96), (15, (f 15) + 1)]), (up g [(11, g 11)]), (up A [(13, (wr (A 13) (64 * (f 3) + (f 15)) (a_sort))), (14, (wr (A 14) (64 * (f 3) + (f 15)) (a_many)))]), (up L [(12, b104)])) H locs := hM
          have r105 : (0 : Int) ≤ (f 15) + 1 ∧ (f 15) + 1 ≤ 64 := hM.2.2.2.1 15
          refine lv_aload_n B.1 B.2.1 dX12_tell_69 rfl (lv_at hl 0 rfl) ?_
          refine m_callv (n := 0) (rest := []) B hM hA hl.1 (k_next l D dA h0 ad (up f [(8, f 8), (9, f 9), (7, f 7), (10, f 10), (5, x95), (6, x96), (15, (f 15) + 1)]) (up g [(11, g 11)]) (up A [(13, (wr (A 13) (64 * (f 3) + (f 15)) (a_sort))), (14, (wr (A 14) (64 * (f 3) + (f 15)) (a_many)))]) (up L [(12, b104)])   (by first | omega | (simp only [wr_at]; omega) | assumption)) rfl ok_next nm_next ⟨rfl, rfl⟩ ⟨Nat.le_of_ble_eq_true rfl, Nat.le_of_ble_eq_true rfl⟩ dX12_tell_70 rfl rfl (Nat.le_of_ble_eq_true rfl) ⟨Nat.zero_le _, Nat.zero_le _⟩ (fun σr106 H locs hp107 hM => ?_)
          obtain ⟨x108, x109, x110, x111, w112, rfl, hp107⟩ := hp107
          have hp107 : ((f 9) ≤ (x108) ∨ (x108) = (f 4)) ∧ (0 ≤ (x108) ∧ (x108) ≤ (f 4) ∧ (x109) ≤ (f 4) + 1 ∧ ((x110) = 0 ↔ (x108) = (f 4)) ∧ (2 ≤ (x110) → (x108) < (x109) ∧ (x109) ≤ (f 4)) ∧ ((x110) = 5 → (x108) + 2 ≤ (x109) ∧ (x109) ≤ (x108) + 32)) := hp107
          simp only [up_up] at hM
          have hM : MWd D dA h0 ad (mF dA h0 ad (f, g, A, L) s.heap.size) s.heap ((up f [(8, x108), (9, x109), (7, x110), (10, x111), (5, x95), (6, x96), (15, (f 15) + 1)]), (up g [(11, w112)]), (up A [(13, (wr (A 13) (64 * (f 3) + (f 15)) (a_sort))), (14, (wr (A 14) (64 * (f 3) + (f 15)) (a_many)))]), (up L [(12, b104)])) H locs := hM
          have r113 : (0 : Int) ≤ x108 ∧ x108 ≤ 3001 := hM.2.2.2.1 8
          have r114 : (0 : Int) ≤ x109 ∧ x109 ≤ 3002 := hM.2.2.2.1 9
          have r115 : (0 : Int) ≤ x110 ∧ x110 ≤ 6 := hM.2.2.2.1 7
          have r116 : (-2147483648 : Int) ≤ x111 ∧ x111 ≤ 2147483647 := hM.2.2.2.1 10
          subst hPST
          exact m_vret B hM dX12_tell_73 ⟨x108, x109, x110, x111, x95, x96, ((f 15) + 1), w112, ((wr (A 13) (64 * (f 3) + (f 15)) (a_sort))), ((wr (A 14) (64 * (f 3) + (f 15)) (a_many))), b104, rfl, by (refine ⟨by omega, by omega, by omega, by omega, by omega, ?_⟩; first | exact p_7 | exact NIp_push p_7 (by omega) (by omega) (by omega))⟩
        · subst hPST
          exact m_vret B hM dX12_tell_58 ⟨(f 8), (f 9), (f 7), (f 10), x95, x96, (f 15), (g 11), ((A 13)), ((A 14)), ((L 12)), rfl, by (refine ⟨by omega, by omega, by omega, by omega, by omega, ?_⟩; first | exact p_7 | exact NIp_push p_7 (by omega) (by omega) (by omega))⟩
      · refine lv_aload_n B.1 B.2.1 dX12_tell_31 rfl (lv_at hl 0 rfl) ?_
        refine m_getl (k := 11) B hM (by decide) rfl fl76 dX12_tell_32 rfl ?_
        refine s_calli (n := 1) (rest := []) B hl.1 (k_built l D dA (g 11)  ) rfl ok_built nm_built ⟨rfl, rfl⟩ ⟨Nat.le_of_ble_eq_true rfl, Nat.le_of_ble_eq_true rfl⟩ dX12_tell_35 rfl rfl (Nat.le_of_ble_eq_true rfl) ⟨Nat.zero_le _, Nat.zero_le _⟩ (fun r117 ir117 hp118 => ?_)
        unfold inr at ir117
        have hp118 : 0 ≤ r117 ∧ r117 ≤ 8 := hp118
        refine q_ile (tgt := 51) B dX12_tell_38 (by decide) (by unfold inr; omega) (fun c119 => ?_) (fun c119 => ?_)
        · refine lv_aload_n B.1 B.2.1 dX12_tell_51 rfl (lv_at hl 0 rfl) ?_
          refine m_calli (n := 0) (rest := []) B hM hA hl.1 (k_isGood l D dA h0 ad (up f [(8, f 8), (9, f 9), (7, f 7), (10, f 10), (5, x82), (6, x83), (15, f 15)]) (up g [(11, g 11)]) (up A [(13, (A 13)), (14, (A 14))]) (up L [(12, (L 12))])   ) rfl ok_isGood nm_isGood ⟨rfl, rfl⟩ ⟨Nat.le_of_ble_eq_true rfl, Nat.le_of_ble_eq_true rfl⟩ dX12_tell_52 rfl rfl (Nat.le_of_ble_eq_true rfl) ⟨Nat.zero_le _, Nat.zero_le _⟩ (fun r120 σr120 H locs ir120 hp121 hM => ?_)
          obtain ⟨rfl, hp121⟩ := hp121
          unfold inr at ir120
          have hp121 : 0 ≤ r120 ∧ r120 ≤ 1 ∧ (r120 = 1 ↔ (x82) = 0) := hp121
          refine q_ine (tgt := 59) B dX12_tell_55 (by decide) (by unfold inr; omega) (fun c122 => ?_) (fun c122 => ?_)
          · refine lv_aload_n B.1 B.2.1 dX12_tell_59 rfl (lv_at hl 0 rfl) ?_
            refine lv_aload_n B.1 B.2.1 dX12_tell_60 rfl (lv_at hl 0 rfl) ?_
            refine m_getl (k := 11) B hM (by decide) rfl fl76 dX12_tell_61 rfl ?_
            refine lv_iload_n B.1 B.2.1 dX12_tell_64 rfl (lv_at hl 1 rfl) ?_
            refine lv_iload_n B.1 B.2.1 dX12_tell_65 rfl (lv_at hl 2 rfl) ?_
            refine m_callv (n := 3) (rest := []) B hM hA hl.1 (k_add l D dA h0 ad (up f [(8, f 8), (9, f 9), (7, f 7), (10, f 10), (5, x82), (6, x83), (15, f 15)]) (up g [(11, g 11)]) (up A [(13, (A 13)), (14, (A 14))]) (up L [(12, (L 12))]) (g 11) a_sort a_many (by omega) (by omega) (by first | omega | (simp only [wr_at]; omega) | assumption) (by first | omega | (simp only [wr_at]; omega) | assumption) (by first | omega | (simp only [wr_at]; omega) | assumption) (by first | omega | (simp only [wr_at]; omega) | assumption) (by first | omega | (simp only [wr_at]; omega) | assumption)) rfl ok_add nm_add ⟨rfl, rfl⟩ ⟨Nat.le_of_ble_eq_true rfl, Nat.le_of_ble_eq_true rfl⟩ dX12_tell_66 rfl rfl (Nat.le_of_ble_eq_true rfl) ⟨Nat.zero_le _, Nat.zero_le _⟩ (fun σr123 H locs hp124 hM => ?_)
            obtain ⟨b125, rfl, hp124⟩ := hp124
            have hp124 : True := hp124
            simp only [up_up] at hM
            have hM : MWd D dA h0 ad (mF dA h0 ad (f, g, A, L) s.heap.size) s.heap ((up f [(8, f 8), (9, f 9), (7, f 7), (10, f 10), (5, x82), (6, x83), (15, (f 15) + 1)]), (up g [(11, g 11)]), (up A [(13, (wr (A 13) (64 * (f 3) + (f 15)) (a_sort))), (14, (wr (A 14) (64 * (f 3) + (f 15)) (a_many)))]), (up L [(12, b125)])) H locs := hM
            have r126 : (0 : Int) ≤ (f 15) + 1 ∧ (f 15) + 1 ≤ 64 := hM.2.2.2.1 15
            refine lv_aload_n B.1 B.2.1 dX12_tell_69 rfl (lv_at hl 0 rfl) ?_
            refine m_callv (n := 0) (rest := []) B hM hA hl.1 (k_next l D dA h0 ad (up f [(8, f 8), (9, f 9), (7, f 7), (10, f 10), (5, x82), (6, x83), (15, (f 15) + 1)]) (up g [(11, g 11)]) (up A [(13, (wr (A 13) (64 * (f 3) + (f 15)) (a_sort))), (14, (wr (A 14) (64 * (f 3) + (f 15)) (a_many)))]) (up L [(12, b125)])   (by first | omega | (simp only [wr_at]; omega) | assumption)) rfl ok_next nm_next ⟨rfl, rfl⟩ ⟨Nat.le_of_ble_eq_true rfl, Nat.le_of_ble_eq_true rfl⟩ dX12_tell_70 rfl rfl (Nat.le_of_ble_eq_true rfl) ⟨Nat.zero_le _, Nat.zero_le _⟩ (fun σr127 H locs hp128 hM => ?_)
            obtain ⟨x129, x130, x131, x132, w133, rfl, hp128⟩ := hp128
            have hp128 : ((f 9) ≤ (x129) ∨ (x129) = (f 4)) ∧ (0 ≤ (x129) ∧ (x129) ≤ (f 4) ∧ (x130) ≤ (f 4) + 1 ∧ ((x131) = 0 ↔ (x129) = (f 4)) ∧ (2 ≤ (x131) → (x129) < (x130) ∧ (x130) ≤ (f 4)) ∧ ((x131) = 5 → (x129) + 2 ≤ (x130) ∧ (x130) ≤ (x129) + 32)) := hp128
            simp only [up_up] at hM
            have hM : MWd D dA h0 ad (mF dA h0 ad (f, g, A, L) s.heap.size) s.heap ((up f [(8, x129), (9, x130), (7, x131), (10, x132), (5, x82), (6, x83), (15, (f 15) + 1)]), (up g [(11, w133)]), (up A [(13, (wr (A 13) (64 * (f 3) + (f 15)) (a_sort))), (14, (wr (A 14) (64 * (f 3) + (f 15)) (a_many)))]), (up L [(12, b125)])) H locs := hM
            have r134 : (0 : Int) ≤ x129 ∧ x129 ≤ 3001 := hM.2.2.2.1 8
            have r135 : (0 : Int) ≤ x130 ∧ x130 ≤ 3002 := hM.2.2.2.1 9
            have r136 : (0 : Int) ≤ x131 ∧ x131 ≤ 6 := hM.2.2.2.1 7
            have r137 : (-2147483648 : Int) ≤ x132 ∧ x132 ≤ 2147483647 := hM.2.2.2.1 10
            subst hPST
            exact m_vret B hM dX12_tell_73 ⟨x129, x130, x131, x132, x82, x83, ((f 15) + 1), w133, ((wr (A 13) (64 * (f 3) + (f 15)) (a_sort))), ((wr (A 14) (64 * (f 3) + (f 15)) (a_many))), b125, rfl, by (refine ⟨by omega, by omega, by omega, by omega, by omega, ?_⟩; first | exact p_7 | exact NIp_push p_7 (by omega) (by omega) (by omega))⟩
          · subst hPST
            exact m_vret B hM dX12_tell_58 ⟨(f 8), (f 9), (f 7), (f 10), x82, x83, (f 15), (g 11), ((A 13)), ((A 14)), ((L 12)), rfl, by (refine ⟨by omega, by omega, by omega, by omega, by omega, ?_⟩; first | exact p_7 | exact NIp_push p_7 (by omega) (by omega) (by omega))⟩
        · refine lv_aload_n B.1 B.2.1 dX12_tell_41 rfl (lv_at hl 0 rfl) ?_
          refine q_con B dX12_tell_42 ?_
          refine lv_aload_n B.1 B.2.1 dX12_tell_43 rfl (lv_at hl 0 rfl) ?_
          refine m_get (k := 8) (v := f 8) B hM (by decide) rfl fl59 dX12_tell_44 rfl ?_
          have r138 : (0 : Int) ≤ f 8 ∧ f 8 ≤ 3001 := hM.2.2.2.1 8
          refine m_calli (n := 2) (rest := []) B hM hA hl.1 (k_fails l D dA h0 ad (up f [(8, f 8), (9, f 9), (7, f 7), (10, f 10), (5, x82), (6, x83), (15, f 15)]) (up g [(11, g 11)]) (up A [(13, (A 13)), (14, (A 14))]) (up L [(12, (L 12))]) 3 (f 8) (by omega) (by omega) ) rfl ok_fails nm_fails ⟨rfl, rfl⟩ ⟨Nat.le_of_ble_eq_true rfl, Nat.le_of_ble_eq_true rfl⟩ dX12_tell_47 rfl rfl (Nat.le_of_ble_eq_true rfl) ⟨Nat.zero_le _, Nat.zero_le _⟩ (fun r139 σr139 H locs ir139 hp140 hM => ?_)
          obtain ⟨x141, x142, rfl, hp140⟩ := hp140
          unfold inr at ir139
          have hp140 : r139 = 0 ∧ ((x82) ≠ 0 → (x141) = (x82)) ∧ ((x82) = 0 → (x141) = (3)) := hp140
          simp only [up_up] at hM
          have hM : MWd D dA h0 ad (mF dA h0 ad (f, g, A, L) s.heap.size) s.heap ((up f [(8, f 8), (9, f 9), (7, f 7), (10, f 10), (5, x141), (6, x142), (15, f 15)]), (up g [(11, g 11)]), (up A [(13, (A 13)), (14, (A 14))]), (up L [(12, (L 12))])) H locs := hM
          have r143 : (-2147483648 : Int) ≤ x141 ∧ x141 ≤ 2147483647 := hM.2.2.2.1 5
          have r144 : (-2147483648 : Int) ≤ x142 ∧ x142 ≤ 2147483647 := hM.2.2.2.1 6
          refine lv_pop B.1 B.2.1 dX12_tell_50 rfl ?_
          refine lv_aload_n B.1 B.2.1 dX12_tell_51 rfl (lv_at hl 0 rfl) ?_
          refine m_calli (n := 0) (rest := []) B hM hA hl.1 (k_isGood l D dA h0 ad (up f [(8, f 8), (9, f 9), (7, f 7), (10, f 10), (5, x141), (6, x142), (15, f 15)]) (up g [(11, g 11)]) (up A [(13, (A 13)), (14, (A 14))]) (up L [(12, (L 12))])   ) rfl ok_isGood nm_isGood ⟨rfl, rfl⟩ ⟨Nat.le_of_ble_eq_true rfl, Nat.le_of_ble_eq_true rfl⟩ dX12_tell_52 rfl rfl (Nat.le_of_ble_eq_true rfl) ⟨Nat.zero_le _, Nat.zero_le _⟩ (fun r145 σr145 H locs ir145 hp146 hM => ?_)
          obtain ⟨rfl, hp146⟩ := hp146
          unfold inr at ir145
          have hp146 : 0 ≤ r145 ∧ r145 ≤ 1 ∧ (r145 = 1 ↔ (x141) = 0) := hp146
          refine q_ine (tgt := 59) B dX12_tell_55 (by decide) (by unfold inr; omega) (fun c147 => ?_) (fun c147 => ?_)
          · refine lv_aload_n B.1 B.2.1 dX12_tell_59 rfl (lv_at hl 0 rfl) ?_
            refine lv_aload_n B.1 B.2.1 dX12_tell_60 rfl (lv_at hl 0 rfl) ?_
            refine m_getl (k := 11) B hM (by decide) rfl fl76 dX12_tell_61 rfl ?_
            refine lv_iload_n B.1 B.2.1 dX12_tell_64 rfl (lv_at hl 1 rfl) ?_
            refine lv_iload_n B.1 B.2.1 dX12_tell_65 rfl (lv_at hl 2 rfl) ?_
            refine m_callv (n := 3) (rest := []) B hM hA hl.1 (k_add l D dA h0 ad (up f [(8, f 8), (9, f 9), (7, f 7), (10, f 10), (5, x141), (6, x142), (15, f 15)]) (up g [(11, g 11)]) (up A [(13, (A 13)), (14, (A 14))]) (up L [(12, (L 12))]) (g 11) a_sort a_many (by omega) (by omega) (by first | omega | (simp only [wr_at]; omega) | assumption) (by first | omega | (simp only [wr_at]; omega) | assumption) (by first | omega | (simp only [wr_at]; omega) | assumption) (by first | omega | (simp only [wr_at]; omega) | assumption) (by first | omega | (simp only [wr_at]; omega) | assumption)) rfl ok_add nm_add ⟨rfl, rfl⟩ ⟨Nat.le_of_ble_eq_true rfl, Nat.le_of_ble_eq_true rfl⟩ dX12_tell_66 rfl rfl (Nat.le_of_ble_eq_true rfl) ⟨Nat.zero_le _, Nat.zero_le _⟩ (fun σr148 H locs hp149 hM => ?_)
            obtain ⟨b150, rfl, hp149⟩ := hp149
            have hp149 : True := hp149
            simp only [up_up] at hM
            have hM : MWd D dA h0 ad (mF dA h0 ad (f, g, A, L) s.heap.size) s.heap ((up f [(8, f 8), (9, f 9), (7, f 7), (10, f 10), (5, x141), (6, x142), (15, (f 15) + 1)]), (up g [(11, g 11)]), (up A [(13, (wr (A 13) (64 * (f 3) + (f 15)) (a_sort))), (14, (wr (A 14) (64 * (f 3) + (f 15)) (a_many)))]), (up L [(12, b150)])) H locs := hM
            have r151 : (0 : Int) ≤ (f 15) + 1 ∧ (f 15) + 1 ≤ 64 := hM.2.2.2.1 15
            refine lv_aload_n B.1 B.2.1 dX12_tell_69 rfl (lv_at hl 0 rfl) ?_
            refine m_callv (n := 0) (rest := []) B hM hA hl.1 (k_next l D dA h0 ad (up f [(8, f 8), (9, f 9), (7, f 7), (10, f 10), (5, x141), (6, x142), (15, (f 15) + 1)]) (up g [(11, g 11)]) (up A [(13, (wr (A 13) (64 * (f 3) + (f 15)) (a_sort))), (14, (wr (A 14) (64 * (f 3) + (f 15)) (a_many)))]) (up L [(12, b150)])   (by first | omega | (simp only [wr_at]; omega) | assumption)) rfl ok_next nm_next ⟨rfl, rfl⟩ ⟨Nat.le_of_ble_eq_true rfl, Nat.le_of_ble_eq_true rfl⟩ dX12_tell_70 rfl rfl (Nat.le_of_ble_eq_true rfl) ⟨Nat.zero_le _, Nat.zero_le _⟩ (fun σr152 H locs hp153 hM => ?_)
            obtain ⟨x154, x155, x156, x157, w158, rfl, hp153⟩ := hp153
            have hp153 : ((f 9) ≤ (x154) ∨ (x154) = (f 4)) ∧ (0 ≤ (x154) ∧ (x154) ≤ (f 4) ∧ (x155) ≤ (f 4) + 1 ∧ ((x156) = 0 ↔ (x154) = (f 4)) ∧ (2 ≤ (x156) → (x154) < (x155) ∧ (x155) ≤ (f 4)) ∧ ((x156) = 5 → (x154) + 2 ≤ (x155) ∧ (x155) ≤ (x154) + 32)) := hp153
            simp only [up_up] at hM
            have hM : MWd D dA h0 ad (mF dA h0 ad (f, g, A, L) s.heap.size) s.heap ((up f [(8, x154), (9, x155), (7, x156), (10, x157), (5, x141), (6, x142), (15, (f 15) + 1)]), (up g [(11, w158)]), (up A [(13, (wr (A 13) (64 * (f 3) + (f 15)) (a_sort))), (14, (wr (A 14) (64 * (f 3) + (f 15)) (a_many)))]), (up L [(12, b150)])) H locs := hM
            have r159 : (0 : Int) ≤ x154 ∧ x154 ≤ 3001 := hM.2.2.2.1 8
            have r160 : (0 : Int) ≤ x155 ∧ x155 ≤ 3002 := hM.2.2.2.1 9
            have r161 : (0 : Int) ≤ x156 ∧ x156 ≤ 6 := hM.2.2.2.1 7
            have r162 : (-2147483648 : Int) ≤ x157 ∧ x157 ≤ 2147483647 := hM.2.2.2.1 10
            subst hPST
            exact m_vret B hM dX12_tell_73 ⟨x154, x155, x156, x157, x141, x142, ((f 15) + 1), w158, ((wr (A 13) (64 * (f 3) + (f 15)) (a_sort))), ((wr (A 14) (64 * (f 3) + (f 15)) (a_many))), b150, rfl, by (refine ⟨by omega, by omega, by omega, by omega, by omega, ?_⟩; first | exact p_7 | exact NIp_push p_7 (by omega) (by omega) (by omega))⟩
          · subst hPST
            exact m_vret B hM dX12_tell_58 ⟨(f 8), (f 9), (f 7), (f 10), x141, x142, (f 15), (g 11), ((A 13)), ((A 14)), ((L 12)), rfl, by (refine ⟨by omega, by omega, by omega, by omega, by omega, ?_⟩; first | exact p_7 | exact NIp_push p_7 (by omega) (by omega) (by omega))⟩
    · subst hPST
      exact m_vret B hM dX12_tell_19 ⟨(f 8), (f 9), (f 7), (f 10), x82, x83, (f 15), (g 11), ((A 13)), ((A 14)), ((L 12)), rfl, by (refine ⟨by omega, by omega, by omega, by omega, by omega, ?_⟩; first | exact p_7 | exact NIp_push p_7 (by omega) (by omega) (by omega))⟩
set_option maxHeartbeats 4000000 in
set_option maxRecDepth 20000 in
theorem k_ask (l : Launch) (D : va_G) (dA : Nat → ClassId) (h0 : Nat) (ad : Nat → Nat) (f : Nat → Int) (g : Nat → Int64) (A : Nat → Nat → Int) (L : Nat → Nat → Int64) (a_sort : Int) (a_below : Int) (a_row : Int) (a_place : Int) (i_sort : (-2147483648 : Int) ≤ a_sort ∧ a_sort ≤ 2147483647) (i_below : (-2147483648 : Int) ≤ a_below ∧ a_below ≤ 2147483647) (i_row : (-2147483648 : Int) ≤ a_row ∧ a_row ≤ 2147483647) (i_place : (-2147483648 : Int) ≤ a_place ∧ a_place ≤ 2147483647) (p_0 : (0 ≤ (f 8) ∧ (f 8) ≤ (f 4) ∧ (f 9) ≤ (f 4) + 1 ∧ ((f 7) = 0 ↔ (f 8) = (f 4)) ∧ (2 ≤ (f 7) → (f 8) < (f 9) ∧ (f 9) ≤ (f 4)) ∧ ((f 7) = 5 → (f 8) + 2 ≤ (f 9) ∧ (f 9) ≤ (f 8) + 32))) (p_1 : 2 * (f 22) ≤ (f 8)) (p_2 : 0 ≤ (a_sort)) (p_3 : (a_sort) ≤ 5) (p_4 : -1 ≤ (a_below)) (p_5 : (a_below) ≤ 16) (p_6 : 0 ≤ (a_row)) (p_7 : (a_row) ≤ 5) (p_8 : 0 ≤ (a_place)) (p_9 : (a_place) ≤ 3199) (p_10 : ((f 7) = 2 → ((a_row) = 0 → (a_place) < 18 ∧ (a_sort) = 1) ∧ ((a_row) = 1 → (a_place) < 96 ∧ (a_sort) = 1) ∧ ((a_row) = 3 → (a_place) < 400) ∧ ((a_row) = 4 → (a_sort) = 1))) (p_11 : AIp (f 22) (A 18) (A 20) (A 21)) : MCv l yX12_ask cX12_ask 5 ({ frames := 3, cells := 0, slots := 0, locals := 65 }) D dA h0 ad (f, g, A, L) [.int (II a_sort), .int (II a_below), .int (II a_row), .int (II a_place)] (fun σ => ∃ n8 : Int, ∃ n9 : Int, ∃ n7 : Int, ∃ n10 : Int, ∃ n5 : Int, ∃ n6 : Int, ∃ n22 : Int, ∃ n11 : Int64, ∃ b17 : Nat → Int, ∃ b18 : Nat → Int, ∃ b19 : Nat → Int, ∃ b20 : Nat → Int, ∃ b21 : Nat → Int, ∃ b16 : Nat → Int64, σ = ((up f [(8, n8), (9, n9), (7, n7), (10, n10), (5, n5), (6, n6), (22, n22)]), (up g [(11, n11)]), (up A [(17, b17), (18, b18), (19, b19), (20, b20), (21, b21)]), (up L [(16, b16)])) ∧ (((0 ≤ (n8) ∧ (n8) ≤ (f 4) ∧ (n9) ≤ (f 4) + 1 ∧ ((n7) = 0 ↔ (n8) = (f 4)) ∧ (2 ≤ (n7) → (n8) < (n9) ∧ (n9) ≤ (f 4)) ∧ ((n7) = 5 → (n8) + 2 ≤ (n9) ∧ (n9) ≤ (n8) + 32))) ∧ (f 8) ≤ (n8) ∧ ((n5) = 0 → (f 5) = 0 ∧ (f 8) + 1 ≤ (n8) ∧ (f 7) = 2 ∧ (n22) = (f 22) + 1 ∧ b20 ((f 22)).toNat = (a_row) ∧ b21 ((f 22)).toNat = (a_place)) ∧ 2 * (n22) ≤ (n8) + 1 ∧ (f 22) ≤ (n22) ∧ AIp (n22) b18 b20 b21 ∧ APe (f 22) (A 20) (A 21) b20 b21)) := by
  generalize hPST : (fun σ => ∃ n8 : Int, ∃ n9 : Int, ∃ n7 : Int, ∃ n10 : Int, ∃ n5 : Int, ∃ n6 : Int, ∃ n22 : Int, ∃ n11 : Int64, ∃ b17 : Nat → Int, ∃ b18 : Nat → Int, ∃ b19 : Nat → Int, ∃ b20 : Nat → Int, ∃ b21 : Nat → Int, ∃ b16 : Nat → Int64, σ = ((up f [(8, n8), (9, n9), (7, n7), (10, n10), (5, n5), (6, n6), (22, n22)]), (up g [(11, n11)]), (up A [(17, b17), (18, b18), (19, b19), (20, b20), (21, b21)]), (up L [(16, b16)])) ∧ (((0 ≤ (n8) ∧ (n8) ≤ (f 4) ∧ (n9) ≤ (f 4) + 1 ∧ ((n7) = 0 ↔ (n8) = (f 4)) ∧ (2 ≤ (n7) → (n8) < (n9) ∧ (n9) ≤ (f 4)) ∧ ((n7) = 5 → (n8) + 2 ≤ (n9) ∧ (n9) ≤ (n8) + 32))) ∧ (f 8) ≤ (n8) ∧ ((n5) = 0 → (f 5) = 0 ∧ (f 8) + 1 ≤ (n8) ∧ (f 7) = 2 ∧ (n22) = (f 22) + 1 ∧ b20 ((f 22)).toNat = (a_row) ∧ b21 ((f 22)).toNat = (a_place)) ∧ 2 * (n22) ≤ (n8) + 1 ∧ (f 22) ≤ (n22) ∧ AIp (n22) b18 b20 b21 ∧ APe (f 22) (A 20) (A 21) b20 b21)) = PST
  refine m_enterv (by decide) rfl (Nat.le_of_ble_eq_true rfl) (fun p e s m args below meth c ls B hM hl => ?_)
  have hA : ∀ q, s.heap.size ≤ q → mF dA h0 ad (f, g, A, L) s.heap.size q := fun q h => Or.inr h
  have hM : MWd D dA h0 ad (mF dA h0 ad (f, g, A, L) s.heap.size) s.heap ((up f [(8, f 8), (9, f 9), (7, f 7), (10, f 10), (5, f 5), (6, f 6), (22, f 22)]), (up g [(11, g 11)]), (up A [(17, (A 17)), (18, (A 18)), (19, (A 19)), (20, (A 20)), (21, (A 21))]), (up L [(16, (L 16))])) s.heap [] := MW_pad hM (up_self f [8, 9, 7, 10, 5, 6, 22]) (up_self g [11]) (up_self A [17, 18, 19, 20, 21]) (up_self L [16])
  have hl : lv_has ls 5 [(0, .ref h0), (1, .int (II a_sort)), (2, .int (II a_below)), (3, .int (II a_row)), (4, .int (II a_place))] := hl
  refine lv_aload_n B.1 B.2.1 dX12_ask_0 rfl (lv_at hl 0 rfl) ?_
  refine m_get (k := 7) (v := f 7) B hM (by decide) rfl fl66 dX12_ask_1 rfl ?_
  have r1 : (0 : Int) ≤ f 7 ∧ f 7 ≤ 6 := hM.2.2.2.1 7
  refine q_con B dX12_ask_4 ?_
  refine q_ceq (tgt := 12) B dX12_ask_5 (by decide) (by unfold inr; omega) (by unfold inr; omega) (fun c2 => ?_) (fun c2 => ?_)
  · refine lv_aload_n B.1 B.2.1 dX12_ask_12 rfl (lv_at hl 0 rfl) ?_
    refine m_calli (n := 0) (rest := []) B hM hA hl.1 (k_isGood l D dA h0 ad (up f [(8, f 8), (9, f 9), (7, f 7), (10, f 10), (5, f 5), (6, f 6), (22, f 22)]) (up g [(11, g 11)]) (up A [(17, (A 17)), (18, (A 18)), (19, (A 19)), (20, (A 20)), (21, (A 21))]) (up L [(16, (L 16))])   ) rfl ok_isGood nm_isGood ⟨rfl, rfl⟩ ⟨Nat.le_of_ble_eq_true rfl, Nat.le_of_ble_eq_true rfl⟩ dX12_ask_13 rfl rfl (Nat.le_of_ble_eq_true rfl) ⟨Nat.zero_le _, Nat.zero_le _⟩ (fun r3 σr3 H locs ir3 hp4 hM => ?_)
    obtain ⟨rfl, hp4⟩ := hp4
    unfold inr at ir3
    have hp4 : 0 ≤ r3 ∧ r3 ≤ 1 ∧ (r3 = 1 ↔ (f 5) = 0) := hp4
    refine q_ine (tgt := 20) B dX12_ask_16 (by decide) (by unfold inr; omega) (fun c5 => ?_) (fun c5 => ?_)
    · refine lv_aload_n B.1 B.2.1 dX12_ask_20 rfl (lv_at hl 0 rfl) ?_
      refine m_geta (k := 16) B hM (by decide) rfl fl145 dX12_ask_21 ?_
      refine lv_aload_n B.1 B.2.1 dX12_ask_24 rfl (lv_at hl 0 rfl) ?_
      refine m_get (k := 22) (v := f 22) B hM (by decide) rfl fl415 dX12_ask_25 rfl ?_
      have r6 : (0 : Int) ≤ f 22 ∧ f 22 ≤ 1600 := hM.2.2.2.1 22
      refine lv_aload_n B.1 B.2.1 dX12_ask_28 rfl (lv_at hl 0 rfl) ?_
      refine m_getl (k := 11) B hM (by decide) rfl fl76 dX12_ask_29 rfl ?_
      refine m_lst (k := 16) (i := 5) (n := 1600) B hM rfl rfl rfl (by decide) dX12_ask_32 (by omega) (by omega) (u1_up L [(16, (L 16))] 16 (wr (L 16) (f 22) (g 11))) (fun H locs hM => ?_)
      have hM : MWd D dA h0 ad (mF dA h0 ad (f, g, A, L) s.heap.size) s.heap ((up f [(8, f 8), (9, f 9), (7, f 7), (10, f 10), (5, f 5), (6, f 6), (22, f 22)]), (up g [(11, g 11)]), (up A [(17, (A 17)), (18, (A 18)), (19, (A 19)), (20, (A 20)), (21, (A 21))]), (up L [(16, (wr (L 16) (f 22) (g 11)))])) H locs := hM
      refine lv_aload_n B.1 B.2.1 dX12_ask_33 rfl (lv_at hl 0 rfl) ?_
      refine m_geta (k := 17) B hM (by decide) rfl fl148 dX12_ask_34 ?_
      refine lv_aload_n B.1 B.2.1 dX12_ask_37 rfl (lv_at hl 0 rfl) ?_
      refine m_get (k := 22) (v := f 22) B hM (by decide) rfl fl415 dX12_ask_38 rfl ?_
      refine lv_aload_n B.1 B.2.1 dX12_ask_41 rfl (lv_at hl 0 rfl) ?_
      refine m_get (k := 8) (v := f 8) B hM (by decide) rfl fl59 dX12_ask_42 rfl ?_
      have r7 : (0 : Int) ≤ f 8 ∧ f 8 ≤ 3001 := hM.2.2.2.1 8
      refine m_ist (k := 17) (i := 6) (n := 1600) B hM rfl rfl rfl (by decide) dX12_ask_45 (by omega) (by omega) (show (-2147483648 : Int) ≤ f 8 by omega) (show f 8 ≤ (2147483647 : Int) by omega) (u1_up A [(17, (A 17)), (18, (A 18)), (19, (A 19)), (20, (A 20)), (21, (A 21))] 17 (wr (A 17) (f 22) (f 8))) (fun H locs hM => ?_)
      have hM : MWd D dA h0 ad (mF dA h0 ad (f, g, A, L) s.heap.size) s.heap ((up f [(8, f 8), (9, f 9), (7, f 7), (10, f 10), (5, f 5), (6, f 6), (22, f 22)]), (up g [(11, g 11)]), (up A [(17, (wr (A 17) (f 22) (f 8))), (18, (A 18)), (19, (A 19)), (20, (A 20)), (21, (A 21))]), (up L [(16, (wr (L 16) (f 22) (g 11)))])) H locs := hM
      refine lv_aload_n B.1 B.2.1 dX12_ask_46 rfl (lv_at hl 0 rfl) ?_
      refine m_geta (k := 18) B hM (by decide) rfl fl151 dX12_ask_47 ?_
      refine lv_aload_n B.1 B.2.1 dX12_ask_50 rfl (lv_at hl 0 rfl) ?_
      refine m_get (k := 22) (v := f 22) B hM (by decide) rfl fl415 dX12_ask_51 rfl ?_
      refine lv_iload_n B.1 B.2.1 dX12_ask_54 rfl (lv_at hl 1 rfl) ?_
      refine m_ist (k := 18) (i := 7) (n := 1600) B hM rfl rfl rfl (by decide) dX12_ask_55 (by omega) (by omega) (show (0 : Int) ≤ a_sort by omega) (show a_sort ≤ (5 : Int) by omega) (u1_up A [(17, (wr (A 17) (f 22) (f 8))), (18, (A 18)), (19, (A 19)), (20, (A 20)), (21, (A 21))] 18 (wr (A 18) (f 22) a_sort)) (fun H locs hM => ?_)
      have hM : MWd D dA h0 ad (mF dA h0 ad (f, g, A, L) s.heap.size) s.heap ((up f [(8, f 8), (9, f 9), (7, f 7), (10, f 10), (5, f 5), (6, f 6), (22, f 22)]), (up g [(11, g 11)]), (up A [(17, (wr (A 17) (f 22) (f 8))), (18, (wr (A 18) (f 22) a_sort)), (19, (A 19)), (20, (A 20)), (21, (A 21))]), (up L [(16, (wr (L 16) (f 22) (g 11)))])) H locs := hM
      refine lv_aload_n B.1 B.2.1 dX12_ask_56 rfl (lv_at hl 0 rfl) ?_
      refine m_geta (k := 19) B hM (by decide) rfl fl154 dX12_ask_57 ?_
      refine lv_aload_n B.1 B.2.1 dX12_ask_60 rfl (lv_at hl 0 rfl) ?_
      refine m_get (k := 22) (v := f 22) B hM (by decide) rfl fl415 dX12_ask_61 rfl ?_
      refine lv_iload_n B.1 B.2.1 dX12_ask_64 rfl (lv_at hl 2 rfl) ?_
      refine m_ist (k := 19) (i := 8) (n := 1600) B hM rfl rfl rfl (by decide) dX12_ask_65 (by omega) (by omega) (show (-1 : Int) ≤ a_below by omega) (show a_below ≤ (16 : Int) by omega) (u1_up A [(17, (wr (A 17) (f 22) (f 8))), (18, (wr (A 18) (f 22) a_sort)), (19, (A 19)), (20, (A 20)), (21, (A 21))] 19 (wr (A 19) (f 22) a_below)) (fun H locs hM => ?_)
      have hM : MWd D dA h0 ad (mF dA h0 ad (f, g, A, L) s.heap.size) s.heap ((up f [(8, f 8), (9, f 9), (7, f 7), (10, f 10), (5, f 5), (6, f 6), (22, f 22)]), (up g [(11, g 11)]), (up A [(17, (wr (A 17) (f 22) (f 8))), (18, (wr (A 18) (f 22) a_sort)), (19, (wr (A 19) (f 22) a_below)), (20, (A 20)), (21, (A 21))]), (up L [(16, (wr (L 16) (f 22) (g 11)))])) H locs := hM
      refine lv_aload_n B.1 B.2.1 dX12_ask_66 rfl (lv_at hl 0 rfl) ?_
      refine m_geta (k := 20) B hM (by decide) rfl fl157 dX12_ask_67 ?_
      refine lv_aload_n B.1 B.2.1 dX12_ask_70 rfl (lv_at hl 0 rfl) ?_
      refine m_get (k := 22) (v := f 22) B hM (by decide) rfl fl415 dX12_ask_71 rfl ?_
      refine lv_iload_n B.1 B.2.1 dX12_ask_74 rfl (lv_at hl 3 rfl) ?_
      refine m_ist (k := 20) (i := 9) (n := 1600) B hM rfl rfl rfl (by decide) dX12_ask_75 (by omega) (by omega) (show (0 : Int) ≤ a_row by omega) (show a_row ≤ (5 : Int) by omega) (u1_up A [(17, (wr (A 17) (f 22) (f 8))), (18, (wr (A 18) (f 22) a_sort)), (19, (wr (A 19) (f 22) a_below)), (20, (A 20)), (21, (A 21))] 20 (wr (A 20) (f 22) a_row)) (fun H locs hM => ?_)
      have hM : MWd D dA h0 ad (mF dA h0 ad (f, g, A, L) s.heap.size) s.heap ((up f [(8, f 8), (9, f 9), (7, f 7), (10, f 10), (5, f 5), (6, f 6), (22, f 22)]), (up g [(11, g 11)]), (up A [(17, (wr (A 17) (f 22) (f 8))), (18, (wr (A 18) (f 22) a_sort)), (19, (wr (A 19) (f 22) a_below)), (20, (wr (A 20) (f 22) a_row)), (21, (A 21))]), (up L [(16, (wr (L 16) (f 22) (g 11)))])) H locs := hM
      refine lv_aload_n B.1 B.2.1 dX12_ask_76 rfl (lv_at hl 0 rfl) ?_
      refine m_geta (k := 21) B hM (by decide) rfl fl160 dX12_ask_77 ?_
      refine lv_aload_n B.1 B.2.1 dX12_ask_80 rfl (lv_at hl 0 rfl) ?_
      refine m_get (k := 22) (v := f 22) B hM (by decide) rfl fl415 dX12_ask_81 rfl ?_
      refine lv_iload B.1 B.2.1 dX12_ask_84 (lv_at hl 4 rfl) ?_
      refine m_ist (k := 21) (i := 10) (n := 1600) B hM rfl rfl rfl (by decide) dX12_ask_86 (by omega) (by omega) (show (0 : Int) ≤ a_place by omega) (show a_place ≤ (3199 : Int) by omega) (u1_up A [(17, (wr (A 17) (f 22) (f 8))), (18, (wr (A 18) (f 22) a_sort)), (19, (wr (A 19) (f 22) a_below)), (20, (wr (A 20) (f 22) a_row)), (21, (A 21))] 21 (wr (A 21) (f 22) a_place)) (fun H locs hM => ?_)
      have hM : MWd D dA h0 ad (mF dA h0 ad (f, g, A, L) s.heap.size) s.heap ((up f [(8, f 8), (9, f 9), (7, f 7), (10, f 10), (5, f 5), (6, f 6), (22, f 22)]), (up g [(11, g 11)]), (up A [(17, (wr (A 17) (f 22) (f 8))), (18, (wr (A 18) (f 22) a_sort)), (19, (wr (A 19) (f 22) a_below)), (20, (wr (A 20) (f 22) a_row)), (21, (wr (A 21) (f 22) a_place))]), (up L [(16, (wr (L 16) (f 22) (g 11)))])) H locs := hM
      refine lv_aload_n B.1 B.2.1 dX12_ask_87 rfl (lv_at hl 0 rfl) ?_
      refine lv_dup B.1 B.2.1 dX12_ask_88 rfl ?_
      refine m_get (k := 22) (v := f 22) B hM (by decide) rfl fl415 dX12_ask_89 rfl ?_
      refine q_con B dX12_ask_92 ?_
      refine q_add B dX12_ask_93 ?_
      refine m_put (k := 22) B hM (by decide) rfl fl415 rfl dX12_ask_94 rfl rfl (show (0 : Int) ≤ (f 22) + 1 by omega) (show (f 22) + 1 ≤ (1600 : Int) by omega) (u1_up f [(8, f 8), (9, f 9), (7, f 7), (10, f 10), (5, f 5), (6, f 6), (22, f 22)] 22 ((f 22) + 1)) (fun H locs hM => ?_)
      have hM : MWd D dA h0 ad (mF dA h0 ad (f, g, A, L) s.heap.size) s.heap ((up f [(8, f 8), (9, f 9), (7, f 7), (10, f 10), (5, f 5), (6, f 6), (22, (f 22) + 1)]), (up g [(11, g 11)]), (up A [(17, (wr (A 17) (f 22) (f 8))), (18, (wr (A 18) (f 22) a_sort)), (19, (wr (A 19) (f 22) a_below)), (20, (wr (A 20) (f 22) a_row)), (21, (wr (A 21) (f 22) a_place))]), (up L [(16, (wr (L 16) (f 22) (g 11)))])) H locs := hM
      refine lv_aload_n B.1 B.2.1 dX12_ask_97 rfl (lv_at hl 0 rfl) ?_
      refine m_callv (n := 0) (rest := []) B hM hA hl.1 (k_next l D dA h0 ad (up f [(8, f 8), (9, f 9), (7, f 7), (10, f 10), (5, f 5), (6, f 6), (22, (f 22) + 1)]) (up g [(11, g 11)]) (up A [(17, (wr (A 17) (f 22) (f 8))), (18, (wr (A 18) (f 22) a_sort)), (19, (wr (A 19) (f 22) a_below)), (20, (wr (A 20) (f 22) a_row)), (21, (wr (A 21) (f 22) a_place))]) (up L [(16, (wr (L 16) (f 22) (g 11)))])   (by first | omega | (simp only [wr_at]; omega) | assumption)) rfl ok_next nm_next ⟨rfl, rfl⟩ ⟨Nat.le_of_ble_eq_true rfl, Nat.le_of_ble_eq_true rfl⟩ dX12_ask_98 rfl rfl (Nat.le_of_ble_eq_true rfl) ⟨Nat.zero_le _, Nat.zero_le _⟩ (fun σr8 H locs hp9 hM => ?_)
      obtain ⟨x10, x11, x12, x13, w14, rfl, hp9⟩ := hp9
      have hp9 : ((f 9) ≤ (x10) ∨ (x10) = (f 4)) ∧ (0 ≤ (x10) ∧ (x10) ≤ (f 4) ∧ (x11) ≤ (f 4) + 1 ∧ ((x12) = 0 ↔ (x10) = (f 4)) ∧ (2 ≤ (x12) → (x10) < (x11) ∧ (x11) ≤ (f 4)) ∧ ((x12) = 5 → (x10) + 2 ≤ (x11) ∧ (x11) ≤ (x10) + 32)) := hp9
      simp only [up_up] at hM
      have hM : MWd D dA h0 ad (mF dA h0 ad (f, g, A, L) s.heap.size) s.heap ((up f [(8, x10), (9, x11), (7, x12), (10, x13), (5, f 5), (6, f 6), (22, (f 22) + 1)]), (up g [(11, w14)]), (up A [(17, (wr (A 17) (f 22) (f 8))), (18, (wr (A 18) (f 22) a_sort)), (19, (wr (A 19) (f 22) a_below)), (20, (wr (A 20) (f 22) a_row)), (21, (wr (A 21) (f 22) a_place))]), (up L [(16, (wr (L 16) (f 22) (g 11)))])) H locs := hM
      have r15 : (0 : Int) ≤ x10 ∧ x10 ≤ 3001 := hM.2.2.2.1 8
      have r16 : (0 : Int) ≤ x11 ∧ x11 ≤ 3002 := hM.2.2.2.1 9
      have r17 : (0 : Int) ≤ x12 ∧ x12 ≤ 6 := hM.2.2.2.1 7
      have r18 : (-2147483648 : Int) ≤ x13 ∧ x13 ≤ 2147483647 := hM.2.2.2.1 10
      subst hPST
      exact m_vret B hM dX12_ask_101 ⟨x10, x11, x12, x13, (f 5), (f 6), ((f 22) + 1), w14, ((wr (A 17) (f 22) (f 8))), ((wr (A 18) (f 22) a_sort)), ((wr (A 19) (f 22) a_below)), ((wr (A 20) (f 22) a_row)), ((wr (A 21) (f 22) a_place)), ((wr (L 16) (f 22) (g 11))), rfl, by (first | exact ⟨by omega, by omega, by omega, by omega, by omega, p_11, APe_rfl⟩ | exact ⟨by omega, by omega, fun hfk => ⟨by omega, by omega, by omega, by omega, wr_at _ _ _, wr_at _ _ _⟩, by omega, by omega, AIp_push p_11 (by omega) (by omega), APe_push (by omega)⟩)⟩
    · subst hPST
      exact m_vret B hM dX12_ask_19 ⟨(f 8), (f 9), (f 7), (f 10), (f 5), (f 6), (f 22), (g 11), ((A 17)), ((A 18)), ((A 19)), ((A 20)), ((A 21)), ((L 16)), rfl, by (first | exact ⟨by omega, by omega, by omega, by omega, by omega, p_11, APe_rfl⟩ | exact ⟨by omega, by omega, fun hfk => ⟨by omega, by omega, by omega, by omega, wr_at _ _ _, wr_at _ _ _⟩, by omega, by omega, AIp_push p_11 (by omega) (by omega), APe_push (by omega)⟩)⟩
  · refine lv_aload_n B.1 B.2.1 dX12_ask_8 rfl (lv_at hl 0 rfl) ?_
    refine m_callv (n := 0) (rest := []) B hM hA hl.1 (k_wrong l D dA h0 ad (up f [(8, f 8), (9, f 9), (7, f 7), (10, f 10), (5, f 5), (6, f 6), (22, f 22)]) (up g [(11, g 11)]) (up A [(17, (A 17)), (18, (A 18)), (19, (A 19)), (20, (A 20)), (21, (A 21))]) (up L [(16, (L 16))])   ) rfl ok_wrong nm_wrong ⟨rfl, rfl⟩ ⟨Nat.le_of_ble_eq_true rfl, Nat.le_of_ble_eq_true rfl⟩ dX12_ask_9 rfl rfl (Nat.le_of_ble_eq_true rfl) ⟨Nat.zero_le _, Nat.zero_le _⟩ (fun σr19 H locs hp20 hM => ?_)
    obtain ⟨x21, x22, rfl, hp20⟩ := hp20
    have hp20 : (x21) ≠ 0 := hp20
    simp only [up_up] at hM
    have hM : MWd D dA h0 ad (mF dA h0 ad (f, g, A, L) s.heap.size) s.heap ((up f [(8, f 8), (9, f 9), (7, f 7), (10, f 10), (5, x21), (6, x22), (22, f 22)]), (up g [(11, g 11)]), (up A [(17, (A 17)), (18, (A 18)), (19, (A 19)), (20, (A 20)), (21, (A 21))]), (up L [(16, (L 16))])) H locs := hM
    have r23 : (-2147483648 : Int) ≤ x21 ∧ x21 ≤ 2147483647 := hM.2.2.2.1 5
    have r24 : (-2147483648 : Int) ≤ x22 ∧ x22 ≤ 2147483647 := hM.2.2.2.1 6
    refine lv_aload_n B.1 B.2.1 dX12_ask_12 rfl (lv_at hl 0 rfl) ?_
    refine m_calli (n := 0) (rest := []) B hM hA hl.1 (k_isGood l D dA h0 ad (up f [(8, f 8), (9, f 9), (7, f 7), (10, f 10), (5, x21), (6, x22), (22, f 22)]) (up g [(11, g 11)]) (up A [(17, (A 17)), (18, (A 18)), (19, (A 19)), (20, (A 20)), (21, (A 21))]) (up L [(16, (L 16))])   ) rfl ok_isGood nm_isGood ⟨rfl, rfl⟩ ⟨Nat.le_of_ble_eq_true rfl, Nat.le_of_ble_eq_true rfl⟩ dX12_ask_13 rfl rfl (Nat.le_of_ble_eq_true rfl) ⟨Nat.zero_le _, Nat.zero_le _⟩ (fun r25 σr25 H locs ir25 hp26 hM => ?_)
    obtain ⟨rfl, hp26⟩ := hp26
    unfold inr at ir25
    have hp26 : 0 ≤ r25 ∧ r25 ≤ 1 ∧ (r25 = 1 ↔ (x21) = 0) := hp26
    refine q_ine (tgt := 20) B dX12_ask_16 (by decide) (by unfold inr; omega) (fun c27 => ?_) (fun c27 => ?_)
    · refine lv_aload_n B.1 B.2.1 dX12_ask_20 rfl (lv_at hl 0 rfl) ?_
      refine m_geta (k := 16) B hM (by decide) rfl fl145 dX12_ask_21 ?_
      refine lv_aload_n B.1 B.2.1 dX12_ask_24 rfl (lv_at hl 0 rfl) ?_
      refine m_get (k := 22) (v := f 22) B hM (by decide) rfl fl415 dX12_ask_25 rfl ?_
      have r28 : (0 : Int) ≤ f 22 ∧ f 22 ≤ 1600 := hM.2.2.2.1 22
      refine lv_aload_n B.1 B.2.1 dX12_ask_28 rfl (lv_at hl 0 rfl) ?_
      refine m_getl (k := 11) B hM (by decide) rfl fl76 dX12_ask_29 rfl ?_
      refine m_lst (k := 16) (i := 5) (n := 1600) B hM rfl rfl rfl (by decide) dX12_ask_32 (by omega) (by omega) (u1_up L [(16, (L 16))] 16 (wr (L 16) (f 22) (g 11))) (fun H locs hM => ?_)
      have hM : MWd D dA h0 ad (mF dA h0 ad (f, g, A, L) s.heap.size) s.heap ((up f [(8, f 8), (9, f 9), (7, f 7), (10, f 10), (5, x21), (6, x22), (22, f 22)]), (up g [(11, g 11)]), (up A [(17, (A 17)), (18, (A 18)), (19, (A 19)), (20, (A 20)), (21, (A 21))]), (up L [(16, (wr (L 16) (f 22) (g 11)))])) H locs := hM
      refine lv_aload_n B.1 B.2.1 dX12_ask_33 rfl (lv_at hl 0 rfl) ?_
      refine m_geta (k := 17) B hM (by decide) rfl fl148 dX12_ask_34 ?_
      refine lv_aload_n B.1 B.2.1 dX12_ask_37 rfl (lv_at hl 0 rfl) ?_
      refine m_get (k := 22) (v := f 22) B hM (by decide) rfl fl415 dX12_ask_38 rfl ?_
      refine lv_aload_n B.1 B.2.1 dX12_ask_41 rfl (lv_at hl 0 rfl) ?_
      refine m_get (k := 8) (v := f 8) B hM (by decide) rfl fl59 dX12_ask_42 rfl ?_
      have r29 : (0 : Int) ≤ f 8 ∧ f 8 ≤ 3001 := hM.2.2.2.1 8
      refine m_ist (k := 17) (i := 6) (n := 1600) B hM rfl rfl rfl (by decide) dX12_ask_45 (by omega) (by omega) (show (-2147483648 : Int) ≤ f 8 by omega) (show f 8 ≤ (2147483647 : Int) by omega) (u1_up A [(17, (A 17)), (18, (A 18)), (19, (A 19)), (20, (A 20)), (21, (A 21))] 17 (wr (A 17) (f 22) (f 8))) (fun H locs hM => ?_)
      have hM : MWd D dA h0 ad (mF dA h0 ad (f, g, A, L) s.heap.size) s.heap ((up f [(8, f 8), (9, f 9), (7, f 7), (10, f 10), (5, x21), (6, x22), (22, f 22)]), (up g [(11, g 11)]), (up A [(17, (wr (A 17) (f 22) (f 8))), (18, (A 18)), (19, (A 19)), (20, (A 20)), (21, (A 21))]), (up L [(16, (wr (L 16) (f 22) (g 11)))])) H locs := hM
      refine lv_aload_n B.1 B.2.1 dX12_ask_46 rfl (lv_at hl 0 rfl) ?_
      refine m_geta (k := 18) B hM (by decide) rfl fl151 dX12_ask_47 ?_
      refine lv_aload_n B.1 B.2.1 dX12_ask_50 rfl (lv_at hl 0 rfl) ?_
      refine m_get (k := 22) (v := f 22) B hM (by decide) rfl fl415 dX12_ask_51 rfl ?_
      refine lv_iload_n B.1 B.2.1 dX12_ask_54 rfl (lv_at hl 1 rfl) ?_
      refine m_ist (k := 18) (i := 7) (n := 1600) B hM rfl rfl rfl (by decide) dX12_ask_55 (by omega) (by omega) (show (0 : Int) ≤ a_sort by omega) (show a_sort ≤ (5 : Int) by omega) (u1_up A [(17, (wr (A 17) (f 22) (f 8))), (18, (A 18)), (19, (A 19)), (20, (A 20)), (21, (A 21))] 18 (wr (A 18) (f 22) a_sort)) (fun H locs hM => ?_)
      have hM : MWd D dA h0 ad (mF dA h0 ad (f, g, A, L) s.heap.size) s.heap ((up f [(8, f 8), (9, f 9), (7, f 7), (10, f 10), (5, x21), (6, x22), (22, f 22)]), (up g [(11, g 11)]), (up A [(17, (wr (A 17) (f 22) (f 8))), (18, (wr (A 18) (f 22) a_sort)), (19, (A 19)), (20, (A 20)), (21, (A 21))]), (up L [(16, (wr (L 16) (f 22) (g 11)))])) H locs := hM
      refine lv_aload_n B.1 B.2.1 dX12_ask_56 rfl (lv_at hl 0 rfl) ?_
      refine m_geta (k := 19) B hM (by decide) rfl fl154 dX12_ask_57 ?_
      refine lv_aload_n B.1 B.2.1 dX12_ask_60 rfl (lv_at hl 0 rfl) ?_
      refine m_get (k := 22) (v := f 22) B hM (by decide) rfl fl415 dX12_ask_61 rfl ?_
      refine lv_iload_n B.1 B.2.1 dX12_ask_64 rfl (lv_at hl 2 rfl) ?_
      refine m_ist (k := 19) (i := 8) (n := 1600) B hM rfl rfl rfl (by decide) dX12_ask_65 (by omega) (by omega) (show (-1 : Int) ≤ a_below by omega) (show a_below ≤ (16 : Int) by omega) (u1_up A [(17, (wr (A 17) (f 22) (f 8))), (18, (wr (A 18) (f 22) a_sort)), (19, (A 19)), (20, (A 20)), (21, (A 21))] 19 (wr (A 19) (f 22) a_below)) (fun H locs hM => ?_)
      have hM : MWd D dA h0 ad (mF dA h0 ad (f, g, A, L) s.heap.size) s.heap ((up f [(8, f 8), (9, f 9), (7, f 7), (10, f 10), (5, x21), (6, x22), (22, f 22)]), (up g [(11, g 11)]), (up A [(17, (wr (A 17) (f 22) (f 8))), (18, (wr (A 18) (f 22) a_sort)), (19, (wr (A 19) (f 22) a_below)), (20, (A 20)), (21, (A 21))]), (up L [(16, (wr (L 16) (f 22) (g 11)))])) H locs := hM
      refine lv_aload_n B.1 B.2.1 dX12_ask_66 rfl (lv_at hl 0 rfl) ?_
      refine m_geta (k := 20) B hM (by decide) rfl fl157 dX12_ask_67 ?_
      refine lv_aload_n B.1 B.2.1 dX12_ask_70 rfl (lv_at hl 0 rfl) ?_
      refine m_get (k := 22) (v := f 22) B hM (by decide) rfl fl415 dX12_ask_71 rfl ?_
      refine lv_iload_n B.1 B.2.1 dX12_ask_74 rfl (lv_at hl 3 rfl) ?_
      refine m_ist (k := 20) (i := 9) (n := 1600) B hM rfl rfl rfl (by decide) dX12_ask_75 (by omega) (by omega) (show (0 : Int) ≤ a_row by omega) (show a_row ≤ (5 : Int) by omega) (u1_up A [(17, (wr (A 17) (f 22) (f 8))), (18, (wr (A 18) (f 22) a_sort)), (19, (wr (A 19) (f 22) a_below)), (20, (A 20)), (21, (A 21))] 20 (wr (A 20) (f 22) a_row)) (fun H locs hM => ?_)
      have hM : MWd D dA h0 ad (mF dA h0 ad (f, g, A, L) s.heap.size) s.heap ((up f [(8, f 8), (9, f 9), (7, f 7), (10, f 10), (5, x21), (6, x22), (22, f 22)]), (up g [(11, g 11)]), (up A [(17, (wr (A 17) (f 22) (f 8))), (18, (wr (A 18) (f 22) a_sort)), (19, (wr (A 19) (f 22) a_below)), (20, (wr (A 20) (f 22) a_row)), (21, (A 21))]), (up L [(16, (wr (L 16) (f 22) (g 11)))])) H locs := hM
      refine lv_aload_n B.1 B.2.1 dX12_ask_76 rfl (lv_at hl 0 rfl) ?_
      refine m_geta (k := 21) B hM (by decide) rfl fl160 dX12_ask_77 ?_
      refine lv_aload_n B.1 B.2.1 dX12_ask_80 rfl (lv_at hl 0 rfl) ?_
      refine m_get (k := 22) (v := f 22) B hM (by decide) rfl fl415 dX12_ask_81 rfl ?_
      refine lv_iload B.1 B.2.1 dX12_ask_84 (lv_at hl 4 rfl) ?_
      refine m_ist (k := 21) (i := 10) (n := 1600) B hM rfl rfl rfl (by decide) dX12_ask_86 (by omega) (by omega) (show (0 : Int) ≤ a_place by omega) (show a_place ≤ (3199 : Int) by omega) (u1_up A [(17, (wr (A 17) (f 22) (f 8))), (18, (wr (A 18) (f 22) a_sort)), (19, (wr (A 19) (f 22) a_below)), (20, (wr (A 20) (f 22) a_row)), (21, (A 21))] 21 (wr (A 21) (f 22) a_place)) (fun H locs hM => ?_)
      have hM : MWd D dA h0 ad (mF dA h0 ad (f, g, A, L) s.heap.size) s.heap ((up f [(8, f 8), (9, f 9), (7, f 7), (10, f 10), (5, x21), (6, x22), (22, f 22)]), (up g [(11, g 11)]), (up A [(17, (wr (A 17) (f 22) (f 8))), (18, (wr (A 18) (f 22) a_sort)), (19, (wr (A 19) (f 22) a_below)), (20, (wr (A 20) (f 22) a_row)), (21, (wr (A 21) (f 22) a_place))]), (up L [(16, (wr (L 16) (f 22) (g 11)))])) H locs := hM
      refine lv_aload_n B.1 B.2.1 dX12_ask_87 rfl (lv_at hl 0 rfl) ?_
      refine lv_dup B.1 B.2.1 dX12_ask_88 rfl ?_
      refine m_get (k := 22) (v := f 22) B hM (by decide) rfl fl415 dX12_ask_89 rfl ?_
      refine q_con B dX12_ask_92 ?_
      refine q_add B dX12_ask_93 ?_
      refine m_put (k := 22) B hM (by decide) rfl fl415 rfl dX12_ask_94 rfl rfl (show (0 : Int) ≤ (f 22) + 1 by omega) (show (f 22) + 1 ≤ (1600 : Int) by omega) (u1_up f [(8, f 8), (9, f 9), (7, f 7), (10, f 10), (5, x21), (6, x22), (22, f 22)] 22 ((f 22) + 1)) (fun H locs hM => ?_)
      have hM : MWd D dA h0 ad (mF dA h0 ad (f, g, A, L) s.heap.size) s.heap ((up f [(8, f 8), (9, f 9), (7, f 7), (10, f 10), (5, x21), (6, x22), (22, (f 22) + 1)]), (up g [(11, g 11)]), (up A [(17, (wr (A 17) (f 22) (f 8))), (18, (wr (A 18) (f 22) a_sort)), (19, (wr (A 19) (f 22) a_below)), (20, (wr (A 20) (f 22) a_row)), (21, (wr (A 21) (f 22) a_place))]), (up L [(16, (wr (L 16) (f 22) (g 11)))])) H locs := hM
      refine lv_aload_n B.1 B.2.1 dX12_ask_97 rfl (lv_at hl 0 rfl) ?_
      refine m_callv (n := 0) (rest := []) B hM hA hl.1 (k_next l D dA h0 ad (up f [(8, f 8), (9, f 9), (7, f 7), (10, f 10), (5, x21), (6, x22), (22, (f 22) + 1)]) (up g [(11, g 11)]) (up A [(17, (wr (A 17) (f 22) (f 8))), (18, (wr (A 18) (f 22) a_sort)), (19, (wr (A 19) (f 22) a_below)), (20, (wr (A 20) (f 22) a_row)), (21, (wr (A 21) (f 22) a_place))]) (up L [(16, (wr (L 16) (f 22) (g 11)))])   (by first | omega | (simp only [wr_at]; omega) | assumption)) rfl ok_next nm_next ⟨rfl, rfl⟩ ⟨Nat.le_of_ble_eq_true rfl, Nat.le_of_ble_eq_true rfl⟩ dX12_ask_98 rfl rfl (Nat.le_of_ble_eq_true rfl) ⟨Nat.zero_le _, Nat.zero_le _⟩ (fun σr30 H locs hp31 hM => ?_)
      obtain ⟨x32, x33, x34, x35, w36, rfl, hp31⟩ := hp31
      have hp31 : ((f 9) ≤ (x32) ∨ (x32) = (f 4)) ∧ (0 ≤ (x32) ∧ (x32) ≤ (f 4) ∧ (x33) ≤ (f 4) + 1 ∧ ((x34) = 0 ↔ (x32) = (f 4)) ∧ (2 ≤ (x34) → (x32) < (x33) ∧ (x33) ≤ (f 4)) ∧ ((x34) = 5 → (x32) + 2 ≤ (x33) ∧ (x33) ≤ (x32) + 32)) := hp31
      simp only [up_up] at hM
      have hM : MWd D dA h0 ad (mF dA h0 ad (f, g, A, L) s.heap.size) s.heap ((up f [(8, x32), (9, x33), (7, x34), (10, x35), (5, x21), (6, x22), (22, (f 22) + 1)]), (up g [(11, w36)]), (up A [(17, (wr (A 17) (f 22) (f 8))), (18, (wr (A 18) (f 22) a_sort)), (19, (wr (A 19) (f 22) a_below)), (20, (wr (A 20) (f 22) a_row)), (21, (wr (A 21) (f 22) a_place))]), (up L [(16, (wr (L 16) (f 22) (g 11)))])) H locs := hM
      have r37 : (0 : Int) ≤ x32 ∧ x32 ≤ 3001 := hM.2.2.2.1 8
      have r38 : (0 : Int) ≤ x33 ∧ x33 ≤ 3002 := hM.2.2.2.1 9
      have r39 : (0 : Int) ≤ x34 ∧ x34 ≤ 6 := hM.2.2.2.1 7
      have r40 : (-2147483648 : Int) ≤ x35 ∧ x35 ≤ 2147483647 := hM.2.2.2.1 10
      subst hPST
      exact m_vret B hM dX12_ask_101 ⟨x32, x33, x34, x35, x21, x22, ((f 22) + 1), w36, ((wr (A 17) (f 22) (f 8))), ((wr (A 18) (f 22) a_sort)), ((wr (A 19) (f 22) a_below)), ((wr (A 20) (f 22) a_row)), ((wr (A 21) (f 22) a_place)), ((wr (L 16) (f 22) (g 11))), rfl, by (first | exact ⟨by omega, by omega, by omega, by omega, by omega, p_11, APe_rfl⟩ | exact ⟨by omega, by omega, fun hfk => ⟨by omega, by omega, by omega, by omega, wr_at _ _ _, wr_at _ _ _⟩, by omega, by omega, AIp_push p_11 (by omega) (by omega), APe_push (by omega)⟩)⟩
    · subst hPST
      exact m_vret B hM dX12_ask_19 ⟨(f 8), (f 9), (f 7), (f 10), x21, x22, (f 22), (g 11), ((A 17)), ((A 18)), ((A 19)), ((A 20)), ((A 21)), ((L 16)), rfl, by (first | exact ⟨by omega, by omega, by omega, by omega, by omega, p_11, APe_rfl⟩ | exact ⟨by omega, by omega, fun hfk => ⟨by omega, by omega, by omega, by omega, wr_at _ _ _, wr_at _ _ _⟩, by omega, by omega, AIp_push p_11 (by omega) (by omega), APe_push (by omega)⟩)⟩
