set_option maxHeartbeats 4000000 in
set_option maxRecDepth 20000 in
theorem k_sign (l : Launch) (D : va_G) (dA : Nat → ClassId) (h0 : Nat) (ad : Nat → Nat) (f : Nat → Int) (g : Nat → Int64) (A : Nat → Nat → Int) (L : Nat → Nat → Int64) (a_k : Int) (i_k : (-2147483648 : Int) ≤ a_k ∧ a_k ≤ 2147483647) (p_0 : 0 ≤ (a_k)) (p_1 : (a_k) ≤ 100000) : MCi l yX12_sign cX12_sign 2 (some .int) ({ frames := 0, cells := 0, slots := 0, locals := 0 }) D dA h0 ad (f, g, A, L) [.int (II a_k)] (fun (r : Int) (σ : MS) => σ = (f, g, A, L) ∧ (r = sgn ((A 2)) (f 3) (f 4) (a_k) ∧ 0 ≤ r ∧ r ≤ 255 ∧ (r ≠ 0 → (a_k) < (f 4)))) := by
  generalize hPST : (fun (r : Int) (σ : MS) => σ = (f, g, A, L) ∧ (r = sgn ((A 2)) (f 3) (f 4) (a_k) ∧ 0 ≤ r ∧ r ≤ 255 ∧ (r ≠ 0 → (a_k) < (f 4)))) = PST
  refine m_enter (by decide) rfl (Nat.le_of_ble_eq_true rfl) (fun p e s m args below meth c ls B hM hl => ?_)
  have hA : ∀ q, s.heap.size ≤ q → mF dA h0 ad (f, g, A, L) s.heap.size q := fun q h => Or.inr h
  have hl : lv_has ls 2 [(0, .ref h0), (1, .int (II a_k))] := hl
  have r1 : (0 : Int) ≤ f 3 ∧ f 3 ≤ 1 := hM.2.2.2.1 3
  have r2 : (0 : Int) ≤ f 4 ∧ f 4 ≤ 3000 := hM.2.2.2.1 4
  refine lv_iload_n B.1 B.2.1 dX12_sign_0 rfl (lv_at hl 1 rfl) ?_
  refine lv_aload_n B.1 B.2.1 dX12_sign_1 rfl (lv_at hl 0 rfl) ?_
  refine m_get (k := 4) (v := f 4) B hM (by decide) rfl fl1 dX12_sign_2 rfl ?_
  refine q_cge (tgt := 30) B dX12_sign_5 (by decide) (by unfold inr; omega) (by unfold inr; omega) (fun c3 => ?_) (fun c3 => ?_)
  · refine q_con B dX12_sign_30 ?_
    subst hPST
    exact m_iret B hM dX12_sign_31 (by unfold inr; omega) ⟨rfl, by first | (refine ⟨(sgn_ge (by omega)).symm, ?_⟩; omega) | (refine ⟨(sgn_lt (by omega)).symm, ?_⟩; omega)⟩
  · refine lv_aload_n B.1 B.2.1 dX12_sign_8 rfl (lv_at hl 0 rfl) ?_
    refine m_geta (k := 2) B hM (by decide) rfl fl7 dX12_sign_9 ?_
    refine q_sip B dX12_sign_12 (by decide) ?_
    refine lv_aload_n B.1 B.2.1 dX12_sign_15 rfl (lv_at hl 0 rfl) ?_
    refine m_get (k := 3) (v := f 3) B hM (by decide) rfl fl11 dX12_sign_16 rfl ?_
    refine q_mul B dX12_sign_19 ?_
    refine lv_iload_n B.1 B.2.1 dX12_sign_20 rfl (lv_at hl 1 rfl) ?_
    refine q_add B dX12_sign_21 ?_
    refine m_bld (k := 2) (i := 1) (n := 6000) (z := (3000 * (f 3)) + a_k) (v := (A 2) ((3000 * (f 3)) + a_k).toNat) B hM rfl rfl rfl (by decide) dX12_sign_22 (by omega) (by omega) rfl ?_
    have r4 : (-128 : Int) ≤ (A 2) ((3000 * (f 3)) + a_k).toNat ∧ (A 2) ((3000 * (f 3)) + a_k).toNat ≤ 127 := hM.2.2.2.2 2 ((3000 * (f 3)) + a_k).toNat
    refine q_sip B dX12_sign_23 (by decide) ?_
    refine q_and255 B dX12_sign_26 ?_
    refine lv_goto (tgt := 31) B.1 B.2.1 dX12_sign_27 (by decide) ?_
    subst hPST
    exact m_iret B hM dX12_sign_31 (by unfold inr; omega) ⟨rfl, by first | (refine ⟨(sgn_ge (by omega)).symm, ?_⟩; omega) | (refine ⟨(sgn_lt (by omega)).symm, ?_⟩; omega)⟩
set_option maxHeartbeats 4000000 in
set_option maxRecDepth 20000 in
theorem k_isLetter (l : Launch) (D : va_G) (dA : Nat → ClassId) (a_c : Int) (i_c : (-2147483648 : Int) ≤ a_c ∧ a_c ≤ 2147483647) : SCi l yX12_isLetter cX12_isLetter 1 (some .boolean) ({ frames := 0, cells := 0, slots := 0, locals := 0 }) D dA [.int (II a_c)] (fun r => (r = 1 ↔ 97 ≤ (a_c) ∧ (a_c) ≤ 122) ∧ 0 ≤ r ∧ r ≤ 1) := by
  refine s_start (by decide) rfl (Nat.le_of_ble_eq_true rfl) (fun p e s m args below meth c ls B hl => ?_)
  have hl : lv_has ls 1 [(0, .int (II a_c))] := hl
  refine lv_iload_n B.1 B.2.1 dX12_isLetter_0 rfl (lv_at hl 0 rfl) ?_
  refine q_bip B dX12_isLetter_1 (by decide) ?_
  refine q_clt (tgt := 16) B dX12_isLetter_3 (by decide) (by unfold inr; omega) (by unfold inr; omega) (fun c1 => ?_) (fun c1 => ?_)
  · refine q_con B dX12_isLetter_16 ?_
    exact s_zret B dX12_isLetter_17 (by omega) (by (exact ⟨by first | omega | (simp only [wr_at]; omega) | assumption, by first | omega | (simp only [wr_at]; omega) | assumption, by first | omega | (simp only [wr_at]; omega) | assumption⟩))
  · refine lv_iload_n B.1 B.2.1 dX12_isLetter_6 rfl (lv_at hl 0 rfl) ?_
    refine q_bip B dX12_isLetter_7 (by decide) ?_
    refine q_cgt (tgt := 16) B dX12_isLetter_9 (by decide) (by unfold inr; omega) (by unfold inr; omega) (fun c2 => ?_) (fun c2 => ?_)
    · refine q_con B dX12_isLetter_16 ?_
      exact s_zret B dX12_isLetter_17 (by omega) (by (exact ⟨by first | omega | (simp only [wr_at]; omega) | assumption, by first | omega | (simp only [wr_at]; omega) | assumption, by first | omega | (simp only [wr_at]; omega) | assumption⟩))
    · refine q_con B dX12_isLetter_12 ?_
      refine lv_goto (tgt := 17) B.1 B.2.1 dX12_isLetter_13 (by decide) ?_
      exact s_zret B dX12_isLetter_17 (by omega) (by (exact ⟨by first | omega | (simp only [wr_at]; omega) | assumption, by first | omega | (simp only [wr_at]; omega) | assumption, by first | omega | (simp only [wr_at]; omega) | assumption⟩))
set_option maxHeartbeats 4000000 in
set_option maxRecDepth 20000 in
theorem k_isDigit (l : Launch) (D : va_G) (dA : Nat → ClassId) (a_c : Int) (i_c : (-2147483648 : Int) ≤ a_c ∧ a_c ≤ 2147483647) : SCi l yX12_isDigit cX12_isDigit 1 (some .boolean) ({ frames := 0, cells := 0, slots := 0, locals := 0 }) D dA [.int (II a_c)] (fun r => (r = 1 ↔ 48 ≤ (a_c) ∧ (a_c) ≤ 57) ∧ 0 ≤ r ∧ r ≤ 1) := by
  refine s_start (by decide) rfl (Nat.le_of_ble_eq_true rfl) (fun p e s m args below meth c ls B hl => ?_)
  have hl : lv_has ls 1 [(0, .int (II a_c))] := hl
  refine lv_iload_n B.1 B.2.1 dX12_isDigit_0 rfl (lv_at hl 0 rfl) ?_
  refine q_bip B dX12_isDigit_1 (by decide) ?_
  refine q_clt (tgt := 16) B dX12_isDigit_3 (by decide) (by unfold inr; omega) (by unfold inr; omega) (fun c1 => ?_) (fun c1 => ?_)
  · refine q_con B dX12_isDigit_16 ?_
    exact s_zret B dX12_isDigit_17 (by omega) (by (exact ⟨by first | omega | (simp only [wr_at]; omega) | assumption, by first | omega | (simp only [wr_at]; omega) | assumption, by first | omega | (simp only [wr_at]; omega) | assumption⟩))
  · refine lv_iload_n B.1 B.2.1 dX12_isDigit_6 rfl (lv_at hl 0 rfl) ?_
    refine q_bip B dX12_isDigit_7 (by decide) ?_
    refine q_cgt (tgt := 16) B dX12_isDigit_9 (by decide) (by unfold inr; omega) (by unfold inr; omega) (fun c2 => ?_) (fun c2 => ?_)
    · refine q_con B dX12_isDigit_16 ?_
      exact s_zret B dX12_isDigit_17 (by omega) (by (exact ⟨by first | omega | (simp only [wr_at]; omega) | assumption, by first | omega | (simp only [wr_at]; omega) | assumption, by first | omega | (simp only [wr_at]; omega) | assumption⟩))
    · refine q_con B dX12_isDigit_12 ?_
      refine lv_goto (tgt := 17) B.1 B.2.1 dX12_isDigit_13 (by decide) ?_
      exact s_zret B dX12_isDigit_17 (by omega) (by (exact ⟨by first | omega | (simp only [wr_at]; omega) | assumption, by first | omega | (simp only [wr_at]; omega) | assumption, by first | omega | (simp only [wr_at]; omega) | assumption⟩))
set_option maxHeartbeats 4000000 in
set_option maxRecDepth 20000 in
theorem k_isGood (l : Launch) (D : va_G) (dA : Nat → ClassId) (h0 : Nat) (ad : Nat → Nat) (f : Nat → Int) (g : Nat → Int64) (A : Nat → Nat → Int) (L : Nat → Nat → Int64) : MCi l yX12_isGood cX12_isGood 1 (some .boolean) ({ frames := 0, cells := 0, slots := 0, locals := 0 }) D dA h0 ad (f, g, A, L) [] (fun (r : Int) (σ : MS) => σ = (f, g, A, L) ∧ (0 ≤ r ∧ r ≤ 1 ∧ (r = 1 ↔ (f 5) = 0))) := by
  generalize hPST : (fun (r : Int) (σ : MS) => σ = (f, g, A, L) ∧ (0 ≤ r ∧ r ≤ 1 ∧ (r = 1 ↔ (f 5) = 0))) = PST
  refine m_enter (by decide) rfl (Nat.le_of_ble_eq_true rfl) (fun p e s m args below meth c ls B hM hl => ?_)
  have hA : ∀ q, s.heap.size ≤ q → mF dA h0 ad (f, g, A, L) s.heap.size q := fun q h => Or.inr h
  have hl : lv_has ls 1 [(0, .ref h0)] := hl
  refine lv_aload_n B.1 B.2.1 dX12_isGood_0 rfl (lv_at hl 0 rfl) ?_
  refine m_get (k := 5) (v := f 5) B hM (by decide) rfl fl14 dX12_isGood_1 rfl ?_
  have r1 : (-2147483648 : Int) ≤ f 5 ∧ f 5 ≤ 2147483647 := hM.2.2.2.1 5
  refine q_ine (tgt := 11) B dX12_isGood_4 (by decide) (by unfold inr; omega) (fun c2 => ?_) (fun c2 => ?_)
  · refine q_con B dX12_isGood_11 ?_
    subst hPST
    exact m_zret B hM dX12_isGood_12 (by omega) ⟨rfl, by (exact ⟨by first | omega | (simp only [wr_at]; omega) | assumption, by first | omega | (simp only [wr_at]; omega) | assumption, by first | omega | (simp only [wr_at]; omega) | assumption⟩)⟩
  · refine q_con B dX12_isGood_7 ?_
    refine lv_goto (tgt := 12) B.1 B.2.1 dX12_isGood_8 (by decide) ?_
    subst hPST
    exact m_zret B hM dX12_isGood_12 (by omega) ⟨rfl, by (exact ⟨by first | omega | (simp only [wr_at]; omega) | assumption, by first | omega | (simp only [wr_at]; omega) | assumption, by first | omega | (simp only [wr_at]; omega) | assumption⟩)⟩
set_option maxHeartbeats 4000000 in
set_option maxRecDepth 20000 in
theorem k_fails (l : Launch) (D : va_G) (dA : Nat → ClassId) (h0 : Nat) (ad : Nat → Nat) (f : Nat → Int) (g : Nat → Int64) (A : Nat → Nat → Int) (L : Nat → Nat → Int64) (a_kind : Int) (a_place : Int) (i_kind : (-2147483648 : Int) ≤ a_kind ∧ a_kind ≤ 2147483647) (i_place : (-2147483648 : Int) ≤ a_place ∧ a_place ≤ 2147483647) : MCi l yX12_fails cX12_fails 3 (some .boolean) ({ frames := 0, cells := 0, slots := 0, locals := 0 }) D dA h0 ad (f, g, A, L) [.int (II a_kind), .int (II a_place)] (fun (r : Int) (σ : MS) => ∃ n5 : Int, ∃ n6 : Int, σ = ((up f [(5, n5), (6, n6)]), g, A, L) ∧ (r = 0 ∧ ((f 5) ≠ 0 → (n5) = (f 5)) ∧ ((f 5) = 0 → (n5) = (a_kind)))) := by
  generalize hPST : (fun (r : Int) (σ : MS) => ∃ n5 : Int, ∃ n6 : Int, σ = ((up f [(5, n5), (6, n6)]), g, A, L) ∧ (r = 0 ∧ ((f 5) ≠ 0 → (n5) = (f 5)) ∧ ((f 5) = 0 → (n5) = (a_kind)))) = PST
  refine m_enter (by decide) rfl (Nat.le_of_ble_eq_true rfl) (fun p e s m args below meth c ls B hM hl => ?_)
  have hA : ∀ q, s.heap.size ≤ q → mF dA h0 ad (f, g, A, L) s.heap.size q := fun q h => Or.inr h
  have hM : MWd D dA h0 ad (mF dA h0 ad (f, g, A, L) s.heap.size) s.heap ((up f [(5, f 5), (6, f 6)]), g, A, L) s.heap [] := MW_pad hM (up_self f [5, 6]) rfl rfl rfl
  have hl : lv_has ls 3 [(0, .ref h0), (1, .int (II a_kind)), (2, .int (II a_place))] := hl
  refine lv_aload_n B.1 B.2.1 dX12_fails_0 rfl (lv_at hl 0 rfl) ?_
  refine m_get (k := 5) (v := f 5) B hM (by decide) rfl fl14 dX12_fails_1 rfl ?_
  have r1 : (-2147483648 : Int) ≤ f 5 ∧ f 5 ≤ 2147483647 := hM.2.2.2.1 5
  refine q_ine (tgt := 17) B dX12_fails_4 (by decide) (by unfold inr; omega) (fun c2 => ?_) (fun c2 => ?_)
  · refine q_con B dX12_fails_17 ?_
    subst hPST
    exact m_zret B hM dX12_fails_18 (by omega) ⟨(f 5), (f 6), rfl, by (exact ⟨by first | omega | (simp only [wr_at]; omega) | assumption, by first | omega | (simp only [wr_at]; omega) | assumption, by first | omega | (simp only [wr_at]; omega) | assumption⟩)⟩
  · refine lv_aload_n B.1 B.2.1 dX12_fails_7 rfl (lv_at hl 0 rfl) ?_
    refine lv_iload_n B.1 B.2.1 dX12_fails_8 rfl (lv_at hl 1 rfl) ?_
    refine m_put (k := 5) B hM (by decide) rfl fl14 rfl dX12_fails_9 rfl rfl (show (-2147483648 : Int) ≤ a_kind from by first | omega | (simp only [wr_at]; omega)) (show a_kind ≤ (2147483647 : Int) from by first | omega | (simp only [wr_at]; omega)) (u1_up f [(5, f 5), (6, f 6)] 5 a_kind) (fun H locs hM => ?_)
    replace hM : MWd D dA h0 ad (mF dA h0 ad (f, g, A, L) s.heap.size) s.heap ((up f [(5, a_kind), (6, f 6)]), g, A, L) H locs := hM
    refine lv_aload_n B.1 B.2.1 dX12_fails_12 rfl (lv_at hl 0 rfl) ?_
    refine lv_iload_n B.1 B.2.1 dX12_fails_13 rfl (lv_at hl 2 rfl) ?_
    refine m_put (k := 6) B hM (by decide) rfl fl17 rfl dX12_fails_14 rfl rfl (show (-2147483648 : Int) ≤ a_place from by first | omega | (simp only [wr_at]; omega)) (show a_place ≤ (2147483647 : Int) from by first | omega | (simp only [wr_at]; omega)) (u1_up f [(5, a_kind), (6, f 6)] 6 a_place) (fun H locs hM => ?_)
    replace hM : MWd D dA h0 ad (mF dA h0 ad (f, g, A, L) s.heap.size) s.heap ((up f [(5, a_kind), (6, a_place)]), g, A, L) H locs := hM
    refine q_con B dX12_fails_17 ?_
    subst hPST
    exact m_zret B hM dX12_fails_18 (by omega) ⟨a_kind, a_place, rfl, by (exact ⟨by first | omega | (simp only [wr_at]; omega) | assumption, by first | omega | (simp only [wr_at]; omega) | assumption, by first | omega | (simp only [wr_at]; omega) | assumption⟩)⟩
set_option maxHeartbeats 4000000 in
set_option maxRecDepth 20000 in
theorem k_isKept (l : Launch) (D : va_G) (dA : Nat → ClassId) (a_v : Int64) : SCi l yX12_isKept cX12_isKept 2 (some .boolean) ({ frames := 0, cells := 0, slots := 0, locals := 0 }) D dA [.long a_v] (fun r => 0 ≤ r ∧ r ≤ 1) := by
  refine s_start (by decide) rfl (Nat.le_of_ble_eq_true rfl) (fun p e s m args below meth c ls B hl => ?_)
  have hl : lv_has ls 2 [(0, .long a_v)] := hl
  refine lv_lload_n B.1 B.2.1 dX12_isKept_0 rfl (lv_at hl 0 rfl) ?_
  refine lv_ldc2 B.1 B.2.1 B.2.2.2.1 (B.2.2.2.2.1 _ lc20) dX12_isKept_1 ?_
  refine q_lcmp B dX12_isKept_4 (fun x1 lx1 ux1 ex1 => ?_)
  refine q_ieq (tgt := 80) B dX12_isKept_5 (by decide) (by unfold inr; omega) (fun c2 => ?_) (fun c2 => ?_)
  · refine q_con B dX12_isKept_80 ?_
    refine lv_goto (tgt := 85) B.1 B.2.1 dX12_isKept_81 (by decide) ?_
    exact s_zret B dX12_isKept_85 (by omega) (by (exact ⟨by first | omega | (simp only [wr_at]; omega) | assumption, by first | omega | (simp only [wr_at]; omega) | assumption⟩))
  · refine lv_lload_n B.1 B.2.1 dX12_isKept_8 rfl (lv_at hl 0 rfl) ?_
    refine lv_ldc2 B.1 B.2.1 B.2.2.2.1 (B.2.2.2.2.1 _ lc22) dX12_isKept_9 ?_
    refine q_lcmp B dX12_isKept_12 (fun x3 lx3 ux3 ex3 => ?_)
    refine q_ieq (tgt := 80) B dX12_isKept_13 (by decide) (by unfold inr; omega) (fun c4 => ?_) (fun c4 => ?_)
    · refine q_con B dX12_isKept_80 ?_
      refine lv_goto (tgt := 85) B.1 B.2.1 dX12_isKept_81 (by decide) ?_
      exact s_zret B dX12_isKept_85 (by omega) (by (exact ⟨by first | omega | (simp only [wr_at]; omega) | assumption, by first | omega | (simp only [wr_at]; omega) | assumption⟩))
    · refine lv_lload_n B.1 B.2.1 dX12_isKept_16 rfl (lv_at hl 0 rfl) ?_
      refine lv_ldc2 B.1 B.2.1 B.2.2.2.1 (B.2.2.2.2.1 _ lc24) dX12_isKept_17 ?_
      refine q_lcmp B dX12_isKept_20 (fun x5 lx5 ux5 ex5 => ?_)
      refine q_ieq (tgt := 80) B dX12_isKept_21 (by decide) (by unfold inr; omega) (fun c6 => ?_) (fun c6 => ?_)
      · refine q_con B dX12_isKept_80 ?_
        refine lv_goto (tgt := 85) B.1 B.2.1 dX12_isKept_81 (by decide) ?_
        exact s_zret B dX12_isKept_85 (by omega) (by (exact ⟨by first | omega | (simp only [wr_at]; omega) | assumption, by first | omega | (simp only [wr_at]; omega) | assumption⟩))
      · refine lv_lload_n B.1 B.2.1 dX12_isKept_24 rfl (lv_at hl 0 rfl) ?_
        refine lv_ldc2 B.1 B.2.1 B.2.2.2.1 (B.2.2.2.2.1 _ lc26) dX12_isKept_25 ?_
        refine q_lcmp B dX12_isKept_28 (fun x7 lx7 ux7 ex7 => ?_)
        refine q_ieq (tgt := 80) B dX12_isKept_29 (by decide) (by unfold inr; omega) (fun c8 => ?_) (fun c8 => ?_)
        · refine q_con B dX12_isKept_80 ?_
          refine lv_goto (tgt := 85) B.1 B.2.1 dX12_isKept_81 (by decide) ?_
          exact s_zret B dX12_isKept_85 (by omega) (by (exact ⟨by first | omega | (simp only [wr_at]; omega) | assumption, by first | omega | (simp only [wr_at]; omega) | assumption⟩))
        · refine lv_lload_n B.1 B.2.1 dX12_isKept_32 rfl (lv_at hl 0 rfl) ?_
          refine lv_ldc2 B.1 B.2.1 B.2.2.2.1 (B.2.2.2.2.1 _ lc28) dX12_isKept_33 ?_
          refine q_lcmp B dX12_isKept_36 (fun x9 lx9 ux9 ex9 => ?_)
          refine q_ieq (tgt := 80) B dX12_isKept_37 (by decide) (by unfold inr; omega) (fun c10 => ?_) (fun c10 => ?_)
          · refine q_con B dX12_isKept_80 ?_
            refine lv_goto (tgt := 85) B.1 B.2.1 dX12_isKept_81 (by decide) ?_
            exact s_zret B dX12_isKept_85 (by omega) (by (exact ⟨by first | omega | (simp only [wr_at]; omega) | assumption, by first | omega | (simp only [wr_at]; omega) | assumption⟩))
          · refine lv_lload_n B.1 B.2.1 dX12_isKept_40 rfl (lv_at hl 0 rfl) ?_
            refine lv_ldc2 B.1 B.2.1 B.2.2.2.1 (B.2.2.2.2.1 _ lc30) dX12_isKept_41 ?_
            refine q_lcmp B dX12_isKept_44 (fun x11 lx11 ux11 ex11 => ?_)
            refine q_ieq (tgt := 80) B dX12_isKept_45 (by decide) (by unfold inr; omega) (fun c12 => ?_) (fun c12 => ?_)
            · refine q_con B dX12_isKept_80 ?_
              refine lv_goto (tgt := 85) B.1 B.2.1 dX12_isKept_81 (by decide) ?_
              exact s_zret B dX12_isKept_85 (by omega) (by (exact ⟨by first | omega | (simp only [wr_at]; omega) | assumption, by first | omega | (simp only [wr_at]; omega) | assumption⟩))
            · refine lv_lload_n B.1 B.2.1 dX12_isKept_48 rfl (lv_at hl 0 rfl) ?_
              refine lv_ldc2 B.1 B.2.1 B.2.2.2.1 (B.2.2.2.2.1 _ lc32) dX12_isKept_49 ?_
              refine q_lcmp B dX12_isKept_52 (fun x13 lx13 ux13 ex13 => ?_)
              refine q_ieq (tgt := 80) B dX12_isKept_53 (by decide) (by unfold inr; omega) (fun c14 => ?_) (fun c14 => ?_)
              · refine q_con B dX12_isKept_80 ?_
                refine lv_goto (tgt := 85) B.1 B.2.1 dX12_isKept_81 (by decide) ?_
                exact s_zret B dX12_isKept_85 (by omega) (by (exact ⟨by first | omega | (simp only [wr_at]; omega) | assumption, by first | omega | (simp only [wr_at]; omega) | assumption⟩))
              · refine lv_lload_n B.1 B.2.1 dX12_isKept_56 rfl (lv_at hl 0 rfl) ?_
                refine lv_ldc2 B.1 B.2.1 B.2.2.2.1 (B.2.2.2.2.1 _ lc34) dX12_isKept_57 ?_
                refine q_lcmp B dX12_isKept_60 (fun x15 lx15 ux15 ex15 => ?_)
                refine q_ieq (tgt := 80) B dX12_isKept_61 (by decide) (by unfold inr; omega) (fun c16 => ?_) (fun c16 => ?_)
                · refine q_con B dX12_isKept_80 ?_
                  refine lv_goto (tgt := 85) B.1 B.2.1 dX12_isKept_81 (by decide) ?_
                  exact s_zret B dX12_isKept_85 (by omega) (by (exact ⟨by first | omega | (simp only [wr_at]; omega) | assumption, by first | omega | (simp only [wr_at]; omega) | assumption⟩))
                · refine lv_lload_n B.1 B.2.1 dX12_isKept_64 rfl (lv_at hl 0 rfl) ?_
                  refine lv_ldc2 B.1 B.2.1 B.2.2.2.1 (B.2.2.2.2.1 _ lc36) dX12_isKept_65 ?_
                  refine q_lcmp B dX12_isKept_68 (fun x17 lx17 ux17 ex17 => ?_)
                  refine q_ieq (tgt := 80) B dX12_isKept_69 (by decide) (by unfold inr; omega) (fun c18 => ?_) (fun c18 => ?_)
                  · refine q_con B dX12_isKept_80 ?_
                    refine lv_goto (tgt := 85) B.1 B.2.1 dX12_isKept_81 (by decide) ?_
                    exact s_zret B dX12_isKept_85 (by omega) (by (exact ⟨by first | omega | (simp only [wr_at]; omega) | assumption, by first | omega | (simp only [wr_at]; omega) | assumption⟩))
                  · refine lv_lload_n B.1 B.2.1 dX12_isKept_72 rfl (lv_at hl 0 rfl) ?_
                    refine lv_ldc2 B.1 B.2.1 B.2.2.2.1 (B.2.2.2.2.1 _ lc38) dX12_isKept_73 ?_
                    refine q_lcmp B dX12_isKept_76 (fun x19 lx19 ux19 ex19 => ?_)
                    refine q_ine (tgt := 84) B dX12_isKept_77 (by decide) (by unfold inr; omega) (fun c20 => ?_) (fun c20 => ?_)
                    · refine q_con B dX12_isKept_84 ?_
                      exact s_zret B dX12_isKept_85 (by omega) (by (exact ⟨by first | omega | (simp only [wr_at]; omega) | assumption, by first | omega | (simp only [wr_at]; omega) | assumption⟩))
                    · refine q_con B dX12_isKept_80 ?_
                      refine lv_goto (tgt := 85) B.1 B.2.1 dX12_isKept_81 (by decide) ?_
                      exact s_zret B dX12_isKept_85 (by omega) (by (exact ⟨by first | omega | (simp only [wr_at]; omega) | assumption, by first | omega | (simp only [wr_at]; omega) | assumption⟩))
set_option maxHeartbeats 4000000 in
set_option maxRecDepth 20000 in
theorem k_built (l : Launch) (D : va_G) (dA : Nat → ClassId) (a_v : Int64) : SCi l yX12_built cX12_built 2 (some .int) ({ frames := 0, cells := 0, slots := 0, locals := 0 }) D dA [.long a_v] (fun r => 0 ≤ r ∧ r ≤ 8) := by
  refine s_start (by decide) rfl (Nat.le_of_ble_eq_true rfl) (fun p e s m args below meth c ls B hl => ?_)
  have hl : lv_has ls 2 [(0, .long a_v)] := hl
  refine lv_lload_n B.1 B.2.1 dX12_built_0 rfl (lv_at hl 0 rfl) ?_
  refine lv_ldc2 B.1 B.2.1 B.2.2.2.1 (B.2.2.2.2.1 _ lc40) dX12_built_1 ?_
  refine q_lcmp B dX12_built_4 (fun x1 lx1 ux1 ex1 => ?_)
  refine q_ine (tgt := 10) B dX12_built_5 (by decide) (by unfold inr; omega) (fun c2 => ?_) (fun c2 => ?_)
  · refine lv_lload_n B.1 B.2.1 dX12_built_10 rfl (lv_at hl 0 rfl) ?_
    refine lv_ldc2 B.1 B.2.1 B.2.2.2.1 (B.2.2.2.2.1 _ lc42) dX12_built_11 ?_
    refine q_lcmp B dX12_built_14 (fun x3 lx3 ux3 ex3 => ?_)
    refine q_ine (tgt := 20) B dX12_built_15 (by decide) (by unfold inr; omega) (fun c4 => ?_) (fun c4 => ?_)
    · refine lv_lload_n B.1 B.2.1 dX12_built_20 rfl (lv_at hl 0 rfl) ?_
      refine lv_ldc2 B.1 B.2.1 B.2.2.2.1 (B.2.2.2.2.1 _ lc44) dX12_built_21 ?_
      refine q_lcmp B dX12_built_24 (fun x5 lx5 ux5 ex5 => ?_)
      refine q_ine (tgt := 30) B dX12_built_25 (by decide) (by unfold inr; omega) (fun c6 => ?_) (fun c6 => ?_)
      · refine lv_lload_n B.1 B.2.1 dX12_built_30 rfl (lv_at hl 0 rfl) ?_
        refine lv_ldc2 B.1 B.2.1 B.2.2.2.1 (B.2.2.2.2.1 _ lc46) dX12_built_31 ?_
        refine q_lcmp B dX12_built_34 (fun x7 lx7 ux7 ex7 => ?_)
        refine q_ine (tgt := 40) B dX12_built_35 (by decide) (by unfold inr; omega) (fun c8 => ?_) (fun c8 => ?_)
        · refine lv_lload_n B.1 B.2.1 dX12_built_40 rfl (lv_at hl 0 rfl) ?_
          refine lv_ldc2 B.1 B.2.1 B.2.2.2.1 (B.2.2.2.2.1 _ lc48) dX12_built_41 ?_
          refine q_lcmp B dX12_built_44 (fun x9 lx9 ux9 ex9 => ?_)
          refine q_ine (tgt := 50) B dX12_built_45 (by decide) (by unfold inr; omega) (fun c10 => ?_) (fun c10 => ?_)
          · refine lv_lload_n B.1 B.2.1 dX12_built_50 rfl (lv_at hl 0 rfl) ?_
            refine lv_ldc2 B.1 B.2.1 B.2.2.2.1 (B.2.2.2.2.1 _ lc50) dX12_built_51 ?_
            refine q_lcmp B dX12_built_54 (fun x11 lx11 ux11 ex11 => ?_)
            refine q_ine (tgt := 61) B dX12_built_55 (by decide) (by unfold inr; omega) (fun c12 => ?_) (fun c12 => ?_)
            · refine lv_lload_n B.1 B.2.1 dX12_built_61 rfl (lv_at hl 0 rfl) ?_
              refine lv_ldc2 B.1 B.2.1 B.2.2.2.1 (B.2.2.2.2.1 _ lc52) dX12_built_62 ?_
              refine q_lcmp B dX12_built_65 (fun x13 lx13 ux13 ex13 => ?_)
              refine q_ine (tgt := 72) B dX12_built_66 (by decide) (by unfold inr; omega) (fun c14 => ?_) (fun c14 => ?_)
              · refine lv_lload_n B.1 B.2.1 dX12_built_72 rfl (lv_at hl 0 rfl) ?_
                refine lv_ldc2 B.1 B.2.1 B.2.2.2.1 (B.2.2.2.2.1 _ lc54) dX12_built_73 ?_
                refine q_lcmp B dX12_built_76 (fun x15 lx15 ux15 ex15 => ?_)
                refine q_ine (tgt := 85) B dX12_built_77 (by decide) (by unfold inr; omega) (fun c16 => ?_) (fun c16 => ?_)
                · refine q_con B dX12_built_85 ?_
                  exact s_iret B dX12_built_86 (by unfold inr; omega) (by (exact ⟨by first | omega | (simp only [wr_at]; omega) | assumption, by first | omega | (simp only [wr_at]; omega) | assumption⟩))
                · refine q_bip B dX12_built_80 (by decide) ?_
                  refine lv_goto (tgt := 86) B.1 B.2.1 dX12_built_82 (by decide) ?_
                  exact s_iret B dX12_built_86 (by unfold inr; omega) (by (exact ⟨by first | omega | (simp only [wr_at]; omega) | assumption, by first | omega | (simp only [wr_at]; omega) | assumption⟩))
              · refine q_bip B dX12_built_69 (by decide) ?_
                exact s_iret B dX12_built_71 (by unfold inr; omega) (by (exact ⟨by first | omega | (simp only [wr_at]; omega) | assumption, by first | omega | (simp only [wr_at]; omega) | assumption⟩))
            · refine q_bip B dX12_built_58 (by decide) ?_
              exact s_iret B dX12_built_60 (by unfold inr; omega) (by (exact ⟨by first | omega | (simp only [wr_at]; omega) | assumption, by first | omega | (simp only [wr_at]; omega) | assumption⟩))
          · refine q_con B dX12_built_48 ?_
            exact s_iret B dX12_built_49 (by unfold inr; omega) (by (exact ⟨by first | omega | (simp only [wr_at]; omega) | assumption, by first | omega | (simp only [wr_at]; omega) | assumption⟩))
        · refine q_con B dX12_built_38 ?_
          exact s_iret B dX12_built_39 (by unfold inr; omega) (by (exact ⟨by first | omega | (simp only [wr_at]; omega) | assumption, by first | omega | (simp only [wr_at]; omega) | assumption⟩))
      · refine q_con B dX12_built_28 ?_
        exact s_iret B dX12_built_29 (by unfold inr; omega) (by (exact ⟨by first | omega | (simp only [wr_at]; omega) | assumption, by first | omega | (simp only [wr_at]; omega) | assumption⟩))
    · refine q_con B dX12_built_18 ?_
      exact s_iret B dX12_built_19 (by unfold inr; omega) (by (exact ⟨by first | omega | (simp only [wr_at]; omega) | assumption, by first | omega | (simp only [wr_at]; omega) | assumption⟩))
  · refine q_con B dX12_built_8 ?_
    exact s_iret B dX12_built_9 (by unfold inr; omega) (by (exact ⟨by first | omega | (simp only [wr_at]; omega) | assumption, by first | omega | (simp only [wr_at]; omega) | assumption⟩))
set_option maxHeartbeats 4000000 in
set_option maxRecDepth 20000 in
theorem k_isSignOf (l : Launch) (D : va_G) (dA : Nat → ClassId) (a_c : Int) (i_c : (-2147483648 : Int) ≤ a_c ∧ a_c ≤ 2147483647) : SCi l yX12_isSignOf cX12_isSignOf 1 (some .boolean) ({ frames := 0, cells := 0, slots := 0, locals := 0 }) D dA [.int (II a_c)] (fun r => 0 ≤ r ∧ r ≤ 1) := by
  refine s_start (by decide) rfl (Nat.le_of_ble_eq_true rfl) (fun p e s m args below meth c ls B hl => ?_)
  have hl : lv_has ls 1 [(0, .int (II a_c))] := hl
  refine lv_iload_n B.1 B.2.1 dX12_isSignOf_0 rfl (lv_at hl 0 rfl) ?_
  refine q_bip B dX12_isSignOf_1 (by decide) ?_
  refine q_ceq (tgt := 132) B dX12_isSignOf_3 (by decide) (by unfold inr; omega) (by unfold inr; omega) (fun c1 => ?_) (fun c1 => ?_)
  · refine q_con B dX12_isSignOf_132 ?_
    refine lv_goto (tgt := 137) B.1 B.2.1 dX12_isSignOf_133 (by decide) ?_
    exact s_zret B dX12_isSignOf_137 (by omega) (by (exact ⟨by first | omega | (simp only [wr_at]; omega) | assumption, by first | omega | (simp only [wr_at]; omega) | assumption⟩))
  · refine lv_iload_n B.1 B.2.1 dX12_isSignOf_6 rfl (lv_at hl 0 rfl) ?_
    refine q_bip B dX12_isSignOf_7 (by decide) ?_
    refine q_ceq (tgt := 132) B dX12_isSignOf_9 (by decide) (by unfold inr; omega) (by unfold inr; omega) (fun c2 => ?_) (fun c2 => ?_)
    · refine q_con B dX12_isSignOf_132 ?_
      refine lv_goto (tgt := 137) B.1 B.2.1 dX12_isSignOf_133 (by decide) ?_
      exact s_zret B dX12_isSignOf_137 (by omega) (by (exact ⟨by first | omega | (simp only [wr_at]; omega) | assumption, by first | omega | (simp only [wr_at]; omega) | assumption⟩))
    · refine lv_iload_n B.1 B.2.1 dX12_isSignOf_12 rfl (lv_at hl 0 rfl) ?_
      refine q_bip B dX12_isSignOf_13 (by decide) ?_
      refine q_ceq (tgt := 132) B dX12_isSignOf_15 (by decide) (by unfold inr; omega) (by unfold inr; omega) (fun c3 => ?_) (fun c3 => ?_)
      · refine q_con B dX12_isSignOf_132 ?_
        refine lv_goto (tgt := 137) B.1 B.2.1 dX12_isSignOf_133 (by decide) ?_
        exact s_zret B dX12_isSignOf_137 (by omega) (by (exact ⟨by first | omega | (simp only [wr_at]; omega) | assumption, by first | omega | (simp only [wr_at]; omega) | assumption⟩))
      · refine lv_iload_n B.1 B.2.1 dX12_isSignOf_18 rfl (lv_at hl 0 rfl) ?_
        refine q_bip B dX12_isSignOf_19 (by decide) ?_
        refine q_ceq (tgt := 132) B dX12_isSignOf_21 (by decide) (by unfold inr; omega) (by unfold inr; omega) (fun c4 => ?_) (fun c4 => ?_)
        · refine q_con B dX12_isSignOf_132 ?_
          refine lv_goto (tgt := 137) B.1 B.2.1 dX12_isSignOf_133 (by decide) ?_
          exact s_zret B dX12_isSignOf_137 (by omega) (by (exact ⟨by first | omega | (simp only [wr_at]; omega) | assumption, by first | omega | (simp only [wr_at]; omega) | assumption⟩))
        · refine lv_iload_n B.1 B.2.1 dX12_isSignOf_24 rfl (lv_at hl 0 rfl) ?_
          refine q_bip B dX12_isSignOf_25 (by decide) ?_
          refine q_ceq (tgt := 132) B dX12_isSignOf_27 (by decide) (by unfold inr; omega) (by unfold inr; omega) (fun c5 => ?_) (fun c5 => ?_)
          · refine q_con B dX12_isSignOf_132 ?_
            refine lv_goto (tgt := 137) B.1 B.2.1 dX12_isSignOf_133 (by decide) ?_
            exact s_zret B dX12_isSignOf_137 (by omega) (by (exact ⟨by first | omega | (simp only [wr_at]; omega) | assumption, by first | omega | (simp only [wr_at]; omega) | assumption⟩))
          · refine lv_iload_n B.1 B.2.1 dX12_isSignOf_30 rfl (lv_at hl 0 rfl) ?_
            refine q_bip B dX12_isSignOf_31 (by decide) ?_
            refine q_ceq (tgt := 132) B dX12_isSignOf_33 (by decide) (by unfold inr; omega) (by unfold inr; omega) (fun c6 => ?_) (fun c6 => ?_)
            · refine q_con B dX12_isSignOf_132 ?_
              refine lv_goto (tgt := 137) B.1 B.2.1 dX12_isSignOf_133 (by decide) ?_
              exact s_zret B dX12_isSignOf_137 (by omega) (by (exact ⟨by first | omega | (simp only [wr_at]; omega) | assumption, by first | omega | (simp only [wr_at]; omega) | assumption⟩))
            · refine lv_iload_n B.1 B.2.1 dX12_isSignOf_36 rfl (lv_at hl 0 rfl) ?_
              refine q_bip B dX12_isSignOf_37 (by decide) ?_
              refine q_ceq (tgt := 132) B dX12_isSignOf_39 (by decide) (by unfold inr; omega) (by unfold inr; omega) (fun c7 => ?_) (fun c7 => ?_)
              · refine q_con B dX12_isSignOf_132 ?_
                refine lv_goto (tgt := 137) B.1 B.2.1 dX12_isSignOf_133 (by decide) ?_
                exact s_zret B dX12_isSignOf_137 (by omega) (by (exact ⟨by first | omega | (simp only [wr_at]; omega) | assumption, by first | omega | (simp only [wr_at]; omega) | assumption⟩))
              · refine lv_iload_n B.1 B.2.1 dX12_isSignOf_42 rfl (lv_at hl 0 rfl) ?_
                refine q_bip B dX12_isSignOf_43 (by decide) ?_
                refine q_ceq (tgt := 132) B dX12_isSignOf_45 (by decide) (by unfold inr; omega) (by unfold inr; omega) (fun c8 => ?_) (fun c8 => ?_)
                · refine q_con B dX12_isSignOf_132 ?_
                  refine lv_goto (tgt := 137) B.1 B.2.1 dX12_isSignOf_133 (by decide) ?_
                  exact s_zret B dX12_isSignOf_137 (by omega) (by (exact ⟨by first | omega | (simp only [wr_at]; omega) | assumption, by first | omega | (simp only [wr_at]; omega) | assumption⟩))
                · refine lv_iload_n B.1 B.2.1 dX12_isSignOf_48 rfl (lv_at hl 0 rfl) ?_
                  refine q_bip B dX12_isSignOf_49 (by decide) ?_
                  refine q_ceq (tgt := 132) B dX12_isSignOf_51 (by decide) (by unfold inr; omega) (by unfold inr; omega) (fun c9 => ?_) (fun c9 => ?_)
                  · refine q_con B dX12_isSignOf_132 ?_
                    refine lv_goto (tgt := 137) B.1 B.2.1 dX12_isSignOf_133 (by decide) ?_
                    exact s_zret B dX12_isSignOf_137 (by omega) (by (exact ⟨by first | omega | (simp only [wr_at]; omega) | assumption, by first | omega | (simp only [wr_at]; omega) | assumption⟩))
                  · refine lv_iload_n B.1 B.2.1 dX12_isSignOf_54 rfl (lv_at hl 0 rfl) ?_
                    refine q_bip B dX12_isSignOf_55 (by decide) ?_
                    refine q_ceq (tgt := 132) B dX12_isSignOf_57 (by decide) (by unfold inr; omega) (by unfold inr; omega) (fun c10 => ?_) (fun c10 => ?_)
                    · refine q_con B dX12_isSignOf_132 ?_
                      refine lv_goto (tgt := 137) B.1 B.2.1 dX12_isSignOf_133 (by decide) ?_
                      exact s_zret B dX12_isSignOf_137 (by omega) (by (exact ⟨by first | omega | (simp only [wr_at]; omega) | assumption, by first | omega | (simp only [wr_at]; omega) | assumption⟩))
                    · refine lv_iload_n B.1 B.2.1 dX12_isSignOf_60 rfl (lv_at hl 0 rfl) ?_
                      refine q_bip B dX12_isSignOf_61 (by decide) ?_
                      refine q_ceq (tgt := 132) B dX12_isSignOf_63 (by decide) (by unfold inr; omega) (by unfold inr; omega) (fun c11 => ?_) (fun c11 => ?_)
                      · refine q_con B dX12_isSignOf_132 ?_
                        refine lv_goto (tgt := 137) B.1 B.2.1 dX12_isSignOf_133 (by decide) ?_
                        exact s_zret B dX12_isSignOf_137 (by omega) (by (exact ⟨by first | omega | (simp only [wr_at]; omega) | assumption, by first | omega | (simp only [wr_at]; omega) | assumption⟩))
                      · refine lv_iload_n B.1 B.2.1 dX12_isSignOf_66 rfl (lv_at hl 0 rfl) ?_
                        refine q_bip B dX12_isSignOf_67 (by decide) ?_
                        refine q_ceq (tgt := 132) B dX12_isSignOf_69 (by decide) (by unfold inr; omega) (by unfold inr; omega) (fun c12 => ?_) (fun c12 => ?_)
                        · refine q_con B dX12_isSignOf_132 ?_
                          refine lv_goto (tgt := 137) B.1 B.2.1 dX12_isSignOf_133 (by decide) ?_
                          exact s_zret B dX12_isSignOf_137 (by omega) (by (exact ⟨by first | omega | (simp only [wr_at]; omega) | assumption, by first | omega | (simp only [wr_at]; omega) | assumption⟩))
                        · refine lv_iload_n B.1 B.2.1 dX12_isSignOf_72 rfl (lv_at hl 0 rfl) ?_
                          refine q_bip B dX12_isSignOf_73 (by decide) ?_
                          refine q_ceq (tgt := 132) B dX12_isSignOf_75 (by decide) (by unfold inr; omega) (by unfold inr; omega) (fun c13 => ?_) (fun c13 => ?_)
                          · refine q_con B dX12_isSignOf_132 ?_
                            refine lv_goto (tgt := 137) B.1 B.2.1 dX12_isSignOf_133 (by decide) ?_
                            exact s_zret B dX12_isSignOf_137 (by omega) (by (exact ⟨by first | omega | (simp only [wr_at]; omega) | assumption, by first | omega | (simp only [wr_at]; omega) | assumption⟩))
                          · refine lv_iload_n B.1 B.2.1 dX12_isSignOf_78 rfl (lv_at hl 0 rfl) ?_
                            refine q_bip B dX12_isSignOf_79 (by decide) ?_
                            refine q_ceq (tgt := 132) B dX12_isSignOf_81 (by decide) (by unfold inr; omega) (by unfold inr; omega) (fun c14 => ?_) (fun c14 => ?_)
                            · refine q_con B dX12_isSignOf_132 ?_
                              refine lv_goto (tgt := 137) B.1 B.2.1 dX12_isSignOf_133 (by decide) ?_
                              exact s_zret B dX12_isSignOf_137 (by omega) (by (exact ⟨by first | omega | (simp only [wr_at]; omega) | assumption, by first | omega | (simp only [wr_at]; omega) | assumption⟩))
                            · refine lv_iload_n B.1 B.2.1 dX12_isSignOf_84 rfl (lv_at hl 0 rfl) ?_
                              refine q_bip B dX12_isSignOf_85 (by decide) ?_
                              refine q_ceq (tgt := 132) B dX12_isSignOf_87 (by decide) (by unfold inr; omega) (by unfold inr; omega) (fun c15 => ?_) (fun c15 => ?_)
                              · refine q_con B dX12_isSignOf_132 ?_
                                refine lv_goto (tgt := 137) B.1 B.2.1 dX12_isSignOf_133 (by decide) ?_
                                exact s_zret B dX12_isSignOf_137 (by omega) (by (exact ⟨by first | omega | (simp only [wr_at]; omega) | assumption, by first | omega | (simp only [wr_at]; omega) | assumption⟩))
                              · refine lv_iload_n B.1 B.2.1 dX12_isSignOf_90 rfl (lv_at hl 0 rfl) ?_
                                refine q_bip B dX12_isSignOf_91 (by decide) ?_
                                refine q_ceq (tgt := 132) B dX12_isSignOf_93 (by decide) (by unfold inr; omega) (by unfold inr; omega) (fun c16 => ?_) (fun c16 => ?_)
                                · refine q_con B dX12_isSignOf_132 ?_
                                  refine lv_goto (tgt := 137) B.1 B.2.1 dX12_isSignOf_133 (by decide) ?_
                                  exact s_zret B dX12_isSignOf_137 (by omega) (by (exact ⟨by first | omega | (simp only [wr_at]; omega) | assumption, by first | omega | (simp only [wr_at]; omega) | assumption⟩))
                                · refine lv_iload_n B.1 B.2.1 dX12_isSignOf_96 rfl (lv_at hl 0 rfl) ?_
                                  refine q_bip B dX12_isSignOf_97 (by decide) ?_
                                  refine q_ceq (tgt := 132) B dX12_isSignOf_99 (by decide) (by unfold inr; omega) (by unfold inr; omega) (fun c17 => ?_) (fun c17 => ?_)
                                  · refine q_con B dX12_isSignOf_132 ?_
                                    refine lv_goto (tgt := 137) B.1 B.2.1 dX12_isSignOf_133 (by decide) ?_
                                    exact s_zret B dX12_isSignOf_137 (by omega) (by (exact ⟨by first | omega | (simp only [wr_at]; omega) | assumption, by first | omega | (simp only [wr_at]; omega) | assumption⟩))
                                  · refine lv_iload_n B.1 B.2.1 dX12_isSignOf_102 rfl (lv_at hl 0 rfl) ?_
                                    refine q_bip B dX12_isSignOf_103 (by decide) ?_
                                    refine q_ceq (tgt := 132) B dX12_isSignOf_105 (by decide) (by unfold inr; omega) (by unfold inr; omega) (fun c18 => ?_) (fun c18 => ?_)
                                    · refine q_con B dX12_isSignOf_132 ?_
                                      refine lv_goto (tgt := 137) B.1 B.2.1 dX12_isSignOf_133 (by decide) ?_
                                      exact s_zret B dX12_isSignOf_137 (by omega) (by (exact ⟨by first | omega | (simp only [wr_at]; omega) | assumption, by first | omega | (simp only [wr_at]; omega) | assumption⟩))
                                    · refine lv_iload_n B.1 B.2.1 dX12_isSignOf_108 rfl (lv_at hl 0 rfl) ?_
                                      refine q_bip B dX12_isSignOf_109 (by decide) ?_
                                      refine q_ceq (tgt := 132) B dX12_isSignOf_111 (by decide) (by unfold inr; omega) (by unfold inr; omega) (fun c19 => ?_) (fun c19 => ?_)
                                      · refine q_con B dX12_isSignOf_132 ?_
                                        refine lv_goto (tgt := 137) B.1 B.2.1 dX12_isSignOf_133 (by decide) ?_
                                        exact s_zret B dX12_isSignOf_137 (by omega) (by (exact ⟨by first | omega | (simp only [wr_at]; omega) | assumption, by first | omega | (simp only [wr_at]; omega) | assumption⟩))
                                      · refine lv_iload_n B.1 B.2.1 dX12_isSignOf_114 rfl (lv_at hl 0 rfl) ?_
                                        refine q_bip B dX12_isSignOf_115 (by decide) ?_
                                        refine q_ceq (tgt := 132) B dX12_isSignOf_117 (by decide) (by unfold inr; omega) (by unfold inr; omega) (fun c20 => ?_) (fun c20 => ?_)
                                        · refine q_con B dX12_isSignOf_132 ?_
                                          refine lv_goto (tgt := 137) B.1 B.2.1 dX12_isSignOf_133 (by decide) ?_
                                          exact s_zret B dX12_isSignOf_137 (by omega) (by (exact ⟨by first | omega | (simp only [wr_at]; omega) | assumption, by first | omega | (simp only [wr_at]; omega) | assumption⟩))
                                        · refine lv_iload_n B.1 B.2.1 dX12_isSignOf_120 rfl (lv_at hl 0 rfl) ?_
                                          refine q_bip B dX12_isSignOf_121 (by decide) ?_
                                          refine q_ceq (tgt := 132) B dX12_isSignOf_123 (by decide) (by unfold inr; omega) (by unfold inr; omega) (fun c21 => ?_) (fun c21 => ?_)
                                          · refine q_con B dX12_isSignOf_132 ?_
                                            refine lv_goto (tgt := 137) B.1 B.2.1 dX12_isSignOf_133 (by decide) ?_
                                            exact s_zret B dX12_isSignOf_137 (by omega) (by (exact ⟨by first | omega | (simp only [wr_at]; omega) | assumption, by first | omega | (simp only [wr_at]; omega) | assumption⟩))
                                          · refine lv_iload_n B.1 B.2.1 dX12_isSignOf_126 rfl (lv_at hl 0 rfl) ?_
                                            refine q_bip B dX12_isSignOf_127 (by decide) ?_
                                            refine q_cne (tgt := 136) B dX12_isSignOf_129 (by decide) (by unfold inr; omega) (by unfold inr; omega) (fun c22 => ?_) (fun c22 => ?_)
                                            · refine q_con B dX12_isSignOf_136 ?_
                                              exact s_zret B dX12_isSignOf_137 (by omega) (by (exact ⟨by first | omega | (simp only [wr_at]; omega) | assumption, by first | omega | (simp only [wr_at]; omega) | assumption⟩))
                                            · refine q_con B dX12_isSignOf_132 ?_
                                              refine lv_goto (tgt := 137) B.1 B.2.1 dX12_isSignOf_133 (by decide) ?_
                                              exact s_zret B dX12_isSignOf_137 (by omega) (by (exact ⟨by first | omega | (simp only [wr_at]; omega) | assumption, by first | omega | (simp only [wr_at]; omega) | assumption⟩))
set_option maxHeartbeats 4000000 in
set_option maxRecDepth 20000 in
theorem k_nextNumber (l : Launch) (D : va_G) (dA : Nat → ClassId) (h0 : Nat) (ad : Nat → Nat) (f : Nat → Int) (g : Nat → Int64) (A : Nat → Nat → Int) (L : Nat → Nat → Int64) (a_below : Int) (i_below : (0 : Int) ≤ a_below ∧ a_below ≤ 1) (p_0 : (f 8) < (f 4)) (p_1 : ((a_below) = 0 → 48 ≤ sgn ((A 2)) (f 3) (f 4) (f 8) ∧ sgn ((A 2)) (f 3) (f 4) (f 8) ≤ 57)) (p_2 : ((a_below) = 1 → 48 ≤ sgn ((A 2)) (f 3) (f 4) ((f 8) + 1) ∧ sgn ((A 2)) (f 3) (f 4) ((f 8) + 1) ≤ 57 ∧ (f 8) + 1 < (f 4))) : MCv l yX12_nextNumber cX12_nextNumber 3 ({ frames := 1, cells := 0, slots := 0, locals := 21 }) D dA h0 ad (f, g, A, L) [.int (II a_below)] (fun (σ : MS) => ∃ n9 : Int, ∃ n10 : Int, ∃ n7 : Int, σ = ((up f [(9, n9), (10, n10), (7, n7)]), g, A, L) ∧ ((n9) ≤ (f 4) ∧ (f 8) < (n9) ∧ ((n7) = 1 ∨ (n7) = 4))) := by
  generalize hPST : (fun (σ : MS) => ∃ n9 : Int, ∃ n10 : Int, ∃ n7 : Int, σ = ((up f [(9, n9), (10, n10), (7, n7)]), g, A, L) ∧ ((n9) ≤ (f 4) ∧ (f 8) < (n9) ∧ ((n7) = 1 ∨ (n7) = 4))) = PST
  refine m_enterv (by decide) rfl (Nat.le_of_ble_eq_true rfl) (fun p e s m args below meth c ls B hM hl => ?_)
  have hA : ∀ q, s.heap.size ≤ q → mF dA h0 ad (f, g, A, L) s.heap.size q := fun q h => Or.inr h
  have hM : MWd D dA h0 ad (mF dA h0 ad (f, g, A, L) s.heap.size) s.heap ((up f [(9, f 9), (10, f 10), (7, f 7)]), g, A, L) s.heap [] := MW_pad hM (up_self f [9, 10, 7]) rfl rfl rfl
  have hl : lv_has ls 3 [(0, .ref h0), (1, .int (II a_below))] := hl
  have r1 : (0 : Int) ≤ f 3 ∧ f 3 ≤ 1 := hM.2.2.2.1 3
  have r2 : (0 : Int) ≤ f 4 ∧ f 4 ≤ 3000 := hM.2.2.2.1 4
  have r3 : (0 : Int) ≤ f 7 ∧ f 7 ≤ 6 := hM.2.2.2.1 7
  have r4 : (0 : Int) ≤ f 8 ∧ f 8 ≤ 3001 := hM.2.2.2.1 8
  have r5 : (0 : Int) ≤ f 9 ∧ f 9 ≤ 3002 := hM.2.2.2.1 9
  have LL28 : ∀ N : Nat, ∀ (v28_2 : Int) (y28_9 : Int) (y28_10 : Int) (y28_7 : Int) (H : Heap) (locs : List Loc) (ls : Array Slot), (MWd D dA h0 ad (mF dA h0 ad (f, g, A, L) s.heap.size) s.heap ((up f [(9, y28_9), (10, y28_10), (7, y28_7)]), g, A, L) H locs) → lv_has ls 3 [(0, .ref h0), (1, .int (II a_below)), (2, .int (II v28_2))] → ((-2147483648 : Int) ≤ v28_2 ∧ v28_2 ≤ 2147483647) → ((f 8) ≤ (v28_2)) → ((v28_2) ≤ (y28_9)) → ((y28_9) ≤ (f 4)) → ((v28_2) ≤ 3000) → (((y28_9) = (v28_2) → 48 ≤ sgn ((A 2)) (f 3) (f 4) (y28_9) ∧ sgn ((A 2)) (f 3) (f 4) (y28_9) ≤ 57)) → (0 ≤ (f 4) - (y28_9)) → ((f 4) - (y28_9) < (N : Int)) → W p l e ({ frames := 1, cells := 0, slots := 0, locals := 21 }) s m args below meth c H locs 0 0 (MQ below (mQv D dA h0 ad (f, g, A, L) s.heap.size PST) args s 0 0 (mF dA h0 ad (f, g, A, L) s.heap.size)) (F0 m 28 ls []) := by
    intro N
    induction N with
    | zero => intro v28_2 y28_9 y28_10 y28_7 H locs ls hM hl hLL28_0 hLL28_1 hLL28_2 hLL28_3 hLL28_4 hLL28_5 hLL28_6 hN; exfalso; omega
    | succ N IH28 =>
      intro v28_2 y28_9 y28_10 y28_7 H locs ls hM hl hLL28_0 hLL28_1 hLL28_2 hLL28_3 hLL28_4 hLL28_5 hLL28_6 hN
      have r6 : (0 : Int) ≤ y28_9 ∧ y28_9 ≤ 3002 := hM.2.2.2.1 9
      have r7 : (-2147483648 : Int) ≤ y28_10 ∧ y28_10 ≤ 2147483647 := hM.2.2.2.1 10
      have r8 : (0 : Int) ≤ y28_7 ∧ y28_7 ≤ 6 := hM.2.2.2.1 7
      refine lv_aload_n B.1 B.2.1 dX12_nextNumber_28 rfl (lv_at hl 0 rfl) ?_
      refine lv_aload_n B.1 B.2.1 dX12_nextNumber_29 rfl (lv_at hl 0 rfl) ?_
      refine m_get (k := 9) (v := y28_9) B hM (by decide) rfl fl56 dX12_nextNumber_30 rfl ?_
      refine m_calli (n := 1) (rest := []) B hM hA hl.1 (k_sign l D dA h0 ad (up f [(9, y28_9), (10, y28_10), (7, y28_7)]) g A L y28_9 (by omega) (show 0 ≤ (y28_9) from by first | omega | (simp only [wr_at]; omega) | assumption) (show (y28_9) ≤ 100000 from by first | omega | (simp only [wr_at]; omega) | assumption)) rfl ok_sign nm_sign ⟨rfl, rfl⟩ ⟨Nat.le_of_ble_eq_true rfl, Nat.le_of_ble_eq_true rfl⟩ dX12_nextNumber_33 rfl rfl (Nat.le_of_ble_eq_true rfl) ⟨Nat.zero_le _, Nat.zero_le _⟩ (fun r9 σr9 H locs ir9 hp10 hM => ?_)
      obtain ⟨rfl, hp10⟩ := hp10
      unfold inr at ir9
      replace hp10 : r9 = sgn ((A 2)) (f 3) (f 4) (y28_9) ∧ 0 ≤ r9 ∧ r9 ≤ 255 ∧ (r9 ≠ 0 → (y28_9) < (f 4)) := hp10
      obtain ⟨hp10_0, hp10_1, hp10_2, hp10_3⟩ := hp10
      refine s_calli (n := 1) (rest := []) B hl.1 (k_isDigit l D dA r9 (by omega) ) rfl ok_isDigit nm_isDigit ⟨rfl, rfl⟩ ⟨Nat.le_of_ble_eq_true rfl, Nat.le_of_ble_eq_true rfl⟩ dX12_nextNumber_36 rfl rfl (Nat.le_of_ble_eq_true rfl) ⟨Nat.zero_le _, Nat.zero_le _⟩ (fun r11 ir11 hp12 => ?_)
      unfold inr at ir11
      replace hp12 : (r11 = 1 ↔ 48 ≤ (r9) ∧ (r9) ≤ 57) ∧ 0 ≤ r11 ∧ r11 ≤ 1 := hp12
      refine q_ieq (tgt := 89) B dX12_nextNumber_39 (by decide) (by unfold inr; omega) (fun c13 => ?_) (fun c13 => ?_)
      · refine lv_aload_n B.1 B.2.1 dX12_nextNumber_89 rfl (lv_at hl 0 rfl) ?_
        refine lv_aload_n B.1 B.2.1 dX12_nextNumber_90 rfl (lv_at hl 0 rfl) ?_
        refine m_get (k := 9) (v := y28_9) B hM (by decide) rfl fl56 dX12_nextNumber_91 rfl ?_
        refine lv_iload_n B.1 B.2.1 dX12_nextNumber_94 rfl (lv_at hl 2 rfl) ?_
        refine q_sub B dX12_nextNumber_95 ?_
        refine q_bip B dX12_nextNumber_96 (by decide) ?_
        refine q_cgt (tgt := 115) B dX12_nextNumber_98 (by decide) (by unfold inr; omega) (by unfold inr; omega) (fun c14 => ?_) (fun c14 => ?_)
        · refine q_con B dX12_nextNumber_115 ?_
          refine lv_goto (tgt := 120) B.1 B.2.1 dX12_nextNumber_116 (by decide) ?_
          refine m_put (k := 7) B hM (by decide) rfl fl66 rfl dX12_nextNumber_120 rfl rfl (show (0 : Int) ≤ 1 from by first | omega | (simp only [wr_at]; omega)) (show 1 ≤ (6 : Int) from by first | omega | (simp only [wr_at]; omega)) (u1_up f [(9, y28_9), (10, y28_10), (7, y28_7)] 7 1) (fun H locs hM => ?_)
          replace hM : MWd D dA h0 ad (mF dA h0 ad (f, g, A, L) s.heap.size) s.heap ((up f [(9, y28_9), (10, y28_10), (7, 1)]), g, A, L) H locs := hM
          refine lv_iload_n B.1 B.2.1 dX12_nextNumber_123 rfl (lv_at hl 1 rfl) ?_
          refine q_ieq (tgt := 136) B dX12_nextNumber_124 (by decide) (by unfold inr; omega) (fun c15 => ?_) (fun c15 => ?_)
          · subst hPST
            exact m_vret B hM dX12_nextNumber_136 ⟨y28_9, y28_10, 1, rfl, by (exact ⟨by first | omega | (simp only [wr_at]; omega) | assumption, by first | omega | (simp only [wr_at]; omega) | assumption, by first | omega | (simp only [wr_at]; omega) | assumption⟩)⟩
          · refine lv_aload_n B.1 B.2.1 dX12_nextNumber_127 rfl (lv_at hl 0 rfl) ?_
            refine lv_aload_n B.1 B.2.1 dX12_nextNumber_128 rfl (lv_at hl 0 rfl) ?_
            refine m_get (k := 10) (v := y28_10) B hM (by decide) rfl fl91 dX12_nextNumber_129 rfl ?_
            refine q_neg B dX12_nextNumber_132 ?_
            refine q_wrap (fun x16 ix16 => ?_)
            refine m_put (k := 10) B hM (by decide) rfl fl91 rfl dX12_nextNumber_133 rfl rfl (show (-2147483648 : Int) ≤ x16 from by first | omega | (simp only [wr_at]; omega)) (show x16 ≤ (2147483647 : Int) from by first | omega | (simp only [wr_at]; omega)) (u1_up f [(9, y28_9), (10, y28_10), (7, 1)] 10 x16) (fun H locs hM => ?_)
            replace hM : MWd D dA h0 ad (mF dA h0 ad (f, g, A, L) s.heap.size) s.heap ((up f [(9, y28_9), (10, x16), (7, 1)]), g, A, L) H locs := hM
            subst hPST
            exact m_vret B hM dX12_nextNumber_136 ⟨y28_9, x16, 1, rfl, by (exact ⟨by first | omega | (simp only [wr_at]; omega) | assumption, by first | omega | (simp only [wr_at]; omega) | assumption, by first | omega | (simp only [wr_at]; omega) | assumption⟩)⟩
        · refine lv_aload_n B.1 B.2.1 dX12_nextNumber_101 rfl (lv_at hl 0 rfl) ?_
          refine lv_aload_n B.1 B.2.1 dX12_nextNumber_102 rfl (lv_at hl 0 rfl) ?_
          refine m_get (k := 9) (v := y28_9) B hM (by decide) rfl fl56 dX12_nextNumber_103 rfl ?_
          refine m_calli (n := 1) (rest := [.ref h0]) B hM hA hl.1 (k_sign l D dA h0 ad (up f [(9, y28_9), (10, y28_10), (7, y28_7)]) g A L y28_9 (by omega) (show 0 ≤ (y28_9) from by first | omega | (simp only [wr_at]; omega) | assumption) (show (y28_9) ≤ 100000 from by first | omega | (simp only [wr_at]; omega) | assumption)) rfl ok_sign nm_sign ⟨rfl, rfl⟩ ⟨Nat.le_of_ble_eq_true rfl, Nat.le_of_ble_eq_true rfl⟩ dX12_nextNumber_106 rfl rfl (Nat.le_of_ble_eq_true rfl) ⟨Nat.zero_le _, Nat.zero_le _⟩ (fun r17 σr17 H locs ir17 hp18 hM => ?_)
          obtain ⟨rfl, hp18⟩ := hp18
          unfold inr at ir17
          replace hp18 : r17 = sgn ((A 2)) (f 3) (f 4) (y28_9) ∧ 0 ≤ r17 ∧ r17 ≤ 255 ∧ (r17 ≠ 0 → (y28_9) < (f 4)) := hp18
          obtain ⟨hp18_0, hp18_1, hp18_2, hp18_3⟩ := hp18
          refine s_calli (n := 1) (rest := [.ref h0]) B hl.1 (k_isLetter l D dA r17 (by omega) ) rfl ok_isLetter nm_isLetter ⟨rfl, rfl⟩ ⟨Nat.le_of_ble_eq_true rfl, Nat.le_of_ble_eq_true rfl⟩ dX12_nextNumber_109 rfl rfl (Nat.le_of_ble_eq_true rfl) ⟨Nat.zero_le _, Nat.zero_le _⟩ (fun r19 ir19 hp20 => ?_)
          unfold inr at ir19
          replace hp20 : (r19 = 1 ↔ 97 ≤ (r17) ∧ (r17) ≤ 122) ∧ 0 ≤ r19 ∧ r19 ≤ 1 := hp20
          refine q_ieq (tgt := 119) B dX12_nextNumber_112 (by decide) (by unfold inr; omega) (fun c21 => ?_) (fun c21 => ?_)
          · refine q_con B dX12_nextNumber_119 ?_
            refine m_put (k := 7) B hM (by decide) rfl fl66 rfl dX12_nextNumber_120 rfl rfl (show (0 : Int) ≤ 4 from by first | omega | (simp only [wr_at]; omega)) (show 4 ≤ (6 : Int) from by first | omega | (simp only [wr_at]; omega)) (u1_up f [(9, y28_9), (10, y28_10), (7, y28_7)] 7 4) (fun H locs hM => ?_)
            replace hM : MWd D dA h0 ad (mF dA h0 ad (f, g, A, L) s.heap.size) s.heap ((up f [(9, y28_9), (10, y28_10), (7, 4)]), g, A, L) H locs := hM
            refine lv_iload_n B.1 B.2.1 dX12_nextNumber_123 rfl (lv_at hl 1 rfl) ?_
            refine q_ieq (tgt := 136) B dX12_nextNumber_124 (by decide) (by unfold inr; omega) (fun c22 => ?_) (fun c22 => ?_)
            · subst hPST
              exact m_vret B hM dX12_nextNumber_136 ⟨y28_9, y28_10, 4, rfl, by (exact ⟨by first | omega | (simp only [wr_at]; omega) | assumption, by first | omega | (simp only [wr_at]; omega) | assumption, by first | omega | (simp only [wr_at]; omega) | assumption⟩)⟩
            · refine lv_aload_n B.1 B.2.1 dX12_nextNumber_127 rfl (lv_at hl 0 rfl) ?_
              refine lv_aload_n B.1 B.2.1 dX12_nextNumber_128 rfl (lv_at hl 0 rfl) ?_
              refine m_get (k := 10) (v := y28_10) B hM (by decide) rfl fl91 dX12_nextNumber_129 rfl ?_
              refine q_neg B dX12_nextNumber_132 ?_
              refine q_wrap (fun x23 ix23 => ?_)
              refine m_put (k := 10) B hM (by decide) rfl fl91 rfl dX12_nextNumber_133 rfl rfl (show (-2147483648 : Int) ≤ x23 from by first | omega | (simp only [wr_at]; omega)) (show x23 ≤ (2147483647 : Int) from by first | omega | (simp only [wr_at]; omega)) (u1_up f [(9, y28_9), (10, y28_10), (7, 4)] 10 x23) (fun H locs hM => ?_)
              replace hM : MWd D dA h0 ad (mF dA h0 ad (f, g, A, L) s.heap.size) s.heap ((up f [(9, y28_9), (10, x23), (7, 4)]), g, A, L) H locs := hM
              subst hPST
              exact m_vret B hM dX12_nextNumber_136 ⟨y28_9, x23, 4, rfl, by (exact ⟨by first | omega | (simp only [wr_at]; omega) | assumption, by first | omega | (simp only [wr_at]; omega) | assumption, by first | omega | (simp only [wr_at]; omega) | assumption⟩)⟩
          · refine q_con B dX12_nextNumber_115 ?_
            refine lv_goto (tgt := 120) B.1 B.2.1 dX12_nextNumber_116 (by decide) ?_
            refine m_put (k := 7) B hM (by decide) rfl fl66 rfl dX12_nextNumber_120 rfl rfl (show (0 : Int) ≤ 1 from by first | omega | (simp only [wr_at]; omega)) (show 1 ≤ (6 : Int) from by first | omega | (simp only [wr_at]; omega)) (u1_up f [(9, y28_9), (10, y28_10), (7, y28_7)] 7 1) (fun H locs hM => ?_)
            replace hM : MWd D dA h0 ad (mF dA h0 ad (f, g, A, L) s.heap.size) s.heap ((up f [(9, y28_9), (10, y28_10), (7, 1)]), g, A, L) H locs := hM
            refine lv_iload_n B.1 B.2.1 dX12_nextNumber_123 rfl (lv_at hl 1 rfl) ?_
            refine q_ieq (tgt := 136) B dX12_nextNumber_124 (by decide) (by unfold inr; omega) (fun c24 => ?_) (fun c24 => ?_)
            · subst hPST
              exact m_vret B hM dX12_nextNumber_136 ⟨y28_9, y28_10, 1, rfl, by (exact ⟨by first | omega | (simp only [wr_at]; omega) | assumption, by first | omega | (simp only [wr_at]; omega) | assumption, by first | omega | (simp only [wr_at]; omega) | assumption⟩)⟩
            · refine lv_aload_n B.1 B.2.1 dX12_nextNumber_127 rfl (lv_at hl 0 rfl) ?_
              refine lv_aload_n B.1 B.2.1 dX12_nextNumber_128 rfl (lv_at hl 0 rfl) ?_
              refine m_get (k := 10) (v := y28_10) B hM (by decide) rfl fl91 dX12_nextNumber_129 rfl ?_
              refine q_neg B dX12_nextNumber_132 ?_
              refine q_wrap (fun x25 ix25 => ?_)
              refine m_put (k := 10) B hM (by decide) rfl fl91 rfl dX12_nextNumber_133 rfl rfl (show (-2147483648 : Int) ≤ x25 from by first | omega | (simp only [wr_at]; omega)) (show x25 ≤ (2147483647 : Int) from by first | omega | (simp only [wr_at]; omega)) (u1_up f [(9, y28_9), (10, y28_10), (7, 1)] 10 x25) (fun H locs hM => ?_)
              replace hM : MWd D dA h0 ad (mF dA h0 ad (f, g, A, L) s.heap.size) s.heap ((up f [(9, y28_9), (10, x25), (7, 1)]), g, A, L) H locs := hM
              subst hPST
              exact m_vret B hM dX12_nextNumber_136 ⟨y28_9, x25, 1, rfl, by (exact ⟨by first | omega | (simp only [wr_at]; omega) | assumption, by first | omega | (simp only [wr_at]; omega) | assumption, by first | omega | (simp only [wr_at]; omega) | assumption⟩)⟩
      · refine lv_aload_n B.1 B.2.1 dX12_nextNumber_42 rfl (lv_at hl 0 rfl) ?_
        refine m_get (k := 9) (v := y28_9) B hM (by decide) rfl fl56 dX12_nextNumber_43 rfl ?_
        refine lv_iload_n B.1 B.2.1 dX12_nextNumber_46 rfl (lv_at hl 2 rfl) ?_
        refine q_sub B dX12_nextNumber_47 ?_
        refine q_bip B dX12_nextNumber_48 (by decide) ?_
        refine q_cge (tgt := 76) B dX12_nextNumber_50 (by decide) (by unfold inr; omega) (by unfold inr; omega) (fun c26 => ?_) (fun c26 => ?_)
        · refine lv_aload_n B.1 B.2.1 dX12_nextNumber_76 rfl (lv_at hl 0 rfl) ?_
          refine lv_dup B.1 B.2.1 dX12_nextNumber_77 rfl ?_
          refine m_get (k := 9) (v := y28_9) B hM (by decide) rfl fl56 dX12_nextNumber_78 rfl ?_
          refine q_con B dX12_nextNumber_81 ?_
          refine q_add B dX12_nextNumber_82 ?_
          refine m_put (k := 9) B hM (by decide) rfl fl56 rfl dX12_nextNumber_83 rfl rfl (show (0 : Int) ≤ y28_9 + 1 from by first | omega | (simp only [wr_at]; omega)) (show y28_9 + 1 ≤ (3002 : Int) from by first | omega | (simp only [wr_at]; omega)) (u1_up f [(9, y28_9), (10, y28_10), (7, y28_7)] 9 (y28_9 + 1)) (fun H locs hM => ?_)
          replace hM : MWd D dA h0 ad (mF dA h0 ad (f, g, A, L) s.heap.size) s.heap ((up f [(9, y28_9 + 1), (10, y28_10), (7, y28_7)]), g, A, L) H locs := hM
          refine lv_goto (tgt := 28) B.1 B.2.1 dX12_nextNumber_86 (by decide) ?_
          exact IH28 v28_2 (y28_9 + 1) y28_10 y28_7 _ _ ls hM (lv_sub hl [0, 1, 2] rfl) (by omega) (by first | omega | (simp only [wr_at]; omega) | assumption) (by first | omega | (simp only [wr_at]; omega) | assumption) (by first | omega | (simp only [wr_at]; omega) | assumption) (by first | omega | (simp only [wr_at]; omega) | assumption) (by first | omega | (simp only [wr_at]; omega) | assumption) (by first | omega | (simp only [wr_at]; omega) | assumption) (by first | omega | (simp only [wr_at]; omega) | assumption)
        · refine lv_aload_n B.1 B.2.1 dX12_nextNumber_53 rfl (lv_at hl 0 rfl) ?_
          refine q_bip B dX12_nextNumber_54 (by decide) ?_
          refine lv_aload_n B.1 B.2.1 dX12_nextNumber_56 rfl (lv_at hl 0 rfl) ?_
          refine m_get (k := 10) (v := y28_10) B hM (by decide) rfl fl91 dX12_nextNumber_57 rfl ?_
          refine q_mul B dX12_nextNumber_60 ?_
          refine lv_aload_n B.1 B.2.1 dX12_nextNumber_61 rfl (lv_at hl 0 rfl) ?_
          refine lv_aload_n B.1 B.2.1 dX12_nextNumber_62 rfl (lv_at hl 0 rfl) ?_
          refine m_get (k := 9) (v := y28_9) B hM (by decide) rfl fl56 dX12_nextNumber_63 rfl ?_
          refine m_calli (n := 1) (rest := [.int (II (10 * y28_10)), .ref h0]) B hM hA hl.1 (k_sign l D dA h0 ad (up f [(9, y28_9), (10, y28_10), (7, y28_7)]) g A L y28_9 (by omega) (show 0 ≤ (y28_9) from by first | omega | (simp only [wr_at]; omega) | assumption) (show (y28_9) ≤ 100000 from by first | omega | (simp only [wr_at]; omega) | assumption)) rfl ok_sign nm_sign ⟨rfl, rfl⟩ ⟨Nat.le_of_ble_eq_true rfl, Nat.le_of_ble_eq_true rfl⟩ dX12_nextNumber_66 rfl rfl (Nat.le_of_ble_eq_true rfl) ⟨Nat.zero_le _, Nat.zero_le _⟩ (fun r27 σr27 H locs ir27 hp28 hM => ?_)
          obtain ⟨rfl, hp28⟩ := hp28
          unfold inr at ir27
          replace hp28 : r27 = sgn ((A 2)) (f 3) (f 4) (y28_9) ∧ 0 ≤ r27 ∧ r27 ≤ 255 ∧ (r27 ≠ 0 → (y28_9) < (f 4)) := hp28
          obtain ⟨hp28_0, hp28_1, hp28_2, hp28_3⟩ := hp28
          refine q_add B dX12_nextNumber_69 ?_
          refine q_bip B dX12_nextNumber_70 (by decide) ?_
          refine q_sub B dX12_nextNumber_72 ?_
          refine q_wrap (fun x29 ix29 => ?_)
          refine m_put (k := 10) B hM (by decide) rfl fl91 rfl dX12_nextNumber_73 rfl rfl (show (-2147483648 : Int) ≤ x29 from by first | omega | (simp only [wr_at]; omega)) (show x29 ≤ (2147483647 : Int) from by first | omega | (simp only [wr_at]; omega)) (u1_up f [(9, y28_9), (10, y28_10), (7, y28_7)] 10 x29) (fun H locs hM => ?_)
          replace hM : MWd D dA h0 ad (mF dA h0 ad (f, g, A, L) s.heap.size) s.heap ((up f [(9, y28_9), (10, x29), (7, y28_7)]), g, A, L) H locs := hM
          refine lv_aload_n B.1 B.2.1 dX12_nextNumber_76 rfl (lv_at hl 0 rfl) ?_
          refine lv_dup B.1 B.2.1 dX12_nextNumber_77 rfl ?_
          refine m_get (k := 9) (v := y28_9) B hM (by decide) rfl fl56 dX12_nextNumber_78 rfl ?_
          refine q_con B dX12_nextNumber_81 ?_
          refine q_add B dX12_nextNumber_82 ?_
          refine m_put (k := 9) B hM (by decide) rfl fl56 rfl dX12_nextNumber_83 rfl rfl (show (0 : Int) ≤ y28_9 + 1 from by first | omega | (simp only [wr_at]; omega)) (show y28_9 + 1 ≤ (3002 : Int) from by first | omega | (simp only [wr_at]; omega)) (u1_up f [(9, y28_9), (10, x29), (7, y28_7)] 9 (y28_9 + 1)) (fun H locs hM => ?_)
          replace hM : MWd D dA h0 ad (mF dA h0 ad (f, g, A, L) s.heap.size) s.heap ((up f [(9, y28_9 + 1), (10, x29), (7, y28_7)]), g, A, L) H locs := hM
          refine lv_goto (tgt := 28) B.1 B.2.1 dX12_nextNumber_86 (by decide) ?_
          exact IH28 v28_2 (y28_9 + 1) x29 y28_7 _ _ ls hM (lv_sub hl [0, 1, 2] rfl) (by omega) (by first | omega | (simp only [wr_at]; omega) | assumption) (by first | omega | (simp only [wr_at]; omega) | assumption) (by first | omega | (simp only [wr_at]; omega) | assumption) (by first | omega | (simp only [wr_at]; omega) | assumption) (by first | omega | (simp only [wr_at]; omega) | assumption) (by first | omega | (simp only [wr_at]; omega) | assumption) (by first | omega | (simp only [wr_at]; omega) | assumption)
  refine lv_iload_n B.1 B.2.1 dX12_nextNumber_0 rfl (lv_at hl 1 rfl) ?_
  refine q_ieq (tgt := 13) B dX12_nextNumber_1 (by decide) (by unfold inr; omega) (fun c30 => ?_) (fun c30 => ?_)
  · refine lv_aload_n B.1 B.2.1 dX12_nextNumber_13 rfl (lv_at hl 0 rfl) ?_
    refine m_get (k := 8) (v := f 8) B hM (by decide) rfl fl59 dX12_nextNumber_14 rfl ?_
    refine lv_istore_n (lv' := [(2, .int (II (f 8))), (0, .ref h0), (1, .int (II a_below))]) B.1 B.2.1 dX12_nextNumber_17 rfl hl (by decide) rfl (fun ls hl => ?_)
    refine lv_aload_n B.1 B.2.1 dX12_nextNumber_18 rfl (lv_at hl 1 rfl) ?_
    refine lv_iload_n B.1 B.2.1 dX12_nextNumber_19 rfl (lv_at hl 0 rfl) ?_
    refine m_put (k := 9) B hM (by decide) rfl fl56 rfl dX12_nextNumber_20 rfl rfl (show (0 : Int) ≤ f 8 from by first | omega | (simp only [wr_at]; omega)) (show f 8 ≤ (3002 : Int) from by first | omega | (simp only [wr_at]; omega)) (u1_up f [(9, f 9), (10, f 10), (7, f 7)] 9 (f 8)) (fun H locs hM => ?_)
    replace hM : MWd D dA h0 ad (mF dA h0 ad (f, g, A, L) s.heap.size) s.heap ((up f [(9, f 8), (10, f 10), (7, f 7)]), g, A, L) H locs := hM
    refine lv_aload_n B.1 B.2.1 dX12_nextNumber_23 rfl (lv_at hl 1 rfl) ?_
    refine q_con B dX12_nextNumber_24 ?_
    refine m_put (k := 10) B hM (by decide) rfl fl91 rfl dX12_nextNumber_25 rfl rfl (show (-2147483648 : Int) ≤ 0 from by first | omega | (simp only [wr_at]; omega)) (show 0 ≤ (2147483647 : Int) from by first | omega | (simp only [wr_at]; omega)) (u1_up f [(9, f 8), (10, f 10), (7, f 7)] 10 0) (fun H locs hM => ?_)
    replace hM : MWd D dA h0 ad (mF dA h0 ad (f, g, A, L) s.heap.size) s.heap ((up f [(9, f 8), (10, 0), (7, f 7)]), g, A, L) H locs := hM
    exact LL28 (Int.toNat ((f 4) - (f 8) + 1)) (f 8) (f 8) 0 (f 7) _ _ ls hM (lv_sub hl [1, 2, 0] rfl) (by omega) (by first | omega | (simp only [wr_at]; omega) | assumption) (by first | omega | (simp only [wr_at]; omega) | assumption) (by first | omega | (simp only [wr_at]; omega) | assumption) (by first | omega | (simp only [wr_at]; omega) | assumption) (by first | omega | (simp only [wr_at]; omega) | assumption) (by first | omega | (simp only [wr_at]; omega) | assumption) (by first | omega | (simp only [wr_at]; omega) | assumption)
  · refine lv_aload_n B.1 B.2.1 dX12_nextNumber_4 rfl (lv_at hl 0 rfl) ?_
    refine m_get (k := 8) (v := f 8) B hM (by decide) rfl fl59 dX12_nextNumber_5 rfl ?_
    refine q_con B dX12_nextNumber_8 ?_
    refine q_add B dX12_nextNumber_9 ?_
    refine lv_goto (tgt := 17) B.1 B.2.1 dX12_nextNumber_10 (by decide) ?_
    refine lv_istore_n (lv' := [(2, .int (II ((f 8) + 1))), (0, .ref h0), (1, .int (II a_below))]) B.1 B.2.1 dX12_nextNumber_17 rfl hl (by decide) rfl (fun ls hl => ?_)
    refine lv_aload_n B.1 B.2.1 dX12_nextNumber_18 rfl (lv_at hl 1 rfl) ?_
    refine lv_iload_n B.1 B.2.1 dX12_nextNumber_19 rfl (lv_at hl 0 rfl) ?_
    refine m_put (k := 9) B hM (by decide) rfl fl56 rfl dX12_nextNumber_20 rfl rfl (show (0 : Int) ≤ (f 8) + 1 from by first | omega | (simp only [wr_at]; omega)) (show (f 8) + 1 ≤ (3002 : Int) from by first | omega | (simp only [wr_at]; omega)) (u1_up f [(9, f 9), (10, f 10), (7, f 7)] 9 ((f 8) + 1)) (fun H locs hM => ?_)
    replace hM : MWd D dA h0 ad (mF dA h0 ad (f, g, A, L) s.heap.size) s.heap ((up f [(9, (f 8) + 1), (10, f 10), (7, f 7)]), g, A, L) H locs := hM
    refine lv_aload_n B.1 B.2.1 dX12_nextNumber_23 rfl (lv_at hl 1 rfl) ?_
    refine q_con B dX12_nextNumber_24 ?_
    refine m_put (k := 10) B hM (by decide) rfl fl91 rfl dX12_nextNumber_25 rfl rfl (show (-2147483648 : Int) ≤ 0 from by first | omega | (simp only [wr_at]; omega)) (show 0 ≤ (2147483647 : Int) from by first | omega | (simp only [wr_at]; omega)) (u1_up f [(9, (f 8) + 1), (10, f 10), (7, f 7)] 10 0) (fun H locs hM => ?_)
    replace hM : MWd D dA h0 ad (mF dA h0 ad (f, g, A, L) s.heap.size) s.heap ((up f [(9, (f 8) + 1), (10, 0), (7, f 7)]), g, A, L) H locs := hM
    exact LL28 (Int.toNat ((f 4) - ((f 8) + 1) + 1)) ((f 8) + 1) ((f 8) + 1) 0 (f 7) _ _ ls hM (lv_sub hl [1, 2, 0] rfl) (by omega) (by first | omega | (simp only [wr_at]; omega) | assumption) (by first | omega | (simp only [wr_at]; omega) | assumption) (by first | omega | (simp only [wr_at]; omega) | assumption) (by first | omega | (simp only [wr_at]; omega) | assumption) (by first | omega | (simp only [wr_at]; omega) | assumption) (by first | omega | (simp only [wr_at]; omega) | assumption) (by first | omega | (simp only [wr_at]; omega) | assumption)
set_option maxHeartbeats 4000000 in
set_option maxRecDepth 20000 in
theorem k_next (l : Launch) (D : va_G) (dA : Nat → ClassId) (h0 : Nat) (ad : Nat → Nat) (f : Nat → Int) (g : Nat → Int64) (A : Nat → Nat → Int) (L : Nat → Nat → Int64) (p_0 : (f 9) ≤ 3001) : MCv l yX12_next cX12_next 3 ({ frames := 2, cells := 0, slots := 0, locals := 43 }) D dA h0 ad (f, g, A, L) [] (fun (σ : MS) => ∃ n8 : Int, ∃ n9 : Int, ∃ n7 : Int, ∃ n10 : Int, ∃ n11 : Int64, σ = ((up f [(8, n8), (9, n9), (7, n7), (10, n10)]), (up g [(11, n11)]), A, L) ∧ (((f 9) ≤ (n8) ∨ (n8) = (f 4)) ∧ (0 ≤ (n8) ∧ (n8) ≤ (f 4) ∧ (n8) ≤ (n9) ∧ (n9) ≤ (f 4) + 1 ∧ ((n7) = 0 ↔ (n8) = (f 4)) ∧ (2 ≤ (n7) → (n8) < (n9) ∧ (n9) ≤ (f 4)) ∧ ((n7) = 5 → (n8) + 2 ≤ (n9) ∧ (n9) ≤ (n8) + 32)))) := by
  generalize hPST : (fun (σ : MS) => ∃ n8 : Int, ∃ n9 : Int, ∃ n7 : Int, ∃ n10 : Int, ∃ n11 : Int64, σ = ((up f [(8, n8), (9, n9), (7, n7), (10, n10)]), (up g [(11, n11)]), A, L) ∧ (((f 9) ≤ (n8) ∨ (n8) = (f 4)) ∧ (0 ≤ (n8) ∧ (n8) ≤ (f 4) ∧ (n8) ≤ (n9) ∧ (n9) ≤ (f 4) + 1 ∧ ((n7) = 0 ↔ (n8) = (f 4)) ∧ (2 ≤ (n7) → (n8) < (n9) ∧ (n9) ≤ (f 4)) ∧ ((n7) = 5 → (n8) + 2 ≤ (n9) ∧ (n9) ≤ (n8) + 32)))) = PST
  refine m_enterv (by decide) rfl (Nat.le_of_ble_eq_true rfl) (fun p e s m args below meth c ls B hM hl => ?_)
  have hA : ∀ q, s.heap.size ≤ q → mF dA h0 ad (f, g, A, L) s.heap.size q := fun q h => Or.inr h
  have hM : MWd D dA h0 ad (mF dA h0 ad (f, g, A, L) s.heap.size) s.heap ((up f [(8, f 8), (9, f 9), (7, f 7), (10, f 10)]), (up g [(11, g 11)]), A, L) s.heap [] := MW_pad hM (up_self f [8, 9, 7, 10]) (up_self g [11]) rfl rfl
  have hl : lv_has ls 3 [(0, .ref h0)] := hl
  have r1 : (0 : Int) ≤ f 4 ∧ f 4 ≤ 3000 := hM.2.2.2.1 4
  have r2 : (0 : Int) ≤ f 7 ∧ f 7 ≤ 6 := hM.2.2.2.1 7
  have r3 : (0 : Int) ≤ f 8 ∧ f 8 ≤ 3001 := hM.2.2.2.1 8
  have r4 : (0 : Int) ≤ f 9 ∧ f 9 ≤ 3002 := hM.2.2.2.1 9
  have LL304 : ∀ N : Nat, ∀ (y304_8 : Int) (y304_9 : Int) (y304_7 : Int) (y304_10 : Int) (y304_11 : Int64) (H : Heap) (locs : List Loc) (ls : Array Slot), (MWd D dA h0 ad (mF dA h0 ad (f, g, A, L) s.heap.size) s.heap ((up f [(8, y304_8), (9, y304_9), (7, y304_7), (10, y304_10)]), (up g [(11, y304_11)]), A, L) H locs) → lv_has ls 3 [(0, .ref h0)] → ((f 9) ≤ (y304_8)) → ((y304_8) < (f 4)) → ((y304_8) < (y304_9)) → ((y304_9) ≤ (f 4)) → (0 ≤ (f 4) - (y304_9)) → ((f 4) - (y304_9) < (N : Int)) → W p l e ({ frames := 2, cells := 0, slots := 0, locals := 43 }) s m args below meth c H locs 0 0 (MQ below (mQv D dA h0 ad (f, g, A, L) s.heap.size PST) args s 0 0 (mF dA h0 ad (f, g, A, L) s.heap.size)) (F0 m 304 ls []) := by
    intro N
    induction N with
    | zero => intro y304_8 y304_9 y304_7 y304_10 y304_11 H locs ls hM hl hLL304_0 hLL304_1 hLL304_2 hLL304_3 hLL304_4 hN; exfalso; omega
    | succ N IH304 =>
      intro y304_8 y304_9 y304_7 y304_10 y304_11 H locs ls hM hl hLL304_0 hLL304_1 hLL304_2 hLL304_3 hLL304_4 hN
      have r5 : (0 : Int) ≤ y304_8 ∧ y304_8 ≤ 3001 := hM.2.2.2.1 8
      have r6 : (0 : Int) ≤ y304_9 ∧ y304_9 ≤ 3002 := hM.2.2.2.1 9
      have r7 : (0 : Int) ≤ y304_7 ∧ y304_7 ≤ 6 := hM.2.2.2.1 7
      have r8 : (-2147483648 : Int) ≤ y304_10 ∧ y304_10 ≤ 2147483647 := hM.2.2.2.1 10
      refine lv_aload_n B.1 B.2.1 dX12_next_304 rfl (lv_at hl 0 rfl) ?_
      refine m_get (k := 9) (v := y304_9) B hM (by decide) rfl fl56 dX12_next_305 rfl ?_
      refine lv_aload_n B.1 B.2.1 dX12_next_308 rfl (lv_at hl 0 rfl) ?_
      refine m_get (k := 4) (v := f 4) B hM (by decide) rfl fl1 dX12_next_309 rfl ?_
      refine q_cge (tgt := 367) B dX12_next_312 (by decide) (by unfold inr; omega) (by unfold inr; omega) (fun c9 => ?_) (fun c9 => ?_)
      · refine lv_aload_n B.1 B.2.1 dX12_next_367 rfl (lv_at hl 0 rfl) ?_
        refine lv_aload_n B.1 B.2.1 dX12_next_368 rfl (lv_at hl 0 rfl) ?_
        refine lv_aload_n B.1 B.2.1 dX12_next_369 rfl (lv_at hl 0 rfl) ?_
        refine m_get (k := 9) (v := y304_9) B hM (by decide) rfl fl56 dX12_next_370 rfl ?_
        refine m_calli (n := 1) (rest := [.ref h0]) B hM hA hl.1 (k_sign l D dA h0 ad (up f [(8, y304_8), (9, y304_9), (7, y304_7), (10, y304_10)]) (up g [(11, y304_11)]) A L y304_9 (by omega) (show 0 ≤ (y304_9) from by first | omega | (simp only [wr_at]; omega) | assumption) (show (y304_9) ≤ 100000 from by first | omega | (simp only [wr_at]; omega) | assumption)) rfl ok_sign nm_sign ⟨rfl, rfl⟩ ⟨Nat.le_of_ble_eq_true rfl, Nat.le_of_ble_eq_true rfl⟩ dX12_next_373 rfl rfl (Nat.le_of_ble_eq_true rfl) ⟨Nat.zero_le _, Nat.zero_le _⟩ (fun r10 σr10 H locs ir10 hp11 hM => ?_)
        obtain ⟨rfl, hp11⟩ := hp11
        unfold inr at ir10
        replace hp11 : r10 = sgn ((A 2)) (f 3) (f 4) (y304_9) ∧ 0 ≤ r10 ∧ r10 ≤ 255 ∧ (r10 ≠ 0 → (y304_9) < (f 4)) := hp11
        obtain ⟨hp11_0, hp11_1, hp11_2, hp11_3⟩ := hp11
        refine q_bip B dX12_next_376 (by decide) ?_
        refine q_cne (tgt := 395) B dX12_next_378 (by decide) (by unfold inr; omega) (by unfold inr; omega) (fun c12 => ?_) (fun c12 => ?_)
        · refine q_con B dX12_next_395 ?_
          refine lv_goto (tgt := 400) B.1 B.2.1 dX12_next_396 (by decide) ?_
          refine m_put (k := 7) B hM (by decide) rfl fl66 rfl dX12_next_400 rfl rfl (show (0 : Int) ≤ 1 from by first | omega | (simp only [wr_at]; omega)) (show 1 ≤ (6 : Int) from by first | omega | (simp only [wr_at]; omega)) (u1_up f [(8, y304_8), (9, y304_9), (7, y304_7), (10, y304_10)] 7 1) (fun H locs hM => ?_)
          replace hM : MWd D dA h0 ad (mF dA h0 ad (f, g, A, L) s.heap.size) s.heap ((up f [(8, y304_8), (9, y304_9), (7, 1), (10, y304_10)]), (up g [(11, y304_11)]), A, L) H locs := hM
          refine lv_aload_n B.1 B.2.1 dX12_next_403 rfl (lv_at hl 0 rfl) ?_
          refine lv_dup B.1 B.2.1 dX12_next_404 rfl ?_
          refine m_get (k := 9) (v := y304_9) B hM (by decide) rfl fl56 dX12_next_405 rfl ?_
          refine q_con B dX12_next_408 ?_
          refine q_add B dX12_next_409 ?_
          refine m_put (k := 9) B hM (by decide) rfl fl56 rfl dX12_next_410 rfl rfl (show (0 : Int) ≤ y304_9 + 1 from by first | omega | (simp only [wr_at]; omega)) (show y304_9 + 1 ≤ (3002 : Int) from by first | omega | (simp only [wr_at]; omega)) (u1_up f [(8, y304_8), (9, y304_9), (7, 1), (10, y304_10)] 9 (y304_9 + 1)) (fun H locs hM => ?_)
          replace hM : MWd D dA h0 ad (mF dA h0 ad (f, g, A, L) s.heap.size) s.heap ((up f [(8, y304_8), (9, y304_9 + 1), (7, 1), (10, y304_10)]), (up g [(11, y304_11)]), A, L) H locs := hM
          refine lv_goto (tgt := 433) B.1 B.2.1 dX12_next_413 (by decide) ?_
          subst hPST
          exact m_vret B hM dX12_next_433 ⟨y304_8, (y304_9 + 1), 1, y304_10, y304_11, rfl, by (exact ⟨by first | omega | (simp only [wr_at]; omega) | assumption, by first | omega | (simp only [wr_at]; omega) | assumption⟩)⟩
        · refine lv_aload_n B.1 B.2.1 dX12_next_381 rfl (lv_at hl 0 rfl) ?_
          refine m_get (k := 9) (v := y304_9) B hM (by decide) rfl fl56 dX12_next_382 rfl ?_
          refine lv_aload_n B.1 B.2.1 dX12_next_385 rfl (lv_at hl 0 rfl) ?_
          refine m_get (k := 8) (v := y304_8) B hM (by decide) rfl fl59 dX12_next_386 rfl ?_
          refine q_sub B dX12_next_389 ?_
          refine q_bip B dX12_next_390 (by decide) ?_
          refine q_cle (tgt := 399) B dX12_next_392 (by decide) (by unfold inr; omega) (by unfold inr; omega) (fun c13 => ?_) (fun c13 => ?_)
          · refine q_con B dX12_next_399 ?_
            refine m_put (k := 7) B hM (by decide) rfl fl66 rfl dX12_next_400 rfl rfl (show (0 : Int) ≤ 5 from by first | omega | (simp only [wr_at]; omega)) (show 5 ≤ (6 : Int) from by first | omega | (simp only [wr_at]; omega)) (u1_up f [(8, y304_8), (9, y304_9), (7, y304_7), (10, y304_10)] 7 5) (fun H locs hM => ?_)
            replace hM : MWd D dA h0 ad (mF dA h0 ad (f, g, A, L) s.heap.size) s.heap ((up f [(8, y304_8), (9, y304_9), (7, 5), (10, y304_10)]), (up g [(11, y304_11)]), A, L) H locs := hM
            refine lv_aload_n B.1 B.2.1 dX12_next_403 rfl (lv_at hl 0 rfl) ?_
            refine lv_dup B.1 B.2.1 dX12_next_404 rfl ?_
            refine m_get (k := 9) (v := y304_9) B hM (by decide) rfl fl56 dX12_next_405 rfl ?_
            refine q_con B dX12_next_408 ?_
            refine q_add B dX12_next_409 ?_
            refine m_put (k := 9) B hM (by decide) rfl fl56 rfl dX12_next_410 rfl rfl (show (0 : Int) ≤ y304_9 + 1 from by first | omega | (simp only [wr_at]; omega)) (show y304_9 + 1 ≤ (3002 : Int) from by first | omega | (simp only [wr_at]; omega)) (u1_up f [(8, y304_8), (9, y304_9), (7, 5), (10, y304_10)] 9 (y304_9 + 1)) (fun H locs hM => ?_)
            replace hM : MWd D dA h0 ad (mF dA h0 ad (f, g, A, L) s.heap.size) s.heap ((up f [(8, y304_8), (9, y304_9 + 1), (7, 5), (10, y304_10)]), (up g [(11, y304_11)]), A, L) H locs := hM
            refine lv_goto (tgt := 433) B.1 B.2.1 dX12_next_413 (by decide) ?_
            subst hPST
            exact m_vret B hM dX12_next_433 ⟨y304_8, (y304_9 + 1), 5, y304_10, y304_11, rfl, by (exact ⟨by first | omega | (simp only [wr_at]; omega) | assumption, by first | omega | (simp only [wr_at]; omega) | assumption⟩)⟩
          · refine q_con B dX12_next_395 ?_
            refine lv_goto (tgt := 400) B.1 B.2.1 dX12_next_396 (by decide) ?_
            refine m_put (k := 7) B hM (by decide) rfl fl66 rfl dX12_next_400 rfl rfl (show (0 : Int) ≤ 1 from by first | omega | (simp only [wr_at]; omega)) (show 1 ≤ (6 : Int) from by first | omega | (simp only [wr_at]; omega)) (u1_up f [(8, y304_8), (9, y304_9), (7, y304_7), (10, y304_10)] 7 1) (fun H locs hM => ?_)
            replace hM : MWd D dA h0 ad (mF dA h0 ad (f, g, A, L) s.heap.size) s.heap ((up f [(8, y304_8), (9, y304_9), (7, 1), (10, y304_10)]), (up g [(11, y304_11)]), A, L) H locs := hM
            refine lv_aload_n B.1 B.2.1 dX12_next_403 rfl (lv_at hl 0 rfl) ?_
            refine lv_dup B.1 B.2.1 dX12_next_404 rfl ?_
            refine m_get (k := 9) (v := y304_9) B hM (by decide) rfl fl56 dX12_next_405 rfl ?_
            refine q_con B dX12_next_408 ?_
            refine q_add B dX12_next_409 ?_
            refine m_put (k := 9) B hM (by decide) rfl fl56 rfl dX12_next_410 rfl rfl (show (0 : Int) ≤ y304_9 + 1 from by first | omega | (simp only [wr_at]; omega)) (show y304_9 + 1 ≤ (3002 : Int) from by first | omega | (simp only [wr_at]; omega)) (u1_up f [(8, y304_8), (9, y304_9), (7, 1), (10, y304_10)] 9 (y304_9 + 1)) (fun H locs hM => ?_)
            replace hM : MWd D dA h0 ad (mF dA h0 ad (f, g, A, L) s.heap.size) s.heap ((up f [(8, y304_8), (9, y304_9 + 1), (7, 1), (10, y304_10)]), (up g [(11, y304_11)]), A, L) H locs := hM
            refine lv_goto (tgt := 433) B.1 B.2.1 dX12_next_413 (by decide) ?_
            subst hPST
            exact m_vret B hM dX12_next_433 ⟨y304_8, (y304_9 + 1), 1, y304_10, y304_11, rfl, by (exact ⟨by first | omega | (simp only [wr_at]; omega) | assumption, by first | omega | (simp only [wr_at]; omega) | assumption⟩)⟩
      · refine lv_aload_n B.1 B.2.1 dX12_next_315 rfl (lv_at hl 0 rfl) ?_
        refine lv_aload_n B.1 B.2.1 dX12_next_316 rfl (lv_at hl 0 rfl) ?_
        refine m_get (k := 9) (v := y304_9) B hM (by decide) rfl fl56 dX12_next_317 rfl ?_
        refine m_calli (n := 1) (rest := []) B hM hA hl.1 (k_sign l D dA h0 ad (up f [(8, y304_8), (9, y304_9), (7, y304_7), (10, y304_10)]) (up g [(11, y304_11)]) A L y304_9 (by omega) (show 0 ≤ (y304_9) from by first | omega | (simp only [wr_at]; omega) | assumption) (show (y304_9) ≤ 100000 from by first | omega | (simp only [wr_at]; omega) | assumption)) rfl ok_sign nm_sign ⟨rfl, rfl⟩ ⟨Nat.le_of_ble_eq_true rfl, Nat.le_of_ble_eq_true rfl⟩ dX12_next_320 rfl rfl (Nat.le_of_ble_eq_true rfl) ⟨Nat.zero_le _, Nat.zero_le _⟩ (fun r14 σr14 H locs ir14 hp15 hM => ?_)
        obtain ⟨rfl, hp15⟩ := hp15
        unfold inr at ir14
        replace hp15 : r14 = sgn ((A 2)) (f 3) (f 4) (y304_9) ∧ 0 ≤ r14 ∧ r14 ≤ 255 ∧ (r14 ≠ 0 → (y304_9) < (f 4)) := hp15
        obtain ⟨hp15_0, hp15_1, hp15_2, hp15_3⟩ := hp15
        refine q_bip B dX12_next_323 (by decide) ?_
        refine q_clt (tgt := 367) B dX12_next_325 (by decide) (by unfold inr; omega) (by unfold inr; omega) (fun c16 => ?_) (fun c16 => ?_)
        · refine lv_aload_n B.1 B.2.1 dX12_next_367 rfl (lv_at hl 0 rfl) ?_
          refine lv_aload_n B.1 B.2.1 dX12_next_368 rfl (lv_at hl 0 rfl) ?_
          refine lv_aload_n B.1 B.2.1 dX12_next_369 rfl (lv_at hl 0 rfl) ?_
          refine m_get (k := 9) (v := y304_9) B hM (by decide) rfl fl56 dX12_next_370 rfl ?_
          refine m_calli (n := 1) (rest := [.ref h0]) B hM hA hl.1 (k_sign l D dA h0 ad (up f [(8, y304_8), (9, y304_9), (7, y304_7), (10, y304_10)]) (up g [(11, y304_11)]) A L y304_9 (by omega) (show 0 ≤ (y304_9) from by first | omega | (simp only [wr_at]; omega) | assumption) (show (y304_9) ≤ 100000 from by first | omega | (simp only [wr_at]; omega) | assumption)) rfl ok_sign nm_sign ⟨rfl, rfl⟩ ⟨Nat.le_of_ble_eq_true rfl, Nat.le_of_ble_eq_true rfl⟩ dX12_next_373 rfl rfl (Nat.le_of_ble_eq_true rfl) ⟨Nat.zero_le _, Nat.zero_le _⟩ (fun r17 σr17 H locs ir17 hp18 hM => ?_)
          obtain ⟨rfl, hp18⟩ := hp18
          unfold inr at ir17
          replace hp18 : r17 = sgn ((A 2)) (f 3) (f 4) (y304_9) ∧ 0 ≤ r17 ∧ r17 ≤ 255 ∧ (r17 ≠ 0 → (y304_9) < (f 4)) := hp18
          obtain ⟨hp18_0, hp18_1, hp18_2, hp18_3⟩ := hp18
          refine q_bip B dX12_next_376 (by decide) ?_
          refine q_cne (tgt := 395) B dX12_next_378 (by decide) (by unfold inr; omega) (by unfold inr; omega) (fun c19 => ?_) (fun c19 => ?_)
          · refine q_con B dX12_next_395 ?_
            refine lv_goto (tgt := 400) B.1 B.2.1 dX12_next_396 (by decide) ?_
            refine m_put (k := 7) B hM (by decide) rfl fl66 rfl dX12_next_400 rfl rfl (show (0 : Int) ≤ 1 from by first | omega | (simp only [wr_at]; omega)) (show 1 ≤ (6 : Int) from by first | omega | (simp only [wr_at]; omega)) (u1_up f [(8, y304_8), (9, y304_9), (7, y304_7), (10, y304_10)] 7 1) (fun H locs hM => ?_)
            replace hM : MWd D dA h0 ad (mF dA h0 ad (f, g, A, L) s.heap.size) s.heap ((up f [(8, y304_8), (9, y304_9), (7, 1), (10, y304_10)]), (up g [(11, y304_11)]), A, L) H locs := hM
            refine lv_aload_n B.1 B.2.1 dX12_next_403 rfl (lv_at hl 0 rfl) ?_
            refine lv_dup B.1 B.2.1 dX12_next_404 rfl ?_
            refine m_get (k := 9) (v := y304_9) B hM (by decide) rfl fl56 dX12_next_405 rfl ?_
            refine q_con B dX12_next_408 ?_
            refine q_add B dX12_next_409 ?_
            refine m_put (k := 9) B hM (by decide) rfl fl56 rfl dX12_next_410 rfl rfl (show (0 : Int) ≤ y304_9 + 1 from by first | omega | (simp only [wr_at]; omega)) (show y304_9 + 1 ≤ (3002 : Int) from by first | omega | (simp only [wr_at]; omega)) (u1_up f [(8, y304_8), (9, y304_9), (7, 1), (10, y304_10)] 9 (y304_9 + 1)) (fun H locs hM => ?_)
            replace hM : MWd D dA h0 ad (mF dA h0 ad (f, g, A, L) s.heap.size) s.heap ((up f [(8, y304_8), (9, y304_9 + 1), (7, 1), (10, y304_10)]), (up g [(11, y304_11)]), A, L) H locs := hM
            refine lv_goto (tgt := 433) B.1 B.2.1 dX12_next_413 (by decide) ?_
            subst hPST
            exact m_vret B hM dX12_next_433 ⟨y304_8, (y304_9 + 1), 1, y304_10, y304_11, rfl, by (exact ⟨by first | omega | (simp only [wr_at]; omega) | assumption, by first | omega | (simp only [wr_at]; omega) | assumption⟩)⟩
          · refine lv_aload_n B.1 B.2.1 dX12_next_381 rfl (lv_at hl 0 rfl) ?_
            refine m_get (k := 9) (v := y304_9) B hM (by decide) rfl fl56 dX12_next_382 rfl ?_
            refine lv_aload_n B.1 B.2.1 dX12_next_385 rfl (lv_at hl 0 rfl) ?_
            refine m_get (k := 8) (v := y304_8) B hM (by decide) rfl fl59 dX12_next_386 rfl ?_
            refine q_sub B dX12_next_389 ?_
            refine q_bip B dX12_next_390 (by decide) ?_
            refine q_cle (tgt := 399) B dX12_next_392 (by decide) (by unfold inr; omega) (by unfold inr; omega) (fun c20 => ?_) (fun c20 => ?_)
            · refine q_con B dX12_next_399 ?_
              refine m_put (k := 7) B hM (by decide) rfl fl66 rfl dX12_next_400 rfl rfl (show (0 : Int) ≤ 5 from by first | omega | (simp only [wr_at]; omega)) (show 5 ≤ (6 : Int) from by first | omega | (simp only [wr_at]; omega)) (u1_up f [(8, y304_8), (9, y304_9), (7, y304_7), (10, y304_10)] 7 5) (fun H locs hM => ?_)
              replace hM : MWd D dA h0 ad (mF dA h0 ad (f, g, A, L) s.heap.size) s.heap ((up f [(8, y304_8), (9, y304_9), (7, 5), (10, y304_10)]), (up g [(11, y304_11)]), A, L) H locs := hM
              refine lv_aload_n B.1 B.2.1 dX12_next_403 rfl (lv_at hl 0 rfl) ?_
              refine lv_dup B.1 B.2.1 dX12_next_404 rfl ?_
              refine m_get (k := 9) (v := y304_9) B hM (by decide) rfl fl56 dX12_next_405 rfl ?_
              refine q_con B dX12_next_408 ?_
              refine q_add B dX12_next_409 ?_
              refine m_put (k := 9) B hM (by decide) rfl fl56 rfl dX12_next_410 rfl rfl (show (0 : Int) ≤ y304_9 + 1 from by first | omega | (simp only [wr_at]; omega)) (show y304_9 + 1 ≤ (3002 : Int) from by first | omega | (simp only [wr_at]; omega)) (u1_up f [(8, y304_8), (9, y304_9), (7, 5), (10, y304_10)] 9 (y304_9 + 1)) (fun H locs hM => ?_)
              replace hM : MWd D dA h0 ad (mF dA h0 ad (f, g, A, L) s.heap.size) s.heap ((up f [(8, y304_8), (9, y304_9 + 1), (7, 5), (10, y304_10)]), (up g [(11, y304_11)]), A, L) H locs := hM
              refine lv_goto (tgt := 433) B.1 B.2.1 dX12_next_413 (by decide) ?_
              subst hPST
              exact m_vret B hM dX12_next_433 ⟨y304_8, (y304_9 + 1), 5, y304_10, y304_11, rfl, by (exact ⟨by first | omega | (simp only [wr_at]; omega) | assumption, by first | omega | (simp only [wr_at]; omega) | assumption⟩)⟩
            · refine q_con B dX12_next_395 ?_
              refine lv_goto (tgt := 400) B.1 B.2.1 dX12_next_396 (by decide) ?_
              refine m_put (k := 7) B hM (by decide) rfl fl66 rfl dX12_next_400 rfl rfl (show (0 : Int) ≤ 1 from by first | omega | (simp only [wr_at]; omega)) (show 1 ≤ (6 : Int) from by first | omega | (simp only [wr_at]; omega)) (u1_up f [(8, y304_8), (9, y304_9), (7, y304_7), (10, y304_10)] 7 1) (fun H locs hM => ?_)
              replace hM : MWd D dA h0 ad (mF dA h0 ad (f, g, A, L) s.heap.size) s.heap ((up f [(8, y304_8), (9, y304_9), (7, 1), (10, y304_10)]), (up g [(11, y304_11)]), A, L) H locs := hM
              refine lv_aload_n B.1 B.2.1 dX12_next_403 rfl (lv_at hl 0 rfl) ?_
              refine lv_dup B.1 B.2.1 dX12_next_404 rfl ?_
              refine m_get (k := 9) (v := y304_9) B hM (by decide) rfl fl56 dX12_next_405 rfl ?_
              refine q_con B dX12_next_408 ?_
              refine q_add B dX12_next_409 ?_
              refine m_put (k := 9) B hM (by decide) rfl fl56 rfl dX12_next_410 rfl rfl (show (0 : Int) ≤ y304_9 + 1 from by first | omega | (simp only [wr_at]; omega)) (show y304_9 + 1 ≤ (3002 : Int) from by first | omega | (simp only [wr_at]; omega)) (u1_up f [(8, y304_8), (9, y304_9), (7, 1), (10, y304_10)] 9 (y304_9 + 1)) (fun H locs hM => ?_)
              replace hM : MWd D dA h0 ad (mF dA h0 ad (f, g, A, L) s.heap.size) s.heap ((up f [(8, y304_8), (9, y304_9 + 1), (7, 1), (10, y304_10)]), (up g [(11, y304_11)]), A, L) H locs := hM
              refine lv_goto (tgt := 433) B.1 B.2.1 dX12_next_413 (by decide) ?_
              subst hPST
              exact m_vret B hM dX12_next_433 ⟨y304_8, (y304_9 + 1), 1, y304_10, y304_11, rfl, by (exact ⟨by first | omega | (simp only [wr_at]; omega) | assumption, by first | omega | (simp only [wr_at]; omega) | assumption⟩)⟩
        · refine lv_aload_n B.1 B.2.1 dX12_next_328 rfl (lv_at hl 0 rfl) ?_
          refine lv_aload_n B.1 B.2.1 dX12_next_329 rfl (lv_at hl 0 rfl) ?_
          refine m_get (k := 9) (v := y304_9) B hM (by decide) rfl fl56 dX12_next_330 rfl ?_
          refine m_calli (n := 1) (rest := []) B hM hA hl.1 (k_sign l D dA h0 ad (up f [(8, y304_8), (9, y304_9), (7, y304_7), (10, y304_10)]) (up g [(11, y304_11)]) A L y304_9 (by omega) (show 0 ≤ (y304_9) from by first | omega | (simp only [wr_at]; omega) | assumption) (show (y304_9) ≤ 100000 from by first | omega | (simp only [wr_at]; omega) | assumption)) rfl ok_sign nm_sign ⟨rfl, rfl⟩ ⟨Nat.le_of_ble_eq_true rfl, Nat.le_of_ble_eq_true rfl⟩ dX12_next_333 rfl rfl (Nat.le_of_ble_eq_true rfl) ⟨Nat.zero_le _, Nat.zero_le _⟩ (fun r21 σr21 H locs ir21 hp22 hM => ?_)
          obtain ⟨rfl, hp22⟩ := hp22
          unfold inr at ir21
          replace hp22 : r21 = sgn ((A 2)) (f 3) (f 4) (y304_9) ∧ 0 ≤ r21 ∧ r21 ≤ 255 ∧ (r21 ≠ 0 → (y304_9) < (f 4)) := hp22
          obtain ⟨hp22_0, hp22_1, hp22_2, hp22_3⟩ := hp22
          refine q_bip B dX12_next_336 (by decide) ?_
          refine q_cgt (tgt := 367) B dX12_next_338 (by decide) (by unfold inr; omega) (by unfold inr; omega) (fun c23 => ?_) (fun c23 => ?_)
          · refine lv_aload_n B.1 B.2.1 dX12_next_367 rfl (lv_at hl 0 rfl) ?_
            refine lv_aload_n B.1 B.2.1 dX12_next_368 rfl (lv_at hl 0 rfl) ?_
            refine lv_aload_n B.1 B.2.1 dX12_next_369 rfl (lv_at hl 0 rfl) ?_
            refine m_get (k := 9) (v := y304_9) B hM (by decide) rfl fl56 dX12_next_370 rfl ?_
            refine m_calli (n := 1) (rest := [.ref h0]) B hM hA hl.1 (k_sign l D dA h0 ad (up f [(8, y304_8), (9, y304_9), (7, y304_7), (10, y304_10)]) (up g [(11, y304_11)]) A L y304_9 (by omega) (show 0 ≤ (y304_9) from by first | omega | (simp only [wr_at]; omega) | assumption) (show (y304_9) ≤ 100000 from by first | omega | (simp only [wr_at]; omega) | assumption)) rfl ok_sign nm_sign ⟨rfl, rfl⟩ ⟨Nat.le_of_ble_eq_true rfl, Nat.le_of_ble_eq_true rfl⟩ dX12_next_373 rfl rfl (Nat.le_of_ble_eq_true rfl) ⟨Nat.zero_le _, Nat.zero_le _⟩ (fun r24 σr24 H locs ir24 hp25 hM => ?_)
            obtain ⟨rfl, hp25⟩ := hp25
            unfold inr at ir24
            replace hp25 : r24 = sgn ((A 2)) (f 3) (f 4) (y304_9) ∧ 0 ≤ r24 ∧ r24 ≤ 255 ∧ (r24 ≠ 0 → (y304_9) < (f 4)) := hp25
            obtain ⟨hp25_0, hp25_1, hp25_2, hp25_3⟩ := hp25
            refine q_bip B dX12_next_376 (by decide) ?_
            refine q_cne (tgt := 395) B dX12_next_378 (by decide) (by unfold inr; omega) (by unfold inr; omega) (fun c26 => ?_) (fun c26 => ?_)
            · refine q_con B dX12_next_395 ?_
              refine lv_goto (tgt := 400) B.1 B.2.1 dX12_next_396 (by decide) ?_
              refine m_put (k := 7) B hM (by decide) rfl fl66 rfl dX12_next_400 rfl rfl (show (0 : Int) ≤ 1 from by first | omega | (simp only [wr_at]; omega)) (show 1 ≤ (6 : Int) from by first | omega | (simp only [wr_at]; omega)) (u1_up f [(8, y304_8), (9, y304_9), (7, y304_7), (10, y304_10)] 7 1) (fun H locs hM => ?_)
              replace hM : MWd D dA h0 ad (mF dA h0 ad (f, g, A, L) s.heap.size) s.heap ((up f [(8, y304_8), (9, y304_9), (7, 1), (10, y304_10)]), (up g [(11, y304_11)]), A, L) H locs := hM
              refine lv_aload_n B.1 B.2.1 dX12_next_403 rfl (lv_at hl 0 rfl) ?_
              refine lv_dup B.1 B.2.1 dX12_next_404 rfl ?_
              refine m_get (k := 9) (v := y304_9) B hM (by decide) rfl fl56 dX12_next_405 rfl ?_
              refine q_con B dX12_next_408 ?_
              refine q_add B dX12_next_409 ?_
              refine m_put (k := 9) B hM (by decide) rfl fl56 rfl dX12_next_410 rfl rfl (show (0 : Int) ≤ y304_9 + 1 from by first | omega | (simp only [wr_at]; omega)) (show y304_9 + 1 ≤ (3002 : Int) from by first | omega | (simp only [wr_at]; omega)) (u1_up f [(8, y304_8), (9, y304_9), (7, 1), (10, y304_10)] 9 (y304_9 + 1)) (fun H locs hM => ?_)
              replace hM : MWd D dA h0 ad (mF dA h0 ad (f, g, A, L) s.heap.size) s.heap ((up f [(8, y304_8), (9, y304_9 + 1), (7, 1), (10, y304_10)]), (up g [(11, y304_11)]), A, L) H locs := hM
              refine lv_goto (tgt := 433) B.1 B.2.1 dX12_next_413 (by decide) ?_
              subst hPST
              exact m_vret B hM dX12_next_433 ⟨y304_8, (y304_9 + 1), 1, y304_10, y304_11, rfl, by (exact ⟨by first | omega | (simp only [wr_at]; omega) | assumption, by first | omega | (simp only [wr_at]; omega) | assumption⟩)⟩
            · refine lv_aload_n B.1 B.2.1 dX12_next_381 rfl (lv_at hl 0 rfl) ?_
              refine m_get (k := 9) (v := y304_9) B hM (by decide) rfl fl56 dX12_next_382 rfl ?_
              refine lv_aload_n B.1 B.2.1 dX12_next_385 rfl (lv_at hl 0 rfl) ?_
              refine m_get (k := 8) (v := y304_8) B hM (by decide) rfl fl59 dX12_next_386 rfl ?_
              refine q_sub B dX12_next_389 ?_
              refine q_bip B dX12_next_390 (by decide) ?_
              refine q_cle (tgt := 399) B dX12_next_392 (by decide) (by unfold inr; omega) (by unfold inr; omega) (fun c27 => ?_) (fun c27 => ?_)
              · refine q_con B dX12_next_399 ?_
                refine m_put (k := 7) B hM (by decide) rfl fl66 rfl dX12_next_400 rfl rfl (show (0 : Int) ≤ 5 from by first | omega | (simp only [wr_at]; omega)) (show 5 ≤ (6 : Int) from by first | omega | (simp only [wr_at]; omega)) (u1_up f [(8, y304_8), (9, y304_9), (7, y304_7), (10, y304_10)] 7 5) (fun H locs hM => ?_)
                replace hM : MWd D dA h0 ad (mF dA h0 ad (f, g, A, L) s.heap.size) s.heap ((up f [(8, y304_8), (9, y304_9), (7, 5), (10, y304_10)]), (up g [(11, y304_11)]), A, L) H locs := hM
                refine lv_aload_n B.1 B.2.1 dX12_next_403 rfl (lv_at hl 0 rfl) ?_
                refine lv_dup B.1 B.2.1 dX12_next_404 rfl ?_
                refine m_get (k := 9) (v := y304_9) B hM (by decide) rfl fl56 dX12_next_405 rfl ?_
                refine q_con B dX12_next_408 ?_
                refine q_add B dX12_next_409 ?_
                refine m_put (k := 9) B hM (by decide) rfl fl56 rfl dX12_next_410 rfl rfl (show (0 : Int) ≤ y304_9 + 1 from by first | omega | (simp only [wr_at]; omega)) (show y304_9 + 1 ≤ (3002 : Int) from by first | omega | (simp only [wr_at]; omega)) (u1_up f [(8, y304_8), (9, y304_9), (7, 5), (10, y304_10)] 9 (y304_9 + 1)) (fun H locs hM => ?_)
                replace hM : MWd D dA h0 ad (mF dA h0 ad (f, g, A, L) s.heap.size) s.heap ((up f [(8, y304_8), (9, y304_9 + 1), (7, 5), (10, y304_10)]), (up g [(11, y304_11)]), A, L) H locs := hM
                refine lv_goto (tgt := 433) B.1 B.2.1 dX12_next_413 (by decide) ?_
                subst hPST
                exact m_vret B hM dX12_next_433 ⟨y304_8, (y304_9 + 1), 5, y304_10, y304_11, rfl, by (exact ⟨by first | omega | (simp only [wr_at]; omega) | assumption, by first | omega | (simp only [wr_at]; omega) | assumption⟩)⟩
              · refine q_con B dX12_next_395 ?_
                refine lv_goto (tgt := 400) B.1 B.2.1 dX12_next_396 (by decide) ?_
                refine m_put (k := 7) B hM (by decide) rfl fl66 rfl dX12_next_400 rfl rfl (show (0 : Int) ≤ 1 from by first | omega | (simp only [wr_at]; omega)) (show 1 ≤ (6 : Int) from by first | omega | (simp only [wr_at]; omega)) (u1_up f [(8, y304_8), (9, y304_9), (7, y304_7), (10, y304_10)] 7 1) (fun H locs hM => ?_)
                replace hM : MWd D dA h0 ad (mF dA h0 ad (f, g, A, L) s.heap.size) s.heap ((up f [(8, y304_8), (9, y304_9), (7, 1), (10, y304_10)]), (up g [(11, y304_11)]), A, L) H locs := hM
                refine lv_aload_n B.1 B.2.1 dX12_next_403 rfl (lv_at hl 0 rfl) ?_
                refine lv_dup B.1 B.2.1 dX12_next_404 rfl ?_
                refine m_get (k := 9) (v := y304_9) B hM (by decide) rfl fl56 dX12_next_405 rfl ?_
                refine q_con B dX12_next_408 ?_
                refine q_add B dX12_next_409 ?_
                refine m_put (k := 9) B hM (by decide) rfl fl56 rfl dX12_next_410 rfl rfl (show (0 : Int) ≤ y304_9 + 1 from by first | omega | (simp only [wr_at]; omega)) (show y304_9 + 1 ≤ (3002 : Int) from by first | omega | (simp only [wr_at]; omega)) (u1_up f [(8, y304_8), (9, y304_9), (7, 1), (10, y304_10)] 9 (y304_9 + 1)) (fun H locs hM => ?_)
                replace hM : MWd D dA h0 ad (mF dA h0 ad (f, g, A, L) s.heap.size) s.heap ((up f [(8, y304_8), (9, y304_9 + 1), (7, 1), (10, y304_10)]), (up g [(11, y304_11)]), A, L) H locs := hM
                refine lv_goto (tgt := 433) B.1 B.2.1 dX12_next_413 (by decide) ?_
                subst hPST
                exact m_vret B hM dX12_next_433 ⟨y304_8, (y304_9 + 1), 1, y304_10, y304_11, rfl, by (exact ⟨by first | omega | (simp only [wr_at]; omega) | assumption, by first | omega | (simp only [wr_at]; omega) | assumption⟩)⟩
          · refine lv_aload_n B.1 B.2.1 dX12_next_341 rfl (lv_at hl 0 rfl) ?_
            refine lv_aload_n B.1 B.2.1 dX12_next_342 rfl (lv_at hl 0 rfl) ?_
            refine m_get (k := 9) (v := y304_9) B hM (by decide) rfl fl56 dX12_next_343 rfl ?_
            refine m_calli (n := 1) (rest := []) B hM hA hl.1 (k_sign l D dA h0 ad (up f [(8, y304_8), (9, y304_9), (7, y304_7), (10, y304_10)]) (up g [(11, y304_11)]) A L y304_9 (by omega) (show 0 ≤ (y304_9) from by first | omega | (simp only [wr_at]; omega) | assumption) (show (y304_9) ≤ 100000 from by first | omega | (simp only [wr_at]; omega) | assumption)) rfl ok_sign nm_sign ⟨rfl, rfl⟩ ⟨Nat.le_of_ble_eq_true rfl, Nat.le_of_ble_eq_true rfl⟩ dX12_next_346 rfl rfl (Nat.le_of_ble_eq_true rfl) ⟨Nat.zero_le _, Nat.zero_le _⟩ (fun r28 σr28 H locs ir28 hp29 hM => ?_)
            obtain ⟨rfl, hp29⟩ := hp29
            unfold inr at ir28
            replace hp29 : r28 = sgn ((A 2)) (f 3) (f 4) (y304_9) ∧ 0 ≤ r28 ∧ r28 ≤ 255 ∧ (r28 ≠ 0 → (y304_9) < (f 4)) := hp29
            obtain ⟨hp29_0, hp29_1, hp29_2, hp29_3⟩ := hp29
            refine q_bip B dX12_next_349 (by decide) ?_
            refine q_ceq (tgt := 367) B dX12_next_351 (by decide) (by unfold inr; omega) (by unfold inr; omega) (fun c30 => ?_) (fun c30 => ?_)
            · refine lv_aload_n B.1 B.2.1 dX12_next_367 rfl (lv_at hl 0 rfl) ?_
              refine lv_aload_n B.1 B.2.1 dX12_next_368 rfl (lv_at hl 0 rfl) ?_
              refine lv_aload_n B.1 B.2.1 dX12_next_369 rfl (lv_at hl 0 rfl) ?_
              refine m_get (k := 9) (v := y304_9) B hM (by decide) rfl fl56 dX12_next_370 rfl ?_
              refine m_calli (n := 1) (rest := [.ref h0]) B hM hA hl.1 (k_sign l D dA h0 ad (up f [(8, y304_8), (9, y304_9), (7, y304_7), (10, y304_10)]) (up g [(11, y304_11)]) A L y304_9 (by omega) (show 0 ≤ (y304_9) from by first | omega | (simp only [wr_at]; omega) | assumption) (show (y304_9) ≤ 100000 from by first | omega | (simp only [wr_at]; omega) | assumption)) rfl ok_sign nm_sign ⟨rfl, rfl⟩ ⟨Nat.le_of_ble_eq_true rfl, Nat.le_of_ble_eq_true rfl⟩ dX12_next_373 rfl rfl (Nat.le_of_ble_eq_true rfl) ⟨Nat.zero_le _, Nat.zero_le _⟩ (fun r31 σr31 H locs ir31 hp32 hM => ?_)
              obtain ⟨rfl, hp32⟩ := hp32
              unfold inr at ir31
              replace hp32 : r31 = sgn ((A 2)) (f 3) (f 4) (y304_9) ∧ 0 ≤ r31 ∧ r31 ≤ 255 ∧ (r31 ≠ 0 → (y304_9) < (f 4)) := hp32
              obtain ⟨hp32_0, hp32_1, hp32_2, hp32_3⟩ := hp32
              refine q_bip B dX12_next_376 (by decide) ?_
              refine q_cne (tgt := 395) B dX12_next_378 (by decide) (by unfold inr; omega) (by unfold inr; omega) (fun c33 => ?_) (fun c33 => ?_)
              · refine q_con B dX12_next_395 ?_
                refine lv_goto (tgt := 400) B.1 B.2.1 dX12_next_396 (by decide) ?_
                refine m_put (k := 7) B hM (by decide) rfl fl66 rfl dX12_next_400 rfl rfl (show (0 : Int) ≤ 1 from by first | omega | (simp only [wr_at]; omega)) (show 1 ≤ (6 : Int) from by first | omega | (simp only [wr_at]; omega)) (u1_up f [(8, y304_8), (9, y304_9), (7, y304_7), (10, y304_10)] 7 1) (fun H locs hM => ?_)
                replace hM : MWd D dA h0 ad (mF dA h0 ad (f, g, A, L) s.heap.size) s.heap ((up f [(8, y304_8), (9, y304_9), (7, 1), (10, y304_10)]), (up g [(11, y304_11)]), A, L) H locs := hM
                refine lv_aload_n B.1 B.2.1 dX12_next_403 rfl (lv_at hl 0 rfl) ?_
                refine lv_dup B.1 B.2.1 dX12_next_404 rfl ?_
                refine m_get (k := 9) (v := y304_9) B hM (by decide) rfl fl56 dX12_next_405 rfl ?_
                refine q_con B dX12_next_408 ?_
                refine q_add B dX12_next_409 ?_
                refine m_put (k := 9) B hM (by decide) rfl fl56 rfl dX12_next_410 rfl rfl (show (0 : Int) ≤ y304_9 + 1 from by first | omega | (simp only [wr_at]; omega)) (show y304_9 + 1 ≤ (3002 : Int) from by first | omega | (simp only [wr_at]; omega)) (u1_up f [(8, y304_8), (9, y304_9), (7, 1), (10, y304_10)] 9 (y304_9 + 1)) (fun H locs hM => ?_)
                replace hM : MWd D dA h0 ad (mF dA h0 ad (f, g, A, L) s.heap.size) s.heap ((up f [(8, y304_8), (9, y304_9 + 1), (7, 1), (10, y304_10)]), (up g [(11, y304_11)]), A, L) H locs := hM
                refine lv_goto (tgt := 433) B.1 B.2.1 dX12_next_413 (by decide) ?_
                subst hPST
                exact m_vret B hM dX12_next_433 ⟨y304_8, (y304_9 + 1), 1, y304_10, y304_11, rfl, by (exact ⟨by first | omega | (simp only [wr_at]; omega) | assumption, by first | omega | (simp only [wr_at]; omega) | assumption⟩)⟩
              · refine lv_aload_n B.1 B.2.1 dX12_next_381 rfl (lv_at hl 0 rfl) ?_
                refine m_get (k := 9) (v := y304_9) B hM (by decide) rfl fl56 dX12_next_382 rfl ?_
                refine lv_aload_n B.1 B.2.1 dX12_next_385 rfl (lv_at hl 0 rfl) ?_
                refine m_get (k := 8) (v := y304_8) B hM (by decide) rfl fl59 dX12_next_386 rfl ?_
                refine q_sub B dX12_next_389 ?_
                refine q_bip B dX12_next_390 (by decide) ?_
                refine q_cle (tgt := 399) B dX12_next_392 (by decide) (by unfold inr; omega) (by unfold inr; omega) (fun c34 => ?_) (fun c34 => ?_)
                · refine q_con B dX12_next_399 ?_
                  refine m_put (k := 7) B hM (by decide) rfl fl66 rfl dX12_next_400 rfl rfl (show (0 : Int) ≤ 5 from by first | omega | (simp only [wr_at]; omega)) (show 5 ≤ (6 : Int) from by first | omega | (simp only [wr_at]; omega)) (u1_up f [(8, y304_8), (9, y304_9), (7, y304_7), (10, y304_10)] 7 5) (fun H locs hM => ?_)
                  replace hM : MWd D dA h0 ad (mF dA h0 ad (f, g, A, L) s.heap.size) s.heap ((up f [(8, y304_8), (9, y304_9), (7, 5), (10, y304_10)]), (up g [(11, y304_11)]), A, L) H locs := hM
                  refine lv_aload_n B.1 B.2.1 dX12_next_403 rfl (lv_at hl 0 rfl) ?_
                  refine lv_dup B.1 B.2.1 dX12_next_404 rfl ?_
                  refine m_get (k := 9) (v := y304_9) B hM (by decide) rfl fl56 dX12_next_405 rfl ?_
                  refine q_con B dX12_next_408 ?_
                  refine q_add B dX12_next_409 ?_
                  refine m_put (k := 9) B hM (by decide) rfl fl56 rfl dX12_next_410 rfl rfl (show (0 : Int) ≤ y304_9 + 1 from by first | omega | (simp only [wr_at]; omega)) (show y304_9 + 1 ≤ (3002 : Int) from by first | omega | (simp only [wr_at]; omega)) (u1_up f [(8, y304_8), (9, y304_9), (7, 5), (10, y304_10)] 9 (y304_9 + 1)) (fun H locs hM => ?_)
                  replace hM : MWd D dA h0 ad (mF dA h0 ad (f, g, A, L) s.heap.size) s.heap ((up f [(8, y304_8), (9, y304_9 + 1), (7, 5), (10, y304_10)]), (up g [(11, y304_11)]), A, L) H locs := hM
                  refine lv_goto (tgt := 433) B.1 B.2.1 dX12_next_413 (by decide) ?_
                  subst hPST
                  exact m_vret B hM dX12_next_433 ⟨y304_8, (y304_9 + 1), 5, y304_10, y304_11, rfl, by (exact ⟨by first | omega | (simp only [wr_at]; omega) | assumption, by first | omega | (simp only [wr_at]; omega) | assumption⟩)⟩
                · refine q_con B dX12_next_395 ?_
                  refine lv_goto (tgt := 400) B.1 B.2.1 dX12_next_396 (by decide) ?_
                  refine m_put (k := 7) B hM (by decide) rfl fl66 rfl dX12_next_400 rfl rfl (show (0 : Int) ≤ 1 from by first | omega | (simp only [wr_at]; omega)) (show 1 ≤ (6 : Int) from by first | omega | (simp only [wr_at]; omega)) (u1_up f [(8, y304_8), (9, y304_9), (7, y304_7), (10, y304_10)] 7 1) (fun H locs hM => ?_)
                  replace hM : MWd D dA h0 ad (mF dA h0 ad (f, g, A, L) s.heap.size) s.heap ((up f [(8, y304_8), (9, y304_9), (7, 1), (10, y304_10)]), (up g [(11, y304_11)]), A, L) H locs := hM
                  refine lv_aload_n B.1 B.2.1 dX12_next_403 rfl (lv_at hl 0 rfl) ?_
                  refine lv_dup B.1 B.2.1 dX12_next_404 rfl ?_
                  refine m_get (k := 9) (v := y304_9) B hM (by decide) rfl fl56 dX12_next_405 rfl ?_
                  refine q_con B dX12_next_408 ?_
                  refine q_add B dX12_next_409 ?_
                  refine m_put (k := 9) B hM (by decide) rfl fl56 rfl dX12_next_410 rfl rfl (show (0 : Int) ≤ y304_9 + 1 from by first | omega | (simp only [wr_at]; omega)) (show y304_9 + 1 ≤ (3002 : Int) from by first | omega | (simp only [wr_at]; omega)) (u1_up f [(8, y304_8), (9, y304_9), (7, 1), (10, y304_10)] 9 (y304_9 + 1)) (fun H locs hM => ?_)
                  replace hM : MWd D dA h0 ad (mF dA h0 ad (f, g, A, L) s.heap.size) s.heap ((up f [(8, y304_8), (9, y304_9 + 1), (7, 1), (10, y304_10)]), (up g [(11, y304_11)]), A, L) H locs := hM
                  refine lv_goto (tgt := 433) B.1 B.2.1 dX12_next_413 (by decide) ?_
                  subst hPST
                  exact m_vret B hM dX12_next_433 ⟨y304_8, (y304_9 + 1), 1, y304_10, y304_11, rfl, by (exact ⟨by first | omega | (simp only [wr_at]; omega) | assumption, by first | omega | (simp only [wr_at]; omega) | assumption⟩)⟩
            · refine lv_aload_n B.1 B.2.1 dX12_next_354 rfl (lv_at hl 0 rfl) ?_
              refine lv_dup B.1 B.2.1 dX12_next_355 rfl ?_
              refine m_get (k := 9) (v := y304_9) B hM (by decide) rfl fl56 dX12_next_356 rfl ?_
              refine q_con B dX12_next_359 ?_
              refine q_add B dX12_next_360 ?_
              refine m_put (k := 9) B hM (by decide) rfl fl56 rfl dX12_next_361 rfl rfl (show (0 : Int) ≤ y304_9 + 1 from by first | omega | (simp only [wr_at]; omega)) (show y304_9 + 1 ≤ (3002 : Int) from by first | omega | (simp only [wr_at]; omega)) (u1_up f [(8, y304_8), (9, y304_9), (7, y304_7), (10, y304_10)] 9 (y304_9 + 1)) (fun H locs hM => ?_)
              replace hM : MWd D dA h0 ad (mF dA h0 ad (f, g, A, L) s.heap.size) s.heap ((up f [(8, y304_8), (9, y304_9 + 1), (7, y304_7), (10, y304_10)]), (up g [(11, y304_11)]), A, L) H locs := hM
              refine lv_goto (tgt := 304) B.1 B.2.1 dX12_next_364 (by decide) ?_
              exact IH304 y304_8 (y304_9 + 1) y304_7 y304_10 y304_11 _ _ ls hM (lv_sub hl [0] rfl) (by first | omega | (simp only [wr_at]; omega) | assumption) (by first | omega | (simp only [wr_at]; omega) | assumption) (by first | omega | (simp only [wr_at]; omega) | assumption) (by first | omega | (simp only [wr_at]; omega) | assumption) (by first | omega | (simp only [wr_at]; omega) | assumption) (by first | omega | (simp only [wr_at]; omega) | assumption)
  have LL170 : ∀ N : Nat, ∀ (v170_2 : Int) (y170_8 : Int) (y170_9 : Int) (y170_7 : Int) (y170_10 : Int) (y170_11 : Int64) (H : Heap) (locs : List Loc) (ls : Array Slot), (MWd D dA h0 ad (mF dA h0 ad (f, g, A, L) s.heap.size) s.heap ((up f [(8, y170_8), (9, y170_9), (7, y170_7), (10, y170_10)]), (up g [(11, y170_11)]), A, L) H locs) → lv_has ls 3 [(0, .ref h0), (2, .int (II v170_2))] → ((-2147483648 : Int) ≤ v170_2 ∧ v170_2 ≤ 2147483647) → ((f 9) ≤ (y170_8)) → ((y170_8) < (f 4)) → ((y170_8) < (y170_9)) → ((y170_9) ≤ (f 4)) → ((y170_8) ≤ (v170_2)) → ((v170_2) ≤ (y170_9)) → (0 ≤ (y170_9) - (v170_2)) → ((y170_9) - (v170_2) < (N : Int)) → W p l e ({ frames := 2, cells := 0, slots := 0, locals := 43 }) s m args below meth c H locs 0 0 (MQ below (mQv D dA h0 ad (f, g, A, L) s.heap.size PST) args s 0 0 (mF dA h0 ad (f, g, A, L) s.heap.size)) (F0 m 170 ls []) := by
    intro N
    induction N with
    | zero => intro v170_2 y170_8 y170_9 y170_7 y170_10 y170_11 H locs ls hM hl hLL170_0 hLL170_1 hLL170_2 hLL170_3 hLL170_4 hLL170_5 hLL170_6 hLL170_7 hN; exfalso; omega
    | succ N IH170 =>
      intro v170_2 y170_8 y170_9 y170_7 y170_10 y170_11 H locs ls hM hl hLL170_0 hLL170_1 hLL170_2 hLL170_3 hLL170_4 hLL170_5 hLL170_6 hLL170_7 hN
      have r35 : (0 : Int) ≤ y170_8 ∧ y170_8 ≤ 3001 := hM.2.2.2.1 8
      have r36 : (0 : Int) ≤ y170_9 ∧ y170_9 ≤ 3002 := hM.2.2.2.1 9
      have r37 : (0 : Int) ≤ y170_7 ∧ y170_7 ≤ 6 := hM.2.2.2.1 7
      have r38 : (-2147483648 : Int) ≤ y170_10 ∧ y170_10 ≤ 2147483647 := hM.2.2.2.1 10
      refine lv_iload_n B.1 B.2.1 dX12_next_170 rfl (lv_at hl 1 rfl) ?_
      refine lv_aload_n B.1 B.2.1 dX12_next_171 rfl (lv_at hl 0 rfl) ?_
      refine m_get (k := 9) (v := y170_9) B hM (by decide) rfl fl56 dX12_next_172 rfl ?_
      refine q_cge (tgt := 213) B dX12_next_175 (by decide) (by unfold inr; omega) (by unfold inr; omega) (fun c39 => ?_) (fun c39 => ?_)
      · refine lv_aload_n B.1 B.2.1 dX12_next_213 rfl (lv_at hl 0 rfl) ?_
        refine lv_aload_n B.1 B.2.1 dX12_next_214 rfl (lv_at hl 0 rfl) ?_
        refine m_get (k := 9) (v := y170_9) B hM (by decide) rfl fl56 dX12_next_215 rfl ?_
        refine lv_aload_n B.1 B.2.1 dX12_next_218 rfl (lv_at hl 0 rfl) ?_
        refine m_get (k := 8) (v := y170_8) B hM (by decide) rfl fl59 dX12_next_219 rfl ?_
        refine q_sub B dX12_next_222 ?_
        refine q_bip B dX12_next_223 (by decide) ?_
        refine q_cle (tgt := 232) B dX12_next_225 (by decide) (by unfold inr; omega) (by unfold inr; omega) (fun c40 => ?_) (fun c40 => ?_)
        · refine lv_aload_n B.1 B.2.1 dX12_next_232 rfl (lv_at hl 0 rfl) ?_
          refine m_getl (k := 11) B hM (by decide) rfl fl76 dX12_next_233 rfl ?_
          refine s_calli (n := 1) (rest := [.ref h0]) B hl.1 (k_isKept l D dA y170_11  ) rfl ok_isKept nm_isKept ⟨rfl, rfl⟩ ⟨Nat.le_of_ble_eq_true rfl, Nat.le_of_ble_eq_true rfl⟩ dX12_next_236 rfl rfl (Nat.le_of_ble_eq_true rfl) ⟨Nat.zero_le _, Nat.zero_le _⟩ (fun r41 ir41 hp42 => ?_)
          unfold inr at ir41
          replace hp42 : 0 ≤ r41 ∧ r41 ≤ 1 := hp42
          refine q_ieq (tgt := 246) B dX12_next_239 (by decide) (by unfold inr; omega) (fun c43 => ?_) (fun c43 => ?_)
          · refine q_con B dX12_next_246 ?_
            refine m_put (k := 7) B hM (by decide) rfl fl66 rfl dX12_next_247 rfl rfl (show (0 : Int) ≤ 2 from by first | omega | (simp only [wr_at]; omega)) (show 2 ≤ (6 : Int) from by first | omega | (simp only [wr_at]; omega)) (u1_up f [(8, y170_8), (9, y170_9), (7, y170_7), (10, y170_10)] 7 2) (fun H locs hM => ?_)
            replace hM : MWd D dA h0 ad (mF dA h0 ad (f, g, A, L) s.heap.size) s.heap ((up f [(8, y170_8), (9, y170_9), (7, 2), (10, y170_10)]), (up g [(11, y170_11)]), A, L) H locs := hM
            refine lv_goto (tgt := 433) B.1 B.2.1 dX12_next_250 (by decide) ?_
            subst hPST
            exact m_vret B hM dX12_next_433 ⟨y170_8, y170_9, 2, y170_10, y170_11, rfl, by (exact ⟨by first | omega | (simp only [wr_at]; omega) | assumption, by first | omega | (simp only [wr_at]; omega) | assumption⟩)⟩
          · refine q_con B dX12_next_242 ?_
            refine lv_goto (tgt := 247) B.1 B.2.1 dX12_next_243 (by decide) ?_
            refine m_put (k := 7) B hM (by decide) rfl fl66 rfl dX12_next_247 rfl rfl (show (0 : Int) ≤ 3 from by first | omega | (simp only [wr_at]; omega)) (show 3 ≤ (6 : Int) from by first | omega | (simp only [wr_at]; omega)) (u1_up f [(8, y170_8), (9, y170_9), (7, y170_7), (10, y170_10)] 7 3) (fun H locs hM => ?_)
            replace hM : MWd D dA h0 ad (mF dA h0 ad (f, g, A, L) s.heap.size) s.heap ((up f [(8, y170_8), (9, y170_9), (7, 3), (10, y170_10)]), (up g [(11, y170_11)]), A, L) H locs := hM
            refine lv_goto (tgt := 433) B.1 B.2.1 dX12_next_250 (by decide) ?_
            subst hPST
            exact m_vret B hM dX12_next_433 ⟨y170_8, y170_9, 3, y170_10, y170_11, rfl, by (exact ⟨by first | omega | (simp only [wr_at]; omega) | assumption, by first | omega | (simp only [wr_at]; omega) | assumption⟩)⟩
        · refine q_con B dX12_next_228 ?_
          refine lv_goto (tgt := 247) B.1 B.2.1 dX12_next_229 (by decide) ?_
          refine m_put (k := 7) B hM (by decide) rfl fl66 rfl dX12_next_247 rfl rfl (show (0 : Int) ≤ 1 from by first | omega | (simp only [wr_at]; omega)) (show 1 ≤ (6 : Int) from by first | omega | (simp only [wr_at]; omega)) (u1_up f [(8, y170_8), (9, y170_9), (7, y170_7), (10, y170_10)] 7 1) (fun H locs hM => ?_)
          replace hM : MWd D dA h0 ad (mF dA h0 ad (f, g, A, L) s.heap.size) s.heap ((up f [(8, y170_8), (9, y170_9), (7, 1), (10, y170_10)]), (up g [(11, y170_11)]), A, L) H locs := hM
          refine lv_goto (tgt := 433) B.1 B.2.1 dX12_next_250 (by decide) ?_
          subst hPST
          exact m_vret B hM dX12_next_433 ⟨y170_8, y170_9, 1, y170_10, y170_11, rfl, by (exact ⟨by first | omega | (simp only [wr_at]; omega) | assumption, by first | omega | (simp only [wr_at]; omega) | assumption⟩)⟩
      · refine lv_iload_n B.1 B.2.1 dX12_next_178 rfl (lv_at hl 1 rfl) ?_
        refine lv_aload_n B.1 B.2.1 dX12_next_179 rfl (lv_at hl 0 rfl) ?_
        refine m_get (k := 8) (v := y170_8) B hM (by decide) rfl fl59 dX12_next_180 rfl ?_
        refine q_bip B dX12_next_183 (by decide) ?_
        refine q_add B dX12_next_185 ?_
        refine q_cge (tgt := 213) B dX12_next_186 (by decide) (by unfold inr; omega) (by unfold inr; omega) (fun c44 => ?_) (fun c44 => ?_)
        · refine lv_aload_n B.1 B.2.1 dX12_next_213 rfl (lv_at hl 0 rfl) ?_
          refine lv_aload_n B.1 B.2.1 dX12_next_214 rfl (lv_at hl 0 rfl) ?_
          refine m_get (k := 9) (v := y170_9) B hM (by decide) rfl fl56 dX12_next_215 rfl ?_
          refine lv_aload_n B.1 B.2.1 dX12_next_218 rfl (lv_at hl 0 rfl) ?_
          refine m_get (k := 8) (v := y170_8) B hM (by decide) rfl fl59 dX12_next_219 rfl ?_
          refine q_sub B dX12_next_222 ?_
          refine q_bip B dX12_next_223 (by decide) ?_
          refine q_cle (tgt := 232) B dX12_next_225 (by decide) (by unfold inr; omega) (by unfold inr; omega) (fun c45 => ?_) (fun c45 => ?_)
          · refine lv_aload_n B.1 B.2.1 dX12_next_232 rfl (lv_at hl 0 rfl) ?_
            refine m_getl (k := 11) B hM (by decide) rfl fl76 dX12_next_233 rfl ?_
            refine s_calli (n := 1) (rest := [.ref h0]) B hl.1 (k_isKept l D dA y170_11  ) rfl ok_isKept nm_isKept ⟨rfl, rfl⟩ ⟨Nat.le_of_ble_eq_true rfl, Nat.le_of_ble_eq_true rfl⟩ dX12_next_236 rfl rfl (Nat.le_of_ble_eq_true rfl) ⟨Nat.zero_le _, Nat.zero_le _⟩ (fun r46 ir46 hp47 => ?_)
            unfold inr at ir46
            replace hp47 : 0 ≤ r46 ∧ r46 ≤ 1 := hp47
            refine q_ieq (tgt := 246) B dX12_next_239 (by decide) (by unfold inr; omega) (fun c48 => ?_) (fun c48 => ?_)
            · refine q_con B dX12_next_246 ?_
              refine m_put (k := 7) B hM (by decide) rfl fl66 rfl dX12_next_247 rfl rfl (show (0 : Int) ≤ 2 from by first | omega | (simp only [wr_at]; omega)) (show 2 ≤ (6 : Int) from by first | omega | (simp only [wr_at]; omega)) (u1_up f [(8, y170_8), (9, y170_9), (7, y170_7), (10, y170_10)] 7 2) (fun H locs hM => ?_)
              replace hM : MWd D dA h0 ad (mF dA h0 ad (f, g, A, L) s.heap.size) s.heap ((up f [(8, y170_8), (9, y170_9), (7, 2), (10, y170_10)]), (up g [(11, y170_11)]), A, L) H locs := hM
              refine lv_goto (tgt := 433) B.1 B.2.1 dX12_next_250 (by decide) ?_
              subst hPST
              exact m_vret B hM dX12_next_433 ⟨y170_8, y170_9, 2, y170_10, y170_11, rfl, by (exact ⟨by first | omega | (simp only [wr_at]; omega) | assumption, by first | omega | (simp only [wr_at]; omega) | assumption⟩)⟩
            · refine q_con B dX12_next_242 ?_
              refine lv_goto (tgt := 247) B.1 B.2.1 dX12_next_243 (by decide) ?_
              refine m_put (k := 7) B hM (by decide) rfl fl66 rfl dX12_next_247 rfl rfl (show (0 : Int) ≤ 3 from by first | omega | (simp only [wr_at]; omega)) (show 3 ≤ (6 : Int) from by first | omega | (simp only [wr_at]; omega)) (u1_up f [(8, y170_8), (9, y170_9), (7, y170_7), (10, y170_10)] 7 3) (fun H locs hM => ?_)
              replace hM : MWd D dA h0 ad (mF dA h0 ad (f, g, A, L) s.heap.size) s.heap ((up f [(8, y170_8), (9, y170_9), (7, 3), (10, y170_10)]), (up g [(11, y170_11)]), A, L) H locs := hM
              refine lv_goto (tgt := 433) B.1 B.2.1 dX12_next_250 (by decide) ?_
              subst hPST
              exact m_vret B hM dX12_next_433 ⟨y170_8, y170_9, 3, y170_10, y170_11, rfl, by (exact ⟨by first | omega | (simp only [wr_at]; omega) | assumption, by first | omega | (simp only [wr_at]; omega) | assumption⟩)⟩
          · refine q_con B dX12_next_228 ?_
            refine lv_goto (tgt := 247) B.1 B.2.1 dX12_next_229 (by decide) ?_
            refine m_put (k := 7) B hM (by decide) rfl fl66 rfl dX12_next_247 rfl rfl (show (0 : Int) ≤ 1 from by first | omega | (simp only [wr_at]; omega)) (show 1 ≤ (6 : Int) from by first | omega | (simp only [wr_at]; omega)) (u1_up f [(8, y170_8), (9, y170_9), (7, y170_7), (10, y170_10)] 7 1) (fun H locs hM => ?_)
            replace hM : MWd D dA h0 ad (mF dA h0 ad (f, g, A, L) s.heap.size) s.heap ((up f [(8, y170_8), (9, y170_9), (7, 1), (10, y170_10)]), (up g [(11, y170_11)]), A, L) H locs := hM
            refine lv_goto (tgt := 433) B.1 B.2.1 dX12_next_250 (by decide) ?_
            subst hPST
            exact m_vret B hM dX12_next_433 ⟨y170_8, y170_9, 1, y170_10, y170_11, rfl, by (exact ⟨by first | omega | (simp only [wr_at]; omega) | assumption, by first | omega | (simp only [wr_at]; omega) | assumption⟩)⟩
        · refine lv_aload_n B.1 B.2.1 dX12_next_189 rfl (lv_at hl 0 rfl) ?_
          refine lv_aload_n B.1 B.2.1 dX12_next_190 rfl (lv_at hl 0 rfl) ?_
          refine m_getl (k := 11) B hM (by decide) rfl fl76 dX12_next_191 rfl ?_
          refine q_bip B dX12_next_194 (by decide) ?_
          refine lv_lshl B.1 B.2.1 dX12_next_196 rfl ?_
          refine lv_topl (fun w49 ew49 => ?_)
          refine lv_aload_n B.1 B.2.1 dX12_next_197 rfl (lv_at hl 0 rfl) ?_
          refine lv_iload_n B.1 B.2.1 dX12_next_198 rfl (lv_at hl 1 rfl) ?_
          refine m_calli (n := 1) (rest := [.long w49, .ref h0]) B hM hA hl.1 (k_sign l D dA h0 ad (up f [(8, y170_8), (9, y170_9), (7, y170_7), (10, y170_10)]) (up g [(11, y170_11)]) A L v170_2 (by omega) (show 0 ≤ (v170_2) from by first | omega | (simp only [wr_at]; omega) | assumption) (show (v170_2) ≤ 100000 from by first | omega | (simp only [wr_at]; omega) | assumption)) rfl ok_sign nm_sign ⟨rfl, rfl⟩ ⟨Nat.le_of_ble_eq_true rfl, Nat.le_of_ble_eq_true rfl⟩ dX12_next_199 rfl rfl (Nat.le_of_ble_eq_true rfl) ⟨Nat.zero_le _, Nat.zero_le _⟩ (fun r50 σr50 H locs ir50 hp51 hM => ?_)
          obtain ⟨rfl, hp51⟩ := hp51
          unfold inr at ir50
          replace hp51 : r50 = sgn ((A 2)) (f 3) (f 4) (v170_2) ∧ 0 ≤ r50 ∧ r50 ≤ 255 ∧ (r50 ≠ 0 → (v170_2) < (f 4)) := hp51
          obtain ⟨hp51_0, hp51_1, hp51_2, hp51_3⟩ := hp51
          refine q_i2l B dX12_next_202 (fun w52 => ?_)
          refine lv_lor B.1 B.2.1 dX12_next_203 ?_
          refine lv_topl (fun w53 ew53 => ?_)
          refine m_putl (k := 11) B hM (by decide) rfl fl76 rfl dX12_next_204 rfl rfl (u1_up g [(11, y170_11)] 11 w53) (fun H locs hM => ?_)
          replace hM : MWd D dA h0 ad (mF dA h0 ad (f, g, A, L) s.heap.size) s.heap ((up f [(8, y170_8), (9, y170_9), (7, y170_7), (10, y170_10)]), (up g [(11, w53)]), A, L) H locs := hM
          refine q_inc (k := 1) (x := v170_2) (lv' := [(2, .int (II (v170_2 + 1))), (0, .ref h0)]) B dX12_next_207 hl rfl (by decide) rfl (fun ls hl => ?_)
          refine lv_goto (tgt := 170) B.1 B.2.1 dX12_next_210 (by decide) ?_
          exact IH170 (v170_2 + 1) y170_8 y170_9 y170_7 y170_10 w53 _ _ ls hM (lv_sub hl [1, 0] rfl) (by omega) (by first | omega | (simp only [wr_at]; omega) | assumption) (by first | omega | (simp only [wr_at]; omega) | assumption) (by first | omega | (simp only [wr_at]; omega) | assumption) (by first | omega | (simp only [wr_at]; omega) | assumption) (by first | omega | (simp only [wr_at]; omega) | assumption) (by first | omega | (simp only [wr_at]; omega) | assumption) (by first | omega | (simp only [wr_at]; omega) | assumption) (by first | omega | (simp only [wr_at]; omega) | assumption)
  have LL119 : ∀ N : Nat, ∀ (y119_8 : Int) (y119_9 : Int) (y119_7 : Int) (y119_10 : Int) (y119_11 : Int64) (H : Heap) (locs : List Loc) (ls : Array Slot), (MWd D dA h0 ad (mF dA h0 ad (f, g, A, L) s.heap.size) s.heap ((up f [(8, y119_8), (9, y119_9), (7, y119_7), (10, y119_10)]), (up g [(11, y119_11)]), A, L) H locs) → lv_has ls 3 [(0, .ref h0)] → ((f 9) ≤ (y119_8)) → ((y119_8) < (f 4)) → ((y119_8) < (y119_9)) → ((y119_9) ≤ (f 4)) → (0 ≤ (f 4) - (y119_9)) → ((f 4) - (y119_9) < (N : Int)) → W p l e ({ frames := 2, cells := 0, slots := 0, locals := 43 }) s m args below meth c H locs 0 0 (MQ below (mQv D dA h0 ad (f, g, A, L) s.heap.size PST) args s 0 0 (mF dA h0 ad (f, g, A, L) s.heap.size)) (F0 m 119 ls []) := by
    intro N
    induction N with
    | zero => intro y119_8 y119_9 y119_7 y119_10 y119_11 H locs ls hM hl hLL119_0 hLL119_1 hLL119_2 hLL119_3 hLL119_4 hN; exfalso; omega
    | succ N IH119 =>
      intro y119_8 y119_9 y119_7 y119_10 y119_11 H locs ls hM hl hLL119_0 hLL119_1 hLL119_2 hLL119_3 hLL119_4 hN
      have r54 : (0 : Int) ≤ y119_8 ∧ y119_8 ≤ 3001 := hM.2.2.2.1 8
      have r55 : (0 : Int) ≤ y119_9 ∧ y119_9 ≤ 3002 := hM.2.2.2.1 9
      have r56 : (0 : Int) ≤ y119_7 ∧ y119_7 ≤ 6 := hM.2.2.2.1 7
      have r57 : (-2147483648 : Int) ≤ y119_10 ∧ y119_10 ≤ 2147483647 := hM.2.2.2.1 10
      refine lv_aload_n B.1 B.2.1 dX12_next_119 rfl (lv_at hl 0 rfl) ?_
      refine lv_aload_n B.1 B.2.1 dX12_next_120 rfl (lv_at hl 0 rfl) ?_
      refine m_get (k := 9) (v := y119_9) B hM (by decide) rfl fl56 dX12_next_121 rfl ?_
      refine m_calli (n := 1) (rest := []) B hM hA hl.1 (k_sign l D dA h0 ad (up f [(8, y119_8), (9, y119_9), (7, y119_7), (10, y119_10)]) (up g [(11, y119_11)]) A L y119_9 (by omega) (show 0 ≤ (y119_9) from by first | omega | (simp only [wr_at]; omega) | assumption) (show (y119_9) ≤ 100000 from by first | omega | (simp only [wr_at]; omega) | assumption)) rfl ok_sign nm_sign ⟨rfl, rfl⟩ ⟨Nat.le_of_ble_eq_true rfl, Nat.le_of_ble_eq_true rfl⟩ dX12_next_124 rfl rfl (Nat.le_of_ble_eq_true rfl) ⟨Nat.zero_le _, Nat.zero_le _⟩ (fun r58 σr58 H locs ir58 hp59 hM => ?_)
      obtain ⟨rfl, hp59⟩ := hp59
      unfold inr at ir58
      replace hp59 : r58 = sgn ((A 2)) (f 3) (f 4) (y119_9) ∧ 0 ≤ r58 ∧ r58 ≤ 255 ∧ (r58 ≠ 0 → (y119_9) < (f 4)) := hp59
      obtain ⟨hp59_0, hp59_1, hp59_2, hp59_3⟩ := hp59
      refine s_calli (n := 1) (rest := []) B hl.1 (k_isLetter l D dA r58 (by omega) ) rfl ok_isLetter nm_isLetter ⟨rfl, rfl⟩ ⟨Nat.le_of_ble_eq_true rfl, Nat.le_of_ble_eq_true rfl⟩ dX12_next_127 rfl rfl (Nat.le_of_ble_eq_true rfl) ⟨Nat.zero_le _, Nat.zero_le _⟩ (fun r60 ir60 hp61 => ?_)
      unfold inr at ir60
      replace hp61 : (r60 = 1 ↔ 97 ≤ (r58) ∧ (r58) ≤ 122) ∧ 0 ≤ r60 ∧ r60 ≤ 1 := hp61
      refine q_ine (tgt := 147) B dX12_next_130 (by decide) (by unfold inr; omega) (fun c62 => ?_) (fun c62 => ?_)
      · refine lv_aload_n B.1 B.2.1 dX12_next_147 rfl (lv_at hl 0 rfl) ?_
        refine lv_dup B.1 B.2.1 dX12_next_148 rfl ?_
        refine m_get (k := 9) (v := y119_9) B hM (by decide) rfl fl56 dX12_next_149 rfl ?_
        refine q_con B dX12_next_152 ?_
        refine q_add B dX12_next_153 ?_
        refine m_put (k := 9) B hM (by decide) rfl fl56 rfl dX12_next_154 rfl rfl (show (0 : Int) ≤ y119_9 + 1 from by first | omega | (simp only [wr_at]; omega)) (show y119_9 + 1 ≤ (3002 : Int) from by first | omega | (simp only [wr_at]; omega)) (u1_up f [(8, y119_8), (9, y119_9), (7, y119_7), (10, y119_10)] 9 (y119_9 + 1)) (fun H locs hM => ?_)
        replace hM : MWd D dA h0 ad (mF dA h0 ad (f, g, A, L) s.heap.size) s.heap ((up f [(8, y119_8), (9, y119_9 + 1), (7, y119_7), (10, y119_10)]), (up g [(11, y119_11)]), A, L) H locs := hM
        refine lv_goto (tgt := 119) B.1 B.2.1 dX12_next_157 (by decide) ?_
        exact IH119 y119_8 (y119_9 + 1) y119_7 y119_10 y119_11 _ _ ls hM (lv_sub hl [0] rfl) (by first | omega | (simp only [wr_at]; omega) | assumption) (by first | omega | (simp only [wr_at]; omega) | assumption) (by first | omega | (simp only [wr_at]; omega) | assumption) (by first | omega | (simp only [wr_at]; omega) | assumption) (by first | omega | (simp only [wr_at]; omega) | assumption) (by first | omega | (simp only [wr_at]; omega) | assumption)
      · refine lv_aload_n B.1 B.2.1 dX12_next_133 rfl (lv_at hl 0 rfl) ?_
        refine lv_aload_n B.1 B.2.1 dX12_next_134 rfl (lv_at hl 0 rfl) ?_
        refine m_get (k := 9) (v := y119_9) B hM (by decide) rfl fl56 dX12_next_135 rfl ?_
        refine m_calli (n := 1) (rest := []) B hM hA hl.1 (k_sign l D dA h0 ad (up f [(8, y119_8), (9, y119_9), (7, y119_7), (10, y119_10)]) (up g [(11, y119_11)]) A L y119_9 (by omega) (show 0 ≤ (y119_9) from by first | omega | (simp only [wr_at]; omega) | assumption) (show (y119_9) ≤ 100000 from by first | omega | (simp only [wr_at]; omega) | assumption)) rfl ok_sign nm_sign ⟨rfl, rfl⟩ ⟨Nat.le_of_ble_eq_true rfl, Nat.le_of_ble_eq_true rfl⟩ dX12_next_138 rfl rfl (Nat.le_of_ble_eq_true rfl) ⟨Nat.zero_le _, Nat.zero_le _⟩ (fun r63 σr63 H locs ir63 hp64 hM => ?_)
        obtain ⟨rfl, hp64⟩ := hp64
        unfold inr at ir63
        replace hp64 : r63 = sgn ((A 2)) (f 3) (f 4) (y119_9) ∧ 0 ≤ r63 ∧ r63 ≤ 255 ∧ (r63 ≠ 0 → (y119_9) < (f 4)) := hp64
        obtain ⟨hp64_0, hp64_1, hp64_2, hp64_3⟩ := hp64
        refine s_calli (n := 1) (rest := []) B hl.1 (k_isDigit l D dA r63 (by omega) ) rfl ok_isDigit nm_isDigit ⟨rfl, rfl⟩ ⟨Nat.le_of_ble_eq_true rfl, Nat.le_of_ble_eq_true rfl⟩ dX12_next_141 rfl rfl (Nat.le_of_ble_eq_true rfl) ⟨Nat.zero_le _, Nat.zero_le _⟩ (fun r65 ir65 hp66 => ?_)
        unfold inr at ir65
        replace hp66 : (r65 = 1 ↔ 48 ≤ (r63) ∧ (r63) ≤ 57) ∧ 0 ≤ r65 ∧ r65 ≤ 1 := hp66
        refine q_ieq (tgt := 160) B dX12_next_144 (by decide) (by unfold inr; omega) (fun c67 => ?_) (fun c67 => ?_)
        · refine lv_aload_n B.1 B.2.1 dX12_next_160 rfl (lv_at hl 0 rfl) ?_
          refine lv_lconst (v := 0) B.1 B.2.1 dX12_next_161 (by decide) ?_
          refine m_putl (k := 11) B hM (by decide) rfl fl76 rfl dX12_next_162 rfl rfl (u1_up g [(11, y119_11)] 11 ((0 : Int64))) (fun H locs hM => ?_)
          replace hM : MWd D dA h0 ad (mF dA h0 ad (f, g, A, L) s.heap.size) s.heap ((up f [(8, y119_8), (9, y119_9), (7, y119_7), (10, y119_10)]), (up g [(11, (0 : Int64))]), A, L) H locs := hM
          refine lv_aload_n B.1 B.2.1 dX12_next_165 rfl (lv_at hl 0 rfl) ?_
          refine m_get (k := 8) (v := y119_8) B hM (by decide) rfl fl59 dX12_next_166 rfl ?_
          refine lv_istore_n (lv' := [(2, .int (II y119_8)), (0, .ref h0)]) B.1 B.2.1 dX12_next_169 rfl hl (by decide) rfl (fun ls hl => ?_)
          exact LL170 (Int.toNat ((y119_9) - (y119_8) + 1)) y119_8 y119_8 y119_9 y119_7 y119_10 ((0 : Int64)) _ _ ls hM (lv_sub hl [1, 0] rfl) (by omega) (by first | omega | (simp only [wr_at]; omega) | assumption) (by first | omega | (simp only [wr_at]; omega) | assumption) (by first | omega | (simp only [wr_at]; omega) | assumption) (by first | omega | (simp only [wr_at]; omega) | assumption) (by first | omega | (simp only [wr_at]; omega) | assumption) (by first | omega | (simp only [wr_at]; omega) | assumption) (by first | omega | (simp only [wr_at]; omega) | assumption) (by first | omega | (simp only [wr_at]; omega) | assumption)
        · refine lv_aload_n B.1 B.2.1 dX12_next_147 rfl (lv_at hl 0 rfl) ?_
          refine lv_dup B.1 B.2.1 dX12_next_148 rfl ?_
          refine m_get (k := 9) (v := y119_9) B hM (by decide) rfl fl56 dX12_next_149 rfl ?_
          refine q_con B dX12_next_152 ?_
          refine q_add B dX12_next_153 ?_
          refine m_put (k := 9) B hM (by decide) rfl fl56 rfl dX12_next_154 rfl rfl (show (0 : Int) ≤ y119_9 + 1 from by first | omega | (simp only [wr_at]; omega)) (show y119_9 + 1 ≤ (3002 : Int) from by first | omega | (simp only [wr_at]; omega)) (u1_up f [(8, y119_8), (9, y119_9), (7, y119_7), (10, y119_10)] 9 (y119_9 + 1)) (fun H locs hM => ?_)
          replace hM : MWd D dA h0 ad (mF dA h0 ad (f, g, A, L) s.heap.size) s.heap ((up f [(8, y119_8), (9, y119_9 + 1), (7, y119_7), (10, y119_10)]), (up g [(11, y119_11)]), A, L) H locs := hM
          refine lv_goto (tgt := 119) B.1 B.2.1 dX12_next_157 (by decide) ?_
          exact IH119 y119_8 (y119_9 + 1) y119_7 y119_10 y119_11 _ _ ls hM (lv_sub hl [0] rfl) (by first | omega | (simp only [wr_at]; omega) | assumption) (by first | omega | (simp only [wr_at]; omega) | assumption) (by first | omega | (simp only [wr_at]; omega) | assumption) (by first | omega | (simp only [wr_at]; omega) | assumption) (by first | omega | (simp only [wr_at]; omega) | assumption) (by first | omega | (simp only [wr_at]; omega) | assumption)
  have JJ58 : ∀ (y58_8 : Int) (y58_11 : Int64) (H : Heap) (locs : List Loc) (ls : Array Slot), (MWd D dA h0 ad (mF dA h0 ad (f, g, A, L) s.heap.size) s.heap ((up f [(8, y58_8), (9, f 9), (7, f 7), (10, f 10)]), (up g [(11, y58_11)]), A, L) H locs) → lv_has ls 3 [(0, .ref h0)] → ((f 9) ≤ (y58_8)) → (((y58_8) ≤ (f 4) ∨ (y58_8) = (f 9))) → W p l e ({ frames := 2, cells := 0, slots := 0, locals := 43 }) s m args below meth c H locs 0 0 (MQ below (mQv D dA h0 ad (f, g, A, L) s.heap.size PST) args s 0 0 (mF dA h0 ad (f, g, A, L) s.heap.size)) (F0 m 58 ls []) := by
    intro y58_8 y58_11 H locs ls hM hl hJJ58_0 hJJ58_1
    have r68 : (0 : Int) ≤ y58_8 ∧ y58_8 ≤ 3001 := hM.2.2.2.1 8
    have r69 : (-2147483648 : Int) ≤ f 10 ∧ f 10 ≤ 2147483647 := hM.2.2.2.1 10
    refine lv_aload_n B.1 B.2.1 dX12_next_58 rfl (lv_at hl 0 rfl) ?_
    refine lv_aload_n B.1 B.2.1 dX12_next_59 rfl (lv_at hl 0 rfl) ?_
    refine m_get (k := 8) (v := y58_8) B hM (by decide) rfl fl59 dX12_next_60 rfl ?_
    refine q_con B dX12_next_63 ?_
    refine q_add B dX12_next_64 ?_
    refine m_put (k := 9) B hM (by decide) rfl fl56 rfl dX12_next_65 rfl rfl (show (0 : Int) ≤ y58_8 + 1 from by first | omega | (simp only [wr_at]; omega)) (show y58_8 + 1 ≤ (3002 : Int) from by first | omega | (simp only [wr_at]; omega)) (u1_up f [(8, y58_8), (9, f 9), (7, f 7), (10, f 10)] 9 (y58_8 + 1)) (fun H locs hM => ?_)
    replace hM : MWd D dA h0 ad (mF dA h0 ad (f, g, A, L) s.heap.size) s.heap ((up f [(8, y58_8), (9, y58_8 + 1), (7, f 7), (10, f 10)]), (up g [(11, y58_11)]), A, L) H locs := hM
    refine lv_aload_n B.1 B.2.1 dX12_next_68 rfl (lv_at hl 0 rfl) ?_
    refine lv_aload_n B.1 B.2.1 dX12_next_69 rfl (lv_at hl 0 rfl) ?_
    refine m_get (k := 8) (v := y58_8) B hM (by decide) rfl fl59 dX12_next_70 rfl ?_
    refine m_calli (n := 1) (rest := []) B hM hA hl.1 (k_sign l D dA h0 ad (up f [(8, y58_8), (9, y58_8 + 1), (7, f 7), (10, f 10)]) (up g [(11, y58_11)]) A L y58_8 (by omega) (show 0 ≤ (y58_8) from by first | omega | (simp only [wr_at]; omega) | assumption) (show (y58_8) ≤ 100000 from by first | omega | (simp only [wr_at]; omega) | assumption)) rfl ok_sign nm_sign ⟨rfl, rfl⟩ ⟨Nat.le_of_ble_eq_true rfl, Nat.le_of_ble_eq_true rfl⟩ dX12_next_73 rfl rfl (Nat.le_of_ble_eq_true rfl) ⟨Nat.zero_le _, Nat.zero_le _⟩ (fun r70 σr70 H locs ir70 hp71 hM => ?_)
    obtain ⟨rfl, hp71⟩ := hp71
    unfold inr at ir70
    replace hp71 : r70 = sgn ((A 2)) (f 3) (f 4) (y58_8) ∧ 0 ≤ r70 ∧ r70 ≤ 255 ∧ (r70 ≠ 0 → (y58_8) < (f 4)) := hp71
    obtain ⟨hp71_0, hp71_1, hp71_2, hp71_3⟩ := hp71
    refine lv_istore_n (lv' := [(1, .int (II r70)), (0, .ref h0)]) B.1 B.2.1 dX12_next_76 rfl hl (by decide) rfl (fun ls hl => ?_)
    refine lv_aload_n B.1 B.2.1 dX12_next_77 rfl (lv_at hl 1 rfl) ?_
    refine m_get (k := 8) (v := y58_8) B hM (by decide) rfl fl59 dX12_next_78 rfl ?_
    refine lv_aload_n B.1 B.2.1 dX12_next_81 rfl (lv_at hl 1 rfl) ?_
    refine m_get (k := 4) (v := f 4) B hM (by decide) rfl fl1 dX12_next_82 rfl ?_
    refine q_clt (tgt := 112) B dX12_next_85 (by decide) (by unfold inr; omega) (by unfold inr; omega) (fun c72 => ?_) (fun c72 => ?_)
    · refine lv_iload_n B.1 B.2.1 dX12_next_112 rfl (lv_at hl 0 rfl) ?_
      refine s_calli (n := 1) (rest := []) B hl.1 (k_isLetter l D dA r70 (by omega) ) rfl ok_isLetter nm_isLetter ⟨rfl, rfl⟩ ⟨Nat.le_of_ble_eq_true rfl, Nat.le_of_ble_eq_true rfl⟩ dX12_next_113 rfl rfl (Nat.le_of_ble_eq_true rfl) ⟨Nat.zero_le _, Nat.zero_le _⟩ (fun r73 ir73 hp74 => ?_)
      unfold inr at ir73
      replace hp74 : (r73 = 1 ↔ 97 ≤ (r70) ∧ (r70) ≤ 122) ∧ 0 ≤ r73 ∧ r73 ≤ 1 := hp74
      refine q_ieq (tgt := 253) B dX12_next_116 (by decide) (by unfold inr; omega) (fun c75 => ?_) (fun c75 => ?_)
      · refine lv_iload_n B.1 B.2.1 dX12_next_253 rfl (lv_at hl 0 rfl) ?_
        refine s_calli (n := 1) (rest := []) B hl.1 (k_isDigit l D dA r70 (by omega) ) rfl ok_isDigit nm_isDigit ⟨rfl, rfl⟩ ⟨Nat.le_of_ble_eq_true rfl, Nat.le_of_ble_eq_true rfl⟩ dX12_next_254 rfl rfl (Nat.le_of_ble_eq_true rfl) ⟨Nat.zero_le _, Nat.zero_le _⟩ (fun r76 ir76 hp77 => ?_)
        unfold inr at ir76
        replace hp77 : (r76 = 1 ↔ 48 ≤ (r70) ∧ (r70) ≤ 57) ∧ 0 ≤ r76 ∧ r76 ≤ 1 := hp77
        refine q_ine (tgt := 280) B dX12_next_257 (by decide) (by unfold inr; omega) (fun c78 => ?_) (fun c78 => ?_)
        · refine lv_aload_n B.1 B.2.1 dX12_next_280 rfl (lv_at hl 1 rfl) ?_
          refine lv_iload_n B.1 B.2.1 dX12_next_281 rfl (lv_at hl 0 rfl) ?_
          refine q_bip B dX12_next_282 (by decide) ?_
          refine q_cne (tgt := 291) B dX12_next_284 (by decide) (by unfold inr; omega) (by unfold inr; omega) (fun c79 => ?_) (fun c79 => ?_)
          · refine q_con B dX12_next_291 ?_
            refine m_callv (n := 1) (rest := []) B hM hA hl.1 (k_nextNumber l D dA h0 ad (up f [(8, y58_8), (9, y58_8 + 1), (7, f 7), (10, f 10)]) (up g [(11, y58_11)]) A L 0 (by omega) (show (y58_8) < (f 4) from by first | omega | (simp only [wr_at]; omega) | assumption) (show ((0) = 0 → 48 ≤ sgn ((A 2)) (f 3) (f 4) (y58_8) ∧ sgn ((A 2)) (f 3) (f 4) (y58_8) ≤ 57) from by first | omega | (simp only [wr_at]; omega) | assumption) (show ((0) = 1 → 48 ≤ sgn ((A 2)) (f 3) (f 4) ((y58_8) + 1) ∧ sgn ((A 2)) (f 3) (f 4) ((y58_8) + 1) ≤ 57 ∧ (y58_8) + 1 < (f 4)) from by first | omega | (simp only [wr_at]; omega) | assumption)) rfl ok_nextNumber nm_nextNumber ⟨rfl, rfl⟩ ⟨Nat.le_of_ble_eq_true rfl, Nat.le_of_ble_eq_true rfl⟩ dX12_next_292 rfl rfl (Nat.le_of_ble_eq_true rfl) ⟨Nat.zero_le _, Nat.zero_le _⟩ (fun σr80 H locs hp81 hM => ?_)
            obtain ⟨x82, x83, x84, rfl, hp81⟩ := hp81
            replace hp81 : (x82) ≤ (f 4) ∧ (y58_8) < (x82) ∧ ((x84) = 1 ∨ (x84) = 4) := hp81
            obtain ⟨hp81_0, hp81_1, hp81_2⟩ := hp81
            simp only [up_up] at hM
            replace hM : MWd D dA h0 ad (mF dA h0 ad (f, g, A, L) s.heap.size) s.heap ((up f [(8, y58_8), (9, x82), (7, x84), (10, x83)]), (up g [(11, y58_11)]), A, L) H locs := hM
            have r85 : (0 : Int) ≤ x82 ∧ x82 ≤ 3002 := hM.2.2.2.1 9
            have r86 : (-2147483648 : Int) ≤ x83 ∧ x83 ≤ 2147483647 := hM.2.2.2.1 10
            have r87 : (0 : Int) ≤ x84 ∧ x84 ≤ 6 := hM.2.2.2.1 7
            refine lv_goto (tgt := 433) B.1 B.2.1 dX12_next_295 (by decide) ?_
            subst hPST
            exact m_vret B hM dX12_next_433 ⟨y58_8, x82, x84, x83, y58_11, rfl, by (exact ⟨by first | omega | (simp only [wr_at]; omega) | assumption, by first | omega | (simp only [wr_at]; omega) | assumption⟩)⟩
          · refine q_con B dX12_next_287 ?_
            refine lv_goto (tgt := 292) B.1 B.2.1 dX12_next_288 (by decide) ?_
            refine m_callv (n := 1) (rest := []) B hM hA hl.1 (k_nextNumber l D dA h0 ad (up f [(8, y58_8), (9, y58_8 + 1), (7, f 7), (10, f 10)]) (up g [(11, y58_11)]) A L 1 (by omega) (show (y58_8) < (f 4) from by first | omega | (simp only [wr_at]; omega) | assumption) (show ((1) = 0 → 48 ≤ sgn ((A 2)) (f 3) (f 4) (y58_8) ∧ sgn ((A 2)) (f 3) (f 4) (y58_8) ≤ 57) from by first | omega | (simp only [wr_at]; omega) | assumption) (show ((1) = 1 → 48 ≤ sgn ((A 2)) (f 3) (f 4) ((y58_8) + 1) ∧ sgn ((A 2)) (f 3) (f 4) ((y58_8) + 1) ≤ 57 ∧ (y58_8) + 1 < (f 4)) from by first | omega | (simp only [wr_at]; omega) | assumption)) rfl ok_nextNumber nm_nextNumber ⟨rfl, rfl⟩ ⟨Nat.le_of_ble_eq_true rfl, Nat.le_of_ble_eq_true rfl⟩ dX12_next_292 rfl rfl (Nat.le_of_ble_eq_true rfl) ⟨Nat.zero_le _, Nat.zero_le _⟩ (fun σr88 H locs hp89 hM => ?_)
            obtain ⟨x90, x91, x92, rfl, hp89⟩ := hp89
            replace hp89 : (x90) ≤ (f 4) ∧ (y58_8) < (x90) ∧ ((x92) = 1 ∨ (x92) = 4) := hp89
            obtain ⟨hp89_0, hp89_1, hp89_2⟩ := hp89
            simp only [up_up] at hM
            replace hM : MWd D dA h0 ad (mF dA h0 ad (f, g, A, L) s.heap.size) s.heap ((up f [(8, y58_8), (9, x90), (7, x92), (10, x91)]), (up g [(11, y58_11)]), A, L) H locs := hM
            have r93 : (0 : Int) ≤ x90 ∧ x90 ≤ 3002 := hM.2.2.2.1 9
            have r94 : (-2147483648 : Int) ≤ x91 ∧ x91 ≤ 2147483647 := hM.2.2.2.1 10
            have r95 : (0 : Int) ≤ x92 ∧ x92 ≤ 6 := hM.2.2.2.1 7
            refine lv_goto (tgt := 433) B.1 B.2.1 dX12_next_295 (by decide) ?_
            subst hPST
            exact m_vret B hM dX12_next_433 ⟨y58_8, x90, x92, x91, y58_11, rfl, by (exact ⟨by first | omega | (simp only [wr_at]; omega) | assumption, by first | omega | (simp only [wr_at]; omega) | assumption⟩)⟩
        · refine lv_iload_n B.1 B.2.1 dX12_next_260 rfl (lv_at hl 0 rfl) ?_
          refine q_bip B dX12_next_261 (by decide) ?_
          refine q_cne (tgt := 298) B dX12_next_263 (by decide) (by unfold inr; omega) (by unfold inr; omega) (fun c96 => ?_) (fun c96 => ?_)
          · refine lv_iload_n B.1 B.2.1 dX12_next_298 rfl (lv_at hl 0 rfl) ?_
            refine q_bip B dX12_next_299 (by decide) ?_
            refine q_cne (tgt := 416) B dX12_next_301 (by decide) (by unfold inr; omega) (by unfold inr; omega) (fun c97 => ?_) (fun c97 => ?_)
            · refine lv_aload_n B.1 B.2.1 dX12_next_416 rfl (lv_at hl 1 rfl) ?_
              refine lv_iload_n B.1 B.2.1 dX12_next_417 rfl (lv_at hl 0 rfl) ?_
              refine s_calli (n := 1) (rest := [.ref h0]) B hl.1 (k_isSignOf l D dA r70 (by omega) ) rfl ok_isSignOf nm_isSignOf ⟨rfl, rfl⟩ ⟨Nat.le_of_ble_eq_true rfl, Nat.le_of_ble_eq_true rfl⟩ dX12_next_418 rfl rfl (Nat.le_of_ble_eq_true rfl) ⟨Nat.zero_le _, Nat.zero_le _⟩ (fun r98 ir98 hp99 => ?_)
              unfold inr at ir98
              replace hp99 : 0 ≤ r98 ∧ r98 ≤ 1 := hp99
              refine q_ieq (tgt := 429) B dX12_next_421 (by decide) (by unfold inr; omega) (fun c100 => ?_) (fun c100 => ?_)
              · refine q_con B dX12_next_429 ?_
                refine m_put (k := 7) B hM (by decide) rfl fl66 rfl dX12_next_430 rfl rfl (show (0 : Int) ≤ 1 from by first | omega | (simp only [wr_at]; omega)) (show 1 ≤ (6 : Int) from by first | omega | (simp only [wr_at]; omega)) (u1_up f [(8, y58_8), (9, y58_8 + 1), (7, f 7), (10, f 10)] 7 1) (fun H locs hM => ?_)
                replace hM : MWd D dA h0 ad (mF dA h0 ad (f, g, A, L) s.heap.size) s.heap ((up f [(8, y58_8), (9, y58_8 + 1), (7, 1), (10, f 10)]), (up g [(11, y58_11)]), A, L) H locs := hM
                subst hPST
                exact m_vret B hM dX12_next_433 ⟨y58_8, (y58_8 + 1), 1, (f 10), y58_11, rfl, by (exact ⟨by first | omega | (simp only [wr_at]; omega) | assumption, by first | omega | (simp only [wr_at]; omega) | assumption⟩)⟩
              · refine q_bip B dX12_next_424 (by decide) ?_
                refine lv_goto (tgt := 430) B.1 B.2.1 dX12_next_426 (by decide) ?_
                refine m_put (k := 7) B hM (by decide) rfl fl66 rfl dX12_next_430 rfl rfl (show (0 : Int) ≤ 6 from by first | omega | (simp only [wr_at]; omega)) (show 6 ≤ (6 : Int) from by first | omega | (simp only [wr_at]; omega)) (u1_up f [(8, y58_8), (9, y58_8 + 1), (7, f 7), (10, f 10)] 7 6) (fun H locs hM => ?_)
                replace hM : MWd D dA h0 ad (mF dA h0 ad (f, g, A, L) s.heap.size) s.heap ((up f [(8, y58_8), (9, y58_8 + 1), (7, 6), (10, f 10)]), (up g [(11, y58_11)]), A, L) H locs := hM
                subst hPST
                exact m_vret B hM dX12_next_433 ⟨y58_8, (y58_8 + 1), 6, (f 10), y58_11, rfl, by (exact ⟨by first | omega | (simp only [wr_at]; omega) | assumption, by first | omega | (simp only [wr_at]; omega) | assumption⟩)⟩
            · exact LL304 (Int.toNat ((f 4) - (y58_8 + 1) + 1)) y58_8 (y58_8 + 1) (f 7) (f 10) y58_11 _ _ ls hM (lv_sub hl [1] rfl) (by first | omega | (simp only [wr_at]; omega) | assumption) (by first | omega | (simp only [wr_at]; omega) | assumption) (by first | omega | (simp only [wr_at]; omega) | assumption) (by first | omega | (simp only [wr_at]; omega) | assumption) (by first | omega | (simp only [wr_at]; omega) | assumption) (by first | omega | (simp only [wr_at]; omega) | assumption)
          · refine lv_aload_n B.1 B.2.1 dX12_next_266 rfl (lv_at hl 1 rfl) ?_
            refine lv_aload_n B.1 B.2.1 dX12_next_267 rfl (lv_at hl 1 rfl) ?_
            refine m_get (k := 9) (v := y58_8 + 1) B hM (by decide) rfl fl56 dX12_next_268 rfl ?_
            have r101 : (0 : Int) ≤ y58_8 + 1 ∧ y58_8 + 1 ≤ 3002 := hM.2.2.2.1 9
            refine m_calli (n := 1) (rest := []) B hM hA hl.1 (k_sign l D dA h0 ad (up f [(8, y58_8), (9, y58_8 + 1), (7, f 7), (10, f 10)]) (up g [(11, y58_11)]) A L (y58_8 + 1) (by omega) (show 0 ≤ (y58_8 + 1) from by first | omega | (simp only [wr_at]; omega) | assumption) (show (y58_8 + 1) ≤ 100000 from by first | omega | (simp only [wr_at]; omega) | assumption)) rfl ok_sign nm_sign ⟨rfl, rfl⟩ ⟨Nat.le_of_ble_eq_true rfl, Nat.le_of_ble_eq_true rfl⟩ dX12_next_271 rfl rfl (Nat.le_of_ble_eq_true rfl) ⟨Nat.zero_le _, Nat.zero_le _⟩ (fun r102 σr102 H locs ir102 hp103 hM => ?_)
            obtain ⟨rfl, hp103⟩ := hp103
            unfold inr at ir102
            replace hp103 : r102 = sgn ((A 2)) (f 3) (f 4) (y58_8 + 1) ∧ 0 ≤ r102 ∧ r102 ≤ 255 ∧ (r102 ≠ 0 → (y58_8 + 1) < (f 4)) := hp103
            obtain ⟨hp103_0, hp103_1, hp103_2, hp103_3⟩ := hp103
            refine s_calli (n := 1) (rest := []) B hl.1 (k_isDigit l D dA r102 (by omega) ) rfl ok_isDigit nm_isDigit ⟨rfl, rfl⟩ ⟨Nat.le_of_ble_eq_true rfl, Nat.le_of_ble_eq_true rfl⟩ dX12_next_274 rfl rfl (Nat.le_of_ble_eq_true rfl) ⟨Nat.zero_le _, Nat.zero_le _⟩ (fun r104 ir104 hp105 => ?_)
            unfold inr at ir104
            replace hp105 : (r104 = 1 ↔ 48 ≤ (r102) ∧ (r102) ≤ 57) ∧ 0 ≤ r104 ∧ r104 ≤ 1 := hp105
            refine q_ieq (tgt := 298) B dX12_next_277 (by decide) (by unfold inr; omega) (fun c106 => ?_) (fun c106 => ?_)
            · refine lv_iload_n B.1 B.2.1 dX12_next_298 rfl (lv_at hl 0 rfl) ?_
              refine q_bip B dX12_next_299 (by decide) ?_
              refine q_cne (tgt := 416) B dX12_next_301 (by decide) (by unfold inr; omega) (by unfold inr; omega) (fun c107 => ?_) (fun c107 => ?_)
              · refine lv_aload_n B.1 B.2.1 dX12_next_416 rfl (lv_at hl 1 rfl) ?_
                refine lv_iload_n B.1 B.2.1 dX12_next_417 rfl (lv_at hl 0 rfl) ?_
                refine s_calli (n := 1) (rest := [.ref h0]) B hl.1 (k_isSignOf l D dA r70 (by omega) ) rfl ok_isSignOf nm_isSignOf ⟨rfl, rfl⟩ ⟨Nat.le_of_ble_eq_true rfl, Nat.le_of_ble_eq_true rfl⟩ dX12_next_418 rfl rfl (Nat.le_of_ble_eq_true rfl) ⟨Nat.zero_le _, Nat.zero_le _⟩ (fun r108 ir108 hp109 => ?_)
                unfold inr at ir108
                replace hp109 : 0 ≤ r108 ∧ r108 ≤ 1 := hp109
                refine q_ieq (tgt := 429) B dX12_next_421 (by decide) (by unfold inr; omega) (fun c110 => ?_) (fun c110 => ?_)
                · refine q_con B dX12_next_429 ?_
                  refine m_put (k := 7) B hM (by decide) rfl fl66 rfl dX12_next_430 rfl rfl (show (0 : Int) ≤ 1 from by first | omega | (simp only [wr_at]; omega)) (show 1 ≤ (6 : Int) from by first | omega | (simp only [wr_at]; omega)) (u1_up f [(8, y58_8), (9, y58_8 + 1), (7, f 7), (10, f 10)] 7 1) (fun H locs hM => ?_)
                  replace hM : MWd D dA h0 ad (mF dA h0 ad (f, g, A, L) s.heap.size) s.heap ((up f [(8, y58_8), (9, y58_8 + 1), (7, 1), (10, f 10)]), (up g [(11, y58_11)]), A, L) H locs := hM
                  subst hPST
                  exact m_vret B hM dX12_next_433 ⟨y58_8, (y58_8 + 1), 1, (f 10), y58_11, rfl, by (exact ⟨by first | omega | (simp only [wr_at]; omega) | assumption, by first | omega | (simp only [wr_at]; omega) | assumption⟩)⟩
                · refine q_bip B dX12_next_424 (by decide) ?_
                  refine lv_goto (tgt := 430) B.1 B.2.1 dX12_next_426 (by decide) ?_
                  refine m_put (k := 7) B hM (by decide) rfl fl66 rfl dX12_next_430 rfl rfl (show (0 : Int) ≤ 6 from by first | omega | (simp only [wr_at]; omega)) (show 6 ≤ (6 : Int) from by first | omega | (simp only [wr_at]; omega)) (u1_up f [(8, y58_8), (9, y58_8 + 1), (7, f 7), (10, f 10)] 7 6) (fun H locs hM => ?_)
                  replace hM : MWd D dA h0 ad (mF dA h0 ad (f, g, A, L) s.heap.size) s.heap ((up f [(8, y58_8), (9, y58_8 + 1), (7, 6), (10, f 10)]), (up g [(11, y58_11)]), A, L) H locs := hM
                  subst hPST
                  exact m_vret B hM dX12_next_433 ⟨y58_8, (y58_8 + 1), 6, (f 10), y58_11, rfl, by (exact ⟨by first | omega | (simp only [wr_at]; omega) | assumption, by first | omega | (simp only [wr_at]; omega) | assumption⟩)⟩
              · exact LL304 (Int.toNat ((f 4) - (y58_8 + 1) + 1)) y58_8 (y58_8 + 1) (f 7) (f 10) y58_11 _ _ ls hM (lv_sub hl [1] rfl) (by first | omega | (simp only [wr_at]; omega) | assumption) (by first | omega | (simp only [wr_at]; omega) | assumption) (by first | omega | (simp only [wr_at]; omega) | assumption) (by first | omega | (simp only [wr_at]; omega) | assumption) (by first | omega | (simp only [wr_at]; omega) | assumption) (by first | omega | (simp only [wr_at]; omega) | assumption)
            · refine lv_aload_n B.1 B.2.1 dX12_next_280 rfl (lv_at hl 1 rfl) ?_
              refine lv_iload_n B.1 B.2.1 dX12_next_281 rfl (lv_at hl 0 rfl) ?_
              refine q_bip B dX12_next_282 (by decide) ?_
              refine q_cne (tgt := 291) B dX12_next_284 (by decide) (by unfold inr; omega) (by unfold inr; omega) (fun c111 => ?_) (fun c111 => ?_)
              · refine q_con B dX12_next_291 ?_
                refine m_callv (n := 1) (rest := []) B hM hA hl.1 (k_nextNumber l D dA h0 ad (up f [(8, y58_8), (9, y58_8 + 1), (7, f 7), (10, f 10)]) (up g [(11, y58_11)]) A L 0 (by omega) (show (y58_8) < (f 4) from by first | omega | (simp only [wr_at]; omega) | assumption) (show ((0) = 0 → 48 ≤ sgn ((A 2)) (f 3) (f 4) (y58_8) ∧ sgn ((A 2)) (f 3) (f 4) (y58_8) ≤ 57) from by first | omega | (simp only [wr_at]; omega) | assumption) (show ((0) = 1 → 48 ≤ sgn ((A 2)) (f 3) (f 4) ((y58_8) + 1) ∧ sgn ((A 2)) (f 3) (f 4) ((y58_8) + 1) ≤ 57 ∧ (y58_8) + 1 < (f 4)) from by first | omega | (simp only [wr_at]; omega) | assumption)) rfl ok_nextNumber nm_nextNumber ⟨rfl, rfl⟩ ⟨Nat.le_of_ble_eq_true rfl, Nat.le_of_ble_eq_true rfl⟩ dX12_next_292 rfl rfl (Nat.le_of_ble_eq_true rfl) ⟨Nat.zero_le _, Nat.zero_le _⟩ (fun σr112 H locs hp113 hM => ?_)
                obtain ⟨x114, x115, x116, rfl, hp113⟩ := hp113
                replace hp113 : (x114) ≤ (f 4) ∧ (y58_8) < (x114) ∧ ((x116) = 1 ∨ (x116) = 4) := hp113
                obtain ⟨hp113_0, hp113_1, hp113_2⟩ := hp113
                simp only [up_up] at hM
                replace hM : MWd D dA h0 ad (mF dA h0 ad (f, g, A, L) s.heap.size) s.heap ((up f [(8, y58_8), (9, x114), (7, x116), (10, x115)]), (up g [(11, y58_11)]), A, L) H locs := hM
                have r117 : (0 : Int) ≤ x114 ∧ x114 ≤ 3002 := hM.2.2.2.1 9
                have r118 : (-2147483648 : Int) ≤ x115 ∧ x115 ≤ 2147483647 := hM.2.2.2.1 10
                have r119 : (0 : Int) ≤ x116 ∧ x116 ≤ 6 := hM.2.2.2.1 7
                refine lv_goto (tgt := 433) B.1 B.2.1 dX12_next_295 (by decide) ?_
                subst hPST
                exact m_vret B hM dX12_next_433 ⟨y58_8, x114, x116, x115, y58_11, rfl, by (exact ⟨by first | omega | (simp only [wr_at]; omega) | assumption, by first | omega | (simp only [wr_at]; omega) | assumption⟩)⟩
              · refine q_con B dX12_next_287 ?_
                refine lv_goto (tgt := 292) B.1 B.2.1 dX12_next_288 (by decide) ?_
                refine m_callv (n := 1) (rest := []) B hM hA hl.1 (k_nextNumber l D dA h0 ad (up f [(8, y58_8), (9, y58_8 + 1), (7, f 7), (10, f 10)]) (up g [(11, y58_11)]) A L 1 (by omega) (show (y58_8) < (f 4) from by first | omega | (simp only [wr_at]; omega) | assumption) (show ((1) = 0 → 48 ≤ sgn ((A 2)) (f 3) (f 4) (y58_8) ∧ sgn ((A 2)) (f 3) (f 4) (y58_8) ≤ 57) from by first | omega | (simp only [wr_at]; omega) | assumption) (show ((1) = 1 → 48 ≤ sgn ((A 2)) (f 3) (f 4) ((y58_8) + 1) ∧ sgn ((A 2)) (f 3) (f 4) ((y58_8) + 1) ≤ 57 ∧ (y58_8) + 1 < (f 4)) from by first | omega | (simp only [wr_at]; omega) | assumption)) rfl ok_nextNumber nm_nextNumber ⟨rfl, rfl⟩ ⟨Nat.le_of_ble_eq_true rfl, Nat.le_of_ble_eq_true rfl⟩ dX12_next_292 rfl rfl (Nat.le_of_ble_eq_true rfl) ⟨Nat.zero_le _, Nat.zero_le _⟩ (fun σr120 H locs hp121 hM => ?_)
                obtain ⟨x122, x123, x124, rfl, hp121⟩ := hp121
                replace hp121 : (x122) ≤ (f 4) ∧ (y58_8) < (x122) ∧ ((x124) = 1 ∨ (x124) = 4) := hp121
                obtain ⟨hp121_0, hp121_1, hp121_2⟩ := hp121
                simp only [up_up] at hM
                replace hM : MWd D dA h0 ad (mF dA h0 ad (f, g, A, L) s.heap.size) s.heap ((up f [(8, y58_8), (9, x122), (7, x124), (10, x123)]), (up g [(11, y58_11)]), A, L) H locs := hM
                have r125 : (0 : Int) ≤ x122 ∧ x122 ≤ 3002 := hM.2.2.2.1 9
                have r126 : (-2147483648 : Int) ≤ x123 ∧ x123 ≤ 2147483647 := hM.2.2.2.1 10
                have r127 : (0 : Int) ≤ x124 ∧ x124 ≤ 6 := hM.2.2.2.1 7
                refine lv_goto (tgt := 433) B.1 B.2.1 dX12_next_295 (by decide) ?_
                subst hPST
                exact m_vret B hM dX12_next_433 ⟨y58_8, x122, x124, x123, y58_11, rfl, by (exact ⟨by first | omega | (simp only [wr_at]; omega) | assumption, by first | omega | (simp only [wr_at]; omega) | assumption⟩)⟩
      · exact LL119 (Int.toNat ((f 4) - (y58_8 + 1) + 1)) y58_8 (y58_8 + 1) (f 7) (f 10) y58_11 _ _ ls hM (lv_sub hl [1] rfl) (by first | omega | (simp only [wr_at]; omega) | assumption) (by first | omega | (simp only [wr_at]; omega) | assumption) (by first | omega | (simp only [wr_at]; omega) | assumption) (by first | omega | (simp only [wr_at]; omega) | assumption) (by first | omega | (simp only [wr_at]; omega) | assumption) (by first | omega | (simp only [wr_at]; omega) | assumption)
    · refine lv_aload_n B.1 B.2.1 dX12_next_88 rfl (lv_at hl 1 rfl) ?_
      refine lv_aload_n B.1 B.2.1 dX12_next_89 rfl (lv_at hl 1 rfl) ?_
      refine m_get (k := 4) (v := f 4) B hM (by decide) rfl fl1 dX12_next_90 rfl ?_
      refine m_put (k := 8) B hM (by decide) rfl fl59 rfl dX12_next_93 rfl rfl (show (0 : Int) ≤ f 4 from by first | omega | (simp only [wr_at]; omega)) (show f 4 ≤ (3001 : Int) from by first | omega | (simp only [wr_at]; omega)) (u1_up f [(8, y58_8), (9, y58_8 + 1), (7, f 7), (10, f 10)] 8 (f 4)) (fun H locs hM => ?_)
      replace hM : MWd D dA h0 ad (mF dA h0 ad (f, g, A, L) s.heap.size) s.heap ((up f [(8, f 4), (9, y58_8 + 1), (7, f 7), (10, f 10)]), (up g [(11, y58_11)]), A, L) H locs := hM
      refine lv_aload_n B.1 B.2.1 dX12_next_96 rfl (lv_at hl 1 rfl) ?_
      refine lv_aload_n B.1 B.2.1 dX12_next_97 rfl (lv_at hl 1 rfl) ?_
      refine m_get (k := 4) (v := f 4) B hM (by decide) rfl fl1 dX12_next_98 rfl ?_
      refine m_put (k := 9) B hM (by decide) rfl fl56 rfl dX12_next_101 rfl rfl (show (0 : Int) ≤ f 4 from by first | omega | (simp only [wr_at]; omega)) (show f 4 ≤ (3002 : Int) from by first | omega | (simp only [wr_at]; omega)) (u1_up f [(8, f 4), (9, y58_8 + 1), (7, f 7), (10, f 10)] 9 (f 4)) (fun H locs hM => ?_)
      replace hM : MWd D dA h0 ad (mF dA h0 ad (f, g, A, L) s.heap.size) s.heap ((up f [(8, f 4), (9, f 4), (7, f 7), (10, f 10)]), (up g [(11, y58_11)]), A, L) H locs := hM
      refine lv_aload_n B.1 B.2.1 dX12_next_104 rfl (lv_at hl 1 rfl) ?_
      refine q_con B dX12_next_105 ?_
      refine m_put (k := 7) B hM (by decide) rfl fl66 rfl dX12_next_106 rfl rfl (show (0 : Int) ≤ 0 from by first | omega | (simp only [wr_at]; omega)) (show 0 ≤ (6 : Int) from by first | omega | (simp only [wr_at]; omega)) (u1_up f [(8, f 4), (9, f 4), (7, f 7), (10, f 10)] 7 0) (fun H locs hM => ?_)
      replace hM : MWd D dA h0 ad (mF dA h0 ad (f, g, A, L) s.heap.size) s.heap ((up f [(8, f 4), (9, f 4), (7, 0), (10, f 10)]), (up g [(11, y58_11)]), A, L) H locs := hM
      refine lv_goto (tgt := 433) B.1 B.2.1 dX12_next_109 (by decide) ?_
      subst hPST
      exact m_vret B hM dX12_next_433 ⟨(f 4), (f 4), 0, (f 10), y58_11, rfl, by (exact ⟨by first | omega | (simp only [wr_at]; omega) | assumption, by first | omega | (simp only [wr_at]; omega) | assumption⟩)⟩
  have LL8 : ∀ N : Nat, ∀ (y8_8 : Int) (y8_11 : Int64) (H : Heap) (locs : List Loc) (ls : Array Slot), (MWd D dA h0 ad (mF dA h0 ad (f, g, A, L) s.heap.size) s.heap ((up f [(8, y8_8), (9, f 9), (7, f 7), (10, f 10)]), (up g [(11, y8_11)]), A, L) H locs) → lv_has ls 3 [(0, .ref h0)] → ((f 9) ≤ (y8_8)) → (((y8_8) ≤ (f 4) ∨ (y8_8) = (f 9))) → (0 ≤ 3001 - (y8_8)) → (3001 - (y8_8) < (N : Int)) → W p l e ({ frames := 2, cells := 0, slots := 0, locals := 43 }) s m args below meth c H locs 0 0 (MQ below (mQv D dA h0 ad (f, g, A, L) s.heap.size PST) args s 0 0 (mF dA h0 ad (f, g, A, L) s.heap.size)) (F0 m 8 ls []) := by
    intro N
    induction N with
    | zero => intro y8_8 y8_11 H locs ls hM hl hLL8_0 hLL8_1 hLL8_2 hN; exfalso; omega
    | succ N IH8 =>
      intro y8_8 y8_11 H locs ls hM hl hLL8_0 hLL8_1 hLL8_2 hN
      have r128 : (0 : Int) ≤ y8_8 ∧ y8_8 ≤ 3001 := hM.2.2.2.1 8
      have r129 : (-2147483648 : Int) ≤ f 10 ∧ f 10 ≤ 2147483647 := hM.2.2.2.1 10
      refine lv_aload_n B.1 B.2.1 dX12_next_8 rfl (lv_at hl 0 rfl) ?_
      refine m_get (k := 8) (v := y8_8) B hM (by decide) rfl fl59 dX12_next_9 rfl ?_
      refine lv_aload_n B.1 B.2.1 dX12_next_12 rfl (lv_at hl 0 rfl) ?_
      refine m_get (k := 4) (v := f 4) B hM (by decide) rfl fl1 dX12_next_13 rfl ?_
      refine q_cge (tgt := 58) B dX12_next_16 (by decide) (by unfold inr; omega) (by unfold inr; omega) (fun c130 => ?_) (fun c130 => ?_)
      · exact JJ58 y8_8 y8_11 _ _ ls hM (lv_sub hl [0] rfl) (by first | omega | (simp only [wr_at]; omega) | assumption) (by first | omega | (simp only [wr_at]; omega) | assumption)
      · refine lv_aload_n B.1 B.2.1 dX12_next_19 rfl (lv_at hl 0 rfl) ?_
        refine lv_aload_n B.1 B.2.1 dX12_next_20 rfl (lv_at hl 0 rfl) ?_
        refine m_get (k := 8) (v := y8_8) B hM (by decide) rfl fl59 dX12_next_21 rfl ?_
        refine m_calli (n := 1) (rest := []) B hM hA hl.1 (k_sign l D dA h0 ad (up f [(8, y8_8), (9, f 9), (7, f 7), (10, f 10)]) (up g [(11, y8_11)]) A L y8_8 (by omega) (show 0 ≤ (y8_8) from by first | omega | (simp only [wr_at]; omega) | assumption) (show (y8_8) ≤ 100000 from by first | omega | (simp only [wr_at]; omega) | assumption)) rfl ok_sign nm_sign ⟨rfl, rfl⟩ ⟨Nat.le_of_ble_eq_true rfl, Nat.le_of_ble_eq_true rfl⟩ dX12_next_24 rfl rfl (Nat.le_of_ble_eq_true rfl) ⟨Nat.zero_le _, Nat.zero_le _⟩ (fun r131 σr131 H locs ir131 hp132 hM => ?_)
        obtain ⟨rfl, hp132⟩ := hp132
        unfold inr at ir131
        replace hp132 : r131 = sgn ((A 2)) (f 3) (f 4) (y8_8) ∧ 0 ≤ r131 ∧ r131 ≤ 255 ∧ (r131 ≠ 0 → (y8_8) < (f 4)) := hp132
        obtain ⟨hp132_0, hp132_1, hp132_2, hp132_3⟩ := hp132
        refine q_bip B dX12_next_27 (by decide) ?_
        refine q_ceq (tgt := 45) B dX12_next_29 (by decide) (by unfold inr; omega) (by unfold inr; omega) (fun c133 => ?_) (fun c133 => ?_)
        · refine lv_aload_n B.1 B.2.1 dX12_next_45 rfl (lv_at hl 0 rfl) ?_
          refine lv_dup B.1 B.2.1 dX12_next_46 rfl ?_
          refine m_get (k := 8) (v := y8_8) B hM (by decide) rfl fl59 dX12_next_47 rfl ?_
          refine q_con B dX12_next_50 ?_
          refine q_add B dX12_next_51 ?_
          refine m_put (k := 8) B hM (by decide) rfl fl59 rfl dX12_next_52 rfl rfl (show (0 : Int) ≤ y8_8 + 1 from by first | omega | (simp only [wr_at]; omega)) (show y8_8 + 1 ≤ (3001 : Int) from by first | omega | (simp only [wr_at]; omega)) (u1_up f [(8, y8_8), (9, f 9), (7, f 7), (10, f 10)] 8 (y8_8 + 1)) (fun H locs hM => ?_)
          replace hM : MWd D dA h0 ad (mF dA h0 ad (f, g, A, L) s.heap.size) s.heap ((up f [(8, y8_8 + 1), (9, f 9), (7, f 7), (10, f 10)]), (up g [(11, y8_11)]), A, L) H locs := hM
          refine lv_goto (tgt := 8) B.1 B.2.1 dX12_next_55 (by decide) ?_
          exact IH8 (y8_8 + 1) y8_11 _ _ ls hM (lv_sub hl [0] rfl) (by first | omega | (simp only [wr_at]; omega) | assumption) (by first | omega | (simp only [wr_at]; omega) | assumption) (by first | omega | (simp only [wr_at]; omega) | assumption) (by first | omega | (simp only [wr_at]; omega) | assumption)
        · refine lv_aload_n B.1 B.2.1 dX12_next_32 rfl (lv_at hl 0 rfl) ?_
          refine lv_aload_n B.1 B.2.1 dX12_next_33 rfl (lv_at hl 0 rfl) ?_
          refine m_get (k := 8) (v := y8_8) B hM (by decide) rfl fl59 dX12_next_34 rfl ?_
          refine m_calli (n := 1) (rest := []) B hM hA hl.1 (k_sign l D dA h0 ad (up f [(8, y8_8), (9, f 9), (7, f 7), (10, f 10)]) (up g [(11, y8_11)]) A L y8_8 (by omega) (show 0 ≤ (y8_8) from by first | omega | (simp only [wr_at]; omega) | assumption) (show (y8_8) ≤ 100000 from by first | omega | (simp only [wr_at]; omega) | assumption)) rfl ok_sign nm_sign ⟨rfl, rfl⟩ ⟨Nat.le_of_ble_eq_true rfl, Nat.le_of_ble_eq_true rfl⟩ dX12_next_37 rfl rfl (Nat.le_of_ble_eq_true rfl) ⟨Nat.zero_le _, Nat.zero_le _⟩ (fun r134 σr134 H locs ir134 hp135 hM => ?_)
          obtain ⟨rfl, hp135⟩ := hp135
          unfold inr at ir134
          replace hp135 : r134 = sgn ((A 2)) (f 3) (f 4) (y8_8) ∧ 0 ≤ r134 ∧ r134 ≤ 255 ∧ (r134 ≠ 0 → (y8_8) < (f 4)) := hp135
          obtain ⟨hp135_0, hp135_1, hp135_2, hp135_3⟩ := hp135
          refine q_bip B dX12_next_40 (by decide) ?_
          refine q_cne (tgt := 58) B dX12_next_42 (by decide) (by unfold inr; omega) (by unfold inr; omega) (fun c136 => ?_) (fun c136 => ?_)
          · exact JJ58 y8_8 y8_11 _ _ ls hM (lv_sub hl [0] rfl) (by first | omega | (simp only [wr_at]; omega) | assumption) (by first | omega | (simp only [wr_at]; omega) | assumption)
          · refine lv_aload_n B.1 B.2.1 dX12_next_45 rfl (lv_at hl 0 rfl) ?_
            refine lv_dup B.1 B.2.1 dX12_next_46 rfl ?_
            refine m_get (k := 8) (v := y8_8) B hM (by decide) rfl fl59 dX12_next_47 rfl ?_
            refine q_con B dX12_next_50 ?_
            refine q_add B dX12_next_51 ?_
            refine m_put (k := 8) B hM (by decide) rfl fl59 rfl dX12_next_52 rfl rfl (show (0 : Int) ≤ y8_8 + 1 from by first | omega | (simp only [wr_at]; omega)) (show y8_8 + 1 ≤ (3001 : Int) from by first | omega | (simp only [wr_at]; omega)) (u1_up f [(8, y8_8), (9, f 9), (7, f 7), (10, f 10)] 8 (y8_8 + 1)) (fun H locs hM => ?_)
            replace hM : MWd D dA h0 ad (mF dA h0 ad (f, g, A, L) s.heap.size) s.heap ((up f [(8, y8_8 + 1), (9, f 9), (7, f 7), (10, f 10)]), (up g [(11, y8_11)]), A, L) H locs := hM
            refine lv_goto (tgt := 8) B.1 B.2.1 dX12_next_55 (by decide) ?_
            exact IH8 (y8_8 + 1) y8_11 _ _ ls hM (lv_sub hl [0] rfl) (by first | omega | (simp only [wr_at]; omega) | assumption) (by first | omega | (simp only [wr_at]; omega) | assumption) (by first | omega | (simp only [wr_at]; omega) | assumption) (by first | omega | (simp only [wr_at]; omega) | assumption)
  refine lv_aload_n B.1 B.2.1 dX12_next_0 rfl (lv_at hl 0 rfl) ?_
  refine lv_aload_n B.1 B.2.1 dX12_next_1 rfl (lv_at hl 0 rfl) ?_
  refine m_get (k := 9) (v := f 9) B hM (by decide) rfl fl56 dX12_next_2 rfl ?_
  refine m_put (k := 8) B hM (by decide) rfl fl59 rfl dX12_next_5 rfl rfl (show (0 : Int) ≤ f 9 from by first | omega | (simp only [wr_at]; omega)) (show f 9 ≤ (3001 : Int) from by first | omega | (simp only [wr_at]; omega)) (u1_up f [(8, f 8), (9, f 9), (7, f 7), (10, f 10)] 8 (f 9)) (fun H locs hM => ?_)
  replace hM : MWd D dA h0 ad (mF dA h0 ad (f, g, A, L) s.heap.size) s.heap ((up f [(8, f 9), (9, f 9), (7, f 7), (10, f 10)]), (up g [(11, g 11)]), A, L) H locs := hM
  exact LL8 (Int.toNat (3001 - (f 9) + 1)) (f 9) (g 11) _ _ ls hM (lv_sub hl [0] rfl) (by first | omega | (simp only [wr_at]; omega) | assumption) (by first | omega | (simp only [wr_at]; omega) | assumption) (by first | omega | (simp only [wr_at]; omega) | assumption) (by first | omega | (simp only [wr_at]; omega) | assumption)
set_option maxHeartbeats 4000000 in
set_option maxRecDepth 20000 in
theorem k_isSign (l : Launch) (D : va_G) (dA : Nat → ClassId) (h0 : Nat) (ad : Nat → Nat) (f : Nat → Int) (g : Nat → Int64) (A : Nat → Nat → Int) (L : Nat → Nat → Int64) (a_c : Int) (i_c : (-2147483648 : Int) ≤ a_c ∧ a_c ≤ 2147483647) (p_0 : (0 ≤ (f 8) ∧ (f 8) ≤ (f 4) ∧ (f 8) ≤ (f 9) ∧ (f 9) ≤ (f 4) + 1 ∧ ((f 7) = 0 ↔ (f 8) = (f 4)) ∧ (2 ≤ (f 7) → (f 8) < (f 9) ∧ (f 9) ≤ (f 4)) ∧ ((f 7) = 5 → (f 8) + 2 ≤ (f 9) ∧ (f 9) ≤ (f 8) + 32))) : MCi l yX12_isSign cX12_isSign 2 (some .boolean) ({ frames := 1, cells := 0, slots := 0, locals := 21 }) D dA h0 ad (f, g, A, L) [.int (II a_c)] (fun (r : Int) (σ : MS) => σ = (f, g, A, L) ∧ (0 ≤ r ∧ r ≤ 1 ∧ (r = 1 ↔ (f 7) = 6 ∧ sgn ((A 2)) (f 3) (f 4) (f 8) = (a_c)))) := by
  generalize hPST : (fun (r : Int) (σ : MS) => σ = (f, g, A, L) ∧ (0 ≤ r ∧ r ≤ 1 ∧ (r = 1 ↔ (f 7) = 6 ∧ sgn ((A 2)) (f 3) (f 4) (f 8) = (a_c)))) = PST
  refine m_enter (by decide) rfl (Nat.le_of_ble_eq_true rfl) (fun p e s m args below meth c ls B hM hl => ?_)
  have hA : ∀ q, s.heap.size ≤ q → mF dA h0 ad (f, g, A, L) s.heap.size q := fun q h => Or.inr h
  have hl : lv_has ls 2 [(0, .ref h0), (1, .int (II a_c))] := hl
  have r1 : (0 : Int) ≤ f 3 ∧ f 3 ≤ 1 := hM.2.2.2.1 3
  have r2 : (0 : Int) ≤ f 4 ∧ f 4 ≤ 3000 := hM.2.2.2.1 4
  have r3 : (0 : Int) ≤ f 7 ∧ f 7 ≤ 6 := hM.2.2.2.1 7
  have r4 : (0 : Int) ≤ f 8 ∧ f 8 ≤ 3001 := hM.2.2.2.1 8
  have r5 : (0 : Int) ≤ f 9 ∧ f 9 ≤ 3002 := hM.2.2.2.1 9
  refine lv_aload_n B.1 B.2.1 dX12_isSign_0 rfl (lv_at hl 0 rfl) ?_
  refine m_get (k := 7) (v := f 7) B hM (by decide) rfl fl66 dX12_isSign_1 rfl ?_
  refine q_bip B dX12_isSign_4 (by decide) ?_
  refine q_cne (tgt := 25) B dX12_isSign_6 (by decide) (by unfold inr; omega) (by unfold inr; omega) (fun c6 => ?_) (fun c6 => ?_)
  · refine q_con B dX12_isSign_25 ?_
    subst hPST
    exact m_zret B hM dX12_isSign_26 (by omega) ⟨rfl, by (exact ⟨by first | omega | (simp only [wr_at]; omega) | assumption, by first | omega | (simp only [wr_at]; omega) | assumption, by first | omega | (simp only [wr_at]; omega) | assumption⟩)⟩
  · refine lv_aload_n B.1 B.2.1 dX12_isSign_9 rfl (lv_at hl 0 rfl) ?_
    refine lv_aload_n B.1 B.2.1 dX12_isSign_10 rfl (lv_at hl 0 rfl) ?_
    refine m_get (k := 8) (v := f 8) B hM (by decide) rfl fl59 dX12_isSign_11 rfl ?_
    refine m_calli (n := 1) (rest := []) B hM hA hl.1 (k_sign l D dA h0 ad f g A L (f 8) (by omega) (show 0 ≤ (f 8) from by first | omega | (simp only [wr_at]; omega) | assumption) (show (f 8) ≤ 100000 from by first | omega | (simp only [wr_at]; omega) | assumption)) rfl ok_sign nm_sign ⟨rfl, rfl⟩ ⟨Nat.le_of_ble_eq_true rfl, Nat.le_of_ble_eq_true rfl⟩ dX12_isSign_14 rfl rfl (Nat.le_of_ble_eq_true rfl) ⟨Nat.zero_le _, Nat.zero_le _⟩ (fun r7 σr7 H locs ir7 hp8 hM => ?_)
    obtain ⟨rfl, hp8⟩ := hp8
    unfold inr at ir7
    replace hp8 : r7 = sgn ((A 2)) (f 3) (f 4) (f 8) ∧ 0 ≤ r7 ∧ r7 ≤ 255 ∧ (r7 ≠ 0 → (f 8) < (f 4)) := hp8
    obtain ⟨hp8_0, hp8_1, hp8_2, hp8_3⟩ := hp8
    refine lv_iload_n B.1 B.2.1 dX12_isSign_17 rfl (lv_at hl 1 rfl) ?_
    refine q_cne (tgt := 25) B dX12_isSign_18 (by decide) (by unfold inr; omega) (by unfold inr; omega) (fun c9 => ?_) (fun c9 => ?_)
    · refine q_con B dX12_isSign_25 ?_
      subst hPST
      exact m_zret B hM dX12_isSign_26 (by omega) ⟨rfl, by (exact ⟨by first | omega | (simp only [wr_at]; omega) | assumption, by first | omega | (simp only [wr_at]; omega) | assumption, by first | omega | (simp only [wr_at]; omega) | assumption⟩)⟩
    · refine q_con B dX12_isSign_21 ?_
      refine lv_goto (tgt := 26) B.1 B.2.1 dX12_isSign_22 (by decide) ?_
      subst hPST
      exact m_zret B hM dX12_isSign_26 (by omega) ⟨rfl, by (exact ⟨by first | omega | (simp only [wr_at]; omega) | assumption, by first | omega | (simp only [wr_at]; omega) | assumption, by first | omega | (simp only [wr_at]; omega) | assumption⟩)⟩
set_option maxHeartbeats 4000000 in
set_option maxRecDepth 20000 in
theorem k_isWord (l : Launch) (D : va_G) (dA : Nat → ClassId) (h0 : Nat) (ad : Nat → Nat) (f : Nat → Int) (g : Nat → Int64) (A : Nat → Nat → Int) (L : Nat → Nat → Int64) (a_w : Int64) : MCi l yX12_isWord cX12_isWord 3 (some .boolean) ({ frames := 0, cells := 0, slots := 0, locals := 0 }) D dA h0 ad (f, g, A, L) [.long a_w] (fun (r : Int) (σ : MS) => σ = (f, g, A, L) ∧ (0 ≤ r ∧ r ≤ 1 ∧ (r = 1 → (f 7) = 3))) := by
  generalize hPST : (fun (r : Int) (σ : MS) => σ = (f, g, A, L) ∧ (0 ≤ r ∧ r ≤ 1 ∧ (r = 1 → (f 7) = 3))) = PST
  refine m_enter (by decide) rfl (Nat.le_of_ble_eq_true rfl) (fun p e s m args below meth c ls B hM hl => ?_)
  have hA : ∀ q, s.heap.size ≤ q → mF dA h0 ad (f, g, A, L) s.heap.size q := fun q h => Or.inr h
  have hl : lv_has ls 3 [(0, .ref h0), (1, .long a_w)] := hl
  have r1 : (0 : Int) ≤ f 7 ∧ f 7 ≤ 6 := hM.2.2.2.1 7
  refine lv_aload_n B.1 B.2.1 dX12_isWord_0 rfl (lv_at hl 0 rfl) ?_
  refine m_get (k := 7) (v := f 7) B hM (by decide) rfl fl66 dX12_isWord_1 rfl ?_
  refine q_con B dX12_isWord_4 ?_
  refine q_cne (tgt := 21) B dX12_isWord_5 (by decide) (by unfold inr; omega) (by unfold inr; omega) (fun c2 => ?_) (fun c2 => ?_)
  · refine q_con B dX12_isWord_21 ?_
    subst hPST
    exact m_zret B hM dX12_isWord_22 (by omega) ⟨rfl, by (exact ⟨by first | omega | (simp only [wr_at]; omega) | assumption, by first | omega | (simp only [wr_at]; omega) | assumption, by first | omega | (simp only [wr_at]; omega) | assumption⟩)⟩
  · refine lv_aload_n B.1 B.2.1 dX12_isWord_8 rfl (lv_at hl 0 rfl) ?_
    refine m_getl (k := 11) B hM (by decide) rfl fl76 dX12_isWord_9 rfl ?_
    refine lv_lload_n B.1 B.2.1 dX12_isWord_12 rfl (lv_at hl 1 rfl) ?_
    refine q_lcmp B dX12_isWord_13 (fun x3 lx3 ux3 ex3 => ?_)
    refine q_ine (tgt := 21) B dX12_isWord_14 (by decide) (by unfold inr; omega) (fun c4 => ?_) (fun c4 => ?_)
    · refine q_con B dX12_isWord_21 ?_
      subst hPST
      exact m_zret B hM dX12_isWord_22 (by omega) ⟨rfl, by (exact ⟨by first | omega | (simp only [wr_at]; omega) | assumption, by first | omega | (simp only [wr_at]; omega) | assumption, by first | omega | (simp only [wr_at]; omega) | assumption⟩)⟩
    · refine q_con B dX12_isWord_17 ?_
      refine lv_goto (tgt := 22) B.1 B.2.1 dX12_isWord_18 (by decide) ?_
      subst hPST
      exact m_zret B hM dX12_isWord_22 (by omega) ⟨rfl, by (exact ⟨by first | omega | (simp only [wr_at]; omega) | assumption, by first | omega | (simp only [wr_at]; omega) | assumption, by first | omega | (simp only [wr_at]; omega) | assumption⟩)⟩
set_option maxHeartbeats 4000000 in
set_option maxRecDepth 20000 in
theorem k_wrong (l : Launch) (D : va_G) (dA : Nat → ClassId) (h0 : Nat) (ad : Nat → Nat) (f : Nat → Int) (g : Nat → Int64) (A : Nat → Nat → Int) (L : Nat → Nat → Int64) : MCv l yX12_wrong cX12_wrong 1 ({ frames := 1, cells := 0, slots := 0, locals := 22 }) D dA h0 ad (f, g, A, L) [] (fun (σ : MS) => ∃ n5 : Int, ∃ n6 : Int, σ = ((up f [(5, n5), (6, n6)]), g, A, L) ∧ ((n5) ≠ 0)) := by
  generalize hPST : (fun (σ : MS) => ∃ n5 : Int, ∃ n6 : Int, σ = ((up f [(5, n5), (6, n6)]), g, A, L) ∧ ((n5) ≠ 0)) = PST
  refine m_enterv (by decide) rfl (Nat.le_of_ble_eq_true rfl) (fun p e s m args below meth c ls B hM hl => ?_)
  have hA : ∀ q, s.heap.size ≤ q → mF dA h0 ad (f, g, A, L) s.heap.size q := fun q h => Or.inr h
  have hM : MWd D dA h0 ad (mF dA h0 ad (f, g, A, L) s.heap.size) s.heap ((up f [(5, f 5), (6, f 6)]), g, A, L) s.heap [] := MW_pad hM (up_self f [5, 6]) rfl rfl rfl
  have hl : lv_has ls 1 [(0, .ref h0)] := hl
  refine lv_aload_n B.1 B.2.1 dX12_wrong_0 rfl (lv_at hl 0 rfl) ?_
  refine lv_aload_n B.1 B.2.1 dX12_wrong_1 rfl (lv_at hl 0 rfl) ?_
  refine m_get (k := 7) (v := f 7) B hM (by decide) rfl fl66 dX12_wrong_2 rfl ?_
  have r1 : (0 : Int) ≤ f 7 ∧ f 7 ≤ 6 := hM.2.2.2.1 7
  refine q_con B dX12_wrong_5 ?_
  refine q_cne (tgt := 13) B dX12_wrong_6 (by decide) (by unfold inr; omega) (by unfold inr; omega) (fun c2 => ?_) (fun c2 => ?_)
  · refine q_con B dX12_wrong_13 ?_
    refine lv_aload_n B.1 B.2.1 dX12_wrong_14 rfl (lv_at hl 0 rfl) ?_
    refine m_get (k := 8) (v := f 8) B hM (by decide) rfl fl59 dX12_wrong_15 rfl ?_
    have r3 : (0 : Int) ≤ f 8 ∧ f 8 ≤ 3001 := hM.2.2.2.1 8
    refine m_calli (n := 2) (rest := []) B hM hA hl.1 (k_fails l D dA h0 ad (up f [(5, f 5), (6, f 6)]) g A L 2 (f 8) (by omega) (by omega) ) rfl ok_fails nm_fails ⟨rfl, rfl⟩ ⟨Nat.le_of_ble_eq_true rfl, Nat.le_of_ble_eq_true rfl⟩ dX12_wrong_18 rfl rfl (Nat.le_of_ble_eq_true rfl) ⟨Nat.zero_le _, Nat.zero_le _⟩ (fun r4 σr4 H locs ir4 hp5 hM => ?_)
    obtain ⟨x6, x7, rfl, hp5⟩ := hp5
    unfold inr at ir4
    replace hp5 : r4 = 0 ∧ ((f 5) ≠ 0 → (x6) = (f 5)) ∧ ((f 5) = 0 → (x6) = (2)) := hp5
    obtain ⟨hp5_0, hp5_1, hp5_2⟩ := hp5
    simp only [up_up] at hM
    replace hM : MWd D dA h0 ad (mF dA h0 ad (f, g, A, L) s.heap.size) s.heap ((up f [(5, x6), (6, x7)]), g, A, L) H locs := hM
    have r8 : (-2147483648 : Int) ≤ x6 ∧ x6 ≤ 2147483647 := hM.2.2.2.1 5
    have r9 : (-2147483648 : Int) ≤ x7 ∧ x7 ≤ 2147483647 := hM.2.2.2.1 6
    refine lv_pop B.1 B.2.1 dX12_wrong_21 rfl ?_
    subst hPST
    exact m_vret B hM dX12_wrong_22 ⟨x6, x7, rfl, by first | omega | (simp only [wr_at]; omega) | assumption⟩
  · refine q_con B dX12_wrong_9 ?_
    refine lv_goto (tgt := 14) B.1 B.2.1 dX12_wrong_10 (by decide) ?_
    refine lv_aload_n B.1 B.2.1 dX12_wrong_14 rfl (lv_at hl 0 rfl) ?_
    refine m_get (k := 8) (v := f 8) B hM (by decide) rfl fl59 dX12_wrong_15 rfl ?_
    have r10 : (0 : Int) ≤ f 8 ∧ f 8 ≤ 3001 := hM.2.2.2.1 8
    refine m_calli (n := 2) (rest := []) B hM hA hl.1 (k_fails l D dA h0 ad (up f [(5, f 5), (6, f 6)]) g A L 1 (f 8) (by omega) (by omega) ) rfl ok_fails nm_fails ⟨rfl, rfl⟩ ⟨Nat.le_of_ble_eq_true rfl, Nat.le_of_ble_eq_true rfl⟩ dX12_wrong_18 rfl rfl (Nat.le_of_ble_eq_true rfl) ⟨Nat.zero_le _, Nat.zero_le _⟩ (fun r11 σr11 H locs ir11 hp12 hM => ?_)
    obtain ⟨x13, x14, rfl, hp12⟩ := hp12
    unfold inr at ir11
    replace hp12 : r11 = 0 ∧ ((f 5) ≠ 0 → (x13) = (f 5)) ∧ ((f 5) = 0 → (x13) = (1)) := hp12
    obtain ⟨hp12_0, hp12_1, hp12_2⟩ := hp12
    simp only [up_up] at hM
    replace hM : MWd D dA h0 ad (mF dA h0 ad (f, g, A, L) s.heap.size) s.heap ((up f [(5, x13), (6, x14)]), g, A, L) H locs := hM
    have r15 : (-2147483648 : Int) ≤ x13 ∧ x13 ≤ 2147483647 := hM.2.2.2.1 5
    have r16 : (-2147483648 : Int) ≤ x14 ∧ x14 ≤ 2147483647 := hM.2.2.2.1 6
    refine lv_pop B.1 B.2.1 dX12_wrong_21 rfl ?_
    subst hPST
    exact m_vret B hM dX12_wrong_22 ⟨x13, x14, rfl, by first | omega | (simp only [wr_at]; omega) | assumption⟩
set_option maxHeartbeats 4000000 in
set_option maxRecDepth 20000 in
theorem k_wrong2 (l : Launch) (D : va_G) (dA : Nat → ClassId) (h0 : Nat) (ad : Nat → Nat) (f : Nat → Int) (g : Nat → Int64) (A : Nat → Nat → Int) (L : Nat → Nat → Int64) : MCv l yX12_wrong2 cX12_wrong2 1 ({ frames := 1, cells := 0, slots := 0, locals := 22 }) D dA h0 ad (f, g, A, L) [] (fun (σ : MS) => ∃ n5 : Int, ∃ n6 : Int, σ = ((up f [(5, n5), (6, n6)]), g, A, L) ∧ ((n5) ≠ 0)) := by
  generalize hPST : (fun (σ : MS) => ∃ n5 : Int, ∃ n6 : Int, σ = ((up f [(5, n5), (6, n6)]), g, A, L) ∧ ((n5) ≠ 0)) = PST
  refine m_enterv (by decide) rfl (Nat.le_of_ble_eq_true rfl) (fun p e s m args below meth c ls B hM hl => ?_)
  have hA : ∀ q, s.heap.size ≤ q → mF dA h0 ad (f, g, A, L) s.heap.size q := fun q h => Or.inr h
  have hM : MWd D dA h0 ad (mF dA h0 ad (f, g, A, L) s.heap.size) s.heap ((up f [(5, f 5), (6, f 6)]), g, A, L) s.heap [] := MW_pad hM (up_self f [5, 6]) rfl rfl rfl
  have hl : lv_has ls 1 [(0, .ref h0)] := hl
  refine lv_aload_n B.1 B.2.1 dX12_wrong2_0 rfl (lv_at hl 0 rfl) ?_
  refine lv_aload_n B.1 B.2.1 dX12_wrong2_1 rfl (lv_at hl 0 rfl) ?_
  refine m_get (k := 7) (v := f 7) B hM (by decide) rfl fl66 dX12_wrong2_2 rfl ?_
  have r1 : (0 : Int) ≤ f 7 ∧ f 7 ≤ 6 := hM.2.2.2.1 7
  refine q_con B dX12_wrong2_5 ?_
  refine q_cne (tgt := 13) B dX12_wrong2_6 (by decide) (by unfold inr; omega) (by unfold inr; omega) (fun c2 => ?_) (fun c2 => ?_)
  · refine q_con B dX12_wrong2_13 ?_
    refine lv_aload_n B.1 B.2.1 dX12_wrong2_14 rfl (lv_at hl 0 rfl) ?_
    refine m_get (k := 8) (v := f 8) B hM (by decide) rfl fl59 dX12_wrong2_15 rfl ?_
    have r3 : (0 : Int) ≤ f 8 ∧ f 8 ≤ 3001 := hM.2.2.2.1 8
    refine m_calli (n := 2) (rest := []) B hM hA hl.1 (k_fails l D dA h0 ad (up f [(5, f 5), (6, f 6)]) g A L 2 (f 8) (by omega) (by omega) ) rfl ok_fails nm_fails ⟨rfl, rfl⟩ ⟨Nat.le_of_ble_eq_true rfl, Nat.le_of_ble_eq_true rfl⟩ dX12_wrong2_18 rfl rfl (Nat.le_of_ble_eq_true rfl) ⟨Nat.zero_le _, Nat.zero_le _⟩ (fun r4 σr4 H locs ir4 hp5 hM => ?_)
    obtain ⟨x6, x7, rfl, hp5⟩ := hp5
    unfold inr at ir4
    replace hp5 : r4 = 0 ∧ ((f 5) ≠ 0 → (x6) = (f 5)) ∧ ((f 5) = 0 → (x6) = (2)) := hp5
    obtain ⟨hp5_0, hp5_1, hp5_2⟩ := hp5
    simp only [up_up] at hM
    replace hM : MWd D dA h0 ad (mF dA h0 ad (f, g, A, L) s.heap.size) s.heap ((up f [(5, x6), (6, x7)]), g, A, L) H locs := hM
    have r8 : (-2147483648 : Int) ≤ x6 ∧ x6 ≤ 2147483647 := hM.2.2.2.1 5
    have r9 : (-2147483648 : Int) ≤ x7 ∧ x7 ≤ 2147483647 := hM.2.2.2.1 6
    refine lv_pop B.1 B.2.1 dX12_wrong2_21 rfl ?_
    subst hPST
    exact m_vret B hM dX12_wrong2_22 ⟨x6, x7, rfl, by first | omega | (simp only [wr_at]; omega) | assumption⟩
  · refine q_con B dX12_wrong2_9 ?_
    refine lv_goto (tgt := 14) B.1 B.2.1 dX12_wrong2_10 (by decide) ?_
    refine lv_aload_n B.1 B.2.1 dX12_wrong2_14 rfl (lv_at hl 0 rfl) ?_
    refine m_get (k := 8) (v := f 8) B hM (by decide) rfl fl59 dX12_wrong2_15 rfl ?_
    have r10 : (0 : Int) ≤ f 8 ∧ f 8 ≤ 3001 := hM.2.2.2.1 8
    refine m_calli (n := 2) (rest := []) B hM hA hl.1 (k_fails l D dA h0 ad (up f [(5, f 5), (6, f 6)]) g A L 1 (f 8) (by omega) (by omega) ) rfl ok_fails nm_fails ⟨rfl, rfl⟩ ⟨Nat.le_of_ble_eq_true rfl, Nat.le_of_ble_eq_true rfl⟩ dX12_wrong2_18 rfl rfl (Nat.le_of_ble_eq_true rfl) ⟨Nat.zero_le _, Nat.zero_le _⟩ (fun r11 σr11 H locs ir11 hp12 hM => ?_)
    obtain ⟨x13, x14, rfl, hp12⟩ := hp12
    unfold inr at ir11
    replace hp12 : r11 = 0 ∧ ((f 5) ≠ 0 → (x13) = (f 5)) ∧ ((f 5) = 0 → (x13) = (1)) := hp12
    obtain ⟨hp12_0, hp12_1, hp12_2⟩ := hp12
    simp only [up_up] at hM
    replace hM : MWd D dA h0 ad (mF dA h0 ad (f, g, A, L) s.heap.size) s.heap ((up f [(5, x13), (6, x14)]), g, A, L) H locs := hM
    have r15 : (-2147483648 : Int) ≤ x13 ∧ x13 ≤ 2147483647 := hM.2.2.2.1 5
    have r16 : (-2147483648 : Int) ≤ x14 ∧ x14 ≤ 2147483647 := hM.2.2.2.1 6
    refine lv_pop B.1 B.2.1 dX12_wrong2_21 rfl ?_
    subst hPST
    exact m_vret B hM dX12_wrong2_22 ⟨x13, x14, rfl, by first | omega | (simp only [wr_at]; omega) | assumption⟩
set_option maxHeartbeats 4000000 in
set_option maxRecDepth 20000 in
theorem k_must (l : Launch) (D : va_G) (dA : Nat → ClassId) (h0 : Nat) (ad : Nat → Nat) (f : Nat → Int) (g : Nat → Int64) (A : Nat → Nat → Int) (L : Nat → Nat → Int64) (a_c : Int) (i_c : (-2147483648 : Int) ≤ a_c ∧ a_c ≤ 2147483647) (p_0 : (0 ≤ (f 8) ∧ (f 8) ≤ (f 4) ∧ (f 8) ≤ (f 9) ∧ (f 9) ≤ (f 4) + 1 ∧ ((f 7) = 0 ↔ (f 8) = (f 4)) ∧ (2 ≤ (f 7) → (f 8) < (f 9) ∧ (f 9) ≤ (f 4)) ∧ ((f 7) = 5 → (f 8) + 2 ≤ (f 9) ∧ (f 9) ≤ (f 8) + 32))) : MCv l yX12_must cX12_must 2 ({ frames := 3, cells := 0, slots := 0, locals := 65 }) D dA h0 ad (f, g, A, L) [.int (II a_c)] (fun (σ : MS) => ∃ n8 : Int, ∃ n9 : Int, ∃ n7 : Int, ∃ n10 : Int, ∃ n5 : Int, ∃ n6 : Int, ∃ n11 : Int64, σ = ((up f [(8, n8), (9, n9), (7, n7), (10, n10), (5, n5), (6, n6)]), (up g [(11, n11)]), A, L) ∧ (((0 ≤ (n8) ∧ (n8) ≤ (f 4) ∧ (n8) ≤ (n9) ∧ (n9) ≤ (f 4) + 1 ∧ ((n7) = 0 ↔ (n8) = (f 4)) ∧ (2 ≤ (n7) → (n8) < (n9) ∧ (n9) ≤ (f 4)) ∧ ((n7) = 5 → (n8) + 2 ≤ (n9) ∧ (n9) ≤ (n8) + 32))) ∧ (f 8) ≤ (n8) ∧ ((n5) = 0 → (f 5) = 0 ∧ (f 8) + 1 ≤ (n8) ∧ (f 9) ≤ (n8)))) := by
  generalize hPST : (fun (σ : MS) => ∃ n8 : Int, ∃ n9 : Int, ∃ n7 : Int, ∃ n10 : Int, ∃ n5 : Int, ∃ n6 : Int, ∃ n11 : Int64, σ = ((up f [(8, n8), (9, n9), (7, n7), (10, n10), (5, n5), (6, n6)]), (up g [(11, n11)]), A, L) ∧ (((0 ≤ (n8) ∧ (n8) ≤ (f 4) ∧ (n8) ≤ (n9) ∧ (n9) ≤ (f 4) + 1 ∧ ((n7) = 0 ↔ (n8) = (f 4)) ∧ (2 ≤ (n7) → (n8) < (n9) ∧ (n9) ≤ (f 4)) ∧ ((n7) = 5 → (n8) + 2 ≤ (n9) ∧ (n9) ≤ (n8) + 32))) ∧ (f 8) ≤ (n8) ∧ ((n5) = 0 → (f 5) = 0 ∧ (f 8) + 1 ≤ (n8) ∧ (f 9) ≤ (n8)))) = PST
  refine m_enterv (by decide) rfl (Nat.le_of_ble_eq_true rfl) (fun p e s m args below meth c ls B hM hl => ?_)
  have hA : ∀ q, s.heap.size ≤ q → mF dA h0 ad (f, g, A, L) s.heap.size q := fun q h => Or.inr h
  have hM : MWd D dA h0 ad (mF dA h0 ad (f, g, A, L) s.heap.size) s.heap ((up f [(8, f 8), (9, f 9), (7, f 7), (10, f 10), (5, f 5), (6, f 6)]), (up g [(11, g 11)]), A, L) s.heap [] := MW_pad hM (up_self f [8, 9, 7, 10, 5, 6]) (up_self g [11]) rfl rfl
  have hl : lv_has ls 2 [(0, .ref h0), (1, .int (II a_c))] := hl
  have r1 : (0 : Int) ≤ f 4 ∧ f 4 ≤ 3000 := hM.2.2.2.1 4
  have r2 : (0 : Int) ≤ f 7 ∧ f 7 ≤ 6 := hM.2.2.2.1 7
  have r3 : (0 : Int) ≤ f 8 ∧ f 8 ≤ 3001 := hM.2.2.2.1 8
  have r4 : (0 : Int) ≤ f 9 ∧ f 9 ≤ 3002 := hM.2.2.2.1 9
  refine lv_aload_n B.1 B.2.1 dX12_must_0 rfl (lv_at hl 0 rfl) ?_
  refine lv_iload_n B.1 B.2.1 dX12_must_1 rfl (lv_at hl 1 rfl) ?_
  refine m_calli (n := 1) (rest := []) B hM hA hl.1 (k_isSign l D dA h0 ad (up f [(8, f 8), (9, f 9), (7, f 7), (10, f 10), (5, f 5), (6, f 6)]) (up g [(11, g 11)]) A L a_c (by omega) (show (0 ≤ (f 8) ∧ (f 8) ≤ (f 4) ∧ (f 8) ≤ (f 9) ∧ (f 9) ≤ (f 4) + 1 ∧ ((f 7) = 0 ↔ (f 8) = (f 4)) ∧ (2 ≤ (f 7) → (f 8) < (f 9) ∧ (f 9) ≤ (f 4)) ∧ ((f 7) = 5 → (f 8) + 2 ≤ (f 9) ∧ (f 9) ≤ (f 8) + 32)) from by first | omega | (simp only [wr_at]; omega) | assumption)) rfl ok_isSign nm_isSign ⟨rfl, rfl⟩ ⟨Nat.le_of_ble_eq_true rfl, Nat.le_of_ble_eq_true rfl⟩ dX12_must_2 rfl rfl (Nat.le_of_ble_eq_true rfl) ⟨Nat.zero_le _, Nat.zero_le _⟩ (fun r5 σr5 H locs ir5 hp6 hM => ?_)
  obtain ⟨rfl, hp6⟩ := hp6
  unfold inr at ir5
  replace hp6 : 0 ≤ r5 ∧ r5 ≤ 1 ∧ (r5 = 1 ↔ (f 7) = 6 ∧ sgn ((A 2)) (f 3) (f 4) (f 8) = (a_c)) := hp6
  obtain ⟨hp6_0, hp6_1, hp6_2⟩ := hp6
  refine q_ine (tgt := 15) B dX12_must_5 (by decide) (by unfold inr; omega) (fun c7 => ?_) (fun c7 => ?_)
  · refine lv_aload_n B.1 B.2.1 dX12_must_15 rfl (lv_at hl 0 rfl) ?_
    refine m_callv (n := 0) (rest := []) B hM hA hl.1 (k_next l D dA h0 ad (up f [(8, f 8), (9, f 9), (7, f 7), (10, f 10), (5, f 5), (6, f 6)]) (up g [(11, g 11)]) A L   (show (f 9) ≤ 3001 from by first | omega | (simp only [wr_at]; omega) | assumption)) rfl ok_next nm_next ⟨rfl, rfl⟩ ⟨Nat.le_of_ble_eq_true rfl, Nat.le_of_ble_eq_true rfl⟩ dX12_must_16 rfl rfl (Nat.le_of_ble_eq_true rfl) ⟨Nat.zero_le _, Nat.zero_le _⟩ (fun σr8 H locs hp9 hM => ?_)
    obtain ⟨x10, x11, x12, x13, w14, rfl, hp9⟩ := hp9
    replace hp9 : ((f 9) ≤ (x10) ∨ (x10) = (f 4)) ∧ (0 ≤ (x10) ∧ (x10) ≤ (f 4) ∧ (x10) ≤ (x11) ∧ (x11) ≤ (f 4) + 1 ∧ ((x12) = 0 ↔ (x10) = (f 4)) ∧ (2 ≤ (x12) → (x10) < (x11) ∧ (x11) ≤ (f 4)) ∧ ((x12) = 5 → (x10) + 2 ≤ (x11) ∧ (x11) ≤ (x10) + 32)) := hp9
    obtain ⟨hp9_0, hp9_1⟩ := hp9
    simp only [up_up] at hM
    replace hM : MWd D dA h0 ad (mF dA h0 ad (f, g, A, L) s.heap.size) s.heap ((up f [(8, x10), (9, x11), (7, x12), (10, x13), (5, f 5), (6, f 6)]), (up g [(11, w14)]), A, L) H locs := hM
    have r15 : (0 : Int) ≤ x10 ∧ x10 ≤ 3001 := hM.2.2.2.1 8
    have r16 : (0 : Int) ≤ x11 ∧ x11 ≤ 3002 := hM.2.2.2.1 9
    have r17 : (0 : Int) ≤ x12 ∧ x12 ≤ 6 := hM.2.2.2.1 7
    have r18 : (-2147483648 : Int) ≤ x13 ∧ x13 ≤ 2147483647 := hM.2.2.2.1 10
    subst hPST
    exact m_vret B hM dX12_must_19 ⟨x10, x11, x12, x13, (f 5), (f 6), w14, rfl, by (exact ⟨by first | omega | (simp only [wr_at]; omega) | assumption, by first | omega | (simp only [wr_at]; omega) | assumption, by first | omega | (simp only [wr_at]; omega) | assumption⟩)⟩
  · refine lv_aload_n B.1 B.2.1 dX12_must_8 rfl (lv_at hl 0 rfl) ?_
    refine m_callv (n := 0) (rest := []) B hM hA hl.1 (k_wrong l D dA h0 ad (up f [(8, f 8), (9, f 9), (7, f 7), (10, f 10), (5, f 5), (6, f 6)]) (up g [(11, g 11)]) A L   ) rfl ok_wrong nm_wrong ⟨rfl, rfl⟩ ⟨Nat.le_of_ble_eq_true rfl, Nat.le_of_ble_eq_true rfl⟩ dX12_must_9 rfl rfl (Nat.le_of_ble_eq_true rfl) ⟨Nat.zero_le _, Nat.zero_le _⟩ (fun σr19 H locs hp20 hM => ?_)
    obtain ⟨x21, x22, rfl, hp20⟩ := hp20
    replace hp20 : (x21) ≠ 0 := hp20
    simp only [up_up] at hM
    replace hM : MWd D dA h0 ad (mF dA h0 ad (f, g, A, L) s.heap.size) s.heap ((up f [(8, f 8), (9, f 9), (7, f 7), (10, f 10), (5, x21), (6, x22)]), (up g [(11, g 11)]), A, L) H locs := hM
    have r23 : (-2147483648 : Int) ≤ x21 ∧ x21 ≤ 2147483647 := hM.2.2.2.1 5
    have r24 : (-2147483648 : Int) ≤ x22 ∧ x22 ≤ 2147483647 := hM.2.2.2.1 6
    refine lv_goto (tgt := 19) B.1 B.2.1 dX12_must_12 (by decide) ?_
    subst hPST
    exact m_vret B hM dX12_must_19 ⟨(f 8), (f 9), (f 7), (f 10), x21, x22, (g 11), rfl, by (exact ⟨by first | omega | (simp only [wr_at]; omega) | assumption, by first | omega | (simp only [wr_at]; omega) | assumption, by first | omega | (simp only [wr_at]; omega) | assumption⟩)⟩
set_option maxHeartbeats 4000000 in
set_option maxRecDepth 20000 in
theorem k_nameOf (l : Launch) (D : va_G) (dA : Nat → ClassId) (h0 : Nat) (ad : Nat → Nat) (f : Nat → Int) (g : Nat → Int64) (A : Nat → Nat → Int) (L : Nat → Nat → Int64) (a_v : Int64) : MCi l yX12_nameOf cX12_nameOf 4 (some .int) ({ frames := 0, cells := 0, slots := 0, locals := 0 }) D dA h0 ad (f, g, A, L) [.long a_v] (fun (r : Int) (σ : MS) => σ = (f, g, A, L) ∧ (r = -1 ∨ (64 * (f 3) ≤ r ∧ r < 64 * (f 3) + (f 15)))) := by
  generalize hPST : (fun (r : Int) (σ : MS) => σ = (f, g, A, L) ∧ (r = -1 ∨ (64 * (f 3) ≤ r ∧ r < 64 * (f 3) + (f 15)))) = PST
  refine m_enter (by decide) rfl (Nat.le_of_ble_eq_true rfl) (fun p e s m args below meth c ls B hM hl => ?_)
  have hA : ∀ q, s.heap.size ≤ q → mF dA h0 ad (f, g, A, L) s.heap.size q := fun q h => Or.inr h
  have hl : lv_has ls 4 [(0, .ref h0), (1, .long a_v)] := hl
  have r1 : (0 : Int) ≤ f 3 ∧ f 3 ≤ 1 := hM.2.2.2.1 3
  have r2 : (0 : Int) ≤ f 15 ∧ f 15 ≤ 64 := hM.2.2.2.1 15
  have LL2 : ∀ N : Nat, ∀ (v2_3 : Int) (H : Heap) (locs : List Loc) (ls : Array Slot), (MWd D dA h0 ad (mF dA h0 ad (f, g, A, L) s.heap.size) s.heap (f, g, A, L) H locs) → lv_has ls 4 [(0, .ref h0), (1, .long a_v), (3, .int (II v2_3))] → ((-2147483648 : Int) ≤ v2_3 ∧ v2_3 ≤ 2147483647) → (0 ≤ (v2_3)) → ((v2_3) ≤ (f 15)) → (0 ≤ (f 15) - (v2_3)) → ((f 15) - (v2_3) < (N : Int)) → W p l e ({ frames := 0, cells := 0, slots := 0, locals := 0 }) s m args below meth c H locs 0 0 (MQ below (mQi D dA h0 ad (f, g, A, L) s.heap.size PST) args s 0 0 (mF dA h0 ad (f, g, A, L) s.heap.size)) (F0 m 2 ls []) := by
    intro N
    induction N with
    | zero => intro v2_3 H locs ls hM hl hLL2_0 hLL2_1 hLL2_2 hLL2_3 hN; exfalso; omega
    | succ N IH2 =>
      intro v2_3 H locs ls hM hl hLL2_0 hLL2_1 hLL2_2 hLL2_3 hN
      refine lv_iload_n B.1 B.2.1 dX12_nameOf_2 rfl (lv_at hl 2 rfl) ?_
      refine lv_aload_n B.1 B.2.1 dX12_nameOf_3 rfl (lv_at hl 0 rfl) ?_
      refine m_get (k := 15) (v := f 15) B hM (by decide) rfl fl108 dX12_nameOf_4 rfl ?_
      refine q_cge (tgt := 45) B dX12_nameOf_7 (by decide) (by unfold inr; omega) (by unfold inr; omega) (fun c3 => ?_) (fun c3 => ?_)
      · refine q_con B dX12_nameOf_45 ?_
        subst hPST
        exact m_iret B hM dX12_nameOf_46 (by unfold inr; omega) ⟨rfl, by first | omega | (simp only [wr_at]; omega) | assumption⟩
      · refine lv_aload_n B.1 B.2.1 dX12_nameOf_10 rfl (lv_at hl 0 rfl) ?_
        refine m_geta (k := 12) B hM (by decide) rfl fl111 dX12_nameOf_11 ?_
        refine q_bip B dX12_nameOf_14 (by decide) ?_
        refine lv_aload_n B.1 B.2.1 dX12_nameOf_16 rfl (lv_at hl 0 rfl) ?_
        refine m_get (k := 3) (v := f 3) B hM (by decide) rfl fl11 dX12_nameOf_17 rfl ?_
        refine q_mul B dX12_nameOf_20 ?_
        refine lv_iload_n B.1 B.2.1 dX12_nameOf_21 rfl (lv_at hl 2 rfl) ?_
        refine q_add B dX12_nameOf_22 ?_
        refine m_lld (k := 12) (i := 2) (n := 128) (z := (64 * (f 3)) + v2_3) (v := (L 12) ((64 * (f 3)) + v2_3).toNat) B hM rfl rfl rfl (by decide) dX12_nameOf_23 (by omega) (by omega) rfl ?_
        refine lv_lload_n B.1 B.2.1 dX12_nameOf_24 rfl (lv_at hl 1 rfl) ?_
        refine q_lcmp B dX12_nameOf_25 (fun x4 lx4 ux4 ex4 => ?_)
        refine q_ine (tgt := 39) B dX12_nameOf_26 (by decide) (by unfold inr; omega) (fun c5 => ?_) (fun c5 => ?_)
        · refine q_inc (k := 2) (x := v2_3) (lv' := [(3, .int (II (v2_3 + 1))), (0, .ref h0), (1, .long a_v)]) B dX12_nameOf_39 hl rfl (by decide) rfl (fun ls hl => ?_)
          refine lv_goto (tgt := 2) B.1 B.2.1 dX12_nameOf_42 (by decide) ?_
          exact IH2 (v2_3 + 1) _ _ ls hM (lv_sub hl [1, 2, 0] rfl) (by omega) (by first | omega | (simp only [wr_at]; omega) | assumption) (by first | omega | (simp only [wr_at]; omega) | assumption) (by first | omega | (simp only [wr_at]; omega) | assumption) (by first | omega | (simp only [wr_at]; omega) | assumption)
        · refine q_bip B dX12_nameOf_29 (by decide) ?_
          refine lv_aload_n B.1 B.2.1 dX12_nameOf_31 rfl (lv_at hl 0 rfl) ?_
          refine m_get (k := 3) (v := f 3) B hM (by decide) rfl fl11 dX12_nameOf_32 rfl ?_
          refine q_mul B dX12_nameOf_35 ?_
          refine lv_iload_n B.1 B.2.1 dX12_nameOf_36 rfl (lv_at hl 2 rfl) ?_
          refine q_add B dX12_nameOf_37 ?_
          subst hPST
          exact m_iret B hM dX12_nameOf_38 (by unfold inr; omega) ⟨rfl, by first | omega | (simp only [wr_at]; omega) | assumption⟩
  refine q_con B dX12_nameOf_0 ?_
  refine lv_istore_n (lv' := [(3, .int (II 0)), (0, .ref h0), (1, .long a_v)]) B.1 B.2.1 dX12_nameOf_1 rfl hl (by decide) rfl (fun ls hl => ?_)
  exact LL2 (Int.toNat ((f 15) - (0) + 1)) 0 _ _ ls hM (lv_sub hl [1, 2, 0] rfl) (by omega) (by first | omega | (simp only [wr_at]; omega) | assumption) (by first | omega | (simp only [wr_at]; omega) | assumption) (by first | omega | (simp only [wr_at]; omega) | assumption) (by first | omega | (simp only [wr_at]; omega) | assumption)
set_option maxHeartbeats 4000000 in
set_option maxRecDepth 20000 in
theorem k_add (l : Launch) (D : va_G) (dA : Nat → ClassId) (h0 : Nat) (ad : Nat → Nat) (f : Nat → Int) (g : Nat → Int64) (A : Nat → Nat → Int) (L : Nat → Nat → Int64) (a_v : Int64) (a_sort : Int) (a_its : Int) (i_sort : (-2147483648 : Int) ≤ a_sort ∧ a_sort ≤ 2147483647) (i_its : (-2147483648 : Int) ≤ a_its ∧ a_its ≤ 2147483647) (p_0 : (f 15) ≤ 63) (p_1 : 0 ≤ (a_sort)) (p_2 : (a_sort) ≤ 5) (p_3 : 0 ≤ (a_its)) (p_4 : (a_its) ≤ 15) : MCv l yX12_add cX12_add 5 ({ frames := 0, cells := 0, slots := 0, locals := 0 }) D dA h0 ad (f, g, A, L) [.long a_v, .int (II a_sort), .int (II a_its)] (fun (σ : MS) => ∃ b12 : Nat → Int64, σ = ((up f [(15, ((f 15) + 1))]), g, (up A [(13, (wr (A 13) (64 * (f 3) + (f 15)) (a_sort))), (14, (wr (A 14) (64 * (f 3) + (f 15)) (a_its)))]), (up L [(12, b12)])) ∧ (True)) := by
  generalize hPST : (fun (σ : MS) => ∃ b12 : Nat → Int64, σ = ((up f [(15, ((f 15) + 1))]), g, (up A [(13, (wr (A 13) (64 * (f 3) + (f 15)) (a_sort))), (14, (wr (A 14) (64 * (f 3) + (f 15)) (a_its)))]), (up L [(12, b12)])) ∧ (True)) = PST
  refine m_enterv (by decide) rfl (Nat.le_of_ble_eq_true rfl) (fun p e s m args below meth c ls B hM hl => ?_)
  have hA : ∀ q, s.heap.size ≤ q → mF dA h0 ad (f, g, A, L) s.heap.size q := fun q h => Or.inr h
  have hM : MWd D dA h0 ad (mF dA h0 ad (f, g, A, L) s.heap.size) s.heap ((up f [(15, f 15)]), g, (up A [(13, (A 13)), (14, (A 14))]), (up L [(12, (L 12))])) s.heap [] := MW_pad hM (up_self f [15]) rfl (up_self A [13, 14]) (up_self L [12])
  have hl : lv_has ls 5 [(0, .ref h0), (1, .long a_v), (3, .int (II a_sort)), (4, .int (II a_its))] := hl
  have r1 : (0 : Int) ≤ f 15 ∧ f 15 ≤ 64 := hM.2.2.2.1 15
  refine lv_aload_n B.1 B.2.1 dX12_add_0 rfl (lv_at hl 0 rfl) ?_
  refine m_geta (k := 12) B hM (by decide) rfl fl111 dX12_add_1 ?_
  refine q_bip B dX12_add_4 (by decide) ?_
  refine lv_aload_n B.1 B.2.1 dX12_add_6 rfl (lv_at hl 0 rfl) ?_
  refine m_get (k := 3) (v := f 3) B hM (by decide) rfl fl11 dX12_add_7 rfl ?_
  have r2 : (0 : Int) ≤ f 3 ∧ f 3 ≤ 1 := hM.2.2.2.1 3
  refine q_mul B dX12_add_10 ?_
  refine lv_aload_n B.1 B.2.1 dX12_add_11 rfl (lv_at hl 0 rfl) ?_
  refine m_get (k := 15) (v := f 15) B hM (by decide) rfl fl108 dX12_add_12 rfl ?_
  refine q_add B dX12_add_15 ?_
  refine lv_lload_n B.1 B.2.1 dX12_add_16 rfl (lv_at hl 1 rfl) ?_
  refine m_lst (k := 12) (i := 2) (n := 128) B hM rfl rfl rfl (by decide) dX12_add_17 (by omega) (by omega) (u1_up L [(12, (L 12))] 12 (wr (L 12) ((64 * (f 3)) + (f 15)) a_v)) (fun H locs hM => ?_)
  replace hM : MWd D dA h0 ad (mF dA h0 ad (f, g, A, L) s.heap.size) s.heap ((up f [(15, f 15)]), g, (up A [(13, (A 13)), (14, (A 14))]), (up L [(12, (wr (L 12) ((64 * (f 3)) + (f 15)) a_v))])) H locs := hM
  refine lv_aload_n B.1 B.2.1 dX12_add_18 rfl (lv_at hl 0 rfl) ?_
  refine m_geta (k := 13) B hM (by decide) rfl fl138 dX12_add_19 ?_
  refine q_bip B dX12_add_22 (by decide) ?_
  refine lv_aload_n B.1 B.2.1 dX12_add_24 rfl (lv_at hl 0 rfl) ?_
  refine m_get (k := 3) (v := f 3) B hM (by decide) rfl fl11 dX12_add_25 rfl ?_
  refine q_mul B dX12_add_28 ?_
  refine lv_aload_n B.1 B.2.1 dX12_add_29 rfl (lv_at hl 0 rfl) ?_
  refine m_get (k := 15) (v := f 15) B hM (by decide) rfl fl108 dX12_add_30 rfl ?_
  refine q_add B dX12_add_33 ?_
  refine lv_iload_n B.1 B.2.1 dX12_add_34 rfl (lv_at hl 2 rfl) ?_
  refine m_ist (k := 13) (i := 3) (n := 128) B hM rfl rfl rfl (by decide) dX12_add_35 (by omega) (by omega) (show (0 : Int) ≤ a_sort from by first | omega | (simp only [wr_at]; omega)) (show a_sort ≤ (5 : Int) from by first | omega | (simp only [wr_at]; omega)) (u1_up A [(13, (A 13)), (14, (A 14))] 13 (wr (A 13) ((64 * (f 3)) + (f 15)) a_sort)) (fun H locs hM => ?_)
  replace hM : MWd D dA h0 ad (mF dA h0 ad (f, g, A, L) s.heap.size) s.heap ((up f [(15, f 15)]), g, (up A [(13, (wr (A 13) ((64 * (f 3)) + (f 15)) a_sort)), (14, (A 14))]), (up L [(12, (wr (L 12) ((64 * (f 3)) + (f 15)) a_v))])) H locs := hM
  refine lv_aload_n B.1 B.2.1 dX12_add_36 rfl (lv_at hl 0 rfl) ?_
  refine m_geta (k := 14) B hM (by decide) rfl fl142 dX12_add_37 ?_
  refine q_bip B dX12_add_40 (by decide) ?_
  refine lv_aload_n B.1 B.2.1 dX12_add_42 rfl (lv_at hl 0 rfl) ?_
  refine m_get (k := 3) (v := f 3) B hM (by decide) rfl fl11 dX12_add_43 rfl ?_
  refine q_mul B dX12_add_46 ?_
  refine lv_aload_n B.1 B.2.1 dX12_add_47 rfl (lv_at hl 0 rfl) ?_
  refine m_get (k := 15) (v := f 15) B hM (by decide) rfl fl108 dX12_add_48 rfl ?_
  refine q_add B dX12_add_51 ?_
  refine lv_iload B.1 B.2.1 dX12_add_52 (lv_at hl 3 rfl) ?_
  refine m_ist (k := 14) (i := 4) (n := 128) B hM rfl rfl rfl (by decide) dX12_add_54 (by omega) (by omega) (show (0 : Int) ≤ a_its from by first | omega | (simp only [wr_at]; omega)) (show a_its ≤ (15 : Int) from by first | omega | (simp only [wr_at]; omega)) (u1_up A [(13, (wr (A 13) ((64 * (f 3)) + (f 15)) a_sort)), (14, (A 14))] 14 (wr (A 14) ((64 * (f 3)) + (f 15)) a_its)) (fun H locs hM => ?_)
  replace hM : MWd D dA h0 ad (mF dA h0 ad (f, g, A, L) s.heap.size) s.heap ((up f [(15, f 15)]), g, (up A [(13, (wr (A 13) ((64 * (f 3)) + (f 15)) a_sort)), (14, (wr (A 14) ((64 * (f 3)) + (f 15)) a_its))]), (up L [(12, (wr (L 12) ((64 * (f 3)) + (f 15)) a_v))])) H locs := hM
  refine lv_aload_n B.1 B.2.1 dX12_add_55 rfl (lv_at hl 0 rfl) ?_
  refine lv_dup B.1 B.2.1 dX12_add_56 rfl ?_
  refine m_get (k := 15) (v := f 15) B hM (by decide) rfl fl108 dX12_add_57 rfl ?_
  refine q_con B dX12_add_60 ?_
  refine q_add B dX12_add_61 ?_
  refine m_put (k := 15) B hM (by decide) rfl fl108 rfl dX12_add_62 rfl rfl (show (0 : Int) ≤ (f 15) + 1 from by first | omega | (simp only [wr_at]; omega)) (show (f 15) + 1 ≤ (64 : Int) from by first | omega | (simp only [wr_at]; omega)) (u1_up f [(15, f 15)] 15 ((f 15) + 1)) (fun H locs hM => ?_)
  replace hM : MWd D dA h0 ad (mF dA h0 ad (f, g, A, L) s.heap.size) s.heap ((up f [(15, (f 15) + 1)]), g, (up A [(13, (wr (A 13) ((64 * (f 3)) + (f 15)) a_sort)), (14, (wr (A 14) ((64 * (f 3)) + (f 15)) a_its))]), (up L [(12, (wr (L 12) ((64 * (f 3)) + (f 15)) a_v))])) H locs := hM
  subst hPST
  exact m_vret B hM dX12_add_65 ⟨((wr (L 12) ((64 * (f 3)) + (f 15)) a_v)), rfl, by trivial⟩
set_option maxHeartbeats 4000000 in
set_option maxRecDepth 20000 in
theorem k_tell (l : Launch) (D : va_G) (dA : Nat → ClassId) (h0 : Nat) (ad : Nat → Nat) (f : Nat → Int) (g : Nat → Int64) (A : Nat → Nat → Int) (L : Nat → Nat → Int64) (a_sort : Int) (a_many : Int) (i_sort : (-2147483648 : Int) ≤ a_sort ∧ a_sort ≤ 2147483647) (i_many : (-2147483648 : Int) ≤ a_many ∧ a_many ≤ 2147483647) (p_0 : (0 ≤ (f 8) ∧ (f 8) ≤ (f 4) ∧ (f 8) ≤ (f 9) ∧ (f 9) ≤ (f 4) + 1 ∧ ((f 7) = 0 ↔ (f 8) = (f 4)) ∧ (2 ≤ (f 7) → (f 8) < (f 9) ∧ (f 9) ≤ (f 4)) ∧ ((f 7) = 5 → (f 8) + 2 ≤ (f 9) ∧ (f 9) ≤ (f 8) + 32))) (p_1 : (f 15) ≤ 62) (p_2 : 1 ≤ (a_sort)) (p_3 : (a_sort) ≤ 5) (p_4 : 0 ≤ (a_many)) (p_5 : (a_many) ≤ 15) (p_6 : ((a_sort) = 1 → (a_many) ≤ 7)) (p_7 : ((a_sort) = 3 → (a_many) = (f 58))) (p_8 : ((a_sort) = 4 → (a_many) = (f 59))) (p_9 : NIp (f 5) (f 15) (f 3) (f 58) (f 59) (A 13) (A 14)) : MCv l yX12_tell cX12_tell 3 ({ frames := 3, cells := 0, slots := 0, locals := 65 }) D dA h0 ad (f, g, A, L) [.int (II a_sort), .int (II a_many)] (fun (σ : MS) => ∃ n8 : Int, ∃ n9 : Int, ∃ n7 : Int, ∃ n10 : Int, ∃ n5 : Int, ∃ n6 : Int, ∃ n15 : Int, ∃ n11 : Int64, ∃ b13 : Nat → Int, ∃ b14 : Nat → Int, ∃ b12 : Nat → Int64, σ = ((up f [(8, n8), (9, n9), (7, n7), (10, n10), (5, n5), (6, n6), (15, n15)]), (up g [(11, n11)]), (up A [(13, b13), (14, b14)]), (up L [(12, b12)])) ∧ (((0 ≤ (n8) ∧ (n8) ≤ (f 4) ∧ (n8) ≤ (n9) ∧ (n9) ≤ (f 4) + 1 ∧ ((n7) = 0 ↔ (n8) = (f 4)) ∧ (2 ≤ (n7) → (n8) < (n9) ∧ (n9) ≤ (f 4)) ∧ ((n7) = 5 → (n8) + 2 ≤ (n9) ∧ (n9) ≤ (n8) + 32))) ∧ (f 8) ≤ (n8) ∧ ((n5) = 0 → (f 5) = 0 ∧ (f 8) + 1 ≤ (n8) ∧ (n15) = (f 15) + 1) ∧ (f 15) ≤ (n15) ∧ (n15) ≤ (f 15) + 1 ∧ NIp (n5) (n15) (f 3) (u3 3 (a_sort) (f 58)) (u3 4 (a_sort) (f 59)) b13 b14)) := by
  generalize hPST : (fun (σ : MS) => ∃ n8 : Int, ∃ n9 : Int, ∃ n7 : Int, ∃ n10 : Int, ∃ n5 : Int, ∃ n6 : Int, ∃ n15 : Int, ∃ n11 : Int64, ∃ b13 : Nat → Int, ∃ b14 : Nat → Int, ∃ b12 : Nat → Int64, σ = ((up f [(8, n8), (9, n9), (7, n7), (10, n10), (5, n5), (6, n6), (15, n15)]), (up g [(11, n11)]), (up A [(13, b13), (14, b14)]), (up L [(12, b12)])) ∧ (((0 ≤ (n8) ∧ (n8) ≤ (f 4) ∧ (n8) ≤ (n9) ∧ (n9) ≤ (f 4) + 1 ∧ ((n7) = 0 ↔ (n8) = (f 4)) ∧ (2 ≤ (n7) → (n8) < (n9) ∧ (n9) ≤ (f 4)) ∧ ((n7) = 5 → (n8) + 2 ≤ (n9) ∧ (n9) ≤ (n8) + 32))) ∧ (f 8) ≤ (n8) ∧ ((n5) = 0 → (f 5) = 0 ∧ (f 8) + 1 ≤ (n8) ∧ (n15) = (f 15) + 1) ∧ (f 15) ≤ (n15) ∧ (n15) ≤ (f 15) + 1 ∧ NIp (n5) (n15) (f 3) (u3 3 (a_sort) (f 58)) (u3 4 (a_sort) (f 59)) b13 b14)) = PST
  refine m_enterv (by decide) rfl (Nat.le_of_ble_eq_true rfl) (fun p e s m args below meth c ls B hM hl => ?_)
  have hA : ∀ q, s.heap.size ≤ q → mF dA h0 ad (f, g, A, L) s.heap.size q := fun q h => Or.inr h
  have hM : MWd D dA h0 ad (mF dA h0 ad (f, g, A, L) s.heap.size) s.heap ((up f [(8, f 8), (9, f 9), (7, f 7), (10, f 10), (5, f 5), (6, f 6), (15, f 15)]), (up g [(11, g 11)]), (up A [(13, (A 13)), (14, (A 14))]), (up L [(12, (L 12))])) s.heap [] := MW_pad hM (up_self f [8, 9, 7, 10, 5, 6, 15]) (up_self g [11]) (up_self A [13, 14]) (up_self L [12])
  have hl : lv_has ls 3 [(0, .ref h0), (1, .int (II a_sort)), (2, .int (II a_many))] := hl
  have r1 : (0 : Int) ≤ f 3 ∧ f 3 ≤ 1 := hM.2.2.2.1 3
  have r2 : (0 : Int) ≤ f 4 ∧ f 4 ≤ 3000 := hM.2.2.2.1 4
  have r3 : (0 : Int) ≤ f 7 ∧ f 7 ≤ 6 := hM.2.2.2.1 7
  have r4 : (0 : Int) ≤ f 8 ∧ f 8 ≤ 3001 := hM.2.2.2.1 8
  have r5 : (0 : Int) ≤ f 9 ∧ f 9 ≤ 3002 := hM.2.2.2.1 9
  have r6 : (0 : Int) ≤ f 15 ∧ f 15 ≤ 64 := hM.2.2.2.1 15
  have r7 : (0 : Int) ≤ f 58 ∧ f 58 ≤ 16 := hM.2.2.2.1 58
  have r8 : (0 : Int) ≤ f 59 ∧ f 59 ≤ 16 := hM.2.2.2.1 59
  refine lv_aload_n B.1 B.2.1 dX12_tell_0 rfl (lv_at hl 0 rfl) ?_
  refine m_get (k := 7) (v := f 7) B hM (by decide) rfl fl66 dX12_tell_1 rfl ?_
  refine q_con B dX12_tell_4 ?_
  refine q_ceq (tgt := 12) B dX12_tell_5 (by decide) (by unfold inr; omega) (by unfold inr; omega) (fun c9 => ?_) (fun c9 => ?_)
  · refine lv_aload_n B.1 B.2.1 dX12_tell_12 rfl (lv_at hl 0 rfl) ?_
    refine m_calli (n := 0) (rest := []) B hM hA hl.1 (k_isGood l D dA h0 ad (up f [(8, f 8), (9, f 9), (7, f 7), (10, f 10), (5, f 5), (6, f 6), (15, f 15)]) (up g [(11, g 11)]) (up A [(13, (A 13)), (14, (A 14))]) (up L [(12, (L 12))])   ) rfl ok_isGood nm_isGood ⟨rfl, rfl⟩ ⟨Nat.le_of_ble_eq_true rfl, Nat.le_of_ble_eq_true rfl⟩ dX12_tell_13 rfl rfl (Nat.le_of_ble_eq_true rfl) ⟨Nat.zero_le _, Nat.zero_le _⟩ (fun r10 σr10 H locs ir10 hp11 hM => ?_)
    obtain ⟨rfl, hp11⟩ := hp11
    unfold inr at ir10
    replace hp11 : 0 ≤ r10 ∧ r10 ≤ 1 ∧ (r10 = 1 ↔ (f 5) = 0) := hp11
    obtain ⟨hp11_0, hp11_1, hp11_2⟩ := hp11
    refine q_ine (tgt := 20) B dX12_tell_16 (by decide) (by unfold inr; omega) (fun c12 => ?_) (fun c12 => ?_)
    · refine lv_aload_n B.1 B.2.1 dX12_tell_20 rfl (lv_at hl 0 rfl) ?_
      refine lv_aload_n B.1 B.2.1 dX12_tell_21 rfl (lv_at hl 0 rfl) ?_
      refine m_getl (k := 11) B hM (by decide) rfl fl76 dX12_tell_22 rfl ?_
      refine m_calli (n := 1) (rest := []) B hM hA hl.1 (k_nameOf l D dA h0 ad (up f [(8, f 8), (9, f 9), (7, f 7), (10, f 10), (5, f 5), (6, f 6), (15, f 15)]) (up g [(11, g 11)]) (up A [(13, (A 13)), (14, (A 14))]) (up L [(12, (L 12))]) (g 11)  ) rfl ok_nameOf nm_nameOf ⟨rfl, rfl⟩ ⟨Nat.le_of_ble_eq_true rfl, Nat.le_of_ble_eq_true rfl⟩ dX12_tell_25 rfl rfl (Nat.le_of_ble_eq_true rfl) ⟨Nat.zero_le _, Nat.zero_le _⟩ (fun r13 σr13 H locs ir13 hp14 hM => ?_)
      obtain ⟨rfl, hp14⟩ := hp14
      unfold inr at ir13
      replace hp14 : r13 = -1 ∨ (64 * (f 3) ≤ r13 ∧ r13 < 64 * (f 3) + (f 15)) := hp14
      refine q_ige (tgt := 41) B dX12_tell_28 (by decide) (by unfold inr; omega) (fun c15 => ?_) (fun c15 => ?_)
      · refine lv_aload_n B.1 B.2.1 dX12_tell_41 rfl (lv_at hl 0 rfl) ?_
        refine q_con B dX12_tell_42 ?_
        refine lv_aload_n B.1 B.2.1 dX12_tell_43 rfl (lv_at hl 0 rfl) ?_
        refine m_get (k := 8) (v := f 8) B hM (by decide) rfl fl59 dX12_tell_44 rfl ?_
        refine m_calli (n := 2) (rest := []) B hM hA hl.1 (k_fails l D dA h0 ad (up f [(8, f 8), (9, f 9), (7, f 7), (10, f 10), (5, f 5), (6, f 6), (15, f 15)]) (up g [(11, g 11)]) (up A [(13, (A 13)), (14, (A 14))]) (up L [(12, (L 12))]) 3 (f 8) (by omega) (by omega) ) rfl ok_fails nm_fails ⟨rfl, rfl⟩ ⟨Nat.le_of_ble_eq_true rfl, Nat.le_of_ble_eq_true rfl⟩ dX12_tell_47 rfl rfl (Nat.le_of_ble_eq_true rfl) ⟨Nat.zero_le _, Nat.zero_le _⟩ (fun r16 σr16 H locs ir16 hp17 hM => ?_)
        obtain ⟨x18, x19, rfl, hp17⟩ := hp17
        unfold inr at ir16
        replace hp17 : r16 = 0 ∧ ((f 5) ≠ 0 → (x18) = (f 5)) ∧ ((f 5) = 0 → (x18) = (3)) := hp17
        obtain ⟨hp17_0, hp17_1, hp17_2⟩ := hp17
        simp only [up_up] at hM
        replace hM : MWd D dA h0 ad (mF dA h0 ad (f, g, A, L) s.heap.size) s.heap ((up f [(8, f 8), (9, f 9), (7, f 7), (10, f 10), (5, x18), (6, x19), (15, f 15)]), (up g [(11, g 11)]), (up A [(13, (A 13)), (14, (A 14))]), (up L [(12, (L 12))])) H locs := hM
        have r20 : (-2147483648 : Int) ≤ x18 ∧ x18 ≤ 2147483647 := hM.2.2.2.1 5
        have r21 : (-2147483648 : Int) ≤ x19 ∧ x19 ≤ 2147483647 := hM.2.2.2.1 6
        refine lv_pop B.1 B.2.1 dX12_tell_50 rfl ?_
        refine lv_aload_n B.1 B.2.1 dX12_tell_51 rfl (lv_at hl 0 rfl) ?_
        refine m_calli (n := 0) (rest := []) B hM hA hl.1 (k_isGood l D dA h0 ad (up f [(8, f 8), (9, f 9), (7, f 7), (10, f 10), (5, x18), (6, x19), (15, f 15)]) (up g [(11, g 11)]) (up A [(13, (A 13)), (14, (A 14))]) (up L [(12, (L 12))])   ) rfl ok_isGood nm_isGood ⟨rfl, rfl⟩ ⟨Nat.le_of_ble_eq_true rfl, Nat.le_of_ble_eq_true rfl⟩ dX12_tell_52 rfl rfl (Nat.le_of_ble_eq_true rfl) ⟨Nat.zero_le _, Nat.zero_le _⟩ (fun r22 σr22 H locs ir22 hp23 hM => ?_)
        obtain ⟨rfl, hp23⟩ := hp23
        unfold inr at ir22
        replace hp23 : 0 ≤ r22 ∧ r22 ≤ 1 ∧ (r22 = 1 ↔ (x18) = 0) := hp23
        obtain ⟨hp23_0, hp23_1, hp23_2⟩ := hp23
        refine q_ine (tgt := 59) B dX12_tell_55 (by decide) (by unfold inr; omega) (fun c24 => ?_) (fun c24 => ?_)
        · refine lv_aload_n B.1 B.2.1 dX12_tell_59 rfl (lv_at hl 0 rfl) ?_
          refine lv_aload_n B.1 B.2.1 dX12_tell_60 rfl (lv_at hl 0 rfl) ?_
          refine m_getl (k := 11) B hM (by decide) rfl fl76 dX12_tell_61 rfl ?_
          refine lv_iload_n B.1 B.2.1 dX12_tell_64 rfl (lv_at hl 1 rfl) ?_
          refine lv_iload_n B.1 B.2.1 dX12_tell_65 rfl (lv_at hl 2 rfl) ?_
          refine m_callv (n := 3) (rest := []) B hM hA hl.1 (k_add l D dA h0 ad (up f [(8, f 8), (9, f 9), (7, f 7), (10, f 10), (5, x18), (6, x19), (15, f 15)]) (up g [(11, g 11)]) (up A [(13, (A 13)), (14, (A 14))]) (up L [(12, (L 12))]) (g 11) a_sort a_many (by omega) (by omega) (show (f 15) ≤ 63 from by first | omega | (simp only [wr_at]; omega) | assumption) (show 0 ≤ (a_sort) from by first | omega | (simp only [wr_at]; omega) | assumption) (show (a_sort) ≤ 5 from by first | omega | (simp only [wr_at]; omega) | assumption) (show 0 ≤ (a_many) from by first | omega | (simp only [wr_at]; omega) | assumption) (show (a_many) ≤ 15 from by first | omega | (simp only [wr_at]; omega) | assumption)) rfl ok_add nm_add ⟨rfl, rfl⟩ ⟨Nat.le_of_ble_eq_true rfl, Nat.le_of_ble_eq_true rfl⟩ dX12_tell_66 rfl rfl (Nat.le_of_ble_eq_true rfl) ⟨Nat.zero_le _, Nat.zero_le _⟩ (fun σr25 H locs hp26 hM => ?_)
          obtain ⟨b27, rfl, hp26⟩ := hp26
          replace hp26 : True := hp26
          simp only [up_up] at hM
          replace hM : MWd D dA h0 ad (mF dA h0 ad (f, g, A, L) s.heap.size) s.heap ((up f [(8, f 8), (9, f 9), (7, f 7), (10, f 10), (5, x18), (6, x19), (15, (f 15) + 1)]), (up g [(11, g 11)]), (up A [(13, (wr (A 13) (64 * (f 3) + (f 15)) (a_sort))), (14, (wr (A 14) (64 * (f 3) + (f 15)) (a_many)))]), (up L [(12, b27)])) H locs := hM
          have r28 : (0 : Int) ≤ (f 15) + 1 ∧ (f 15) + 1 ≤ 64 := hM.2.2.2.1 15
          refine lv_aload_n B.1 B.2.1 dX12_tell_69 rfl (lv_at hl 0 rfl) ?_
          refine m_callv (n := 0) (rest := []) B hM hA hl.1 (k_next l D dA h0 ad (up f [(8, f 8), (9, f 9), (7, f 7), (10, f 10), (5, x18), (6, x19), (15, (f 15) + 1)]) (up g [(11, g 11)]) (up A [(13, (wr (A 13) (64 * (f 3) + (f 15)) (a_sort))), (14, (wr (A 14) (64 * (f 3) + (f 15)) (a_many)))]) (up L [(12, b27)])   (show (f 9) ≤ 3001 from by first | omega | (simp only [wr_at]; omega) | assumption)) rfl ok_next nm_next ⟨rfl, rfl⟩ ⟨Nat.le_of_ble_eq_true rfl, Nat.le_of_ble_eq_true rfl⟩ dX12_tell_70 rfl rfl (Nat.le_of_ble_eq_true rfl) ⟨Nat.zero_le _, Nat.zero_le _⟩ (fun σr29 H locs hp30 hM => ?_)
          obtain ⟨x31, x32, x33, x34, w35, rfl, hp30⟩ := hp30
          replace hp30 : ((f 9) ≤ (x31) ∨ (x31) = (f 4)) ∧ (0 ≤ (x31) ∧ (x31) ≤ (f 4) ∧ (x31) ≤ (x32) ∧ (x32) ≤ (f 4) + 1 ∧ ((x33) = 0 ↔ (x31) = (f 4)) ∧ (2 ≤ (x33) → (x31) < (x32) ∧ (x32) ≤ (f 4)) ∧ ((x33) = 5 → (x31) + 2 ≤ (x32) ∧ (x32) ≤ (x31) + 32)) := hp30
          obtain ⟨hp30_0, hp30_1⟩ := hp30
          simp only [up_up] at hM
          replace hM : MWd D dA h0 ad (mF dA h0 ad (f, g, A, L) s.heap.size) s.heap ((up f [(8, x31), (9, x32), (7, x33), (10, x34), (5, x18), (6, x19), (15, (f 15) + 1)]), (up g [(11, w35)]), (up A [(13, (wr (A 13) (64 * (f 3) + (f 15)) (a_sort))), (14, (wr (A 14) (64 * (f 3) + (f 15)) (a_many)))]), (up L [(12, b27)])) H locs := hM
          have r36 : (0 : Int) ≤ x31 ∧ x31 ≤ 3001 := hM.2.2.2.1 8
          have r37 : (0 : Int) ≤ x32 ∧ x32 ≤ 3002 := hM.2.2.2.1 9
          have r38 : (0 : Int) ≤ x33 ∧ x33 ≤ 6 := hM.2.2.2.1 7
          have r39 : (-2147483648 : Int) ≤ x34 ∧ x34 ≤ 2147483647 := hM.2.2.2.1 10
          subst hPST
          exact m_vret B hM dX12_tell_73 ⟨x31, x32, x33, x34, x18, x19, ((f 15) + 1), w35, ((wr (A 13) (64 * (f 3) + (f 15)) (a_sort))), ((wr (A 14) (64 * (f 3) + (f 15)) (a_many))), b27, rfl, by (refine ⟨by omega, by omega, by omega, by omega, by omega, ?_⟩; first | exact NIp_bad (by omega) | exact NIp_push p_9 (by omega) (by omega) (by omega) (by omega) (by omega) (by omega))⟩
        · subst hPST
          exact m_vret B hM dX12_tell_58 ⟨(f 8), (f 9), (f 7), (f 10), x18, x19, (f 15), (g 11), ((A 13)), ((A 14)), ((L 12)), rfl, by (refine ⟨by omega, by omega, by omega, by omega, by omega, ?_⟩; first | exact NIp_bad (by omega) | exact NIp_push p_9 (by omega) (by omega) (by omega) (by omega) (by omega) (by omega))⟩
      · refine lv_aload_n B.1 B.2.1 dX12_tell_31 rfl (lv_at hl 0 rfl) ?_
        refine m_getl (k := 11) B hM (by decide) rfl fl76 dX12_tell_32 rfl ?_
        refine s_calli (n := 1) (rest := []) B hl.1 (k_built l D dA (g 11)  ) rfl ok_built nm_built ⟨rfl, rfl⟩ ⟨Nat.le_of_ble_eq_true rfl, Nat.le_of_ble_eq_true rfl⟩ dX12_tell_35 rfl rfl (Nat.le_of_ble_eq_true rfl) ⟨Nat.zero_le _, Nat.zero_le _⟩ (fun r40 ir40 hp41 => ?_)
        unfold inr at ir40
        replace hp41 : 0 ≤ r40 ∧ r40 ≤ 8 := hp41
        refine q_ile (tgt := 51) B dX12_tell_38 (by decide) (by unfold inr; omega) (fun c42 => ?_) (fun c42 => ?_)
        · refine lv_aload_n B.1 B.2.1 dX12_tell_51 rfl (lv_at hl 0 rfl) ?_
          refine m_calli (n := 0) (rest := []) B hM hA hl.1 (k_isGood l D dA h0 ad (up f [(8, f 8), (9, f 9), (7, f 7), (10, f 10), (5, f 5), (6, f 6), (15, f 15)]) (up g [(11, g 11)]) (up A [(13, (A 13)), (14, (A 14))]) (up L [(12, (L 12))])   ) rfl ok_isGood nm_isGood ⟨rfl, rfl⟩ ⟨Nat.le_of_ble_eq_true rfl, Nat.le_of_ble_eq_true rfl⟩ dX12_tell_52 rfl rfl (Nat.le_of_ble_eq_true rfl) ⟨Nat.zero_le _, Nat.zero_le _⟩ (fun r43 σr43 H locs ir43 hp44 hM => ?_)
          obtain ⟨rfl, hp44⟩ := hp44
          unfold inr at ir43
          replace hp44 : 0 ≤ r43 ∧ r43 ≤ 1 ∧ (r43 = 1 ↔ (f 5) = 0) := hp44
          obtain ⟨hp44_0, hp44_1, hp44_2⟩ := hp44
          refine q_ine (tgt := 59) B dX12_tell_55 (by decide) (by unfold inr; omega) (fun c45 => ?_) (fun c45 => ?_)
          · refine lv_aload_n B.1 B.2.1 dX12_tell_59 rfl (lv_at hl 0 rfl) ?_
            refine lv_aload_n B.1 B.2.1 dX12_tell_60 rfl (lv_at hl 0 rfl) ?_
            refine m_getl (k := 11) B hM (by decide) rfl fl76 dX12_tell_61 rfl ?_
            refine lv_iload_n B.1 B.2.1 dX12_tell_64 rfl (lv_at hl 1 rfl) ?_
            refine lv_iload_n B.1 B.2.1 dX12_tell_65 rfl (lv_at hl 2 rfl) ?_
            refine m_callv (n := 3) (rest := []) B hM hA hl.1 (k_add l D dA h0 ad (up f [(8, f 8), (9, f 9), (7, f 7), (10, f 10), (5, f 5), (6, f 6), (15, f 15)]) (up g [(11, g 11)]) (up A [(13, (A 13)), (14, (A 14))]) (up L [(12, (L 12))]) (g 11) a_sort a_many (by omega) (by omega) (show (f 15) ≤ 63 from by first | omega | (simp only [wr_at]; omega) | assumption) (show 0 ≤ (a_sort) from by first | omega | (simp only [wr_at]; omega) | assumption) (show (a_sort) ≤ 5 from by first | omega | (simp only [wr_at]; omega) | assumption) (show 0 ≤ (a_many) from by first | omega | (simp only [wr_at]; omega) | assumption) (show (a_many) ≤ 15 from by first | omega | (simp only [wr_at]; omega) | assumption)) rfl ok_add nm_add ⟨rfl, rfl⟩ ⟨Nat.le_of_ble_eq_true rfl, Nat.le_of_ble_eq_true rfl⟩ dX12_tell_66 rfl rfl (Nat.le_of_ble_eq_true rfl) ⟨Nat.zero_le _, Nat.zero_le _⟩ (fun σr46 H locs hp47 hM => ?_)
            obtain ⟨b48, rfl, hp47⟩ := hp47
            replace hp47 : True := hp47
            simp only [up_up] at hM
            replace hM : MWd D dA h0 ad (mF dA h0 ad (f, g, A, L) s.heap.size) s.heap ((up f [(8, f 8), (9, f 9), (7, f 7), (10, f 10), (5, f 5), (6, f 6), (15, (f 15) + 1)]), (up g [(11, g 11)]), (up A [(13, (wr (A 13) (64 * (f 3) + (f 15)) (a_sort))), (14, (wr (A 14) (64 * (f 3) + (f 15)) (a_many)))]), (up L [(12, b48)])) H locs := hM
            have r49 : (0 : Int) ≤ (f 15) + 1 ∧ (f 15) + 1 ≤ 64 := hM.2.2.2.1 15
            refine lv_aload_n B.1 B.2.1 dX12_tell_69 rfl (lv_at hl 0 rfl) ?_
            refine m_callv (n := 0) (rest := []) B hM hA hl.1 (k_next l D dA h0 ad (up f [(8, f 8), (9, f 9), (7, f 7), (10, f 10), (5, f 5), (6, f 6), (15, (f 15) + 1)]) (up g [(11, g 11)]) (up A [(13, (wr (A 13) (64 * (f 3) + (f 15)) (a_sort))), (14, (wr (A 14) (64 * (f 3) + (f 15)) (a_many)))]) (up L [(12, b48)])   (show (f 9) ≤ 3001 from by first | omega | (simp only [wr_at]; omega) | assumption)) rfl ok_next nm_next ⟨rfl, rfl⟩ ⟨Nat.le_of_ble_eq_true rfl, Nat.le_of_ble_eq_true rfl⟩ dX12_tell_70 rfl rfl (Nat.le_of_ble_eq_true rfl) ⟨Nat.zero_le _, Nat.zero_le _⟩ (fun σr50 H locs hp51 hM => ?_)
            obtain ⟨x52, x53, x54, x55, w56, rfl, hp51⟩ := hp51
            replace hp51 : ((f 9) ≤ (x52) ∨ (x52) = (f 4)) ∧ (0 ≤ (x52) ∧ (x52) ≤ (f 4) ∧ (x52) ≤ (x53) ∧ (x53) ≤ (f 4) + 1 ∧ ((x54) = 0 ↔ (x52) = (f 4)) ∧ (2 ≤ (x54) → (x52) < (x53) ∧ (x53) ≤ (f 4)) ∧ ((x54) = 5 → (x52) + 2 ≤ (x53) ∧ (x53) ≤ (x52) + 32)) := hp51
            obtain ⟨hp51_0, hp51_1⟩ := hp51
            simp only [up_up] at hM
            replace hM : MWd D dA h0 ad (mF dA h0 ad (f, g, A, L) s.heap.size) s.heap ((up f [(8, x52), (9, x53), (7, x54), (10, x55), (5, f 5), (6, f 6), (15, (f 15) + 1)]), (up g [(11, w56)]), (up A [(13, (wr (A 13) (64 * (f 3) + (f 15)) (a_sort))), (14, (wr (A 14) (64 * (f 3) + (f 15)) (a_many)))]), (up L [(12, b48)])) H locs := hM
            have r57 : (0 : Int) ≤ x52 ∧ x52 ≤ 3001 := hM.2.2.2.1 8
            have r58 : (0 : Int) ≤ x53 ∧ x53 ≤ 3002 := hM.2.2.2.1 9
            have r59 : (0 : Int) ≤ x54 ∧ x54 ≤ 6 := hM.2.2.2.1 7
            have r60 : (-2147483648 : Int) ≤ x55 ∧ x55 ≤ 2147483647 := hM.2.2.2.1 10
            subst hPST
            exact m_vret B hM dX12_tell_73 ⟨x52, x53, x54, x55, (f 5), (f 6), ((f 15) + 1), w56, ((wr (A 13) (64 * (f 3) + (f 15)) (a_sort))), ((wr (A 14) (64 * (f 3) + (f 15)) (a_many))), b48, rfl, by (refine ⟨by omega, by omega, by omega, by omega, by omega, ?_⟩; first | exact NIp_bad (by omega) | exact NIp_push p_9 (by omega) (by omega) (by omega) (by omega) (by omega) (by omega))⟩
          · subst hPST
            exact m_vret B hM dX12_tell_58 ⟨(f 8), (f 9), (f 7), (f 10), (f 5), (f 6), (f 15), (g 11), ((A 13)), ((A 14)), ((L 12)), rfl, by (refine ⟨by omega, by omega, by omega, by omega, by omega, ?_⟩; first | exact NIp_bad (by omega) | exact NIp_push p_9 (by omega) (by omega) (by omega) (by omega) (by omega) (by omega))⟩
        · refine lv_aload_n B.1 B.2.1 dX12_tell_41 rfl (lv_at hl 0 rfl) ?_
          refine q_con B dX12_tell_42 ?_
          refine lv_aload_n B.1 B.2.1 dX12_tell_43 rfl (lv_at hl 0 rfl) ?_
          refine m_get (k := 8) (v := f 8) B hM (by decide) rfl fl59 dX12_tell_44 rfl ?_
          refine m_calli (n := 2) (rest := []) B hM hA hl.1 (k_fails l D dA h0 ad (up f [(8, f 8), (9, f 9), (7, f 7), (10, f 10), (5, f 5), (6, f 6), (15, f 15)]) (up g [(11, g 11)]) (up A [(13, (A 13)), (14, (A 14))]) (up L [(12, (L 12))]) 3 (f 8) (by omega) (by omega) ) rfl ok_fails nm_fails ⟨rfl, rfl⟩ ⟨Nat.le_of_ble_eq_true rfl, Nat.le_of_ble_eq_true rfl⟩ dX12_tell_47 rfl rfl (Nat.le_of_ble_eq_true rfl) ⟨Nat.zero_le _, Nat.zero_le _⟩ (fun r61 σr61 H locs ir61 hp62 hM => ?_)
          obtain ⟨x63, x64, rfl, hp62⟩ := hp62
          unfold inr at ir61
          replace hp62 : r61 = 0 ∧ ((f 5) ≠ 0 → (x63) = (f 5)) ∧ ((f 5) = 0 → (x63) = (3)) := hp62
          obtain ⟨hp62_0, hp62_1, hp62_2⟩ := hp62
          simp only [up_up] at hM
          replace hM : MWd D dA h0 ad (mF dA h0 ad (f, g, A, L) s.heap.size) s.heap ((up f [(8, f 8), (9, f 9), (7, f 7), (10, f 10), (5, x63), (6, x64), (15, f 15)]), (up g [(11, g 11)]), (up A [(13, (A 13)), (14, (A 14))]), (up L [(12, (L 12))])) H locs := hM
          have r65 : (-2147483648 : Int) ≤ x63 ∧ x63 ≤ 2147483647 := hM.2.2.2.1 5
          have r66 : (-2147483648 : Int) ≤ x64 ∧ x64 ≤ 2147483647 := hM.2.2.2.1 6
          refine lv_pop B.1 B.2.1 dX12_tell_50 rfl ?_
          refine lv_aload_n B.1 B.2.1 dX12_tell_51 rfl (lv_at hl 0 rfl) ?_
          refine m_calli (n := 0) (rest := []) B hM hA hl.1 (k_isGood l D dA h0 ad (up f [(8, f 8), (9, f 9), (7, f 7), (10, f 10), (5, x63), (6, x64), (15, f 15)]) (up g [(11, g 11)]) (up A [(13, (A 13)), (14, (A 14))]) (up L [(12, (L 12))])   ) rfl ok_isGood nm_isGood ⟨rfl, rfl⟩ ⟨Nat.le_of_ble_eq_true rfl, Nat.le_of_ble_eq_true rfl⟩ dX12_tell_52 rfl rfl (Nat.le_of_ble_eq_true rfl) ⟨Nat.zero_le _, Nat.zero_le _⟩ (fun r67 σr67 H locs ir67 hp68 hM => ?_)
          obtain ⟨rfl, hp68⟩ := hp68
          unfold inr at ir67
          replace hp68 : 0 ≤ r67 ∧ r67 ≤ 1 ∧ (r67 = 1 ↔ (x63) = 0) := hp68
          obtain ⟨hp68_0, hp68_1, hp68_2⟩ := hp68
          refine q_ine (tgt := 59) B dX12_tell_55 (by decide) (by unfold inr; omega) (fun c69 => ?_) (fun c69 => ?_)
          · refine lv_aload_n B.1 B.2.1 dX12_tell_59 rfl (lv_at hl 0 rfl) ?_
            refine lv_aload_n B.1 B.2.1 dX12_tell_60 rfl (lv_at hl 0 rfl) ?_
            refine m_getl (k := 11) B hM (by decide) rfl fl76 dX12_tell_61 rfl ?_
            refine lv_iload_n B.1 B.2.1 dX12_tell_64 rfl (lv_at hl 1 rfl) ?_
            refine lv_iload_n B.1 B.2.1 dX12_tell_65 rfl (lv_at hl 2 rfl) ?_
            refine m_callv (n := 3) (rest := []) B hM hA hl.1 (k_add l D dA h0 ad (up f [(8, f 8), (9, f 9), (7, f 7), (10, f 10), (5, x63), (6, x64), (15, f 15)]) (up g [(11, g 11)]) (up A [(13, (A 13)), (14, (A 14))]) (up L [(12, (L 12))]) (g 11) a_sort a_many (by omega) (by omega) (show (f 15) ≤ 63 from by first | omega | (simp only [wr_at]; omega) | assumption) (show 0 ≤ (a_sort) from by first | omega | (simp only [wr_at]; omega) | assumption) (show (a_sort) ≤ 5 from by first | omega | (simp only [wr_at]; omega) | assumption) (show 0 ≤ (a_many) from by first | omega | (simp only [wr_at]; omega) | assumption) (show (a_many) ≤ 15 from by first | omega | (simp only [wr_at]; omega) | assumption)) rfl ok_add nm_add ⟨rfl, rfl⟩ ⟨Nat.le_of_ble_eq_true rfl, Nat.le_of_ble_eq_true rfl⟩ dX12_tell_66 rfl rfl (Nat.le_of_ble_eq_true rfl) ⟨Nat.zero_le _, Nat.zero_le _⟩ (fun σr70 H locs hp71 hM => ?_)
            obtain ⟨b72, rfl, hp71⟩ := hp71
            replace hp71 : True := hp71
            simp only [up_up] at hM
            replace hM : MWd D dA h0 ad (mF dA h0 ad (f, g, A, L) s.heap.size) s.heap ((up f [(8, f 8), (9, f 9), (7, f 7), (10, f 10), (5, x63), (6, x64), (15, (f 15) + 1)]), (up g [(11, g 11)]), (up A [(13, (wr (A 13) (64 * (f 3) + (f 15)) (a_sort))), (14, (wr (A 14) (64 * (f 3) + (f 15)) (a_many)))]), (up L [(12, b72)])) H locs := hM
            have r73 : (0 : Int) ≤ (f 15) + 1 ∧ (f 15) + 1 ≤ 64 := hM.2.2.2.1 15
            refine lv_aload_n B.1 B.2.1 dX12_tell_69 rfl (lv_at hl 0 rfl) ?_
            refine m_callv (n := 0) (rest := []) B hM hA hl.1 (k_next l D dA h0 ad (up f [(8, f 8), (9, f 9), (7, f 7), (10, f 10), (5, x63), (6, x64), (15, (f 15) + 1)]) (up g [(11, g 11)]) (up A [(13, (wr (A 13) (64 * (f 3) + (f 15)) (a_sort))), (14, (wr (A 14) (64 * (f 3) + (f 15)) (a_many)))]) (up L [(12, b72)])   (show (f 9) ≤ 3001 from by first | omega | (simp only [wr_at]; omega) | assumption)) rfl ok_next nm_next ⟨rfl, rfl⟩ ⟨Nat.le_of_ble_eq_true rfl, Nat.le_of_ble_eq_true rfl⟩ dX12_tell_70 rfl rfl (Nat.le_of_ble_eq_true rfl) ⟨Nat.zero_le _, Nat.zero_le _⟩ (fun σr74 H locs hp75 hM => ?_)
            obtain ⟨x76, x77, x78, x79, w80, rfl, hp75⟩ := hp75
            replace hp75 : ((f 9) ≤ (x76) ∨ (x76) = (f 4)) ∧ (0 ≤ (x76) ∧ (x76) ≤ (f 4) ∧ (x76) ≤ (x77) ∧ (x77) ≤ (f 4) + 1 ∧ ((x78) = 0 ↔ (x76) = (f 4)) ∧ (2 ≤ (x78) → (x76) < (x77) ∧ (x77) ≤ (f 4)) ∧ ((x78) = 5 → (x76) + 2 ≤ (x77) ∧ (x77) ≤ (x76) + 32)) := hp75
            obtain ⟨hp75_0, hp75_1⟩ := hp75
            simp only [up_up] at hM
            replace hM : MWd D dA h0 ad (mF dA h0 ad (f, g, A, L) s.heap.size) s.heap ((up f [(8, x76), (9, x77), (7, x78), (10, x79), (5, x63), (6, x64), (15, (f 15) + 1)]), (up g [(11, w80)]), (up A [(13, (wr (A 13) (64 * (f 3) + (f 15)) (a_sort))), (14, (wr (A 14) (64 * (f 3) + (f 15)) (a_many)))]), (up L [(12, b72)])) H locs := hM
            have r81 : (0 : Int) ≤ x76 ∧ x76 ≤ 3001 := hM.2.2.2.1 8
            have r82 : (0 : Int) ≤ x77 ∧ x77 ≤ 3002 := hM.2.2.2.1 9
            have r83 : (0 : Int) ≤ x78 ∧ x78 ≤ 6 := hM.2.2.2.1 7
            have r84 : (-2147483648 : Int) ≤ x79 ∧ x79 ≤ 2147483647 := hM.2.2.2.1 10
            subst hPST
            exact m_vret B hM dX12_tell_73 ⟨x76, x77, x78, x79, x63, x64, ((f 15) + 1), w80, ((wr (A 13) (64 * (f 3) + (f 15)) (a_sort))), ((wr (A 14) (64 * (f 3) + (f 15)) (a_many))), b72, rfl, by (refine ⟨by omega, by omega, by omega, by omega, by omega, ?_⟩; first | exact NIp_bad (by omega) | exact NIp_push p_9 (by omega) (by omega) (by omega) (by omega) (by omega) (by omega))⟩
          · subst hPST
            exact m_vret B hM dX12_tell_58 ⟨(f 8), (f 9), (f 7), (f 10), x63, x64, (f 15), (g 11), ((A 13)), ((A 14)), ((L 12)), rfl, by (refine ⟨by omega, by omega, by omega, by omega, by omega, ?_⟩; first | exact NIp_bad (by omega) | exact NIp_push p_9 (by omega) (by omega) (by omega) (by omega) (by omega) (by omega))⟩
    · subst hPST
      exact m_vret B hM dX12_tell_19 ⟨(f 8), (f 9), (f 7), (f 10), (f 5), (f 6), (f 15), (g 11), ((A 13)), ((A 14)), ((L 12)), rfl, by (refine ⟨by omega, by omega, by omega, by omega, by omega, ?_⟩; first | exact NIp_bad (by omega) | exact NIp_push p_9 (by omega) (by omega) (by omega) (by omega) (by omega) (by omega))⟩
  · refine lv_aload_n B.1 B.2.1 dX12_tell_8 rfl (lv_at hl 0 rfl) ?_
    refine m_callv (n := 0) (rest := []) B hM hA hl.1 (k_wrong l D dA h0 ad (up f [(8, f 8), (9, f 9), (7, f 7), (10, f 10), (5, f 5), (6, f 6), (15, f 15)]) (up g [(11, g 11)]) (up A [(13, (A 13)), (14, (A 14))]) (up L [(12, (L 12))])   ) rfl ok_wrong nm_wrong ⟨rfl, rfl⟩ ⟨Nat.le_of_ble_eq_true rfl, Nat.le_of_ble_eq_true rfl⟩ dX12_tell_9 rfl rfl (Nat.le_of_ble_eq_true rfl) ⟨Nat.zero_le _, Nat.zero_le _⟩ (fun σr85 H locs hp86 hM => ?_)
    obtain ⟨x87, x88, rfl, hp86⟩ := hp86
    replace hp86 : (x87) ≠ 0 := hp86
    simp only [up_up] at hM
    replace hM : MWd D dA h0 ad (mF dA h0 ad (f, g, A, L) s.heap.size) s.heap ((up f [(8, f 8), (9, f 9), (7, f 7), (10, f 10), (5, x87), (6, x88), (15, f 15)]), (up g [(11, g 11)]), (up A [(13, (A 13)), (14, (A 14))]), (up L [(12, (L 12))])) H locs := hM
    have r89 : (-2147483648 : Int) ≤ x87 ∧ x87 ≤ 2147483647 := hM.2.2.2.1 5
    have r90 : (-2147483648 : Int) ≤ x88 ∧ x88 ≤ 2147483647 := hM.2.2.2.1 6
    refine lv_aload_n B.1 B.2.1 dX12_tell_12 rfl (lv_at hl 0 rfl) ?_
    refine m_calli (n := 0) (rest := []) B hM hA hl.1 (k_isGood l D dA h0 ad (up f [(8, f 8), (9, f 9), (7, f 7), (10, f 10), (5, x87), (6, x88), (15, f 15)]) (up g [(11, g 11)]) (up A [(13, (A 13)), (14, (A 14))]) (up L [(12, (L 12))])   ) rfl ok_isGood nm_isGood ⟨rfl, rfl⟩ ⟨Nat.le_of_ble_eq_true rfl, Nat.le_of_ble_eq_true rfl⟩ dX12_tell_13 rfl rfl (Nat.le_of_ble_eq_true rfl) ⟨Nat.zero_le _, Nat.zero_le _⟩ (fun r91 σr91 H locs ir91 hp92 hM => ?_)
    obtain ⟨rfl, hp92⟩ := hp92
    unfold inr at ir91
    replace hp92 : 0 ≤ r91 ∧ r91 ≤ 1 ∧ (r91 = 1 ↔ (x87) = 0) := hp92
    obtain ⟨hp92_0, hp92_1, hp92_2⟩ := hp92
    refine q_ine (tgt := 20) B dX12_tell_16 (by decide) (by unfold inr; omega) (fun c93 => ?_) (fun c93 => ?_)
    · refine lv_aload_n B.1 B.2.1 dX12_tell_20 rfl (lv_at hl 0 rfl) ?_
      refine lv_aload_n B.1 B.2.1 dX12_tell_21 rfl (lv_at hl 0 rfl) ?_
      refine m_getl (k := 11) B hM (by decide) rfl fl76 dX12_tell_22 rfl ?_
      refine m_calli (n := 1) (rest := []) B hM hA hl.1 (k_nameOf l D dA h0 ad (up f [(8, f 8), (9, f 9), (7, f 7), (10, f 10), (5, x87), (6, x88), (15, f 15)]) (up g [(11, g 11)]) (up A [(13, (A 13)), (14, (A 14))]) (up L [(12, (L 12))]) (g 11)  ) rfl ok_nameOf nm_nameOf ⟨rfl, rfl⟩ ⟨Nat.le_of_ble_eq_true rfl, Nat.le_of_ble_eq_true rfl⟩ dX12_tell_25 rfl rfl (Nat.le_of_ble_eq_true rfl) ⟨Nat.zero_le _, Nat.zero_le _⟩ (fun r94 σr94 H locs ir94 hp95 hM => ?_)
      obtain ⟨rfl, hp95⟩ := hp95
      unfold inr at ir94
      replace hp95 : r94 = -1 ∨ (64 * (f 3) ≤ r94 ∧ r94 < 64 * (f 3) + (f 15)) := hp95
      refine q_ige (tgt := 41) B dX12_tell_28 (by decide) (by unfold inr; omega) (fun c96 => ?_) (fun c96 => ?_)
      · refine lv_aload_n B.1 B.2.1 dX12_tell_41 rfl (lv_at hl 0 rfl) ?_
        refine q_con B dX12_tell_42 ?_
        refine lv_aload_n B.1 B.2.1 dX12_tell_43 rfl (lv_at hl 0 rfl) ?_
        refine m_get (k := 8) (v := f 8) B hM (by decide) rfl fl59 dX12_tell_44 rfl ?_
        refine m_calli (n := 2) (rest := []) B hM hA hl.1 (k_fails l D dA h0 ad (up f [(8, f 8), (9, f 9), (7, f 7), (10, f 10), (5, x87), (6, x88), (15, f 15)]) (up g [(11, g 11)]) (up A [(13, (A 13)), (14, (A 14))]) (up L [(12, (L 12))]) 3 (f 8) (by omega) (by omega) ) rfl ok_fails nm_fails ⟨rfl, rfl⟩ ⟨Nat.le_of_ble_eq_true rfl, Nat.le_of_ble_eq_true rfl⟩ dX12_tell_47 rfl rfl (Nat.le_of_ble_eq_true rfl) ⟨Nat.zero_le _, Nat.zero_le _⟩ (fun r97 σr97 H locs ir97 hp98 hM => ?_)
        obtain ⟨x99, x100, rfl, hp98⟩ := hp98
        unfold inr at ir97
        replace hp98 : r97 = 0 ∧ ((x87) ≠ 0 → (x99) = (x87)) ∧ ((x87) = 0 → (x99) = (3)) := hp98
        obtain ⟨hp98_0, hp98_1, hp98_2⟩ := hp98
        simp only [up_up] at hM
        replace hM : MWd D dA h0 ad (mF dA h0 ad (f, g, A, L) s.heap.size) s.heap ((up f [(8, f 8), (9, f 9), (7, f 7), (10, f 10), (5, x99), (6, x100), (15, f 15)]), (up g [(11, g 11)]), (up A [(13, (A 13)), (14, (A 14))]), (up L [(12, (L 12))])) H locs := hM
        have r101 : (-2147483648 : Int) ≤ x99 ∧ x99 ≤ 2147483647 := hM.2.2.2.1 5
        have r102 : (-2147483648 : Int) ≤ x100 ∧ x100 ≤ 2147483647 := hM.2.2.2.1 6
        refine lv_pop B.1 B.2.1 dX12_tell_50 rfl ?_
        refine lv_aload_n B.1 B.2.1 dX12_tell_51 rfl (lv_at hl 0 rfl) ?_
        refine m_calli (n := 0) (rest := []) B hM hA hl.1 (k_isGood l D dA h0 ad (up f [(8, f 8), (9, f 9), (7, f 7), (10, f 10), (5, x99), (6, x100), (15, f 15)]) (up g [(11, g 11)]) (up A [(13, (A 13)), (14, (A 14))]) (up L [(12, (L 12))])   ) rfl ok_isGood nm_isGood ⟨rfl, rfl⟩ ⟨Nat.le_of_ble_eq_true rfl, Nat.le_of_ble_eq_true rfl⟩ dX12_tell_52 rfl rfl (Nat.le_of_ble_eq_true rfl) ⟨Nat.zero_le _, Nat.zero_le _⟩ (fun r103 σr103 H locs ir103 hp104 hM => ?_)
        obtain ⟨rfl, hp104⟩ := hp104
        unfold inr at ir103
        replace hp104 : 0 ≤ r103 ∧ r103 ≤ 1 ∧ (r103 = 1 ↔ (x99) = 0) := hp104
        obtain ⟨hp104_0, hp104_1, hp104_2⟩ := hp104
        refine q_ine (tgt := 59) B dX12_tell_55 (by decide) (by unfold inr; omega) (fun c105 => ?_) (fun c105 => ?_)
        · refine lv_aload_n B.1 B.2.1 dX12_tell_59 rfl (lv_at hl 0 rfl) ?_
          refine lv_aload_n B.1 B.2.1 dX12_tell_60 rfl (lv_at hl 0 rfl) ?_
          refine m_getl (k := 11) B hM (by decide) rfl fl76 dX12_tell_61 rfl ?_
          refine lv_iload_n B.1 B.2.1 dX12_tell_64 rfl (lv_at hl 1 rfl) ?_
          refine lv_iload_n B.1 B.2.1 dX12_tell_65 rfl (lv_at hl 2 rfl) ?_
          refine m_callv (n := 3) (rest := []) B hM hA hl.1 (k_add l D dA h0 ad (up f [(8, f 8), (9, f 9), (7, f 7), (10, f 10), (5, x99), (6, x100), (15, f 15)]) (up g [(11, g 11)]) (up A [(13, (A 13)), (14, (A 14))]) (up L [(12, (L 12))]) (g 11) a_sort a_many (by omega) (by omega) (show (f 15) ≤ 63 from by first | omega | (simp only [wr_at]; omega) | assumption) (show 0 ≤ (a_sort) from by first | omega | (simp only [wr_at]; omega) | assumption) (show (a_sort) ≤ 5 from by first | omega | (simp only [wr_at]; omega) | assumption) (show 0 ≤ (a_many) from by first | omega | (simp only [wr_at]; omega) | assumption) (show (a_many) ≤ 15 from by first | omega | (simp only [wr_at]; omega) | assumption)) rfl ok_add nm_add ⟨rfl, rfl⟩ ⟨Nat.le_of_ble_eq_true rfl, Nat.le_of_ble_eq_true rfl⟩ dX12_tell_66 rfl rfl (Nat.le_of_ble_eq_true rfl) ⟨Nat.zero_le _, Nat.zero_le _⟩ (fun σr106 H locs hp107 hM => ?_)
          obtain ⟨b108, rfl, hp107⟩ := hp107
          replace hp107 : True := hp107
          simp only [up_up] at hM
          replace hM : MWd D dA h0 ad (mF dA h0 ad (f, g, A, L) s.heap.size) s.heap ((up f [(8, f 8), (9, f 9), (7, f 7), (10, f 10), (5, x99), (6, x100), (15, (f 15) + 1)]), (up g [(11, g 11)]), (up A [(13, (wr (A 13) (64 * (f 3) + (f 15)) (a_sort))), (14, (wr (A 14) (64 * (f 3) + (f 15)) (a_many)))]), (up L [(12, b108)])) H locs := hM
          have r109 : (0 : Int) ≤ (f 15) + 1 ∧ (f 15) + 1 ≤ 64 := hM.2.2.2.1 15
          refine lv_aload_n B.1 B.2.1 dX12_tell_69 rfl (lv_at hl 0 rfl) ?_
          refine m_callv (n := 0) (rest := []) B hM hA hl.1 (k_next l D dA h0 ad (up f [(8, f 8), (9, f 9), (7, f 7), (10, f 10), (5, x99), (6, x100), (15, (f 15) + 1)]) (up g [(11, g 11)]) (up A [(13, (wr (A 13) (64 * (f 3) + (f 15)) (a_sort))), (14, (wr (A 14) (64 * (f 3) + (f 15)) (a_many)))]) (up L [(12, b108)])   (show (f 9) ≤ 3001 from by first | omega | (simp only [wr_at]; omega) | assumption)) rfl ok_next nm_next ⟨rfl, rfl⟩ ⟨Nat.le_of_ble_eq_true rfl, Nat.le_of_ble_eq_true rfl⟩ dX12_tell_70 rfl rfl (Nat.le_of_ble_eq_true rfl) ⟨Nat.zero_le _, Nat.zero_le _⟩ (fun σr110 H locs hp111 hM => ?_)
          obtain ⟨x112, x113, x114, x115, w116, rfl, hp111⟩ := hp111
          replace hp111 : ((f 9) ≤ (x112) ∨ (x112) = (f 4)) ∧ (0 ≤ (x112) ∧ (x112) ≤ (f 4) ∧ (x112) ≤ (x113) ∧ (x113) ≤ (f 4) + 1 ∧ ((x114) = 0 ↔ (x112) = (f 4)) ∧ (2 ≤ (x114) → (x112) < (x113) ∧ (x113) ≤ (f 4)) ∧ ((x114) = 5 → (x112) + 2 ≤ (x113) ∧ (x113) ≤ (x112) + 32)) := hp111
          obtain ⟨hp111_0, hp111_1⟩ := hp111
          simp only [up_up] at hM
          replace hM : MWd D dA h0 ad (mF dA h0 ad (f, g, A, L) s.heap.size) s.heap ((up f [(8, x112), (9, x113), (7, x114), (10, x115), (5, x99), (6, x100), (15, (f 15) + 1)]), (up g [(11, w116)]), (up A [(13, (wr (A 13) (64 * (f 3) + (f 15)) (a_sort))), (14, (wr (A 14) (64 * (f 3) + (f 15)) (a_many)))]), (up L [(12, b108)])) H locs := hM
          have r117 : (0 : Int) ≤ x112 ∧ x112 ≤ 3001 := hM.2.2.2.1 8
          have r118 : (0 : Int) ≤ x113 ∧ x113 ≤ 3002 := hM.2.2.2.1 9
          have r119 : (0 : Int) ≤ x114 ∧ x114 ≤ 6 := hM.2.2.2.1 7
          have r120 : (-2147483648 : Int) ≤ x115 ∧ x115 ≤ 2147483647 := hM.2.2.2.1 10
          subst hPST
          exact m_vret B hM dX12_tell_73 ⟨x112, x113, x114, x115, x99, x100, ((f 15) + 1), w116, ((wr (A 13) (64 * (f 3) + (f 15)) (a_sort))), ((wr (A 14) (64 * (f 3) + (f 15)) (a_many))), b108, rfl, by (refine ⟨by omega, by omega, by omega, by omega, by omega, ?_⟩; first | exact NIp_bad (by omega) | exact NIp_push p_9 (by omega) (by omega) (by omega) (by omega) (by omega) (by omega))⟩
        · subst hPST
          exact m_vret B hM dX12_tell_58 ⟨(f 8), (f 9), (f 7), (f 10), x99, x100, (f 15), (g 11), ((A 13)), ((A 14)), ((L 12)), rfl, by (refine ⟨by omega, by omega, by omega, by omega, by omega, ?_⟩; first | exact NIp_bad (by omega) | exact NIp_push p_9 (by omega) (by omega) (by omega) (by omega) (by omega) (by omega))⟩
      · refine lv_aload_n B.1 B.2.1 dX12_tell_31 rfl (lv_at hl 0 rfl) ?_
        refine m_getl (k := 11) B hM (by decide) rfl fl76 dX12_tell_32 rfl ?_
        refine s_calli (n := 1) (rest := []) B hl.1 (k_built l D dA (g 11)  ) rfl ok_built nm_built ⟨rfl, rfl⟩ ⟨Nat.le_of_ble_eq_true rfl, Nat.le_of_ble_eq_true rfl⟩ dX12_tell_35 rfl rfl (Nat.le_of_ble_eq_true rfl) ⟨Nat.zero_le _, Nat.zero_le _⟩ (fun r121 ir121 hp122 => ?_)
        unfold inr at ir121
        replace hp122 : 0 ≤ r121 ∧ r121 ≤ 8 := hp122
        refine q_ile (tgt := 51) B dX12_tell_38 (by decide) (by unfold inr; omega) (fun c123 => ?_) (fun c123 => ?_)
        · refine lv_aload_n B.1 B.2.1 dX12_tell_51 rfl (lv_at hl 0 rfl) ?_
          refine m_calli (n := 0) (rest := []) B hM hA hl.1 (k_isGood l D dA h0 ad (up f [(8, f 8), (9, f 9), (7, f 7), (10, f 10), (5, x87), (6, x88), (15, f 15)]) (up g [(11, g 11)]) (up A [(13, (A 13)), (14, (A 14))]) (up L [(12, (L 12))])   ) rfl ok_isGood nm_isGood ⟨rfl, rfl⟩ ⟨Nat.le_of_ble_eq_true rfl, Nat.le_of_ble_eq_true rfl⟩ dX12_tell_52 rfl rfl (Nat.le_of_ble_eq_true rfl) ⟨Nat.zero_le _, Nat.zero_le _⟩ (fun r124 σr124 H locs ir124 hp125 hM => ?_)
          obtain ⟨rfl, hp125⟩ := hp125
          unfold inr at ir124
          replace hp125 : 0 ≤ r124 ∧ r124 ≤ 1 ∧ (r124 = 1 ↔ (x87) = 0) := hp125
          obtain ⟨hp125_0, hp125_1, hp125_2⟩ := hp125
          refine q_ine (tgt := 59) B dX12_tell_55 (by decide) (by unfold inr; omega) (fun c126 => ?_) (fun c126 => ?_)
          · refine lv_aload_n B.1 B.2.1 dX12_tell_59 rfl (lv_at hl 0 rfl) ?_
            refine lv_aload_n B.1 B.2.1 dX12_tell_60 rfl (lv_at hl 0 rfl) ?_
            refine m_getl (k := 11) B hM (by decide) rfl fl76 dX12_tell_61 rfl ?_
            refine lv_iload_n B.1 B.2.1 dX12_tell_64 rfl (lv_at hl 1 rfl) ?_
            refine lv_iload_n B.1 B.2.1 dX12_tell_65 rfl (lv_at hl 2 rfl) ?_
            refine m_callv (n := 3) (rest := []) B hM hA hl.1 (k_add l D dA h0 ad (up f [(8, f 8), (9, f 9), (7, f 7), (10, f 10), (5, x87), (6, x88), (15, f 15)]) (up g [(11, g 11)]) (up A [(13, (A 13)), (14, (A 14))]) (up L [(12, (L 12))]) (g 11) a_sort a_many (by omega) (by omega) (show (f 15) ≤ 63 from by first | omega | (simp only [wr_at]; omega) | assumption) (show 0 ≤ (a_sort) from by first | omega | (simp only [wr_at]; omega) | assumption) (show (a_sort) ≤ 5 from by first | omega | (simp only [wr_at]; omega) | assumption) (show 0 ≤ (a_many) from by first | omega | (simp only [wr_at]; omega) | assumption) (show (a_many) ≤ 15 from by first | omega | (simp only [wr_at]; omega) | assumption)) rfl ok_add nm_add ⟨rfl, rfl⟩ ⟨Nat.le_of_ble_eq_true rfl, Nat.le_of_ble_eq_true rfl⟩ dX12_tell_66 rfl rfl (Nat.le_of_ble_eq_true rfl) ⟨Nat.zero_le _, Nat.zero_le _⟩ (fun σr127 H locs hp128 hM => ?_)
            obtain ⟨b129, rfl, hp128⟩ := hp128
            replace hp128 : True := hp128
            simp only [up_up] at hM
            replace hM : MWd D dA h0 ad (mF dA h0 ad (f, g, A, L) s.heap.size) s.heap ((up f [(8, f 8), (9, f 9), (7, f 7), (10, f 10), (5, x87), (6, x88), (15, (f 15) + 1)]), (up g [(11, g 11)]), (up A [(13, (wr (A 13) (64 * (f 3) + (f 15)) (a_sort))), (14, (wr (A 14) (64 * (f 3) + (f 15)) (a_many)))]), (up L [(12, b129)])) H locs := hM
            have r130 : (0 : Int) ≤ (f 15) + 1 ∧ (f 15) + 1 ≤ 64 := hM.2.2.2.1 15
            refine lv_aload_n B.1 B.2.1 dX12_tell_69 rfl (lv_at hl 0 rfl) ?_
            refine m_callv (n := 0) (rest := []) B hM hA hl.1 (k_next l D dA h0 ad (up f [(8, f 8), (9, f 9), (7, f 7), (10, f 10), (5, x87), (6, x88), (15, (f 15) + 1)]) (up g [(11, g 11)]) (up A [(13, (wr (A 13) (64 * (f 3) + (f 15)) (a_sort))), (14, (wr (A 14) (64 * (f 3) + (f 15)) (a_many)))]) (up L [(12, b129)])   (show (f 9) ≤ 3001 from by first | omega | (simp only [wr_at]; omega) | assumption)) rfl ok_next nm_next ⟨rfl, rfl⟩ ⟨Nat.le_of_ble_eq_true rfl, Nat.le_of_ble_eq_true rfl⟩ dX12_tell_70 rfl rfl (Nat.le_of_ble_eq_true rfl) ⟨Nat.zero_le _, Nat.zero_le _⟩ (fun σr131 H locs hp132 hM => ?_)
            obtain ⟨x133, x134, x135, x136, w137, rfl, hp132⟩ := hp132
            replace hp132 : ((f 9) ≤ (x133) ∨ (x133) = (f 4)) ∧ (0 ≤ (x133) ∧ (x133) ≤ (f 4) ∧ (x133) ≤ (x134) ∧ (x134) ≤ (f 4) + 1 ∧ ((x135) = 0 ↔ (x133) = (f 4)) ∧ (2 ≤ (x135) → (x133) < (x134) ∧ (x134) ≤ (f 4)) ∧ ((x135) = 5 → (x133) + 2 ≤ (x134) ∧ (x134) ≤ (x133) + 32)) := hp132
            obtain ⟨hp132_0, hp132_1⟩ := hp132
            simp only [up_up] at hM
            replace hM : MWd D dA h0 ad (mF dA h0 ad (f, g, A, L) s.heap.size) s.heap ((up f [(8, x133), (9, x134), (7, x135), (10, x136), (5, x87), (6, x88), (15, (f 15) + 1)]), (up g [(11, w137)]), (up A [(13, (wr (A 13) (64 * (f 3) + (f 15)) (a_sort))), (14, (wr (A 14) (64 * (f 3) + (f 15)) (a_many)))]), (up L [(12, b129)])) H locs := hM
            have r138 : (0 : Int) ≤ x133 ∧ x133 ≤ 3001 := hM.2.2.2.1 8
            have r139 : (0 : Int) ≤ x134 ∧ x134 ≤ 3002 := hM.2.2.2.1 9
            have r140 : (0 : Int) ≤ x135 ∧ x135 ≤ 6 := hM.2.2.2.1 7
            have r141 : (-2147483648 : Int) ≤ x136 ∧ x136 ≤ 2147483647 := hM.2.2.2.1 10
            subst hPST
            exact m_vret B hM dX12_tell_73 ⟨x133, x134, x135, x136, x87, x88, ((f 15) + 1), w137, ((wr (A 13) (64 * (f 3) + (f 15)) (a_sort))), ((wr (A 14) (64 * (f 3) + (f 15)) (a_many))), b129, rfl, by (refine ⟨by omega, by omega, by omega, by omega, by omega, ?_⟩; first | exact NIp_bad (by omega) | exact NIp_push p_9 (by omega) (by omega) (by omega) (by omega) (by omega) (by omega))⟩
          · subst hPST
            exact m_vret B hM dX12_tell_58 ⟨(f 8), (f 9), (f 7), (f 10), x87, x88, (f 15), (g 11), ((A 13)), ((A 14)), ((L 12)), rfl, by (refine ⟨by omega, by omega, by omega, by omega, by omega, ?_⟩; first | exact NIp_bad (by omega) | exact NIp_push p_9 (by omega) (by omega) (by omega) (by omega) (by omega) (by omega))⟩
        · refine lv_aload_n B.1 B.2.1 dX12_tell_41 rfl (lv_at hl 0 rfl) ?_
          refine q_con B dX12_tell_42 ?_
          refine lv_aload_n B.1 B.2.1 dX12_tell_43 rfl (lv_at hl 0 rfl) ?_
          refine m_get (k := 8) (v := f 8) B hM (by decide) rfl fl59 dX12_tell_44 rfl ?_
          refine m_calli (n := 2) (rest := []) B hM hA hl.1 (k_fails l D dA h0 ad (up f [(8, f 8), (9, f 9), (7, f 7), (10, f 10), (5, x87), (6, x88), (15, f 15)]) (up g [(11, g 11)]) (up A [(13, (A 13)), (14, (A 14))]) (up L [(12, (L 12))]) 3 (f 8) (by omega) (by omega) ) rfl ok_fails nm_fails ⟨rfl, rfl⟩ ⟨Nat.le_of_ble_eq_true rfl, Nat.le_of_ble_eq_true rfl⟩ dX12_tell_47 rfl rfl (Nat.le_of_ble_eq_true rfl) ⟨Nat.zero_le _, Nat.zero_le _⟩ (fun r142 σr142 H locs ir142 hp143 hM => ?_)
          obtain ⟨x144, x145, rfl, hp143⟩ := hp143
          unfold inr at ir142
          replace hp143 : r142 = 0 ∧ ((x87) ≠ 0 → (x144) = (x87)) ∧ ((x87) = 0 → (x144) = (3)) := hp143
          obtain ⟨hp143_0, hp143_1, hp143_2⟩ := hp143
          simp only [up_up] at hM
          replace hM : MWd D dA h0 ad (mF dA h0 ad (f, g, A, L) s.heap.size) s.heap ((up f [(8, f 8), (9, f 9), (7, f 7), (10, f 10), (5, x144), (6, x145), (15, f 15)]), (up g [(11, g 11)]), (up A [(13, (A 13)), (14, (A 14))]), (up L [(12, (L 12))])) H locs := hM
          have r146 : (-2147483648 : Int) ≤ x144 ∧ x144 ≤ 2147483647 := hM.2.2.2.1 5
          have r147 : (-2147483648 : Int) ≤ x145 ∧ x145 ≤ 2147483647 := hM.2.2.2.1 6
          refine lv_pop B.1 B.2.1 dX12_tell_50 rfl ?_
          refine lv_aload_n B.1 B.2.1 dX12_tell_51 rfl (lv_at hl 0 rfl) ?_
          refine m_calli (n := 0) (rest := []) B hM hA hl.1 (k_isGood l D dA h0 ad (up f [(8, f 8), (9, f 9), (7, f 7), (10, f 10), (5, x144), (6, x145), (15, f 15)]) (up g [(11, g 11)]) (up A [(13, (A 13)), (14, (A 14))]) (up L [(12, (L 12))])   ) rfl ok_isGood nm_isGood ⟨rfl, rfl⟩ ⟨Nat.le_of_ble_eq_true rfl, Nat.le_of_ble_eq_true rfl⟩ dX12_tell_52 rfl rfl (Nat.le_of_ble_eq_true rfl) ⟨Nat.zero_le _, Nat.zero_le _⟩ (fun r148 σr148 H locs ir148 hp149 hM => ?_)
          obtain ⟨rfl, hp149⟩ := hp149
          unfold inr at ir148
          replace hp149 : 0 ≤ r148 ∧ r148 ≤ 1 ∧ (r148 = 1 ↔ (x144) = 0) := hp149
          obtain ⟨hp149_0, hp149_1, hp149_2⟩ := hp149
          refine q_ine (tgt := 59) B dX12_tell_55 (by decide) (by unfold inr; omega) (fun c150 => ?_) (fun c150 => ?_)
          · refine lv_aload_n B.1 B.2.1 dX12_tell_59 rfl (lv_at hl 0 rfl) ?_
            refine lv_aload_n B.1 B.2.1 dX12_tell_60 rfl (lv_at hl 0 rfl) ?_
            refine m_getl (k := 11) B hM (by decide) rfl fl76 dX12_tell_61 rfl ?_
            refine lv_iload_n B.1 B.2.1 dX12_tell_64 rfl (lv_at hl 1 rfl) ?_
            refine lv_iload_n B.1 B.2.1 dX12_tell_65 rfl (lv_at hl 2 rfl) ?_
            refine m_callv (n := 3) (rest := []) B hM hA hl.1 (k_add l D dA h0 ad (up f [(8, f 8), (9, f 9), (7, f 7), (10, f 10), (5, x144), (6, x145), (15, f 15)]) (up g [(11, g 11)]) (up A [(13, (A 13)), (14, (A 14))]) (up L [(12, (L 12))]) (g 11) a_sort a_many (by omega) (by omega) (show (f 15) ≤ 63 from by first | omega | (simp only [wr_at]; omega) | assumption) (show 0 ≤ (a_sort) from by first | omega | (simp only [wr_at]; omega) | assumption) (show (a_sort) ≤ 5 from by first | omega | (simp only [wr_at]; omega) | assumption) (show 0 ≤ (a_many) from by first | omega | (simp only [wr_at]; omega) | assumption) (show (a_many) ≤ 15 from by first | omega | (simp only [wr_at]; omega) | assumption)) rfl ok_add nm_add ⟨rfl, rfl⟩ ⟨Nat.le_of_ble_eq_true rfl, Nat.le_of_ble_eq_true rfl⟩ dX12_tell_66 rfl rfl (Nat.le_of_ble_eq_true rfl) ⟨Nat.zero_le _, Nat.zero_le _⟩ (fun σr151 H locs hp152 hM => ?_)
            obtain ⟨b153, rfl, hp152⟩ := hp152
            replace hp152 : True := hp152
            simp only [up_up] at hM
            replace hM : MWd D dA h0 ad (mF dA h0 ad (f, g, A, L) s.heap.size) s.heap ((up f [(8, f 8), (9, f 9), (7, f 7), (10, f 10), (5, x144), (6, x145), (15, (f 15) + 1)]), (up g [(11, g 11)]), (up A [(13, (wr (A 13) (64 * (f 3) + (f 15)) (a_sort))), (14, (wr (A 14) (64 * (f 3) + (f 15)) (a_many)))]), (up L [(12, b153)])) H locs := hM
            have r154 : (0 : Int) ≤ (f 15) + 1 ∧ (f 15) + 1 ≤ 64 := hM.2.2.2.1 15
            refine lv_aload_n B.1 B.2.1 dX12_tell_69 rfl (lv_at hl 0 rfl) ?_
            refine m_callv (n := 0) (rest := []) B hM hA hl.1 (k_next l D dA h0 ad (up f [(8, f 8), (9, f 9), (7, f 7), (10, f 10), (5, x144), (6, x145), (15, (f 15) + 1)]) (up g [(11, g 11)]) (up A [(13, (wr (A 13) (64 * (f 3) + (f 15)) (a_sort))), (14, (wr (A 14) (64 * (f 3) + (f 15)) (a_many)))]) (up L [(12, b153)])   (show (f 9) ≤ 3001 from by first | omega | (simp only [wr_at]; omega) | assumption)) rfl ok_next nm_next ⟨rfl, rfl⟩ ⟨Nat.le_of_ble_eq_true rfl, Nat.le_of_ble_eq_true rfl⟩ dX12_tell_70 rfl rfl (Nat.le_of_ble_eq_true rfl) ⟨Nat.zero_le _, Nat.zero_le _⟩ (fun σr155 H locs hp156 hM => ?_)
            obtain ⟨x157, x158, x159, x160, w161, rfl, hp156⟩ := hp156
            replace hp156 : ((f 9) ≤ (x157) ∨ (x157) = (f 4)) ∧ (0 ≤ (x157) ∧ (x157) ≤ (f 4) ∧ (x157) ≤ (x158) ∧ (x158) ≤ (f 4) + 1 ∧ ((x159) = 0 ↔ (x157) = (f 4)) ∧ (2 ≤ (x159) → (x157) < (x158) ∧ (x158) ≤ (f 4)) ∧ ((x159) = 5 → (x157) + 2 ≤ (x158) ∧ (x158) ≤ (x157) + 32)) := hp156
            obtain ⟨hp156_0, hp156_1⟩ := hp156
            simp only [up_up] at hM
            replace hM : MWd D dA h0 ad (mF dA h0 ad (f, g, A, L) s.heap.size) s.heap ((up f [(8, x157), (9, x158), (7, x159), (10, x160), (5, x144), (6, x145), (15, (f 15) + 1)]), (up g [(11, w161)]), (up A [(13, (wr (A 13) (64 * (f 3) + (f 15)) (a_sort))), (14, (wr (A 14) (64 * (f 3) + (f 15)) (a_many)))]), (up L [(12, b153)])) H locs := hM
            have r162 : (0 : Int) ≤ x157 ∧ x157 ≤ 3001 := hM.2.2.2.1 8
            have r163 : (0 : Int) ≤ x158 ∧ x158 ≤ 3002 := hM.2.2.2.1 9
            have r164 : (0 : Int) ≤ x159 ∧ x159 ≤ 6 := hM.2.2.2.1 7
            have r165 : (-2147483648 : Int) ≤ x160 ∧ x160 ≤ 2147483647 := hM.2.2.2.1 10
            subst hPST
            exact m_vret B hM dX12_tell_73 ⟨x157, x158, x159, x160, x144, x145, ((f 15) + 1), w161, ((wr (A 13) (64 * (f 3) + (f 15)) (a_sort))), ((wr (A 14) (64 * (f 3) + (f 15)) (a_many))), b153, rfl, by (refine ⟨by omega, by omega, by omega, by omega, by omega, ?_⟩; first | exact NIp_bad (by omega) | exact NIp_push p_9 (by omega) (by omega) (by omega) (by omega) (by omega) (by omega))⟩
          · subst hPST
            exact m_vret B hM dX12_tell_58 ⟨(f 8), (f 9), (f 7), (f 10), x144, x145, (f 15), (g 11), ((A 13)), ((A 14)), ((L 12)), rfl, by (refine ⟨by omega, by omega, by omega, by omega, by omega, ?_⟩; first | exact NIp_bad (by omega) | exact NIp_push p_9 (by omega) (by omega) (by omega) (by omega) (by omega) (by omega))⟩
    · subst hPST
      exact m_vret B hM dX12_tell_19 ⟨(f 8), (f 9), (f 7), (f 10), x87, x88, (f 15), (g 11), ((A 13)), ((A 14)), ((L 12)), rfl, by (refine ⟨by omega, by omega, by omega, by omega, by omega, ?_⟩; first | exact NIp_bad (by omega) | exact NIp_push p_9 (by omega) (by omega) (by omega) (by omega) (by omega) (by omega))⟩
set_option maxHeartbeats 4000000 in
set_option maxRecDepth 20000 in
theorem k_ask (l : Launch) (D : va_G) (dA : Nat → ClassId) (h0 : Nat) (ad : Nat → Nat) (f : Nat → Int) (g : Nat → Int64) (A : Nat → Nat → Int) (L : Nat → Nat → Int64) (a_sort : Int) (a_below : Int) (a_row : Int) (a_place : Int) (i_sort : (-2147483648 : Int) ≤ a_sort ∧ a_sort ≤ 2147483647) (i_below : (-2147483648 : Int) ≤ a_below ∧ a_below ≤ 2147483647) (i_row : (-2147483648 : Int) ≤ a_row ∧ a_row ≤ 2147483647) (i_place : (-2147483648 : Int) ≤ a_place ∧ a_place ≤ 2147483647) (p_0 : (0 ≤ (f 8) ∧ (f 8) ≤ (f 4) ∧ (f 8) ≤ (f 9) ∧ (f 9) ≤ (f 4) + 1 ∧ ((f 7) = 0 ↔ (f 8) = (f 4)) ∧ (2 ≤ (f 7) → (f 8) < (f 9) ∧ (f 9) ≤ (f 4)) ∧ ((f 7) = 5 → (f 8) + 2 ≤ (f 9) ∧ (f 9) ≤ (f 8) + 32))) (p_1 : 2 * (f 22) ≤ (f 8)) (p_2 : 0 ≤ (a_sort)) (p_3 : (a_sort) ≤ 5) (p_4 : -1 ≤ (a_below)) (p_5 : (a_below) ≤ 16) (p_6 : 0 ≤ (a_row)) (p_7 : (a_row) ≤ 5) (p_8 : 0 ≤ (a_place)) (p_9 : (a_place) ≤ 3199) (p_10 : ((f 7) = 2 → ((a_row) = 0 → (a_place) < 18 ∧ (a_sort) = 1) ∧ ((a_row) = 1 → (a_place) < 96 ∧ (a_sort) = 1) ∧ ((a_row) = 3 → (a_place) < 400) ∧ ((a_row) = 4 → (a_sort) = 1))) (p_11 : AIp (f 22) (A 18) (A 20) (A 21)) : MCv l yX12_ask cX12_ask 5 ({ frames := 3, cells := 0, slots := 0, locals := 65 }) D dA h0 ad (f, g, A, L) [.int (II a_sort), .int (II a_below), .int (II a_row), .int (II a_place)] (fun (σ : MS) => ∃ n8 : Int, ∃ n9 : Int, ∃ n7 : Int, ∃ n10 : Int, ∃ n5 : Int, ∃ n6 : Int, ∃ n22 : Int, ∃ n11 : Int64, ∃ b17 : Nat → Int, ∃ b18 : Nat → Int, ∃ b19 : Nat → Int, ∃ b20 : Nat → Int, ∃ b21 : Nat → Int, ∃ b16 : Nat → Int64, σ = ((up f [(8, n8), (9, n9), (7, n7), (10, n10), (5, n5), (6, n6), (22, n22)]), (up g [(11, n11)]), (up A [(17, b17), (18, b18), (19, b19), (20, b20), (21, b21)]), (up L [(16, b16)])) ∧ (((0 ≤ (n8) ∧ (n8) ≤ (f 4) ∧ (n8) ≤ (n9) ∧ (n9) ≤ (f 4) + 1 ∧ ((n7) = 0 ↔ (n8) = (f 4)) ∧ (2 ≤ (n7) → (n8) < (n9) ∧ (n9) ≤ (f 4)) ∧ ((n7) = 5 → (n8) + 2 ≤ (n9) ∧ (n9) ≤ (n8) + 32))) ∧ (f 8) ≤ (n8) ∧ ((n5) = 0 → (f 5) = 0 ∧ (f 8) + 1 ≤ (n8) ∧ (f 7) = 2 ∧ (n22) = (f 22) + 1 ∧ b20 ((f 22)).toNat = (a_row) ∧ b21 ((f 22)).toNat = (a_place)) ∧ 2 * (n22) ≤ (n8) + 1 ∧ (f 22) ≤ (n22) ∧ AIp (n22) b18 b20 b21 ∧ APe (f 22) (A 20) (A 21) b20 b21)) := by
  generalize hPST : (fun (σ : MS) => ∃ n8 : Int, ∃ n9 : Int, ∃ n7 : Int, ∃ n10 : Int, ∃ n5 : Int, ∃ n6 : Int, ∃ n22 : Int, ∃ n11 : Int64, ∃ b17 : Nat → Int, ∃ b18 : Nat → Int, ∃ b19 : Nat → Int, ∃ b20 : Nat → Int, ∃ b21 : Nat → Int, ∃ b16 : Nat → Int64, σ = ((up f [(8, n8), (9, n9), (7, n7), (10, n10), (5, n5), (6, n6), (22, n22)]), (up g [(11, n11)]), (up A [(17, b17), (18, b18), (19, b19), (20, b20), (21, b21)]), (up L [(16, b16)])) ∧ (((0 ≤ (n8) ∧ (n8) ≤ (f 4) ∧ (n8) ≤ (n9) ∧ (n9) ≤ (f 4) + 1 ∧ ((n7) = 0 ↔ (n8) = (f 4)) ∧ (2 ≤ (n7) → (n8) < (n9) ∧ (n9) ≤ (f 4)) ∧ ((n7) = 5 → (n8) + 2 ≤ (n9) ∧ (n9) ≤ (n8) + 32))) ∧ (f 8) ≤ (n8) ∧ ((n5) = 0 → (f 5) = 0 ∧ (f 8) + 1 ≤ (n8) ∧ (f 7) = 2 ∧ (n22) = (f 22) + 1 ∧ b20 ((f 22)).toNat = (a_row) ∧ b21 ((f 22)).toNat = (a_place)) ∧ 2 * (n22) ≤ (n8) + 1 ∧ (f 22) ≤ (n22) ∧ AIp (n22) b18 b20 b21 ∧ APe (f 22) (A 20) (A 21) b20 b21)) = PST
  refine m_enterv (by decide) rfl (Nat.le_of_ble_eq_true rfl) (fun p e s m args below meth c ls B hM hl => ?_)
  have hA : ∀ q, s.heap.size ≤ q → mF dA h0 ad (f, g, A, L) s.heap.size q := fun q h => Or.inr h
  have hM : MWd D dA h0 ad (mF dA h0 ad (f, g, A, L) s.heap.size) s.heap ((up f [(8, f 8), (9, f 9), (7, f 7), (10, f 10), (5, f 5), (6, f 6), (22, f 22)]), (up g [(11, g 11)]), (up A [(17, (A 17)), (18, (A 18)), (19, (A 19)), (20, (A 20)), (21, (A 21))]), (up L [(16, (L 16))])) s.heap [] := MW_pad hM (up_self f [8, 9, 7, 10, 5, 6, 22]) (up_self g [11]) (up_self A [17, 18, 19, 20, 21]) (up_self L [16])
  have hl : lv_has ls 5 [(0, .ref h0), (1, .int (II a_sort)), (2, .int (II a_below)), (3, .int (II a_row)), (4, .int (II a_place))] := hl
  have r1 : (0 : Int) ≤ f 4 ∧ f 4 ≤ 3000 := hM.2.2.2.1 4
  have r2 : (0 : Int) ≤ f 7 ∧ f 7 ≤ 6 := hM.2.2.2.1 7
  have r3 : (0 : Int) ≤ f 8 ∧ f 8 ≤ 3001 := hM.2.2.2.1 8
  have r4 : (0 : Int) ≤ f 9 ∧ f 9 ≤ 3002 := hM.2.2.2.1 9
  have r5 : (0 : Int) ≤ f 22 ∧ f 22 ≤ 1600 := hM.2.2.2.1 22
  refine lv_aload_n B.1 B.2.1 dX12_ask_0 rfl (lv_at hl 0 rfl) ?_
  refine m_get (k := 7) (v := f 7) B hM (by decide) rfl fl66 dX12_ask_1 rfl ?_
  refine q_con B dX12_ask_4 ?_
  refine q_ceq (tgt := 12) B dX12_ask_5 (by decide) (by unfold inr; omega) (by unfold inr; omega) (fun c6 => ?_) (fun c6 => ?_)
  · refine lv_aload_n B.1 B.2.1 dX12_ask_12 rfl (lv_at hl 0 rfl) ?_
    refine m_calli (n := 0) (rest := []) B hM hA hl.1 (k_isGood l D dA h0 ad (up f [(8, f 8), (9, f 9), (7, f 7), (10, f 10), (5, f 5), (6, f 6), (22, f 22)]) (up g [(11, g 11)]) (up A [(17, (A 17)), (18, (A 18)), (19, (A 19)), (20, (A 20)), (21, (A 21))]) (up L [(16, (L 16))])   ) rfl ok_isGood nm_isGood ⟨rfl, rfl⟩ ⟨Nat.le_of_ble_eq_true rfl, Nat.le_of_ble_eq_true rfl⟩ dX12_ask_13 rfl rfl (Nat.le_of_ble_eq_true rfl) ⟨Nat.zero_le _, Nat.zero_le _⟩ (fun r7 σr7 H locs ir7 hp8 hM => ?_)
    obtain ⟨rfl, hp8⟩ := hp8
    unfold inr at ir7
    replace hp8 : 0 ≤ r7 ∧ r7 ≤ 1 ∧ (r7 = 1 ↔ (f 5) = 0) := hp8
    obtain ⟨hp8_0, hp8_1, hp8_2⟩ := hp8
    refine q_ine (tgt := 20) B dX12_ask_16 (by decide) (by unfold inr; omega) (fun c9 => ?_) (fun c9 => ?_)
    · refine lv_aload_n B.1 B.2.1 dX12_ask_20 rfl (lv_at hl 0 rfl) ?_
      refine m_geta (k := 16) B hM (by decide) rfl fl145 dX12_ask_21 ?_
      refine lv_aload_n B.1 B.2.1 dX12_ask_24 rfl (lv_at hl 0 rfl) ?_
      refine m_get (k := 22) (v := f 22) B hM (by decide) rfl fl415 dX12_ask_25 rfl ?_
      refine lv_aload_n B.1 B.2.1 dX12_ask_28 rfl (lv_at hl 0 rfl) ?_
      refine m_getl (k := 11) B hM (by decide) rfl fl76 dX12_ask_29 rfl ?_
      refine m_lst (k := 16) (i := 5) (n := 1600) B hM rfl rfl rfl (by decide) dX12_ask_32 (by omega) (by omega) (u1_up L [(16, (L 16))] 16 (wr (L 16) (f 22) (g 11))) (fun H locs hM => ?_)
      replace hM : MWd D dA h0 ad (mF dA h0 ad (f, g, A, L) s.heap.size) s.heap ((up f [(8, f 8), (9, f 9), (7, f 7), (10, f 10), (5, f 5), (6, f 6), (22, f 22)]), (up g [(11, g 11)]), (up A [(17, (A 17)), (18, (A 18)), (19, (A 19)), (20, (A 20)), (21, (A 21))]), (up L [(16, (wr (L 16) (f 22) (g 11)))])) H locs := hM
      refine lv_aload_n B.1 B.2.1 dX12_ask_33 rfl (lv_at hl 0 rfl) ?_
      refine m_geta (k := 17) B hM (by decide) rfl fl148 dX12_ask_34 ?_
      refine lv_aload_n B.1 B.2.1 dX12_ask_37 rfl (lv_at hl 0 rfl) ?_
      refine m_get (k := 22) (v := f 22) B hM (by decide) rfl fl415 dX12_ask_38 rfl ?_
      refine lv_aload_n B.1 B.2.1 dX12_ask_41 rfl (lv_at hl 0 rfl) ?_
      refine m_get (k := 8) (v := f 8) B hM (by decide) rfl fl59 dX12_ask_42 rfl ?_
      refine m_ist (k := 17) (i := 6) (n := 1600) B hM rfl rfl rfl (by decide) dX12_ask_45 (by omega) (by omega) (show (-2147483648 : Int) ≤ f 8 from by first | omega | (simp only [wr_at]; omega)) (show f 8 ≤ (2147483647 : Int) from by first | omega | (simp only [wr_at]; omega)) (u1_up A [(17, (A 17)), (18, (A 18)), (19, (A 19)), (20, (A 20)), (21, (A 21))] 17 (wr (A 17) (f 22) (f 8))) (fun H locs hM => ?_)
      replace hM : MWd D dA h0 ad (mF dA h0 ad (f, g, A, L) s.heap.size) s.heap ((up f [(8, f 8), (9, f 9), (7, f 7), (10, f 10), (5, f 5), (6, f 6), (22, f 22)]), (up g [(11, g 11)]), (up A [(17, (wr (A 17) (f 22) (f 8))), (18, (A 18)), (19, (A 19)), (20, (A 20)), (21, (A 21))]), (up L [(16, (wr (L 16) (f 22) (g 11)))])) H locs := hM
      refine lv_aload_n B.1 B.2.1 dX12_ask_46 rfl (lv_at hl 0 rfl) ?_
      refine m_geta (k := 18) B hM (by decide) rfl fl151 dX12_ask_47 ?_
      refine lv_aload_n B.1 B.2.1 dX12_ask_50 rfl (lv_at hl 0 rfl) ?_
      refine m_get (k := 22) (v := f 22) B hM (by decide) rfl fl415 dX12_ask_51 rfl ?_
      refine lv_iload_n B.1 B.2.1 dX12_ask_54 rfl (lv_at hl 1 rfl) ?_
      refine m_ist (k := 18) (i := 7) (n := 1600) B hM rfl rfl rfl (by decide) dX12_ask_55 (by omega) (by omega) (show (0 : Int) ≤ a_sort from by first | omega | (simp only [wr_at]; omega)) (show a_sort ≤ (5 : Int) from by first | omega | (simp only [wr_at]; omega)) (u1_up A [(17, (wr (A 17) (f 22) (f 8))), (18, (A 18)), (19, (A 19)), (20, (A 20)), (21, (A 21))] 18 (wr (A 18) (f 22) a_sort)) (fun H locs hM => ?_)
      replace hM : MWd D dA h0 ad (mF dA h0 ad (f, g, A, L) s.heap.size) s.heap ((up f [(8, f 8), (9, f 9), (7, f 7), (10, f 10), (5, f 5), (6, f 6), (22, f 22)]), (up g [(11, g 11)]), (up A [(17, (wr (A 17) (f 22) (f 8))), (18, (wr (A 18) (f 22) a_sort)), (19, (A 19)), (20, (A 20)), (21, (A 21))]), (up L [(16, (wr (L 16) (f 22) (g 11)))])) H locs := hM
      refine lv_aload_n B.1 B.2.1 dX12_ask_56 rfl (lv_at hl 0 rfl) ?_
      refine m_geta (k := 19) B hM (by decide) rfl fl154 dX12_ask_57 ?_
      refine lv_aload_n B.1 B.2.1 dX12_ask_60 rfl (lv_at hl 0 rfl) ?_
      refine m_get (k := 22) (v := f 22) B hM (by decide) rfl fl415 dX12_ask_61 rfl ?_
      refine lv_iload_n B.1 B.2.1 dX12_ask_64 rfl (lv_at hl 2 rfl) ?_
      refine m_ist (k := 19) (i := 8) (n := 1600) B hM rfl rfl rfl (by decide) dX12_ask_65 (by omega) (by omega) (show (-1 : Int) ≤ a_below from by first | omega | (simp only [wr_at]; omega)) (show a_below ≤ (16 : Int) from by first | omega | (simp only [wr_at]; omega)) (u1_up A [(17, (wr (A 17) (f 22) (f 8))), (18, (wr (A 18) (f 22) a_sort)), (19, (A 19)), (20, (A 20)), (21, (A 21))] 19 (wr (A 19) (f 22) a_below)) (fun H locs hM => ?_)
      replace hM : MWd D dA h0 ad (mF dA h0 ad (f, g, A, L) s.heap.size) s.heap ((up f [(8, f 8), (9, f 9), (7, f 7), (10, f 10), (5, f 5), (6, f 6), (22, f 22)]), (up g [(11, g 11)]), (up A [(17, (wr (A 17) (f 22) (f 8))), (18, (wr (A 18) (f 22) a_sort)), (19, (wr (A 19) (f 22) a_below)), (20, (A 20)), (21, (A 21))]), (up L [(16, (wr (L 16) (f 22) (g 11)))])) H locs := hM
      refine lv_aload_n B.1 B.2.1 dX12_ask_66 rfl (lv_at hl 0 rfl) ?_
      refine m_geta (k := 20) B hM (by decide) rfl fl157 dX12_ask_67 ?_
      refine lv_aload_n B.1 B.2.1 dX12_ask_70 rfl (lv_at hl 0 rfl) ?_
      refine m_get (k := 22) (v := f 22) B hM (by decide) rfl fl415 dX12_ask_71 rfl ?_
      refine lv_iload_n B.1 B.2.1 dX12_ask_74 rfl (lv_at hl 3 rfl) ?_
      refine m_ist (k := 20) (i := 9) (n := 1600) B hM rfl rfl rfl (by decide) dX12_ask_75 (by omega) (by omega) (show (0 : Int) ≤ a_row from by first | omega | (simp only [wr_at]; omega)) (show a_row ≤ (5 : Int) from by first | omega | (simp only [wr_at]; omega)) (u1_up A [(17, (wr (A 17) (f 22) (f 8))), (18, (wr (A 18) (f 22) a_sort)), (19, (wr (A 19) (f 22) a_below)), (20, (A 20)), (21, (A 21))] 20 (wr (A 20) (f 22) a_row)) (fun H locs hM => ?_)
      replace hM : MWd D dA h0 ad (mF dA h0 ad (f, g, A, L) s.heap.size) s.heap ((up f [(8, f 8), (9, f 9), (7, f 7), (10, f 10), (5, f 5), (6, f 6), (22, f 22)]), (up g [(11, g 11)]), (up A [(17, (wr (A 17) (f 22) (f 8))), (18, (wr (A 18) (f 22) a_sort)), (19, (wr (A 19) (f 22) a_below)), (20, (wr (A 20) (f 22) a_row)), (21, (A 21))]), (up L [(16, (wr (L 16) (f 22) (g 11)))])) H locs := hM
      refine lv_aload_n B.1 B.2.1 dX12_ask_76 rfl (lv_at hl 0 rfl) ?_
      refine m_geta (k := 21) B hM (by decide) rfl fl160 dX12_ask_77 ?_
      refine lv_aload_n B.1 B.2.1 dX12_ask_80 rfl (lv_at hl 0 rfl) ?_
      refine m_get (k := 22) (v := f 22) B hM (by decide) rfl fl415 dX12_ask_81 rfl ?_
      refine lv_iload B.1 B.2.1 dX12_ask_84 (lv_at hl 4 rfl) ?_
      refine m_ist (k := 21) (i := 10) (n := 1600) B hM rfl rfl rfl (by decide) dX12_ask_86 (by omega) (by omega) (show (0 : Int) ≤ a_place from by first | omega | (simp only [wr_at]; omega)) (show a_place ≤ (3199 : Int) from by first | omega | (simp only [wr_at]; omega)) (u1_up A [(17, (wr (A 17) (f 22) (f 8))), (18, (wr (A 18) (f 22) a_sort)), (19, (wr (A 19) (f 22) a_below)), (20, (wr (A 20) (f 22) a_row)), (21, (A 21))] 21 (wr (A 21) (f 22) a_place)) (fun H locs hM => ?_)
      replace hM : MWd D dA h0 ad (mF dA h0 ad (f, g, A, L) s.heap.size) s.heap ((up f [(8, f 8), (9, f 9), (7, f 7), (10, f 10), (5, f 5), (6, f 6), (22, f 22)]), (up g [(11, g 11)]), (up A [(17, (wr (A 17) (f 22) (f 8))), (18, (wr (A 18) (f 22) a_sort)), (19, (wr (A 19) (f 22) a_below)), (20, (wr (A 20) (f 22) a_row)), (21, (wr (A 21) (f 22) a_place))]), (up L [(16, (wr (L 16) (f 22) (g 11)))])) H locs := hM
      refine lv_aload_n B.1 B.2.1 dX12_ask_87 rfl (lv_at hl 0 rfl) ?_
      refine lv_dup B.1 B.2.1 dX12_ask_88 rfl ?_
      refine m_get (k := 22) (v := f 22) B hM (by decide) rfl fl415 dX12_ask_89 rfl ?_
      refine q_con B dX12_ask_92 ?_
      refine q_add B dX12_ask_93 ?_
      refine m_put (k := 22) B hM (by decide) rfl fl415 rfl dX12_ask_94 rfl rfl (show (0 : Int) ≤ (f 22) + 1 from by first | omega | (simp only [wr_at]; omega)) (show (f 22) + 1 ≤ (1600 : Int) from by first | omega | (simp only [wr_at]; omega)) (u1_up f [(8, f 8), (9, f 9), (7, f 7), (10, f 10), (5, f 5), (6, f 6), (22, f 22)] 22 ((f 22) + 1)) (fun H locs hM => ?_)
      replace hM : MWd D dA h0 ad (mF dA h0 ad (f, g, A, L) s.heap.size) s.heap ((up f [(8, f 8), (9, f 9), (7, f 7), (10, f 10), (5, f 5), (6, f 6), (22, (f 22) + 1)]), (up g [(11, g 11)]), (up A [(17, (wr (A 17) (f 22) (f 8))), (18, (wr (A 18) (f 22) a_sort)), (19, (wr (A 19) (f 22) a_below)), (20, (wr (A 20) (f 22) a_row)), (21, (wr (A 21) (f 22) a_place))]), (up L [(16, (wr (L 16) (f 22) (g 11)))])) H locs := hM
      refine lv_aload_n B.1 B.2.1 dX12_ask_97 rfl (lv_at hl 0 rfl) ?_
      refine m_callv (n := 0) (rest := []) B hM hA hl.1 (k_next l D dA h0 ad (up f [(8, f 8), (9, f 9), (7, f 7), (10, f 10), (5, f 5), (6, f 6), (22, (f 22) + 1)]) (up g [(11, g 11)]) (up A [(17, (wr (A 17) (f 22) (f 8))), (18, (wr (A 18) (f 22) a_sort)), (19, (wr (A 19) (f 22) a_below)), (20, (wr (A 20) (f 22) a_row)), (21, (wr (A 21) (f 22) a_place))]) (up L [(16, (wr (L 16) (f 22) (g 11)))])   (show (f 9) ≤ 3001 from by first | omega | (simp only [wr_at]; omega) | assumption)) rfl ok_next nm_next ⟨rfl, rfl⟩ ⟨Nat.le_of_ble_eq_true rfl, Nat.le_of_ble_eq_true rfl⟩ dX12_ask_98 rfl rfl (Nat.le_of_ble_eq_true rfl) ⟨Nat.zero_le _, Nat.zero_le _⟩ (fun σr10 H locs hp11 hM => ?_)
      obtain ⟨x12, x13, x14, x15, w16, rfl, hp11⟩ := hp11
      replace hp11 : ((f 9) ≤ (x12) ∨ (x12) = (f 4)) ∧ (0 ≤ (x12) ∧ (x12) ≤ (f 4) ∧ (x12) ≤ (x13) ∧ (x13) ≤ (f 4) + 1 ∧ ((x14) = 0 ↔ (x12) = (f 4)) ∧ (2 ≤ (x14) → (x12) < (x13) ∧ (x13) ≤ (f 4)) ∧ ((x14) = 5 → (x12) + 2 ≤ (x13) ∧ (x13) ≤ (x12) + 32)) := hp11
      obtain ⟨hp11_0, hp11_1⟩ := hp11
      simp only [up_up] at hM
      replace hM : MWd D dA h0 ad (mF dA h0 ad (f, g, A, L) s.heap.size) s.heap ((up f [(8, x12), (9, x13), (7, x14), (10, x15), (5, f 5), (6, f 6), (22, (f 22) + 1)]), (up g [(11, w16)]), (up A [(17, (wr (A 17) (f 22) (f 8))), (18, (wr (A 18) (f 22) a_sort)), (19, (wr (A 19) (f 22) a_below)), (20, (wr (A 20) (f 22) a_row)), (21, (wr (A 21) (f 22) a_place))]), (up L [(16, (wr (L 16) (f 22) (g 11)))])) H locs := hM
      have r17 : (0 : Int) ≤ x12 ∧ x12 ≤ 3001 := hM.2.2.2.1 8
      have r18 : (0 : Int) ≤ x13 ∧ x13 ≤ 3002 := hM.2.2.2.1 9
      have r19 : (0 : Int) ≤ x14 ∧ x14 ≤ 6 := hM.2.2.2.1 7
      have r20 : (-2147483648 : Int) ≤ x15 ∧ x15 ≤ 2147483647 := hM.2.2.2.1 10
      subst hPST
      exact m_vret B hM dX12_ask_101 ⟨x12, x13, x14, x15, (f 5), (f 6), ((f 22) + 1), w16, ((wr (A 17) (f 22) (f 8))), ((wr (A 18) (f 22) a_sort)), ((wr (A 19) (f 22) a_below)), ((wr (A 20) (f 22) a_row)), ((wr (A 21) (f 22) a_place)), ((wr (L 16) (f 22) (g 11))), rfl, by (first | exact ⟨by omega, by omega, by omega, by omega, by omega, p_11, APe_rfl⟩ | exact ⟨by omega, by omega, fun hfk => ⟨by omega, by omega, by omega, by omega, wr_at _ _ _, wr_at _ _ _⟩, by omega, by omega, AIp_push p_11 (by omega) (by omega), APe_push (by omega)⟩)⟩
    · subst hPST
      exact m_vret B hM dX12_ask_19 ⟨(f 8), (f 9), (f 7), (f 10), (f 5), (f 6), (f 22), (g 11), ((A 17)), ((A 18)), ((A 19)), ((A 20)), ((A 21)), ((L 16)), rfl, by (first | exact ⟨by omega, by omega, by omega, by omega, by omega, p_11, APe_rfl⟩ | exact ⟨by omega, by omega, fun hfk => ⟨by omega, by omega, by omega, by omega, wr_at _ _ _, wr_at _ _ _⟩, by omega, by omega, AIp_push p_11 (by omega) (by omega), APe_push (by omega)⟩)⟩
  · refine lv_aload_n B.1 B.2.1 dX12_ask_8 rfl (lv_at hl 0 rfl) ?_
    refine m_callv (n := 0) (rest := []) B hM hA hl.1 (k_wrong l D dA h0 ad (up f [(8, f 8), (9, f 9), (7, f 7), (10, f 10), (5, f 5), (6, f 6), (22, f 22)]) (up g [(11, g 11)]) (up A [(17, (A 17)), (18, (A 18)), (19, (A 19)), (20, (A 20)), (21, (A 21))]) (up L [(16, (L 16))])   ) rfl ok_wrong nm_wrong ⟨rfl, rfl⟩ ⟨Nat.le_of_ble_eq_true rfl, Nat.le_of_ble_eq_true rfl⟩ dX12_ask_9 rfl rfl (Nat.le_of_ble_eq_true rfl) ⟨Nat.zero_le _, Nat.zero_le _⟩ (fun σr21 H locs hp22 hM => ?_)
    obtain ⟨x23, x24, rfl, hp22⟩ := hp22
    replace hp22 : (x23) ≠ 0 := hp22
    simp only [up_up] at hM
    replace hM : MWd D dA h0 ad (mF dA h0 ad (f, g, A, L) s.heap.size) s.heap ((up f [(8, f 8), (9, f 9), (7, f 7), (10, f 10), (5, x23), (6, x24), (22, f 22)]), (up g [(11, g 11)]), (up A [(17, (A 17)), (18, (A 18)), (19, (A 19)), (20, (A 20)), (21, (A 21))]), (up L [(16, (L 16))])) H locs := hM
    have r25 : (-2147483648 : Int) ≤ x23 ∧ x23 ≤ 2147483647 := hM.2.2.2.1 5
    have r26 : (-2147483648 : Int) ≤ x24 ∧ x24 ≤ 2147483647 := hM.2.2.2.1 6
    refine lv_aload_n B.1 B.2.1 dX12_ask_12 rfl (lv_at hl 0 rfl) ?_
    refine m_calli (n := 0) (rest := []) B hM hA hl.1 (k_isGood l D dA h0 ad (up f [(8, f 8), (9, f 9), (7, f 7), (10, f 10), (5, x23), (6, x24), (22, f 22)]) (up g [(11, g 11)]) (up A [(17, (A 17)), (18, (A 18)), (19, (A 19)), (20, (A 20)), (21, (A 21))]) (up L [(16, (L 16))])   ) rfl ok_isGood nm_isGood ⟨rfl, rfl⟩ ⟨Nat.le_of_ble_eq_true rfl, Nat.le_of_ble_eq_true rfl⟩ dX12_ask_13 rfl rfl (Nat.le_of_ble_eq_true rfl) ⟨Nat.zero_le _, Nat.zero_le _⟩ (fun r27 σr27 H locs ir27 hp28 hM => ?_)
    obtain ⟨rfl, hp28⟩ := hp28
    unfold inr at ir27
    replace hp28 : 0 ≤ r27 ∧ r27 ≤ 1 ∧ (r27 = 1 ↔ (x23) = 0) := hp28
    obtain ⟨hp28_0, hp28_1, hp28_2⟩ := hp28
    refine q_ine (tgt := 20) B dX12_ask_16 (by decide) (by unfold inr; omega) (fun c29 => ?_) (fun c29 => ?_)
    · refine lv_aload_n B.1 B.2.1 dX12_ask_20 rfl (lv_at hl 0 rfl) ?_
      refine m_geta (k := 16) B hM (by decide) rfl fl145 dX12_ask_21 ?_
      refine lv_aload_n B.1 B.2.1 dX12_ask_24 rfl (lv_at hl 0 rfl) ?_
      refine m_get (k := 22) (v := f 22) B hM (by decide) rfl fl415 dX12_ask_25 rfl ?_
      refine lv_aload_n B.1 B.2.1 dX12_ask_28 rfl (lv_at hl 0 rfl) ?_
      refine m_getl (k := 11) B hM (by decide) rfl fl76 dX12_ask_29 rfl ?_
      refine m_lst (k := 16) (i := 5) (n := 1600) B hM rfl rfl rfl (by decide) dX12_ask_32 (by omega) (by omega) (u1_up L [(16, (L 16))] 16 (wr (L 16) (f 22) (g 11))) (fun H locs hM => ?_)
      replace hM : MWd D dA h0 ad (mF dA h0 ad (f, g, A, L) s.heap.size) s.heap ((up f [(8, f 8), (9, f 9), (7, f 7), (10, f 10), (5, x23), (6, x24), (22, f 22)]), (up g [(11, g 11)]), (up A [(17, (A 17)), (18, (A 18)), (19, (A 19)), (20, (A 20)), (21, (A 21))]), (up L [(16, (wr (L 16) (f 22) (g 11)))])) H locs := hM
      refine lv_aload_n B.1 B.2.1 dX12_ask_33 rfl (lv_at hl 0 rfl) ?_
      refine m_geta (k := 17) B hM (by decide) rfl fl148 dX12_ask_34 ?_
      refine lv_aload_n B.1 B.2.1 dX12_ask_37 rfl (lv_at hl 0 rfl) ?_
      refine m_get (k := 22) (v := f 22) B hM (by decide) rfl fl415 dX12_ask_38 rfl ?_
      refine lv_aload_n B.1 B.2.1 dX12_ask_41 rfl (lv_at hl 0 rfl) ?_
      refine m_get (k := 8) (v := f 8) B hM (by decide) rfl fl59 dX12_ask_42 rfl ?_
      refine m_ist (k := 17) (i := 6) (n := 1600) B hM rfl rfl rfl (by decide) dX12_ask_45 (by omega) (by omega) (show (-2147483648 : Int) ≤ f 8 from by first | omega | (simp only [wr_at]; omega)) (show f 8 ≤ (2147483647 : Int) from by first | omega | (simp only [wr_at]; omega)) (u1_up A [(17, (A 17)), (18, (A 18)), (19, (A 19)), (20, (A 20)), (21, (A 21))] 17 (wr (A 17) (f 22) (f 8))) (fun H locs hM => ?_)
      replace hM : MWd D dA h0 ad (mF dA h0 ad (f, g, A, L) s.heap.size) s.heap ((up f [(8, f 8), (9, f 9), (7, f 7), (10, f 10), (5, x23), (6, x24), (22, f 22)]), (up g [(11, g 11)]), (up A [(17, (wr (A 17) (f 22) (f 8))), (18, (A 18)), (19, (A 19)), (20, (A 20)), (21, (A 21))]), (up L [(16, (wr (L 16) (f 22) (g 11)))])) H locs := hM
      refine lv_aload_n B.1 B.2.1 dX12_ask_46 rfl (lv_at hl 0 rfl) ?_
      refine m_geta (k := 18) B hM (by decide) rfl fl151 dX12_ask_47 ?_
      refine lv_aload_n B.1 B.2.1 dX12_ask_50 rfl (lv_at hl 0 rfl) ?_
      refine m_get (k := 22) (v := f 22) B hM (by decide) rfl fl415 dX12_ask_51 rfl ?_
      refine lv_iload_n B.1 B.2.1 dX12_ask_54 rfl (lv_at hl 1 rfl) ?_
      refine m_ist (k := 18) (i := 7) (n := 1600) B hM rfl rfl rfl (by decide) dX12_ask_55 (by omega) (by omega) (show (0 : Int) ≤ a_sort from by first | omega | (simp only [wr_at]; omega)) (show a_sort ≤ (5 : Int) from by first | omega | (simp only [wr_at]; omega)) (u1_up A [(17, (wr (A 17) (f 22) (f 8))), (18, (A 18)), (19, (A 19)), (20, (A 20)), (21, (A 21))] 18 (wr (A 18) (f 22) a_sort)) (fun H locs hM => ?_)
      replace hM : MWd D dA h0 ad (mF dA h0 ad (f, g, A, L) s.heap.size) s.heap ((up f [(8, f 8), (9, f 9), (7, f 7), (10, f 10), (5, x23), (6, x24), (22, f 22)]), (up g [(11, g 11)]), (up A [(17, (wr (A 17) (f 22) (f 8))), (18, (wr (A 18) (f 22) a_sort)), (19, (A 19)), (20, (A 20)), (21, (A 21))]), (up L [(16, (wr (L 16) (f 22) (g 11)))])) H locs := hM
      refine lv_aload_n B.1 B.2.1 dX12_ask_56 rfl (lv_at hl 0 rfl) ?_
      refine m_geta (k := 19) B hM (by decide) rfl fl154 dX12_ask_57 ?_
      refine lv_aload_n B.1 B.2.1 dX12_ask_60 rfl (lv_at hl 0 rfl) ?_
      refine m_get (k := 22) (v := f 22) B hM (by decide) rfl fl415 dX12_ask_61 rfl ?_
      refine lv_iload_n B.1 B.2.1 dX12_ask_64 rfl (lv_at hl 2 rfl) ?_
      refine m_ist (k := 19) (i := 8) (n := 1600) B hM rfl rfl rfl (by decide) dX12_ask_65 (by omega) (by omega) (show (-1 : Int) ≤ a_below from by first | omega | (simp only [wr_at]; omega)) (show a_below ≤ (16 : Int) from by first | omega | (simp only [wr_at]; omega)) (u1_up A [(17, (wr (A 17) (f 22) (f 8))), (18, (wr (A 18) (f 22) a_sort)), (19, (A 19)), (20, (A 20)), (21, (A 21))] 19 (wr (A 19) (f 22) a_below)) (fun H locs hM => ?_)
      replace hM : MWd D dA h0 ad (mF dA h0 ad (f, g, A, L) s.heap.size) s.heap ((up f [(8, f 8), (9, f 9), (7, f 7), (10, f 10), (5, x23), (6, x24), (22, f 22)]), (up g [(11, g 11)]), (up A [(17, (wr (A 17) (f 22) (f 8))), (18, (wr (A 18) (f 22) a_sort)), (19, (wr (A 19) (f 22) a_below)), (20, (A 20)), (21, (A 21))]), (up L [(16, (wr (L 16) (f 22) (g 11)))])) H locs := hM
      refine lv_aload_n B.1 B.2.1 dX12_ask_66 rfl (lv_at hl 0 rfl) ?_
      refine m_geta (k := 20) B hM (by decide) rfl fl157 dX12_ask_67 ?_
      refine lv_aload_n B.1 B.2.1 dX12_ask_70 rfl (lv_at hl 0 rfl) ?_
      refine m_get (k := 22) (v := f 22) B hM (by decide) rfl fl415 dX12_ask_71 rfl ?_
      refine lv_iload_n B.1 B.2.1 dX12_ask_74 rfl (lv_at hl 3 rfl) ?_
      refine m_ist (k := 20) (i := 9) (n := 1600) B hM rfl rfl rfl (by decide) dX12_ask_75 (by omega) (by omega) (show (0 : Int) ≤ a_row from by first | omega | (simp only [wr_at]; omega)) (show a_row ≤ (5 : Int) from by first | omega | (simp only [wr_at]; omega)) (u1_up A [(17, (wr (A 17) (f 22) (f 8))), (18, (wr (A 18) (f 22) a_sort)), (19, (wr (A 19) (f 22) a_below)), (20, (A 20)), (21, (A 21))] 20 (wr (A 20) (f 22) a_row)) (fun H locs hM => ?_)
      replace hM : MWd D dA h0 ad (mF dA h0 ad (f, g, A, L) s.heap.size) s.heap ((up f [(8, f 8), (9, f 9), (7, f 7), (10, f 10), (5, x23), (6, x24), (22, f 22)]), (up g [(11, g 11)]), (up A [(17, (wr (A 17) (f 22) (f 8))), (18, (wr (A 18) (f 22) a_sort)), (19, (wr (A 19) (f 22) a_below)), (20, (wr (A 20) (f 22) a_row)), (21, (A 21))]), (up L [(16, (wr (L 16) (f 22) (g 11)))])) H locs := hM
      refine lv_aload_n B.1 B.2.1 dX12_ask_76 rfl (lv_at hl 0 rfl) ?_
      refine m_geta (k := 21) B hM (by decide) rfl fl160 dX12_ask_77 ?_
      refine lv_aload_n B.1 B.2.1 dX12_ask_80 rfl (lv_at hl 0 rfl) ?_
      refine m_get (k := 22) (v := f 22) B hM (by decide) rfl fl415 dX12_ask_81 rfl ?_
      refine lv_iload B.1 B.2.1 dX12_ask_84 (lv_at hl 4 rfl) ?_
      refine m_ist (k := 21) (i := 10) (n := 1600) B hM rfl rfl rfl (by decide) dX12_ask_86 (by omega) (by omega) (show (0 : Int) ≤ a_place from by first | omega | (simp only [wr_at]; omega)) (show a_place ≤ (3199 : Int) from by first | omega | (simp only [wr_at]; omega)) (u1_up A [(17, (wr (A 17) (f 22) (f 8))), (18, (wr (A 18) (f 22) a_sort)), (19, (wr (A 19) (f 22) a_below)), (20, (wr (A 20) (f 22) a_row)), (21, (A 21))] 21 (wr (A 21) (f 22) a_place)) (fun H locs hM => ?_)
      replace hM : MWd D dA h0 ad (mF dA h0 ad (f, g, A, L) s.heap.size) s.heap ((up f [(8, f 8), (9, f 9), (7, f 7), (10, f 10), (5, x23), (6, x24), (22, f 22)]), (up g [(11, g 11)]), (up A [(17, (wr (A 17) (f 22) (f 8))), (18, (wr (A 18) (f 22) a_sort)), (19, (wr (A 19) (f 22) a_below)), (20, (wr (A 20) (f 22) a_row)), (21, (wr (A 21) (f 22) a_place))]), (up L [(16, (wr (L 16) (f 22) (g 11)))])) H locs := hM
      refine lv_aload_n B.1 B.2.1 dX12_ask_87 rfl (lv_at hl 0 rfl) ?_
      refine lv_dup B.1 B.2.1 dX12_ask_88 rfl ?_
      refine m_get (k := 22) (v := f 22) B hM (by decide) rfl fl415 dX12_ask_89 rfl ?_
      refine q_con B dX12_ask_92 ?_
      refine q_add B dX12_ask_93 ?_
      refine m_put (k := 22) B hM (by decide) rfl fl415 rfl dX12_ask_94 rfl rfl (show (0 : Int) ≤ (f 22) + 1 from by first | omega | (simp only [wr_at]; omega)) (show (f 22) + 1 ≤ (1600 : Int) from by first | omega | (simp only [wr_at]; omega)) (u1_up f [(8, f 8), (9, f 9), (7, f 7), (10, f 10), (5, x23), (6, x24), (22, f 22)] 22 ((f 22) + 1)) (fun H locs hM => ?_)
      replace hM : MWd D dA h0 ad (mF dA h0 ad (f, g, A, L) s.heap.size) s.heap ((up f [(8, f 8), (9, f 9), (7, f 7), (10, f 10), (5, x23), (6, x24), (22, (f 22) + 1)]), (up g [(11, g 11)]), (up A [(17, (wr (A 17) (f 22) (f 8))), (18, (wr (A 18) (f 22) a_sort)), (19, (wr (A 19) (f 22) a_below)), (20, (wr (A 20) (f 22) a_row)), (21, (wr (A 21) (f 22) a_place))]), (up L [(16, (wr (L 16) (f 22) (g 11)))])) H locs := hM
      refine lv_aload_n B.1 B.2.1 dX12_ask_97 rfl (lv_at hl 0 rfl) ?_
      refine m_callv (n := 0) (rest := []) B hM hA hl.1 (k_next l D dA h0 ad (up f [(8, f 8), (9, f 9), (7, f 7), (10, f 10), (5, x23), (6, x24), (22, (f 22) + 1)]) (up g [(11, g 11)]) (up A [(17, (wr (A 17) (f 22) (f 8))), (18, (wr (A 18) (f 22) a_sort)), (19, (wr (A 19) (f 22) a_below)), (20, (wr (A 20) (f 22) a_row)), (21, (wr (A 21) (f 22) a_place))]) (up L [(16, (wr (L 16) (f 22) (g 11)))])   (show (f 9) ≤ 3001 from by first | omega | (simp only [wr_at]; omega) | assumption)) rfl ok_next nm_next ⟨rfl, rfl⟩ ⟨Nat.le_of_ble_eq_true rfl, Nat.le_of_ble_eq_true rfl⟩ dX12_ask_98 rfl rfl (Nat.le_of_ble_eq_true rfl) ⟨Nat.zero_le _, Nat.zero_le _⟩ (fun σr30 H locs hp31 hM => ?_)
      obtain ⟨x32, x33, x34, x35, w36, rfl, hp31⟩ := hp31
      replace hp31 : ((f 9) ≤ (x32) ∨ (x32) = (f 4)) ∧ (0 ≤ (x32) ∧ (x32) ≤ (f 4) ∧ (x32) ≤ (x33) ∧ (x33) ≤ (f 4) + 1 ∧ ((x34) = 0 ↔ (x32) = (f 4)) ∧ (2 ≤ (x34) → (x32) < (x33) ∧ (x33) ≤ (f 4)) ∧ ((x34) = 5 → (x32) + 2 ≤ (x33) ∧ (x33) ≤ (x32) + 32)) := hp31
      obtain ⟨hp31_0, hp31_1⟩ := hp31
      simp only [up_up] at hM
      replace hM : MWd D dA h0 ad (mF dA h0 ad (f, g, A, L) s.heap.size) s.heap ((up f [(8, x32), (9, x33), (7, x34), (10, x35), (5, x23), (6, x24), (22, (f 22) + 1)]), (up g [(11, w36)]), (up A [(17, (wr (A 17) (f 22) (f 8))), (18, (wr (A 18) (f 22) a_sort)), (19, (wr (A 19) (f 22) a_below)), (20, (wr (A 20) (f 22) a_row)), (21, (wr (A 21) (f 22) a_place))]), (up L [(16, (wr (L 16) (f 22) (g 11)))])) H locs := hM
      have r37 : (0 : Int) ≤ x32 ∧ x32 ≤ 3001 := hM.2.2.2.1 8
      have r38 : (0 : Int) ≤ x33 ∧ x33 ≤ 3002 := hM.2.2.2.1 9
      have r39 : (0 : Int) ≤ x34 ∧ x34 ≤ 6 := hM.2.2.2.1 7
      have r40 : (-2147483648 : Int) ≤ x35 ∧ x35 ≤ 2147483647 := hM.2.2.2.1 10
      subst hPST
      exact m_vret B hM dX12_ask_101 ⟨x32, x33, x34, x35, x23, x24, ((f 22) + 1), w36, ((wr (A 17) (f 22) (f 8))), ((wr (A 18) (f 22) a_sort)), ((wr (A 19) (f 22) a_below)), ((wr (A 20) (f 22) a_row)), ((wr (A 21) (f 22) a_place)), ((wr (L 16) (f 22) (g 11))), rfl, by (first | exact ⟨by omega, by omega, by omega, by omega, by omega, p_11, APe_rfl⟩ | exact ⟨by omega, by omega, fun hfk => ⟨by omega, by omega, by omega, by omega, wr_at _ _ _, wr_at _ _ _⟩, by omega, by omega, AIp_push p_11 (by omega) (by omega), APe_push (by omega)⟩)⟩
    · subst hPST
      exact m_vret B hM dX12_ask_19 ⟨(f 8), (f 9), (f 7), (f 10), x23, x24, (f 22), (g 11), ((A 17)), ((A 18)), ((A 19)), ((A 20)), ((A 21)), ((L 16)), rfl, by (first | exact ⟨by omega, by omega, by omega, by omega, by omega, p_11, APe_rfl⟩ | exact ⟨by omega, by omega, fun hfk => ⟨by omega, by omega, by omega, by omega, wr_at _ _ _, wr_at _ _ _⟩, by omega, by omega, AIp_push p_11 (by omega) (by omega), APe_push (by omega)⟩)⟩
