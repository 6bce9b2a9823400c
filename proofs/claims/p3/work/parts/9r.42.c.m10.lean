set_option maxHeartbeats 200000000 in
set_option maxRecDepth 20000 in
theorem k_ownOf (l : Launch) (D : va_G) (dA : Nat → ClassId) (h0 : Nat) (ad : Nat → Nat) (f : Nat → Int) (g : Nat → Int64) (A : Nat → Nat → Int) (L : Nat → Nat → Int64) (a_r : Int) (a_v : Int) (a_o : Int) (i_r : (-2147483648 : Int) ≤ a_r ∧ a_r ≤ 2147483647) (i_v : (-2147483648 : Int) ≤ a_v ∧ a_v ≤ 2147483647) (i_o : (-2147483648 : Int) ≤ a_o ∧ a_o ≤ 2147483647) (p_0 : 0 ≤ (a_r)) (p_1 : (a_r) < (f 58)) (p_2 : RWp 0 (f 3) (f 58) 1500 (A 26) (A 27) (A 28) (A 29) (A 30)) (p_3 : 0 ≤ (a_o)) (p_4 : (a_o) < 8640) : MCi l yX12_ownOf cX12_ownOf 4 (some .int) ({ frames := 2, cells := 0, slots := 0, locals := 51 }) D dA h0 ad (f, g, A, L) [.int (II a_r), .int (II a_v), .int (II a_o)] (fun (r : Int) (σ : MS) => ∃ n98 : Int, ∃ b96 : Nat → Int, σ = ((up f [(98, n98)]), g, (up A [(96, b96)]), L) ∧ (True)) := by
  generalize hPST : (fun (r : Int) (σ : MS) => ∃ n98 : Int, ∃ b96 : Nat → Int, σ = ((up f [(98, n98)]), g, (up A [(96, b96)]), L) ∧ (True)) = PST
  refine m_enter (by decide) rfl (Nat.le_of_ble_eq_true rfl) (fun p e s m args below meth c ls B hM hl => ?_)
  have hA : ∀ q, s.heap.size ≤ q → mF dA h0 ad (f, g, A, L) s.heap.size q := fun q h => Or.inr h
  have hM : MWd D dA h0 ad (mF dA h0 ad (f, g, A, L) s.heap.size) s.heap ((up f [(98, f 98)]), g, (up A [(96, (A 96))]), L) s.heap [] := MW_pad hM (up_self f [98]) rfl (up_self A [96]) rfl
  have hl : lv_has ls 4 [(0, .ref h0), (1, .int (II a_r)), (2, .int (II a_v)), (3, .int (II a_o))] := hl
  have r1 : (0 : Int) ≤ f 3 ∧ f 3 ≤ 1 := hM.2.2.2.1 3
  have r2 : (0 : Int) ≤ f 58 ∧ f 58 ≤ 16 := hM.2.2.2.1 58
  refine lv_aload_n B.1 B.2.1 dX12_ownOf_0 rfl (lv_at hl 0 rfl) ?_
  refine lv_aload_n B.1 B.2.1 dX12_ownOf_1 rfl (lv_at hl 0 rfl) ?_
  refine m_geta (k := 28) B hM (by decide) rfl fl178 dX12_ownOf_2 ?_
  refine q_bip B dX12_ownOf_5 (by decide) ?_
  refine lv_aload_n B.1 B.2.1 dX12_ownOf_7 rfl (lv_at hl 0 rfl) ?_
  refine m_get (k := 3) (v := f 3) B hM (by decide) rfl fl11 dX12_ownOf_8 rfl ?_
  refine q_mul B dX12_ownOf_11 ?_
  refine lv_iload_n B.1 B.2.1 dX12_ownOf_12 rfl (lv_at hl 1 rfl) ?_
  refine q_add B dX12_ownOf_13 ?_
  refine m_ild (k := 28) (i := 16) (n := 32) (z := (16 * (f 3)) + a_r) (v := (A 28) ((16 * (f 3)) + a_r).toNat) B hM rfl rfl rfl (by decide) dX12_ownOf_14 (by omega) (by omega) rfl ?_
  have r3 : (0 : Int) ≤ (A 28) ((16 * (f 3)) + a_r).toNat ∧ (A 28) ((16 * (f 3)) + a_r).toNat ≤ 1500 := hM.2.2.2.2 28 ((16 * (f 3)) + a_r).toNat
  refine lv_aload_n B.1 B.2.1 dX12_ownOf_15 rfl (lv_at hl 0 rfl) ?_
  refine m_geta (k := 29) B hM (by decide) rfl fl181 dX12_ownOf_16 ?_
  refine q_bip B dX12_ownOf_19 (by decide) ?_
  refine lv_aload_n B.1 B.2.1 dX12_ownOf_21 rfl (lv_at hl 0 rfl) ?_
  refine m_get (k := 3) (v := f 3) B hM (by decide) rfl fl11 dX12_ownOf_22 rfl ?_
  refine q_mul B dX12_ownOf_25 ?_
  refine lv_iload_n B.1 B.2.1 dX12_ownOf_26 rfl (lv_at hl 1 rfl) ?_
  refine q_add B dX12_ownOf_27 ?_
  refine m_ild (k := 29) (i := 17) (n := 32) (z := (16 * (f 3)) + a_r) (v := (A 29) ((16 * (f 3)) + a_r).toNat) B hM rfl rfl rfl (by decide) dX12_ownOf_28 (by omega) (by omega) rfl ?_
  have r4 : (0 : Int) ≤ (A 29) ((16 * (f 3)) + a_r).toNat ∧ (A 29) ((16 * (f 3)) + a_r).toNat ≤ 40 := hM.2.2.2.2 29 ((16 * (f 3)) + a_r).toNat
  refine lv_iload_n B.1 B.2.1 dX12_ownOf_29 rfl (lv_at hl 2 rfl) ?_
  refine lv_aload_n B.1 B.2.1 dX12_ownOf_30 rfl (lv_at hl 0 rfl) ?_
  refine m_geta (k := 71) B hM (by decide) rfl fl284 dX12_ownOf_31 ?_
  refine lv_iload_n B.1 B.2.1 dX12_ownOf_34 rfl (lv_at hl 3 rfl) ?_
  refine m_ild (k := 71) (i := 51) (n := 12960) (z := a_o) (v := (A 71) a_o.toNat) B hM rfl rfl rfl (by decide) dX12_ownOf_35 (by omega) (by omega) rfl ?_
  have r5 : (0 : Int) ≤ (A 71) a_o.toNat ∧ (A 71) a_o.toNat ≤ 4 := hM.2.2.2.2 71 a_o.toNat
  refine q_ile (tgt := 50) B dX12_ownOf_36 (by decide) (by unfold inr; omega) (fun c6 => ?_) (fun c6 => ?_)
  · refine q_con B dX12_ownOf_50 ?_
    refine lv_aload_n B.1 B.2.1 dX12_ownOf_51 rfl (lv_at hl 0 rfl) ?_
    refine m_geta (k := 71) B hM (by decide) rfl fl284 dX12_ownOf_52 ?_
    refine lv_iload_n B.1 B.2.1 dX12_ownOf_55 rfl (lv_at hl 3 rfl) ?_
    refine m_ild (k := 71) (i := 51) (n := 12960) (z := a_o) (v := (A 71) a_o.toNat) B hM rfl rfl rfl (by decide) dX12_ownOf_56 (by omega) (by omega) rfl ?_
    refine q_con B dX12_ownOf_57 ?_
    refine q_cle (tgt := 74) B dX12_ownOf_58 (by decide) (by unfold inr; omega) (by unfold inr; omega) (fun c7 => ?_) (fun c7 => ?_)
    · refine q_con B dX12_ownOf_74 ?_
      have hsg := (p_2 rfl ((a_r)) (by omega) (by omega)).2
      have hv8 : ((-2147483648 : Int) ≤ (A 28) ((16 * (f 3)) + a_r).toNat ∧ ((A 28) ((16 * (f 3)) + a_r).toNat : Int) ≤ 2147483647) ∧ ((-2147483648 : Int) ≤ (A 29) ((16 * (f 3)) + a_r).toNat ∧ ((A 29) ((16 * (f 3)) + a_r).toNat : Int) ≤ 2147483647) ∧ ((-2147483648 : Int) ≤ a_v ∧ (a_v : Int) ≤ 2147483647) ∧ ((-2147483648 : Int) ≤ 0 ∧ (0 : Int) ≤ 2147483647) ∧ ((-2147483648 : Int) ≤ 0 ∧ (0 : Int) ≤ 2147483647) := by first | omega | (simp only [wr_at] <;> omega) | exact ⟨by first | omega | (simp only [wr_at] <;> omega) | assumption | (intro _; exact wr_at _ _ _), by first | omega | (simp only [wr_at] <;> omega) | assumption | (intro _; exact wr_at _ _ _), by first | omega | (simp only [wr_at] <;> omega) | assumption | (intro _; exact wr_at _ _ _), by first | omega | (simp only [wr_at] <;> omega) | assumption | (intro _; exact wr_at _ _ _), by first | omega | (simp only [wr_at] <;> omega) | assumption | (intro _; exact wr_at _ _ _)⟩
      refine m_calli (n := 5) (rest := []) B hM hA hl.1 (k_work l D dA h0 ad (up f [(98, f 98)]) g (up A [(96, (A 96))]) L ((A 28) ((16 * (f 3)) + a_r).toNat) ((A 29) ((16 * (f 3)) + a_r).toNat) a_v 0 0 hv8.1 hv8.2.1 hv8.2.2.1 hv8.2.2.2.1 hv8.2.2.2.2 (show SegP 0 (f 3) 1500 (A 30) ((A 28) ((16 * (f 3)) + a_r).toNat) ((A 29) ((16 * (f 3)) + a_r).toNat) from by first | assumption | exact SegP_same (by assumption) (by omega) (by omega) (by omega) | exact SegP_mono (by assumption) (by assumption) (by omega) (by omega) (by omega) | exact SegP_bad (by omega) | (simp only [wr_at]; first | exact SegP_0 rfl (by omega) (by omega) | exact SegP_eq (by assumption) (by omega) (by omega) | exact SegP_eq (SegP_same (by assumption) (by omega) (by omega) (by omega)) (by omega) (by omega) | exact SegP_bad (by omega)))) rfl ok_work nm_work ⟨rfl, rfl⟩ ⟨Nat.le_of_ble_eq_true rfl, Nat.le_of_ble_eq_true rfl⟩ dX12_ownOf_75 rfl rfl (Nat.le_of_ble_eq_true rfl) ⟨Nat.zero_le _, Nat.zero_le _⟩ (fun r9 σr9 H locs ir9 hp10 hM => ?_)
      obtain ⟨x11, b12, rfl, hp10⟩ := hp10
      unfold inr at ir9
      replace hp10 : True := hp10
      replace hM := MW_uF hM rfl
      replace hM := MW_uA hM rfl
      replace hM : MWd D dA h0 ad (mF dA h0 ad (f, g, A, L) s.heap.size) s.heap ((up f [(98, x11)]), g, (up A [(96, b12)]), L) H locs := hM
      have r13 : (0 : Int) ≤ x11 ∧ x11 ≤ 1 := hM.2.2.2.1 98
      subst hPST
      exact m_iret B hM dX12_ownOf_78 (by unfold inr; omega) ⟨x11, b12, rfl, by trivial⟩
    · refine lv_aload_n B.1 B.2.1 dX12_ownOf_61 rfl (lv_at hl 0 rfl) ?_
      refine m_geta (k := 72) B hM (by decide) rfl fl288 dX12_ownOf_62 ?_
      refine q_con B dX12_ownOf_65 ?_
      refine lv_iload_n B.1 B.2.1 dX12_ownOf_66 rfl (lv_at hl 3 rfl) ?_
      refine q_mul B dX12_ownOf_67 ?_
      refine q_con B dX12_ownOf_68 ?_
      refine q_add B dX12_ownOf_69 ?_
      refine m_ild (k := 72) (i := 52) (n := 51840) (z := (4 * a_o) + 1) (v := (A 72) ((4 * a_o) + 1).toNat) B hM rfl rfl rfl (by decide) dX12_ownOf_70 (by omega) (by omega) rfl ?_
      have r14 : (-2147483648 : Int) ≤ (A 72) ((4 * a_o) + 1).toNat ∧ (A 72) ((4 * a_o) + 1).toNat ≤ 2147483647 := hM.2.2.2.2 72 ((4 * a_o) + 1).toNat
      refine lv_goto (tgt := 75) B.1 B.2.1 dX12_ownOf_71 (by decide) ?_
      have hsg := (p_2 rfl ((a_r)) (by omega) (by omega)).2
      have hv15 : ((-2147483648 : Int) ≤ (A 28) ((16 * (f 3)) + a_r).toNat ∧ ((A 28) ((16 * (f 3)) + a_r).toNat : Int) ≤ 2147483647) ∧ ((-2147483648 : Int) ≤ (A 29) ((16 * (f 3)) + a_r).toNat ∧ ((A 29) ((16 * (f 3)) + a_r).toNat : Int) ≤ 2147483647) ∧ ((-2147483648 : Int) ≤ a_v ∧ (a_v : Int) ≤ 2147483647) ∧ ((-2147483648 : Int) ≤ 0 ∧ (0 : Int) ≤ 2147483647) ∧ ((-2147483648 : Int) ≤ (A 72) ((4 * a_o) + 1).toNat ∧ ((A 72) ((4 * a_o) + 1).toNat : Int) ≤ 2147483647) := by first | omega | (simp only [wr_at] <;> omega) | exact ⟨by first | omega | (simp only [wr_at] <;> omega) | assumption | (intro _; exact wr_at _ _ _), by first | omega | (simp only [wr_at] <;> omega) | assumption | (intro _; exact wr_at _ _ _), by first | omega | (simp only [wr_at] <;> omega) | assumption | (intro _; exact wr_at _ _ _), by first | omega | (simp only [wr_at] <;> omega) | assumption | (intro _; exact wr_at _ _ _), by first | omega | (simp only [wr_at] <;> omega) | assumption | (intro _; exact wr_at _ _ _)⟩
      refine m_calli (n := 5) (rest := []) B hM hA hl.1 (k_work l D dA h0 ad (up f [(98, f 98)]) g (up A [(96, (A 96))]) L ((A 28) ((16 * (f 3)) + a_r).toNat) ((A 29) ((16 * (f 3)) + a_r).toNat) a_v 0 ((A 72) ((4 * a_o) + 1).toNat) hv15.1 hv15.2.1 hv15.2.2.1 hv15.2.2.2.1 hv15.2.2.2.2 (show SegP 0 (f 3) 1500 (A 30) ((A 28) ((16 * (f 3)) + a_r).toNat) ((A 29) ((16 * (f 3)) + a_r).toNat) from by first | assumption | exact SegP_same (by assumption) (by omega) (by omega) (by omega) | exact SegP_mono (by assumption) (by assumption) (by omega) (by omega) (by omega) | exact SegP_bad (by omega) | (simp only [wr_at]; first | exact SegP_0 rfl (by omega) (by omega) | exact SegP_eq (by assumption) (by omega) (by omega) | exact SegP_eq (SegP_same (by assumption) (by omega) (by omega) (by omega)) (by omega) (by omega) | exact SegP_bad (by omega)))) rfl ok_work nm_work ⟨rfl, rfl⟩ ⟨Nat.le_of_ble_eq_true rfl, Nat.le_of_ble_eq_true rfl⟩ dX12_ownOf_75 rfl rfl (Nat.le_of_ble_eq_true rfl) ⟨Nat.zero_le _, Nat.zero_le _⟩ (fun r16 σr16 H locs ir16 hp17 hM => ?_)
      obtain ⟨x18, b19, rfl, hp17⟩ := hp17
      unfold inr at ir16
      replace hp17 : True := hp17
      replace hM := MW_uF hM rfl
      replace hM := MW_uA hM rfl
      replace hM : MWd D dA h0 ad (mF dA h0 ad (f, g, A, L) s.heap.size) s.heap ((up f [(98, x18)]), g, (up A [(96, b19)]), L) H locs := hM
      have r20 : (0 : Int) ≤ x18 ∧ x18 ≤ 1 := hM.2.2.2.1 98
      subst hPST
      exact m_iret B hM dX12_ownOf_78 (by unfold inr; omega) ⟨x18, b19, rfl, by trivial⟩
  · refine lv_aload_n B.1 B.2.1 dX12_ownOf_39 rfl (lv_at hl 0 rfl) ?_
    refine m_geta (k := 72) B hM (by decide) rfl fl288 dX12_ownOf_40 ?_
    refine q_con B dX12_ownOf_43 ?_
    refine lv_iload_n B.1 B.2.1 dX12_ownOf_44 rfl (lv_at hl 3 rfl) ?_
    refine q_mul B dX12_ownOf_45 ?_
    refine m_ild (k := 72) (i := 52) (n := 51840) (z := 4 * a_o) (v := (A 72) (4 * a_o).toNat) B hM rfl rfl rfl (by decide) dX12_ownOf_46 (by omega) (by omega) rfl ?_
    have r21 : (-2147483648 : Int) ≤ (A 72) (4 * a_o).toNat ∧ (A 72) (4 * a_o).toNat ≤ 2147483647 := hM.2.2.2.2 72 (4 * a_o).toNat
    refine lv_goto (tgt := 51) B.1 B.2.1 dX12_ownOf_47 (by decide) ?_
    refine lv_aload_n B.1 B.2.1 dX12_ownOf_51 rfl (lv_at hl 0 rfl) ?_
    refine m_geta (k := 71) B hM (by decide) rfl fl284 dX12_ownOf_52 ?_
    refine lv_iload_n B.1 B.2.1 dX12_ownOf_55 rfl (lv_at hl 3 rfl) ?_
    refine m_ild (k := 71) (i := 51) (n := 12960) (z := a_o) (v := (A 71) a_o.toNat) B hM rfl rfl rfl (by decide) dX12_ownOf_56 (by omega) (by omega) rfl ?_
    refine q_con B dX12_ownOf_57 ?_
    refine q_cle (tgt := 74) B dX12_ownOf_58 (by decide) (by unfold inr; omega) (by unfold inr; omega) (fun c22 => ?_) (fun c22 => ?_)
    · refine q_con B dX12_ownOf_74 ?_
      have hsg := (p_2 rfl ((a_r)) (by omega) (by omega)).2
      have hv23 : ((-2147483648 : Int) ≤ (A 28) ((16 * (f 3)) + a_r).toNat ∧ ((A 28) ((16 * (f 3)) + a_r).toNat : Int) ≤ 2147483647) ∧ ((-2147483648 : Int) ≤ (A 29) ((16 * (f 3)) + a_r).toNat ∧ ((A 29) ((16 * (f 3)) + a_r).toNat : Int) ≤ 2147483647) ∧ ((-2147483648 : Int) ≤ a_v ∧ (a_v : Int) ≤ 2147483647) ∧ ((-2147483648 : Int) ≤ (A 72) (4 * a_o).toNat ∧ ((A 72) (4 * a_o).toNat : Int) ≤ 2147483647) ∧ ((-2147483648 : Int) ≤ 0 ∧ (0 : Int) ≤ 2147483647) := by first | omega | (simp only [wr_at] <;> omega) | exact ⟨by first | omega | (simp only [wr_at] <;> omega) | assumption | (intro _; exact wr_at _ _ _), by first | omega | (simp only [wr_at] <;> omega) | assumption | (intro _; exact wr_at _ _ _), by first | omega | (simp only [wr_at] <;> omega) | assumption | (intro _; exact wr_at _ _ _), by first | omega | (simp only [wr_at] <;> omega) | assumption | (intro _; exact wr_at _ _ _), by first | omega | (simp only [wr_at] <;> omega) | assumption | (intro _; exact wr_at _ _ _)⟩
      refine m_calli (n := 5) (rest := []) B hM hA hl.1 (k_work l D dA h0 ad (up f [(98, f 98)]) g (up A [(96, (A 96))]) L ((A 28) ((16 * (f 3)) + a_r).toNat) ((A 29) ((16 * (f 3)) + a_r).toNat) a_v ((A 72) (4 * a_o).toNat) 0 hv23.1 hv23.2.1 hv23.2.2.1 hv23.2.2.2.1 hv23.2.2.2.2 (show SegP 0 (f 3) 1500 (A 30) ((A 28) ((16 * (f 3)) + a_r).toNat) ((A 29) ((16 * (f 3)) + a_r).toNat) from by first | assumption | exact SegP_same (by assumption) (by omega) (by omega) (by omega) | exact SegP_mono (by assumption) (by assumption) (by omega) (by omega) (by omega) | exact SegP_bad (by omega) | (simp only [wr_at]; first | exact SegP_0 rfl (by omega) (by omega) | exact SegP_eq (by assumption) (by omega) (by omega) | exact SegP_eq (SegP_same (by assumption) (by omega) (by omega) (by omega)) (by omega) (by omega) | exact SegP_bad (by omega)))) rfl ok_work nm_work ⟨rfl, rfl⟩ ⟨Nat.le_of_ble_eq_true rfl, Nat.le_of_ble_eq_true rfl⟩ dX12_ownOf_75 rfl rfl (Nat.le_of_ble_eq_true rfl) ⟨Nat.zero_le _, Nat.zero_le _⟩ (fun r24 σr24 H locs ir24 hp25 hM => ?_)
      obtain ⟨x26, b27, rfl, hp25⟩ := hp25
      unfold inr at ir24
      replace hp25 : True := hp25
      replace hM := MW_uF hM rfl
      replace hM := MW_uA hM rfl
      replace hM : MWd D dA h0 ad (mF dA h0 ad (f, g, A, L) s.heap.size) s.heap ((up f [(98, x26)]), g, (up A [(96, b27)]), L) H locs := hM
      have r28 : (0 : Int) ≤ x26 ∧ x26 ≤ 1 := hM.2.2.2.1 98
      subst hPST
      exact m_iret B hM dX12_ownOf_78 (by unfold inr; omega) ⟨x26, b27, rfl, by trivial⟩
    · refine lv_aload_n B.1 B.2.1 dX12_ownOf_61 rfl (lv_at hl 0 rfl) ?_
      refine m_geta (k := 72) B hM (by decide) rfl fl288 dX12_ownOf_62 ?_
      refine q_con B dX12_ownOf_65 ?_
      refine lv_iload_n B.1 B.2.1 dX12_ownOf_66 rfl (lv_at hl 3 rfl) ?_
      refine q_mul B dX12_ownOf_67 ?_
      refine q_con B dX12_ownOf_68 ?_
      refine q_add B dX12_ownOf_69 ?_
      refine m_ild (k := 72) (i := 52) (n := 51840) (z := (4 * a_o) + 1) (v := (A 72) ((4 * a_o) + 1).toNat) B hM rfl rfl rfl (by decide) dX12_ownOf_70 (by omega) (by omega) rfl ?_
      have r29 : (-2147483648 : Int) ≤ (A 72) ((4 * a_o) + 1).toNat ∧ (A 72) ((4 * a_o) + 1).toNat ≤ 2147483647 := hM.2.2.2.2 72 ((4 * a_o) + 1).toNat
      refine lv_goto (tgt := 75) B.1 B.2.1 dX12_ownOf_71 (by decide) ?_
      have hsg := (p_2 rfl ((a_r)) (by omega) (by omega)).2
      have hv30 : ((-2147483648 : Int) ≤ (A 28) ((16 * (f 3)) + a_r).toNat ∧ ((A 28) ((16 * (f 3)) + a_r).toNat : Int) ≤ 2147483647) ∧ ((-2147483648 : Int) ≤ (A 29) ((16 * (f 3)) + a_r).toNat ∧ ((A 29) ((16 * (f 3)) + a_r).toNat : Int) ≤ 2147483647) ∧ ((-2147483648 : Int) ≤ a_v ∧ (a_v : Int) ≤ 2147483647) ∧ ((-2147483648 : Int) ≤ (A 72) (4 * a_o).toNat ∧ ((A 72) (4 * a_o).toNat : Int) ≤ 2147483647) ∧ ((-2147483648 : Int) ≤ (A 72) ((4 * a_o) + 1).toNat ∧ ((A 72) ((4 * a_o) + 1).toNat : Int) ≤ 2147483647) := by first | omega | (simp only [wr_at] <;> omega) | exact ⟨by first | omega | (simp only [wr_at] <;> omega) | assumption | (intro _; exact wr_at _ _ _), by first | omega | (simp only [wr_at] <;> omega) | assumption | (intro _; exact wr_at _ _ _), by first | omega | (simp only [wr_at] <;> omega) | assumption | (intro _; exact wr_at _ _ _), by first | omega | (simp only [wr_at] <;> omega) | assumption | (intro _; exact wr_at _ _ _), by first | omega | (simp only [wr_at] <;> omega) | assumption | (intro _; exact wr_at _ _ _)⟩
      refine m_calli (n := 5) (rest := []) B hM hA hl.1 (k_work l D dA h0 ad (up f [(98, f 98)]) g (up A [(96, (A 96))]) L ((A 28) ((16 * (f 3)) + a_r).toNat) ((A 29) ((16 * (f 3)) + a_r).toNat) a_v ((A 72) (4 * a_o).toNat) ((A 72) ((4 * a_o) + 1).toNat) hv30.1 hv30.2.1 hv30.2.2.1 hv30.2.2.2.1 hv30.2.2.2.2 (show SegP 0 (f 3) 1500 (A 30) ((A 28) ((16 * (f 3)) + a_r).toNat) ((A 29) ((16 * (f 3)) + a_r).toNat) from by first | assumption | exact SegP_same (by assumption) (by omega) (by omega) (by omega) | exact SegP_mono (by assumption) (by assumption) (by omega) (by omega) (by omega) | exact SegP_bad (by omega) | (simp only [wr_at]; first | exact SegP_0 rfl (by omega) (by omega) | exact SegP_eq (by assumption) (by omega) (by omega) | exact SegP_eq (SegP_same (by assumption) (by omega) (by omega) (by omega)) (by omega) (by omega) | exact SegP_bad (by omega)))) rfl ok_work nm_work ⟨rfl, rfl⟩ ⟨Nat.le_of_ble_eq_true rfl, Nat.le_of_ble_eq_true rfl⟩ dX12_ownOf_75 rfl rfl (Nat.le_of_ble_eq_true rfl) ⟨Nat.zero_le _, Nat.zero_le _⟩ (fun r31 σr31 H locs ir31 hp32 hM => ?_)
      obtain ⟨x33, b34, rfl, hp32⟩ := hp32
      unfold inr at ir31
      replace hp32 : True := hp32
      replace hM := MW_uF hM rfl
      replace hM := MW_uA hM rfl
      replace hM : MWd D dA h0 ad (mF dA h0 ad (f, g, A, L) s.heap.size) s.heap ((up f [(98, x33)]), g, (up A [(96, b34)]), L) H locs := hM
      have r35 : (0 : Int) ≤ x33 ∧ x33 ≤ 1 := hM.2.2.2.1 98
      subst hPST
      exact m_iret B hM dX12_ownOf_78 (by unfold inr; omega) ⟨x33, b34, rfl, by trivial⟩
set_option maxHeartbeats 200000000 in
set_option maxRecDepth 20000 in
theorem k_starts (l : Launch) (D : va_G) (dA : Nat → ClassId) (h0 : Nat) (ad : Nat → Nat) (f : Nat → Int) (g : Nat → Int64) (A : Nat → Nat → Int) (L : Nat → Nat → Int64) (a_r : Int) (i_r : (-2147483648 : Int) ≤ a_r ∧ a_r ≤ 2147483647) (p_0 : 0 ≤ (a_r)) (p_1 : (a_r) < (f 58)) (p_2 : RWp 0 (f 3) (f 58) 1500 (A 26) (A 27) (A 28) (A 29) (A 30)) (p_3 : FIp (f 97) (A 91)) : MCi l yX12_starts cX12_starts 4 (some .boolean) ({ frames := 2, cells := 0, slots := 0, locals := 51 }) D dA h0 ad (f, g, A, L) [.int (II a_r)] (fun (r : Int) (σ : MS) => ∃ n98 : Int, ∃ n97 : Int, ∃ b96 : Nat → Int, ∃ b91 : Nat → Int, ∃ b94 : Nat → Int, ∃ b95 : Nat → Int, σ = ((up f [(98, n98), (97, n97)]), g, (up A [(96, b96), (91, b91), (94, b94), (95, b95)]), L) ∧ (0 ≤ r ∧ r ≤ 1 ∧ (r = 1 → b91 ((a_r)).toNat = 1) ∧ FIp (n97) b91)) := by
  generalize hPST : (fun (r : Int) (σ : MS) => ∃ n98 : Int, ∃ n97 : Int, ∃ b96 : Nat → Int, ∃ b91 : Nat → Int, ∃ b94 : Nat → Int, ∃ b95 : Nat → Int, σ = ((up f [(98, n98), (97, n97)]), g, (up A [(96, b96), (91, b91), (94, b94), (95, b95)]), L) ∧ (0 ≤ r ∧ r ≤ 1 ∧ (r = 1 → b91 ((a_r)).toNat = 1) ∧ FIp (n97) b91)) = PST
  refine m_enter (by decide) rfl (Nat.le_of_ble_eq_true rfl) (fun p e s m args below meth c ls B hM hl => ?_)
  have hA : ∀ q, s.heap.size ≤ q → mF dA h0 ad (f, g, A, L) s.heap.size q := fun q h => Or.inr h
  have hM : MWd D dA h0 ad (mF dA h0 ad (f, g, A, L) s.heap.size) s.heap ((up f [(98, f 98), (97, f 97)]), g, (up A [(96, (A 96)), (91, (A 91)), (94, (A 94)), (95, (A 95))]), L) s.heap [] := MW_pad hM (up_self f [98, 97]) rfl (up_self A [96, 91, 94, 95]) rfl
  have hl : lv_has ls 4 [(0, .ref h0), (1, .int (II a_r))] := hl
  have r1 : (0 : Int) ≤ f 3 ∧ f 3 ≤ 1 := hM.2.2.2.1 3
  have r2 : (0 : Int) ≤ f 58 ∧ f 58 ≤ 16 := hM.2.2.2.1 58
  have r3 : (0 : Int) ≤ f 97 ∧ f 97 ≤ 16 := hM.2.2.2.1 97
  refine lv_aload_n B.1 B.2.1 dX12_starts_0 rfl (lv_at hl 0 rfl) ?_
  refine m_geta (k := 91) B hM (by decide) rfl fl337 dX12_starts_1 ?_
  refine lv_iload_n B.1 B.2.1 dX12_starts_4 rfl (lv_at hl 1 rfl) ?_
  refine m_ild (k := 91) (i := 68) (n := 16) (z := a_r) (v := (A 91) a_r.toNat) B hM rfl rfl rfl (by decide) dX12_starts_5 (by omega) (by omega) rfl ?_
  have r4 : (0 : Int) ≤ (A 91) a_r.toNat ∧ (A 91) a_r.toNat ≤ 2 := hM.2.2.2.2 91 a_r.toNat
  refine q_ile (tgt := 25) B dX12_starts_6 (by decide) (by unfold inr; omega) (fun c5 => ?_) (fun c5 => ?_)
  · refine lv_aload_n B.1 B.2.1 dX12_starts_25 rfl (lv_at hl 0 rfl) ?_
    refine m_geta (k := 27) B hM (by decide) rfl fl175 dX12_starts_26 ?_
    refine q_bip B dX12_starts_29 (by decide) ?_
    refine lv_aload_n B.1 B.2.1 dX12_starts_31 rfl (lv_at hl 0 rfl) ?_
    refine m_get (k := 3) (v := f 3) B hM (by decide) rfl fl11 dX12_starts_32 rfl ?_
    refine q_mul B dX12_starts_35 ?_
    refine lv_iload_n B.1 B.2.1 dX12_starts_36 rfl (lv_at hl 1 rfl) ?_
    refine q_add B dX12_starts_37 ?_
    refine m_ild (k := 27) (i := 15) (n := 32) (z := (16 * (f 3)) + a_r) (v := (A 27) ((16 * (f 3)) + a_r).toNat) B hM rfl rfl rfl (by decide) dX12_starts_38 (by omega) (by omega) rfl ?_
    have r6 : (0 : Int) ≤ (A 27) ((16 * (f 3)) + a_r).toNat ∧ (A 27) ((16 * (f 3)) + a_r).toNat ≤ 40 := hM.2.2.2.2 27 ((16 * (f 3)) + a_r).toNat
    refine q_ine (tgt := 46) B dX12_starts_39 (by decide) (by unfold inr; omega) (fun c7 => ?_) (fun c7 => ?_)
    · refine lv_aload_n B.1 B.2.1 dX12_starts_46 rfl (lv_at hl 0 rfl) ?_
      refine lv_aload_n B.1 B.2.1 dX12_starts_47 rfl (lv_at hl 0 rfl) ?_
      refine m_geta (k := 26) B hM (by decide) rfl fl172 dX12_starts_48 ?_
      refine q_bip B dX12_starts_51 (by decide) ?_
      refine lv_aload_n B.1 B.2.1 dX12_starts_53 rfl (lv_at hl 0 rfl) ?_
      refine m_get (k := 3) (v := f 3) B hM (by decide) rfl fl11 dX12_starts_54 rfl ?_
      refine q_mul B dX12_starts_57 ?_
      refine lv_iload_n B.1 B.2.1 dX12_starts_58 rfl (lv_at hl 1 rfl) ?_
      refine q_add B dX12_starts_59 ?_
      refine m_ild (k := 26) (i := 14) (n := 32) (z := (16 * (f 3)) + a_r) (v := (A 26) ((16 * (f 3)) + a_r).toNat) B hM rfl rfl rfl (by decide) dX12_starts_60 (by omega) (by omega) rfl ?_
      have r8 : (0 : Int) ≤ (A 26) ((16 * (f 3)) + a_r).toNat ∧ (A 26) ((16 * (f 3)) + a_r).toNat ≤ 1500 := hM.2.2.2.2 26 ((16 * (f 3)) + a_r).toNat
      refine lv_aload_n B.1 B.2.1 dX12_starts_61 rfl (lv_at hl 0 rfl) ?_
      refine m_geta (k := 27) B hM (by decide) rfl fl175 dX12_starts_62 ?_
      refine q_bip B dX12_starts_65 (by decide) ?_
      refine lv_aload_n B.1 B.2.1 dX12_starts_67 rfl (lv_at hl 0 rfl) ?_
      refine m_get (k := 3) (v := f 3) B hM (by decide) rfl fl11 dX12_starts_68 rfl ?_
      refine q_mul B dX12_starts_71 ?_
      refine lv_iload_n B.1 B.2.1 dX12_starts_72 rfl (lv_at hl 1 rfl) ?_
      refine q_add B dX12_starts_73 ?_
      refine m_ild (k := 27) (i := 15) (n := 32) (z := (16 * (f 3)) + a_r) (v := (A 27) ((16 * (f 3)) + a_r).toNat) B hM rfl rfl rfl (by decide) dX12_starts_74 (by omega) (by omega) rfl ?_
      refine q_con B dX12_starts_75 ?_
      refine q_con B dX12_starts_76 ?_
      refine q_con B dX12_starts_77 ?_
      have hsg := (p_2 rfl ((a_r)) (by omega) (by omega)).1
      have hv9 : ((-2147483648 : Int) ≤ (A 26) ((16 * (f 3)) + a_r).toNat ∧ ((A 26) ((16 * (f 3)) + a_r).toNat : Int) ≤ 2147483647) ∧ ((-2147483648 : Int) ≤ (A 27) ((16 * (f 3)) + a_r).toNat ∧ ((A 27) ((16 * (f 3)) + a_r).toNat : Int) ≤ 2147483647) ∧ ((-2147483648 : Int) ≤ 0 ∧ (0 : Int) ≤ 2147483647) ∧ ((-2147483648 : Int) ≤ 0 ∧ (0 : Int) ≤ 2147483647) ∧ ((-2147483648 : Int) ≤ 0 ∧ (0 : Int) ≤ 2147483647) := by first | omega | (simp only [wr_at] <;> omega) | exact ⟨by first | omega | (simp only [wr_at] <;> omega) | assumption | (intro _; exact wr_at _ _ _), by first | omega | (simp only [wr_at] <;> omega) | assumption | (intro _; exact wr_at _ _ _), by first | omega | (simp only [wr_at] <;> omega) | assumption | (intro _; exact wr_at _ _ _), by first | omega | (simp only [wr_at] <;> omega) | assumption | (intro _; exact wr_at _ _ _), by first | omega | (simp only [wr_at] <;> omega) | assumption | (intro _; exact wr_at _ _ _)⟩
      refine m_calli (n := 5) (rest := []) B hM hA hl.1 (k_work l D dA h0 ad (up f [(98, f 98), (97, f 97)]) g (up A [(96, (A 96)), (91, (A 91)), (94, (A 94)), (95, (A 95))]) L ((A 26) ((16 * (f 3)) + a_r).toNat) ((A 27) ((16 * (f 3)) + a_r).toNat) 0 0 0 hv9.1 hv9.2.1 hv9.2.2.1 hv9.2.2.2.1 hv9.2.2.2.2 (show SegP 0 (f 3) 1500 (A 30) ((A 26) ((16 * (f 3)) + a_r).toNat) ((A 27) ((16 * (f 3)) + a_r).toNat) from by first | assumption | exact SegP_same (by assumption) (by omega) (by omega) (by omega) | exact SegP_mono (by assumption) (by assumption) (by omega) (by omega) (by omega) | exact SegP_bad (by omega) | (simp only [wr_at]; first | exact SegP_0 rfl (by omega) (by omega) | exact SegP_eq (by assumption) (by omega) (by omega) | exact SegP_eq (SegP_same (by assumption) (by omega) (by omega) (by omega)) (by omega) (by omega) | exact SegP_bad (by omega)))) rfl ok_work nm_work ⟨rfl, rfl⟩ ⟨Nat.le_of_ble_eq_true rfl, Nat.le_of_ble_eq_true rfl⟩ dX12_starts_78 rfl rfl (Nat.le_of_ble_eq_true rfl) ⟨Nat.zero_le _, Nat.zero_le _⟩ (fun r10 σr10 H locs ir10 hp11 hM => ?_)
      obtain ⟨x12, b13, rfl, hp11⟩ := hp11
      unfold inr at ir10
      replace hp11 : True := hp11
      replace hM := MW_uF hM rfl
      replace hM := MW_uA hM rfl
      replace hM : MWd D dA h0 ad (mF dA h0 ad (f, g, A, L) s.heap.size) s.heap ((up f [(98, x12), (97, f 97)]), g, (up A [(96, b13), (91, (A 91)), (94, (A 94)), (95, (A 95))]), L) H locs := hM
      have r14 : (0 : Int) ≤ x12 ∧ x12 ≤ 1 := hM.2.2.2.1 98
      refine lv_istore_n (lv' := [(2, .int (II r10)), (0, .ref h0), (1, .int (II a_r))]) B.1 B.2.1 dX12_starts_81 rfl hl (by decide) rfl (fun ls hl => ?_)
      refine lv_aload_n B.1 B.2.1 dX12_starts_82 rfl (lv_at hl 1 rfl) ?_
      refine m_geta (k := 27) B hM (by decide) rfl fl175 dX12_starts_83 ?_
      refine q_bip B dX12_starts_86 (by decide) ?_
      refine lv_aload_n B.1 B.2.1 dX12_starts_88 rfl (lv_at hl 1 rfl) ?_
      refine m_get (k := 3) (v := f 3) B hM (by decide) rfl fl11 dX12_starts_89 rfl ?_
      refine q_mul B dX12_starts_92 ?_
      refine lv_iload_n B.1 B.2.1 dX12_starts_93 rfl (lv_at hl 2 rfl) ?_
      refine q_add B dX12_starts_94 ?_
      refine m_ild (k := 27) (i := 15) (n := 32) (z := (16 * (f 3)) + a_r) (v := (A 27) ((16 * (f 3)) + a_r).toNat) B hM rfl rfl rfl (by decide) dX12_starts_95 (by omega) (by omega) rfl ?_
      refine q_ile (tgt := 110) B dX12_starts_96 (by decide) (by unfold inr; omega) (fun c15 => ?_) (fun c15 => ?_)
      · refine q_con B dX12_starts_110 ?_
        refine lv_istore_n (lv' := [(3, .int (II 0)), (2, .int (II r10)), (0, .ref h0), (1, .int (II a_r))]) B.1 B.2.1 dX12_starts_111 rfl hl (by decide) rfl (fun ls hl => ?_)
        refine lv_aload_n B.1 B.2.1 dX12_starts_112 rfl (lv_at hl 2 rfl) ?_
        refine m_geta (k := 91) B hM (by decide) rfl fl337 dX12_starts_113 ?_
        refine lv_iload_n B.1 B.2.1 dX12_starts_116 rfl (lv_at hl 3 rfl) ?_
        refine lv_iload_n B.1 B.2.1 dX12_starts_117 rfl (lv_at hl 0 rfl) ?_
        refine q_ine (tgt := 125) B dX12_starts_118 (by decide) (by unfold inr; omega) (fun c16 => absurd c16 (by omega)) (fun _ => ?_)
        refine lv_iload_n B.1 B.2.1 dX12_starts_121 rfl (lv_at hl 1 rfl) ?_
        refine q_ine (tgt := 129) B dX12_starts_122 (by decide) (by unfold inr; omega) (fun c17 => ?_) (fun c17 => ?_)
        · refine q_con B dX12_starts_129 ?_
          refine m_ist (k := 91) (i := 68) (n := 16) B hM rfl rfl rfl (by decide) dX12_starts_130 (by omega) (by omega) (show (0 : Int) ≤ 1 from by first | omega | (simp only [wr_at] <;> omega)) (show 1 ≤ (2 : Int) from by first | omega | (simp only [wr_at] <;> omega)) (u1_up A [(96, b13), (91, (A 91)), (94, (A 94)), (95, (A 95))] 91 (wr (A 91) a_r 1)) (fun H locs hM => ?_)
          replace hM : MWd D dA h0 ad (mF dA h0 ad (f, g, A, L) s.heap.size) s.heap ((up f [(98, x12), (97, f 97)]), g, (up A [(96, b13), (91, (wr (A 91) a_r 1)), (94, (A 94)), (95, (A 95))]), L) H locs := hM
          refine lv_aload_n B.1 B.2.1 dX12_starts_131 rfl (lv_at hl 2 rfl) ?_
          refine m_geta (k := 91) B hM (by decide) rfl fl337 dX12_starts_132 ?_
          refine lv_iload_n B.1 B.2.1 dX12_starts_135 rfl (lv_at hl 3 rfl) ?_
          refine m_ild (k := 91) (i := 68) (n := 16) (z := a_r) (v := 1) B hM rfl rfl rfl (by decide) dX12_starts_136 (by omega) (by omega) (by exact wr_at _ _ _) ?_
          refine q_con B dX12_starts_137 ?_
          refine q_cne (tgt := 143) B dX12_starts_138 (by decide) (by unfold inr; omega) (by unfold inr; omega) (fun c18 => absurd c18 (by omega)) (fun _ => ?_)
          refine q_con B dX12_starts_141 ?_
          subst hPST
          have hv19 : (0 ≤ (1 : Int)) ∧ ((1 : Int) ≤ 1) ∧ (((1 : Int) = 1 → (wr (A 91) a_r 1) ((a_r)).toNat = 1)) := by first | (simp only [wr_at] <;> omega) | omega | exact ⟨by first | omega | (simp only [wr_at] <;> omega) | assumption | (intro _; exact wr_at _ _ _), by first | omega | (simp only [wr_at] <;> omega) | assumption | (intro _; exact wr_at _ _ _), by first | omega | (simp only [wr_at] <;> omega) | assumption | (intro _; exact wr_at _ _ _)⟩
          exact m_zret B hM dX12_starts_142 (by omega) ⟨x12, (f 97), b13, ((wr (A 91) a_r 1)), ((A 94)), ((A 95)), rfl, hv19.1, hv19.2.1, hv19.2.2, (by exact FIp_one p_3 (by omega) (by omega) (by omega))⟩
        · refine q_con B dX12_starts_125 ?_
          refine lv_goto (tgt := 130) B.1 B.2.1 dX12_starts_126 (by decide) ?_
          refine m_ist (k := 91) (i := 68) (n := 16) B hM rfl rfl rfl (by decide) dX12_starts_130 (by omega) (by omega) (show (0 : Int) ≤ 2 from by first | omega | (simp only [wr_at] <;> omega)) (show 2 ≤ (2 : Int) from by first | omega | (simp only [wr_at] <;> omega)) (u1_up A [(96, b13), (91, (A 91)), (94, (A 94)), (95, (A 95))] 91 (wr (A 91) a_r 2)) (fun H locs hM => ?_)
          replace hM : MWd D dA h0 ad (mF dA h0 ad (f, g, A, L) s.heap.size) s.heap ((up f [(98, x12), (97, f 97)]), g, (up A [(96, b13), (91, (wr (A 91) a_r 2)), (94, (A 94)), (95, (A 95))]), L) H locs := hM
          refine lv_aload_n B.1 B.2.1 dX12_starts_131 rfl (lv_at hl 2 rfl) ?_
          refine m_geta (k := 91) B hM (by decide) rfl fl337 dX12_starts_132 ?_
          refine lv_iload_n B.1 B.2.1 dX12_starts_135 rfl (lv_at hl 3 rfl) ?_
          refine m_ild (k := 91) (i := 68) (n := 16) (z := a_r) (v := 2) B hM rfl rfl rfl (by decide) dX12_starts_136 (by omega) (by omega) (by exact wr_at _ _ _) ?_
          refine q_con B dX12_starts_137 ?_
          refine q_cne (tgt := 143) B dX12_starts_138 (by decide) (by unfold inr; omega) (by unfold inr; omega) (fun _ => ?_) (fun c20 => absurd c20 (by omega))
          have hfl := FIp_lt p_3 (by omega) (by omega) (show (A 91) ((a_r)).toNat ≠ 2 from by omega)
          refine lv_aload_n B.1 B.2.1 dX12_starts_143 rfl (lv_at hl 2 rfl) ?_
          refine m_geta (k := 94) B hM (by decide) rfl fl346 dX12_starts_144 ?_
          refine lv_aload_n B.1 B.2.1 dX12_starts_147 rfl (lv_at hl 2 rfl) ?_
          refine m_get (k := 97) (v := f 97) B hM (by decide) rfl fl527 dX12_starts_148 rfl ?_
          refine lv_iload_n B.1 B.2.1 dX12_starts_151 rfl (lv_at hl 3 rfl) ?_
          refine m_ist (k := 94) (i := 71) (n := 16) B hM rfl rfl rfl (by decide) dX12_starts_152 (by omega) (by omega) (show (-2147483648 : Int) ≤ a_r from by first | omega | (simp only [wr_at] <;> omega)) (show a_r ≤ (2147483647 : Int) from by first | omega | (simp only [wr_at] <;> omega)) (u1_up A [(96, b13), (91, (wr (A 91) a_r 2)), (94, (A 94)), (95, (A 95))] 94 (wr (A 94) (f 97) a_r)) (fun H locs hM => ?_)
          replace hM : MWd D dA h0 ad (mF dA h0 ad (f, g, A, L) s.heap.size) s.heap ((up f [(98, x12), (97, f 97)]), g, (up A [(96, b13), (91, (wr (A 91) a_r 2)), (94, (wr (A 94) (f 97) a_r)), (95, (A 95))]), L) H locs := hM
          refine lv_aload_n B.1 B.2.1 dX12_starts_153 rfl (lv_at hl 2 rfl) ?_
          refine m_geta (k := 95) B hM (by decide) rfl fl349 dX12_starts_154 ?_
          refine lv_aload_n B.1 B.2.1 dX12_starts_157 rfl (lv_at hl 2 rfl) ?_
          refine m_get (k := 97) (v := f 97) B hM (by decide) rfl fl527 dX12_starts_158 rfl ?_
          refine lv_iload_n B.1 B.2.1 dX12_starts_161 rfl (lv_at hl 0 rfl) ?_
          refine q_ieq (tgt := 169) B dX12_starts_162 (by decide) (by unfold inr; omega) (fun _ => ?_) (fun c21 => absurd c21 (by omega))
          refine q_con B dX12_starts_169 ?_
          refine m_ist (k := 95) (i := 72) (n := 16) B hM rfl rfl rfl (by decide) dX12_starts_170 (by omega) (by omega) (show (-2147483648 : Int) ≤ 2 from by first | omega | (simp only [wr_at] <;> omega)) (show 2 ≤ (2147483647 : Int) from by first | omega | (simp only [wr_at] <;> omega)) (u1_up A [(96, b13), (91, (wr (A 91) a_r 2)), (94, (wr (A 94) (f 97) a_r)), (95, (A 95))] 95 (wr (A 95) (f 97) 2)) (fun H locs hM => ?_)
          replace hM : MWd D dA h0 ad (mF dA h0 ad (f, g, A, L) s.heap.size) s.heap ((up f [(98, x12), (97, f 97)]), g, (up A [(96, b13), (91, (wr (A 91) a_r 2)), (94, (wr (A 94) (f 97) a_r)), (95, (wr (A 95) (f 97) 2))]), L) H locs := hM
          refine lv_aload_n B.1 B.2.1 dX12_starts_171 rfl (lv_at hl 2 rfl) ?_
          refine lv_dup B.1 B.2.1 dX12_starts_172 rfl ?_
          refine m_get (k := 97) (v := f 97) B hM (by decide) rfl fl527 dX12_starts_173 rfl ?_
          refine q_con B dX12_starts_176 ?_
          refine q_add B dX12_starts_177 ?_
          refine m_put (k := 97) B hM (by decide) rfl fl527 rfl dX12_starts_178 rfl rfl (show (0 : Int) ≤ (f 97) + 1 from by first | omega | (simp only [wr_at] <;> omega)) (show (f 97) + 1 ≤ (16 : Int) from by first | omega | (simp only [wr_at] <;> omega)) (u1_up f [(98, x12), (97, f 97)] 97 ((f 97) + 1)) (fun H locs hM => ?_)
          replace hM : MWd D dA h0 ad (mF dA h0 ad (f, g, A, L) s.heap.size) s.heap ((up f [(98, x12), (97, (f 97) + 1)]), g, (up A [(96, b13), (91, (wr (A 91) a_r 2)), (94, (wr (A 94) (f 97) a_r)), (95, (wr (A 95) (f 97) 2))]), L) H locs := hM
          refine q_con B dX12_starts_181 ?_
          subst hPST
          have hv22 : (0 ≤ (0 : Int)) ∧ ((0 : Int) ≤ 1) ∧ (((0 : Int) = 1 → (wr (A 91) a_r 2) ((a_r)).toNat = 1)) := by first | (simp only [wr_at] <;> omega) | omega | exact ⟨by first | omega | (simp only [wr_at] <;> omega) | assumption | (intro _; exact wr_at _ _ _), by first | omega | (simp only [wr_at] <;> omega) | assumption | (intro _; exact wr_at _ _ _), by first | omega | (simp only [wr_at] <;> omega) | assumption | (intro _; exact wr_at _ _ _)⟩
          exact m_zret B hM dX12_starts_182 (by omega) ⟨x12, ((f 97) + 1), b13, ((wr (A 91) a_r 2)), ((wr (A 94) (f 97) a_r)), ((wr (A 95) (f 97) 2)), rfl, hv22.1, hv22.2.1, hv22.2.2, (by exact FIp_put p_3 (by omega) (by omega) (by omega) (by omega))⟩
      · refine lv_aload_n B.1 B.2.1 dX12_starts_99 rfl (lv_at hl 1 rfl) ?_
        refine m_get (k := 98) (v := x12) B hM (by decide) rfl fl601 dX12_starts_100 rfl ?_
        refine q_ieq (tgt := 110) B dX12_starts_103 (by decide) (by unfold inr; omega) (fun c23 => ?_) (fun c23 => ?_)
        · refine q_con B dX12_starts_110 ?_
          refine lv_istore_n (lv' := [(3, .int (II 0)), (2, .int (II r10)), (0, .ref h0), (1, .int (II a_r))]) B.1 B.2.1 dX12_starts_111 rfl hl (by decide) rfl (fun ls hl => ?_)
          refine lv_aload_n B.1 B.2.1 dX12_starts_112 rfl (lv_at hl 2 rfl) ?_
          refine m_geta (k := 91) B hM (by decide) rfl fl337 dX12_starts_113 ?_
          refine lv_iload_n B.1 B.2.1 dX12_starts_116 rfl (lv_at hl 3 rfl) ?_
          refine lv_iload_n B.1 B.2.1 dX12_starts_117 rfl (lv_at hl 0 rfl) ?_
          refine q_ine (tgt := 125) B dX12_starts_118 (by decide) (by unfold inr; omega) (fun c24 => absurd c24 (by omega)) (fun _ => ?_)
          refine lv_iload_n B.1 B.2.1 dX12_starts_121 rfl (lv_at hl 1 rfl) ?_
          refine q_ine (tgt := 129) B dX12_starts_122 (by decide) (by unfold inr; omega) (fun c25 => ?_) (fun c25 => ?_)
          · refine q_con B dX12_starts_129 ?_
            refine m_ist (k := 91) (i := 68) (n := 16) B hM rfl rfl rfl (by decide) dX12_starts_130 (by omega) (by omega) (show (0 : Int) ≤ 1 from by first | omega | (simp only [wr_at] <;> omega)) (show 1 ≤ (2 : Int) from by first | omega | (simp only [wr_at] <;> omega)) (u1_up A [(96, b13), (91, (A 91)), (94, (A 94)), (95, (A 95))] 91 (wr (A 91) a_r 1)) (fun H locs hM => ?_)
            replace hM : MWd D dA h0 ad (mF dA h0 ad (f, g, A, L) s.heap.size) s.heap ((up f [(98, x12), (97, f 97)]), g, (up A [(96, b13), (91, (wr (A 91) a_r 1)), (94, (A 94)), (95, (A 95))]), L) H locs := hM
            refine lv_aload_n B.1 B.2.1 dX12_starts_131 rfl (lv_at hl 2 rfl) ?_
            refine m_geta (k := 91) B hM (by decide) rfl fl337 dX12_starts_132 ?_
            refine lv_iload_n B.1 B.2.1 dX12_starts_135 rfl (lv_at hl 3 rfl) ?_
            refine m_ild (k := 91) (i := 68) (n := 16) (z := a_r) (v := 1) B hM rfl rfl rfl (by decide) dX12_starts_136 (by omega) (by omega) (by exact wr_at _ _ _) ?_
            refine q_con B dX12_starts_137 ?_
            refine q_cne (tgt := 143) B dX12_starts_138 (by decide) (by unfold inr; omega) (by unfold inr; omega) (fun c26 => absurd c26 (by omega)) (fun _ => ?_)
            refine q_con B dX12_starts_141 ?_
            subst hPST
            have hv27 : (0 ≤ (1 : Int)) ∧ ((1 : Int) ≤ 1) ∧ (((1 : Int) = 1 → (wr (A 91) a_r 1) ((a_r)).toNat = 1)) := by first | (simp only [wr_at] <;> omega) | omega | exact ⟨by first | omega | (simp only [wr_at] <;> omega) | assumption | (intro _; exact wr_at _ _ _), by first | omega | (simp only [wr_at] <;> omega) | assumption | (intro _; exact wr_at _ _ _), by first | omega | (simp only [wr_at] <;> omega) | assumption | (intro _; exact wr_at _ _ _)⟩
            exact m_zret B hM dX12_starts_142 (by omega) ⟨x12, (f 97), b13, ((wr (A 91) a_r 1)), ((A 94)), ((A 95)), rfl, hv27.1, hv27.2.1, hv27.2.2, (by exact FIp_one p_3 (by omega) (by omega) (by omega))⟩
          · refine q_con B dX12_starts_125 ?_
            refine lv_goto (tgt := 130) B.1 B.2.1 dX12_starts_126 (by decide) ?_
            refine m_ist (k := 91) (i := 68) (n := 16) B hM rfl rfl rfl (by decide) dX12_starts_130 (by omega) (by omega) (show (0 : Int) ≤ 2 from by first | omega | (simp only [wr_at] <;> omega)) (show 2 ≤ (2 : Int) from by first | omega | (simp only [wr_at] <;> omega)) (u1_up A [(96, b13), (91, (A 91)), (94, (A 94)), (95, (A 95))] 91 (wr (A 91) a_r 2)) (fun H locs hM => ?_)
            replace hM : MWd D dA h0 ad (mF dA h0 ad (f, g, A, L) s.heap.size) s.heap ((up f [(98, x12), (97, f 97)]), g, (up A [(96, b13), (91, (wr (A 91) a_r 2)), (94, (A 94)), (95, (A 95))]), L) H locs := hM
            refine lv_aload_n B.1 B.2.1 dX12_starts_131 rfl (lv_at hl 2 rfl) ?_
            refine m_geta (k := 91) B hM (by decide) rfl fl337 dX12_starts_132 ?_
            refine lv_iload_n B.1 B.2.1 dX12_starts_135 rfl (lv_at hl 3 rfl) ?_
            refine m_ild (k := 91) (i := 68) (n := 16) (z := a_r) (v := 2) B hM rfl rfl rfl (by decide) dX12_starts_136 (by omega) (by omega) (by exact wr_at _ _ _) ?_
            refine q_con B dX12_starts_137 ?_
            refine q_cne (tgt := 143) B dX12_starts_138 (by decide) (by unfold inr; omega) (by unfold inr; omega) (fun _ => ?_) (fun c28 => absurd c28 (by omega))
            have hfl := FIp_lt p_3 (by omega) (by omega) (show (A 91) ((a_r)).toNat ≠ 2 from by omega)
            refine lv_aload_n B.1 B.2.1 dX12_starts_143 rfl (lv_at hl 2 rfl) ?_
            refine m_geta (k := 94) B hM (by decide) rfl fl346 dX12_starts_144 ?_
            refine lv_aload_n B.1 B.2.1 dX12_starts_147 rfl (lv_at hl 2 rfl) ?_
            refine m_get (k := 97) (v := f 97) B hM (by decide) rfl fl527 dX12_starts_148 rfl ?_
            refine lv_iload_n B.1 B.2.1 dX12_starts_151 rfl (lv_at hl 3 rfl) ?_
            refine m_ist (k := 94) (i := 71) (n := 16) B hM rfl rfl rfl (by decide) dX12_starts_152 (by omega) (by omega) (show (-2147483648 : Int) ≤ a_r from by first | omega | (simp only [wr_at] <;> omega)) (show a_r ≤ (2147483647 : Int) from by first | omega | (simp only [wr_at] <;> omega)) (u1_up A [(96, b13), (91, (wr (A 91) a_r 2)), (94, (A 94)), (95, (A 95))] 94 (wr (A 94) (f 97) a_r)) (fun H locs hM => ?_)
            replace hM : MWd D dA h0 ad (mF dA h0 ad (f, g, A, L) s.heap.size) s.heap ((up f [(98, x12), (97, f 97)]), g, (up A [(96, b13), (91, (wr (A 91) a_r 2)), (94, (wr (A 94) (f 97) a_r)), (95, (A 95))]), L) H locs := hM
            refine lv_aload_n B.1 B.2.1 dX12_starts_153 rfl (lv_at hl 2 rfl) ?_
            refine m_geta (k := 95) B hM (by decide) rfl fl349 dX12_starts_154 ?_
            refine lv_aload_n B.1 B.2.1 dX12_starts_157 rfl (lv_at hl 2 rfl) ?_
            refine m_get (k := 97) (v := f 97) B hM (by decide) rfl fl527 dX12_starts_158 rfl ?_
            refine lv_iload_n B.1 B.2.1 dX12_starts_161 rfl (lv_at hl 0 rfl) ?_
            refine q_ieq (tgt := 169) B dX12_starts_162 (by decide) (by unfold inr; omega) (fun _ => ?_) (fun c29 => absurd c29 (by omega))
            refine q_con B dX12_starts_169 ?_
            refine m_ist (k := 95) (i := 72) (n := 16) B hM rfl rfl rfl (by decide) dX12_starts_170 (by omega) (by omega) (show (-2147483648 : Int) ≤ 2 from by first | omega | (simp only [wr_at] <;> omega)) (show 2 ≤ (2147483647 : Int) from by first | omega | (simp only [wr_at] <;> omega)) (u1_up A [(96, b13), (91, (wr (A 91) a_r 2)), (94, (wr (A 94) (f 97) a_r)), (95, (A 95))] 95 (wr (A 95) (f 97) 2)) (fun H locs hM => ?_)
            replace hM : MWd D dA h0 ad (mF dA h0 ad (f, g, A, L) s.heap.size) s.heap ((up f [(98, x12), (97, f 97)]), g, (up A [(96, b13), (91, (wr (A 91) a_r 2)), (94, (wr (A 94) (f 97) a_r)), (95, (wr (A 95) (f 97) 2))]), L) H locs := hM
            refine lv_aload_n B.1 B.2.1 dX12_starts_171 rfl (lv_at hl 2 rfl) ?_
            refine lv_dup B.1 B.2.1 dX12_starts_172 rfl ?_
            refine m_get (k := 97) (v := f 97) B hM (by decide) rfl fl527 dX12_starts_173 rfl ?_
            refine q_con B dX12_starts_176 ?_
            refine q_add B dX12_starts_177 ?_
            refine m_put (k := 97) B hM (by decide) rfl fl527 rfl dX12_starts_178 rfl rfl (show (0 : Int) ≤ (f 97) + 1 from by first | omega | (simp only [wr_at] <;> omega)) (show (f 97) + 1 ≤ (16 : Int) from by first | omega | (simp only [wr_at] <;> omega)) (u1_up f [(98, x12), (97, f 97)] 97 ((f 97) + 1)) (fun H locs hM => ?_)
            replace hM : MWd D dA h0 ad (mF dA h0 ad (f, g, A, L) s.heap.size) s.heap ((up f [(98, x12), (97, (f 97) + 1)]), g, (up A [(96, b13), (91, (wr (A 91) a_r 2)), (94, (wr (A 94) (f 97) a_r)), (95, (wr (A 95) (f 97) 2))]), L) H locs := hM
            refine q_con B dX12_starts_181 ?_
            subst hPST
            have hv30 : (0 ≤ (0 : Int)) ∧ ((0 : Int) ≤ 1) ∧ (((0 : Int) = 1 → (wr (A 91) a_r 2) ((a_r)).toNat = 1)) := by first | (simp only [wr_at] <;> omega) | omega | exact ⟨by first | omega | (simp only [wr_at] <;> omega) | assumption | (intro _; exact wr_at _ _ _), by first | omega | (simp only [wr_at] <;> omega) | assumption | (intro _; exact wr_at _ _ _), by first | omega | (simp only [wr_at] <;> omega) | assumption | (intro _; exact wr_at _ _ _)⟩
            exact m_zret B hM dX12_starts_182 (by omega) ⟨x12, ((f 97) + 1), b13, ((wr (A 91) a_r 2)), ((wr (A 94) (f 97) a_r)), ((wr (A 95) (f 97) 2)), rfl, hv30.1, hv30.2.1, hv30.2.2, (by exact FIp_put p_3 (by omega) (by omega) (by omega) (by omega))⟩
        · refine q_con B dX12_starts_106 ?_
          refine lv_goto (tgt := 111) B.1 B.2.1 dX12_starts_107 (by decide) ?_
          refine lv_istore_n (lv' := [(3, .int (II 1)), (2, .int (II r10)), (0, .ref h0), (1, .int (II a_r))]) B.1 B.2.1 dX12_starts_111 rfl hl (by decide) rfl (fun ls hl => ?_)
          refine lv_aload_n B.1 B.2.1 dX12_starts_112 rfl (lv_at hl 2 rfl) ?_
          refine m_geta (k := 91) B hM (by decide) rfl fl337 dX12_starts_113 ?_
          refine lv_iload_n B.1 B.2.1 dX12_starts_116 rfl (lv_at hl 3 rfl) ?_
          refine lv_iload_n B.1 B.2.1 dX12_starts_117 rfl (lv_at hl 0 rfl) ?_
          refine q_ine (tgt := 125) B dX12_starts_118 (by decide) (by unfold inr; omega) (fun _ => ?_) (fun c31 => absurd c31 (by omega))
          refine q_con B dX12_starts_125 ?_
          refine lv_goto (tgt := 130) B.1 B.2.1 dX12_starts_126 (by decide) ?_
          refine m_ist (k := 91) (i := 68) (n := 16) B hM rfl rfl rfl (by decide) dX12_starts_130 (by omega) (by omega) (show (0 : Int) ≤ 2 from by first | omega | (simp only [wr_at] <;> omega)) (show 2 ≤ (2 : Int) from by first | omega | (simp only [wr_at] <;> omega)) (u1_up A [(96, b13), (91, (A 91)), (94, (A 94)), (95, (A 95))] 91 (wr (A 91) a_r 2)) (fun H locs hM => ?_)
          replace hM : MWd D dA h0 ad (mF dA h0 ad (f, g, A, L) s.heap.size) s.heap ((up f [(98, x12), (97, f 97)]), g, (up A [(96, b13), (91, (wr (A 91) a_r 2)), (94, (A 94)), (95, (A 95))]), L) H locs := hM
          refine lv_aload_n B.1 B.2.1 dX12_starts_131 rfl (lv_at hl 2 rfl) ?_
          refine m_geta (k := 91) B hM (by decide) rfl fl337 dX12_starts_132 ?_
          refine lv_iload_n B.1 B.2.1 dX12_starts_135 rfl (lv_at hl 3 rfl) ?_
          refine m_ild (k := 91) (i := 68) (n := 16) (z := a_r) (v := 2) B hM rfl rfl rfl (by decide) dX12_starts_136 (by omega) (by omega) (by exact wr_at _ _ _) ?_
          refine q_con B dX12_starts_137 ?_
          refine q_cne (tgt := 143) B dX12_starts_138 (by decide) (by unfold inr; omega) (by unfold inr; omega) (fun _ => ?_) (fun c32 => absurd c32 (by omega))
          have hfl := FIp_lt p_3 (by omega) (by omega) (show (A 91) ((a_r)).toNat ≠ 2 from by omega)
          refine lv_aload_n B.1 B.2.1 dX12_starts_143 rfl (lv_at hl 2 rfl) ?_
          refine m_geta (k := 94) B hM (by decide) rfl fl346 dX12_starts_144 ?_
          refine lv_aload_n B.1 B.2.1 dX12_starts_147 rfl (lv_at hl 2 rfl) ?_
          refine m_get (k := 97) (v := f 97) B hM (by decide) rfl fl527 dX12_starts_148 rfl ?_
          refine lv_iload_n B.1 B.2.1 dX12_starts_151 rfl (lv_at hl 3 rfl) ?_
          refine m_ist (k := 94) (i := 71) (n := 16) B hM rfl rfl rfl (by decide) dX12_starts_152 (by omega) (by omega) (show (-2147483648 : Int) ≤ a_r from by first | omega | (simp only [wr_at] <;> omega)) (show a_r ≤ (2147483647 : Int) from by first | omega | (simp only [wr_at] <;> omega)) (u1_up A [(96, b13), (91, (wr (A 91) a_r 2)), (94, (A 94)), (95, (A 95))] 94 (wr (A 94) (f 97) a_r)) (fun H locs hM => ?_)
          replace hM : MWd D dA h0 ad (mF dA h0 ad (f, g, A, L) s.heap.size) s.heap ((up f [(98, x12), (97, f 97)]), g, (up A [(96, b13), (91, (wr (A 91) a_r 2)), (94, (wr (A 94) (f 97) a_r)), (95, (A 95))]), L) H locs := hM
          refine lv_aload_n B.1 B.2.1 dX12_starts_153 rfl (lv_at hl 2 rfl) ?_
          refine m_geta (k := 95) B hM (by decide) rfl fl349 dX12_starts_154 ?_
          refine lv_aload_n B.1 B.2.1 dX12_starts_157 rfl (lv_at hl 2 rfl) ?_
          refine m_get (k := 97) (v := f 97) B hM (by decide) rfl fl527 dX12_starts_158 rfl ?_
          refine lv_iload_n B.1 B.2.1 dX12_starts_161 rfl (lv_at hl 0 rfl) ?_
          refine q_ieq (tgt := 169) B dX12_starts_162 (by decide) (by unfold inr; omega) (fun c33 => absurd c33 (by omega)) (fun _ => ?_)
          refine q_con B dX12_starts_165 ?_
          refine lv_goto (tgt := 170) B.1 B.2.1 dX12_starts_166 (by decide) ?_
          refine m_ist (k := 95) (i := 72) (n := 16) B hM rfl rfl rfl (by decide) dX12_starts_170 (by omega) (by omega) (show (-2147483648 : Int) ≤ 1 from by first | omega | (simp only [wr_at] <;> omega)) (show 1 ≤ (2147483647 : Int) from by first | omega | (simp only [wr_at] <;> omega)) (u1_up A [(96, b13), (91, (wr (A 91) a_r 2)), (94, (wr (A 94) (f 97) a_r)), (95, (A 95))] 95 (wr (A 95) (f 97) 1)) (fun H locs hM => ?_)
          replace hM : MWd D dA h0 ad (mF dA h0 ad (f, g, A, L) s.heap.size) s.heap ((up f [(98, x12), (97, f 97)]), g, (up A [(96, b13), (91, (wr (A 91) a_r 2)), (94, (wr (A 94) (f 97) a_r)), (95, (wr (A 95) (f 97) 1))]), L) H locs := hM
          refine lv_aload_n B.1 B.2.1 dX12_starts_171 rfl (lv_at hl 2 rfl) ?_
          refine lv_dup B.1 B.2.1 dX12_starts_172 rfl ?_
          refine m_get (k := 97) (v := f 97) B hM (by decide) rfl fl527 dX12_starts_173 rfl ?_
          refine q_con B dX12_starts_176 ?_
          refine q_add B dX12_starts_177 ?_
          refine m_put (k := 97) B hM (by decide) rfl fl527 rfl dX12_starts_178 rfl rfl (show (0 : Int) ≤ (f 97) + 1 from by first | omega | (simp only [wr_at] <;> omega)) (show (f 97) + 1 ≤ (16 : Int) from by first | omega | (simp only [wr_at] <;> omega)) (u1_up f [(98, x12), (97, f 97)] 97 ((f 97) + 1)) (fun H locs hM => ?_)
          replace hM : MWd D dA h0 ad (mF dA h0 ad (f, g, A, L) s.heap.size) s.heap ((up f [(98, x12), (97, (f 97) + 1)]), g, (up A [(96, b13), (91, (wr (A 91) a_r 2)), (94, (wr (A 94) (f 97) a_r)), (95, (wr (A 95) (f 97) 1))]), L) H locs := hM
          refine q_con B dX12_starts_181 ?_
          subst hPST
          have hv34 : (0 ≤ (0 : Int)) ∧ ((0 : Int) ≤ 1) ∧ (((0 : Int) = 1 → (wr (A 91) a_r 2) ((a_r)).toNat = 1)) := by first | (simp only [wr_at] <;> omega) | omega | exact ⟨by first | omega | (simp only [wr_at] <;> omega) | assumption | (intro _; exact wr_at _ _ _), by first | omega | (simp only [wr_at] <;> omega) | assumption | (intro _; exact wr_at _ _ _), by first | omega | (simp only [wr_at] <;> omega) | assumption | (intro _; exact wr_at _ _ _)⟩
          exact m_zret B hM dX12_starts_182 (by omega) ⟨x12, ((f 97) + 1), b13, ((wr (A 91) a_r 2)), ((wr (A 94) (f 97) a_r)), ((wr (A 95) (f 97) 1)), rfl, hv34.1, hv34.2.1, hv34.2.2, (by exact FIp_put p_3 (by omega) (by omega) (by omega) (by omega))⟩
    · refine q_con B dX12_starts_42 ?_
      refine lv_goto (tgt := 81) B.1 B.2.1 dX12_starts_43 (by decide) ?_
      refine lv_istore_n (lv' := [(2, .int (II 1)), (0, .ref h0), (1, .int (II a_r))]) B.1 B.2.1 dX12_starts_81 rfl hl (by decide) rfl (fun ls hl => ?_)
      refine lv_aload_n B.1 B.2.1 dX12_starts_82 rfl (lv_at hl 1 rfl) ?_
      refine m_geta (k := 27) B hM (by decide) rfl fl175 dX12_starts_83 ?_
      refine q_bip B dX12_starts_86 (by decide) ?_
      refine lv_aload_n B.1 B.2.1 dX12_starts_88 rfl (lv_at hl 1 rfl) ?_
      refine m_get (k := 3) (v := f 3) B hM (by decide) rfl fl11 dX12_starts_89 rfl ?_
      refine q_mul B dX12_starts_92 ?_
      refine lv_iload_n B.1 B.2.1 dX12_starts_93 rfl (lv_at hl 2 rfl) ?_
      refine q_add B dX12_starts_94 ?_
      refine m_ild (k := 27) (i := 15) (n := 32) (z := (16 * (f 3)) + a_r) (v := (A 27) ((16 * (f 3)) + a_r).toNat) B hM rfl rfl rfl (by decide) dX12_starts_95 (by omega) (by omega) rfl ?_
      refine q_ile (tgt := 110) B dX12_starts_96 (by decide) (by unfold inr; omega) (fun c35 => ?_) (fun c35 => ?_)
      · refine q_con B dX12_starts_110 ?_
        refine lv_istore_n (lv' := [(3, .int (II 0)), (2, .int (II 1)), (0, .ref h0), (1, .int (II a_r))]) B.1 B.2.1 dX12_starts_111 rfl hl (by decide) rfl (fun ls hl => ?_)
        refine lv_aload_n B.1 B.2.1 dX12_starts_112 rfl (lv_at hl 2 rfl) ?_
        refine m_geta (k := 91) B hM (by decide) rfl fl337 dX12_starts_113 ?_
        refine lv_iload_n B.1 B.2.1 dX12_starts_116 rfl (lv_at hl 3 rfl) ?_
        refine lv_iload_n B.1 B.2.1 dX12_starts_117 rfl (lv_at hl 0 rfl) ?_
        refine q_ine (tgt := 125) B dX12_starts_118 (by decide) (by unfold inr; omega) (fun c36 => absurd c36 (by omega)) (fun _ => ?_)
        refine lv_iload_n B.1 B.2.1 dX12_starts_121 rfl (lv_at hl 1 rfl) ?_
        refine q_ine (tgt := 129) B dX12_starts_122 (by decide) (by unfold inr; omega) (fun _ => ?_) (fun c37 => absurd c37 (by omega))
        refine q_con B dX12_starts_129 ?_
        refine m_ist (k := 91) (i := 68) (n := 16) B hM rfl rfl rfl (by decide) dX12_starts_130 (by omega) (by omega) (show (0 : Int) ≤ 1 from by first | omega | (simp only [wr_at] <;> omega)) (show 1 ≤ (2 : Int) from by first | omega | (simp only [wr_at] <;> omega)) (u1_up A [(96, (A 96)), (91, (A 91)), (94, (A 94)), (95, (A 95))] 91 (wr (A 91) a_r 1)) (fun H locs hM => ?_)
        replace hM : MWd D dA h0 ad (mF dA h0 ad (f, g, A, L) s.heap.size) s.heap ((up f [(98, f 98), (97, f 97)]), g, (up A [(96, (A 96)), (91, (wr (A 91) a_r 1)), (94, (A 94)), (95, (A 95))]), L) H locs := hM
        refine lv_aload_n B.1 B.2.1 dX12_starts_131 rfl (lv_at hl 2 rfl) ?_
        refine m_geta (k := 91) B hM (by decide) rfl fl337 dX12_starts_132 ?_
        refine lv_iload_n B.1 B.2.1 dX12_starts_135 rfl (lv_at hl 3 rfl) ?_
        refine m_ild (k := 91) (i := 68) (n := 16) (z := a_r) (v := 1) B hM rfl rfl rfl (by decide) dX12_starts_136 (by omega) (by omega) (by exact wr_at _ _ _) ?_
        refine q_con B dX12_starts_137 ?_
        refine q_cne (tgt := 143) B dX12_starts_138 (by decide) (by unfold inr; omega) (by unfold inr; omega) (fun c38 => absurd c38 (by omega)) (fun _ => ?_)
        refine q_con B dX12_starts_141 ?_
        subst hPST
        have hv39 : (0 ≤ (1 : Int)) ∧ ((1 : Int) ≤ 1) ∧ (((1 : Int) = 1 → (wr (A 91) a_r 1) ((a_r)).toNat = 1)) := by first | (simp only [wr_at] <;> omega) | omega | exact ⟨by first | omega | (simp only [wr_at] <;> omega) | assumption | (intro _; exact wr_at _ _ _), by first | omega | (simp only [wr_at] <;> omega) | assumption | (intro _; exact wr_at _ _ _), by first | omega | (simp only [wr_at] <;> omega) | assumption | (intro _; exact wr_at _ _ _)⟩
        exact m_zret B hM dX12_starts_142 (by omega) ⟨(f 98), (f 97), ((A 96)), ((wr (A 91) a_r 1)), ((A 94)), ((A 95)), rfl, hv39.1, hv39.2.1, hv39.2.2, (by exact FIp_one p_3 (by omega) (by omega) (by omega))⟩
      · refine lv_aload_n B.1 B.2.1 dX12_starts_99 rfl (lv_at hl 1 rfl) ?_
        refine m_get (k := 98) (v := f 98) B hM (by decide) rfl fl601 dX12_starts_100 rfl ?_
        have r40 : (0 : Int) ≤ f 98 ∧ f 98 ≤ 1 := hM.2.2.2.1 98
        refine q_ieq (tgt := 110) B dX12_starts_103 (by decide) (by unfold inr; omega) (fun c41 => ?_) (fun c41 => ?_)
        · refine q_con B dX12_starts_110 ?_
          refine lv_istore_n (lv' := [(3, .int (II 0)), (2, .int (II 1)), (0, .ref h0), (1, .int (II a_r))]) B.1 B.2.1 dX12_starts_111 rfl hl (by decide) rfl (fun ls hl => ?_)
          refine lv_aload_n B.1 B.2.1 dX12_starts_112 rfl (lv_at hl 2 rfl) ?_
          refine m_geta (k := 91) B hM (by decide) rfl fl337 dX12_starts_113 ?_
          refine lv_iload_n B.1 B.2.1 dX12_starts_116 rfl (lv_at hl 3 rfl) ?_
          refine lv_iload_n B.1 B.2.1 dX12_starts_117 rfl (lv_at hl 0 rfl) ?_
          refine q_ine (tgt := 125) B dX12_starts_118 (by decide) (by unfold inr; omega) (fun c42 => absurd c42 (by omega)) (fun _ => ?_)
          refine lv_iload_n B.1 B.2.1 dX12_starts_121 rfl (lv_at hl 1 rfl) ?_
          refine q_ine (tgt := 129) B dX12_starts_122 (by decide) (by unfold inr; omega) (fun _ => ?_) (fun c43 => absurd c43 (by omega))
          refine q_con B dX12_starts_129 ?_
          refine m_ist (k := 91) (i := 68) (n := 16) B hM rfl rfl rfl (by decide) dX12_starts_130 (by omega) (by omega) (show (0 : Int) ≤ 1 from by first | omega | (simp only [wr_at] <;> omega)) (show 1 ≤ (2 : Int) from by first | omega | (simp only [wr_at] <;> omega)) (u1_up A [(96, (A 96)), (91, (A 91)), (94, (A 94)), (95, (A 95))] 91 (wr (A 91) a_r 1)) (fun H locs hM => ?_)
          replace hM : MWd D dA h0 ad (mF dA h0 ad (f, g, A, L) s.heap.size) s.heap ((up f [(98, f 98), (97, f 97)]), g, (up A [(96, (A 96)), (91, (wr (A 91) a_r 1)), (94, (A 94)), (95, (A 95))]), L) H locs := hM
          refine lv_aload_n B.1 B.2.1 dX12_starts_131 rfl (lv_at hl 2 rfl) ?_
          refine m_geta (k := 91) B hM (by decide) rfl fl337 dX12_starts_132 ?_
          refine lv_iload_n B.1 B.2.1 dX12_starts_135 rfl (lv_at hl 3 rfl) ?_
          refine m_ild (k := 91) (i := 68) (n := 16) (z := a_r) (v := 1) B hM rfl rfl rfl (by decide) dX12_starts_136 (by omega) (by omega) (by exact wr_at _ _ _) ?_
          refine q_con B dX12_starts_137 ?_
          refine q_cne (tgt := 143) B dX12_starts_138 (by decide) (by unfold inr; omega) (by unfold inr; omega) (fun c44 => absurd c44 (by omega)) (fun _ => ?_)
          refine q_con B dX12_starts_141 ?_
          subst hPST
          have hv45 : (0 ≤ (1 : Int)) ∧ ((1 : Int) ≤ 1) ∧ (((1 : Int) = 1 → (wr (A 91) a_r 1) ((a_r)).toNat = 1)) := by first | (simp only [wr_at] <;> omega) | omega | exact ⟨by first | omega | (simp only [wr_at] <;> omega) | assumption | (intro _; exact wr_at _ _ _), by first | omega | (simp only [wr_at] <;> omega) | assumption | (intro _; exact wr_at _ _ _), by first | omega | (simp only [wr_at] <;> omega) | assumption | (intro _; exact wr_at _ _ _)⟩
          exact m_zret B hM dX12_starts_142 (by omega) ⟨(f 98), (f 97), ((A 96)), ((wr (A 91) a_r 1)), ((A 94)), ((A 95)), rfl, hv45.1, hv45.2.1, hv45.2.2, (by exact FIp_one p_3 (by omega) (by omega) (by omega))⟩
        · refine q_con B dX12_starts_106 ?_
          refine lv_goto (tgt := 111) B.1 B.2.1 dX12_starts_107 (by decide) ?_
          refine lv_istore_n (lv' := [(3, .int (II 1)), (2, .int (II 1)), (0, .ref h0), (1, .int (II a_r))]) B.1 B.2.1 dX12_starts_111 rfl hl (by decide) rfl (fun ls hl => ?_)
          refine lv_aload_n B.1 B.2.1 dX12_starts_112 rfl (lv_at hl 2 rfl) ?_
          refine m_geta (k := 91) B hM (by decide) rfl fl337 dX12_starts_113 ?_
          refine lv_iload_n B.1 B.2.1 dX12_starts_116 rfl (lv_at hl 3 rfl) ?_
          refine lv_iload_n B.1 B.2.1 dX12_starts_117 rfl (lv_at hl 0 rfl) ?_
          refine q_ine (tgt := 125) B dX12_starts_118 (by decide) (by unfold inr; omega) (fun _ => ?_) (fun c46 => absurd c46 (by omega))
          refine q_con B dX12_starts_125 ?_
          refine lv_goto (tgt := 130) B.1 B.2.1 dX12_starts_126 (by decide) ?_
          refine m_ist (k := 91) (i := 68) (n := 16) B hM rfl rfl rfl (by decide) dX12_starts_130 (by omega) (by omega) (show (0 : Int) ≤ 2 from by first | omega | (simp only [wr_at] <;> omega)) (show 2 ≤ (2 : Int) from by first | omega | (simp only [wr_at] <;> omega)) (u1_up A [(96, (A 96)), (91, (A 91)), (94, (A 94)), (95, (A 95))] 91 (wr (A 91) a_r 2)) (fun H locs hM => ?_)
          replace hM : MWd D dA h0 ad (mF dA h0 ad (f, g, A, L) s.heap.size) s.heap ((up f [(98, f 98), (97, f 97)]), g, (up A [(96, (A 96)), (91, (wr (A 91) a_r 2)), (94, (A 94)), (95, (A 95))]), L) H locs := hM
          refine lv_aload_n B.1 B.2.1 dX12_starts_131 rfl (lv_at hl 2 rfl) ?_
          refine m_geta (k := 91) B hM (by decide) rfl fl337 dX12_starts_132 ?_
          refine lv_iload_n B.1 B.2.1 dX12_starts_135 rfl (lv_at hl 3 rfl) ?_
          refine m_ild (k := 91) (i := 68) (n := 16) (z := a_r) (v := 2) B hM rfl rfl rfl (by decide) dX12_starts_136 (by omega) (by omega) (by exact wr_at _ _ _) ?_
          refine q_con B dX12_starts_137 ?_
          refine q_cne (tgt := 143) B dX12_starts_138 (by decide) (by unfold inr; omega) (by unfold inr; omega) (fun _ => ?_) (fun c47 => absurd c47 (by omega))
          have hfl := FIp_lt p_3 (by omega) (by omega) (show (A 91) ((a_r)).toNat ≠ 2 from by omega)
          refine lv_aload_n B.1 B.2.1 dX12_starts_143 rfl (lv_at hl 2 rfl) ?_
          refine m_geta (k := 94) B hM (by decide) rfl fl346 dX12_starts_144 ?_
          refine lv_aload_n B.1 B.2.1 dX12_starts_147 rfl (lv_at hl 2 rfl) ?_
          refine m_get (k := 97) (v := f 97) B hM (by decide) rfl fl527 dX12_starts_148 rfl ?_
          refine lv_iload_n B.1 B.2.1 dX12_starts_151 rfl (lv_at hl 3 rfl) ?_
          refine m_ist (k := 94) (i := 71) (n := 16) B hM rfl rfl rfl (by decide) dX12_starts_152 (by omega) (by omega) (show (-2147483648 : Int) ≤ a_r from by first | omega | (simp only [wr_at] <;> omega)) (show a_r ≤ (2147483647 : Int) from by first | omega | (simp only [wr_at] <;> omega)) (u1_up A [(96, (A 96)), (91, (wr (A 91) a_r 2)), (94, (A 94)), (95, (A 95))] 94 (wr (A 94) (f 97) a_r)) (fun H locs hM => ?_)
          replace hM : MWd D dA h0 ad (mF dA h0 ad (f, g, A, L) s.heap.size) s.heap ((up f [(98, f 98), (97, f 97)]), g, (up A [(96, (A 96)), (91, (wr (A 91) a_r 2)), (94, (wr (A 94) (f 97) a_r)), (95, (A 95))]), L) H locs := hM
          refine lv_aload_n B.1 B.2.1 dX12_starts_153 rfl (lv_at hl 2 rfl) ?_
          refine m_geta (k := 95) B hM (by decide) rfl fl349 dX12_starts_154 ?_
          refine lv_aload_n B.1 B.2.1 dX12_starts_157 rfl (lv_at hl 2 rfl) ?_
          refine m_get (k := 97) (v := f 97) B hM (by decide) rfl fl527 dX12_starts_158 rfl ?_
          refine lv_iload_n B.1 B.2.1 dX12_starts_161 rfl (lv_at hl 0 rfl) ?_
          refine q_ieq (tgt := 169) B dX12_starts_162 (by decide) (by unfold inr; omega) (fun c48 => absurd c48 (by omega)) (fun _ => ?_)
          refine q_con B dX12_starts_165 ?_
          refine lv_goto (tgt := 170) B.1 B.2.1 dX12_starts_166 (by decide) ?_
          refine m_ist (k := 95) (i := 72) (n := 16) B hM rfl rfl rfl (by decide) dX12_starts_170 (by omega) (by omega) (show (-2147483648 : Int) ≤ 1 from by first | omega | (simp only [wr_at] <;> omega)) (show 1 ≤ (2147483647 : Int) from by first | omega | (simp only [wr_at] <;> omega)) (u1_up A [(96, (A 96)), (91, (wr (A 91) a_r 2)), (94, (wr (A 94) (f 97) a_r)), (95, (A 95))] 95 (wr (A 95) (f 97) 1)) (fun H locs hM => ?_)
          replace hM : MWd D dA h0 ad (mF dA h0 ad (f, g, A, L) s.heap.size) s.heap ((up f [(98, f 98), (97, f 97)]), g, (up A [(96, (A 96)), (91, (wr (A 91) a_r 2)), (94, (wr (A 94) (f 97) a_r)), (95, (wr (A 95) (f 97) 1))]), L) H locs := hM
          refine lv_aload_n B.1 B.2.1 dX12_starts_171 rfl (lv_at hl 2 rfl) ?_
          refine lv_dup B.1 B.2.1 dX12_starts_172 rfl ?_
          refine m_get (k := 97) (v := f 97) B hM (by decide) rfl fl527 dX12_starts_173 rfl ?_
          refine q_con B dX12_starts_176 ?_
          refine q_add B dX12_starts_177 ?_
          refine m_put (k := 97) B hM (by decide) rfl fl527 rfl dX12_starts_178 rfl rfl (show (0 : Int) ≤ (f 97) + 1 from by first | omega | (simp only [wr_at] <;> omega)) (show (f 97) + 1 ≤ (16 : Int) from by first | omega | (simp only [wr_at] <;> omega)) (u1_up f [(98, f 98), (97, f 97)] 97 ((f 97) + 1)) (fun H locs hM => ?_)
          replace hM : MWd D dA h0 ad (mF dA h0 ad (f, g, A, L) s.heap.size) s.heap ((up f [(98, f 98), (97, (f 97) + 1)]), g, (up A [(96, (A 96)), (91, (wr (A 91) a_r 2)), (94, (wr (A 94) (f 97) a_r)), (95, (wr (A 95) (f 97) 1))]), L) H locs := hM
          refine q_con B dX12_starts_181 ?_
          subst hPST
          have hv49 : (0 ≤ (0 : Int)) ∧ ((0 : Int) ≤ 1) ∧ (((0 : Int) = 1 → (wr (A 91) a_r 2) ((a_r)).toNat = 1)) := by first | (simp only [wr_at] <;> omega) | omega | exact ⟨by first | omega | (simp only [wr_at] <;> omega) | assumption | (intro _; exact wr_at _ _ _), by first | omega | (simp only [wr_at] <;> omega) | assumption | (intro _; exact wr_at _ _ _), by first | omega | (simp only [wr_at] <;> omega) | assumption | (intro _; exact wr_at _ _ _)⟩
          exact m_zret B hM dX12_starts_182 (by omega) ⟨(f 98), ((f 97) + 1), ((A 96)), ((wr (A 91) a_r 2)), ((wr (A 94) (f 97) a_r)), ((wr (A 95) (f 97) 1)), rfl, hv49.1, hv49.2.1, hv49.2.2, (by exact FIp_put p_3 (by omega) (by omega) (by omega) (by omega))⟩
  · refine lv_aload_n B.1 B.2.1 dX12_starts_9 rfl (lv_at hl 0 rfl) ?_
    refine m_geta (k := 91) B hM (by decide) rfl fl337 dX12_starts_10 ?_
    refine lv_iload_n B.1 B.2.1 dX12_starts_13 rfl (lv_at hl 1 rfl) ?_
    refine m_ild (k := 91) (i := 68) (n := 16) (z := a_r) (v := (A 91) a_r.toNat) B hM rfl rfl rfl (by decide) dX12_starts_14 (by omega) (by omega) rfl ?_
    refine q_con B dX12_starts_15 ?_
    refine q_cne (tgt := 23) B dX12_starts_16 (by decide) (by unfold inr; omega) (by unfold inr; omega) (fun c50 => ?_) (fun c50 => ?_)
    · refine q_con B dX12_starts_23 ?_
      subst hPST
      have hv51 : (0 ≤ (0 : Int)) ∧ ((0 : Int) ≤ 1) ∧ (((0 : Int) = 1 → (A 91) ((a_r)).toNat = 1)) := by first | omega | (simp only [wr_at] <;> omega) | exact ⟨by first | omega | (simp only [wr_at] <;> omega) | assumption | (intro _; exact wr_at _ _ _), by first | omega | (simp only [wr_at] <;> omega) | assumption | (intro _; exact wr_at _ _ _), by first | omega | (simp only [wr_at] <;> omega) | assumption | (intro _; exact wr_at _ _ _)⟩
      exact m_zret B hM dX12_starts_24 (by omega) ⟨(f 98), (f 97), ((A 96)), ((A 91)), ((A 94)), ((A 95)), rfl, hv51.1, hv51.2.1, hv51.2.2, (by exact p_3)⟩
    · refine q_con B dX12_starts_19 ?_
      refine lv_goto (tgt := 24) B.1 B.2.1 dX12_starts_20 (by decide) ?_
      subst hPST
      have hv52 : (0 ≤ (1 : Int)) ∧ ((1 : Int) ≤ 1) ∧ (((1 : Int) = 1 → (A 91) ((a_r)).toNat = 1)) := by first | omega | (simp only [wr_at] <;> omega) | exact ⟨by first | omega | (simp only [wr_at] <;> omega) | assumption | (intro _; exact wr_at _ _ _), by first | omega | (simp only [wr_at] <;> omega) | assumption | (intro _; exact wr_at _ _ _), by first | omega | (simp only [wr_at] <;> omega) | assumption | (intro _; exact wr_at _ _ _)⟩
      exact m_zret B hM dX12_starts_24 (by omega) ⟨(f 98), (f 97), ((A 96)), ((A 91)), ((A 94)), ((A 95)), rfl, hv52.1, hv52.2.1, hv52.2.2, (by exact p_3)⟩
set_option maxHeartbeats 200000000 in
set_option maxRecDepth 20000 in
theorem k_breaksOff (l : Launch) (D : va_G) (dA : Nat → ClassId) (h0 : Nat) (ad : Nat → Nat) (f : Nat → Int) (g : Nat → Int64) (A : Nat → Nat → Int) (L : Nat → Nat → Int64) (a_r : Int) (i_r : (-2147483648 : Int) ≤ a_r ∧ a_r ≤ 2147483647) (p_0 : 0 ≤ (a_r)) (p_1 : (a_r) < 16) (p_2 : (A 91) ((a_r)).toNat = 1) (p_3 : FIp (f 97) (A 91)) : MCv l yX12_breaksOff cX12_breaksOff 2 ({ frames := 0, cells := 0, slots := 0, locals := 0 }) D dA h0 ad (f, g, A, L) [.int (II a_r)] (fun (σ : MS) => ∃ n97 : Int, ∃ b93 : Nat → Int, ∃ b91 : Nat → Int, ∃ b94 : Nat → Int, ∃ b95 : Nat → Int, σ = ((up f [(97, n97)]), g, (up A [(93, b93), (91, b91), (94, b94), (95, b95)]), L) ∧ (FIp (n97) b91)) := by
  generalize hPST : (fun (σ : MS) => ∃ n97 : Int, ∃ b93 : Nat → Int, ∃ b91 : Nat → Int, ∃ b94 : Nat → Int, ∃ b95 : Nat → Int, σ = ((up f [(97, n97)]), g, (up A [(93, b93), (91, b91), (94, b94), (95, b95)]), L) ∧ (FIp (n97) b91)) = PST
  refine m_enterv (by decide) rfl (Nat.le_of_ble_eq_true rfl) (fun p e s m args below meth c ls B hM hl => ?_)
  have hA : ∀ q, s.heap.size ≤ q → mF dA h0 ad (f, g, A, L) s.heap.size q := fun q h => Or.inr h
  have hM : MWd D dA h0 ad (mF dA h0 ad (f, g, A, L) s.heap.size) s.heap ((up f [(97, f 97)]), g, (up A [(93, (A 93)), (91, (A 91)), (94, (A 94)), (95, (A 95))]), L) s.heap [] := MW_pad hM (up_self f [97]) rfl (up_self A [93, 91, 94, 95]) rfl
  have hl : lv_has ls 2 [(0, .ref h0), (1, .int (II a_r))] := hl
  have r1 : (0 : Int) ≤ f 97 ∧ f 97 ≤ 16 := hM.2.2.2.1 97
  refine lv_aload_n B.1 B.2.1 dX12_breaksOff_0 rfl (lv_at hl 0 rfl) ?_
  refine m_geta (k := 93) B hM (by decide) rfl fl343 dX12_breaksOff_1 ?_
  refine lv_iload_n B.1 B.2.1 dX12_breaksOff_4 rfl (lv_at hl 1 rfl) ?_
  refine lv_dup2_11 B.1 B.2.1 dX12_breaksOff_5 rfl rfl ?_
  refine m_ild (k := 93) (i := 70) (n := 16) (z := a_r) (v := (A 93) a_r.toNat) B hM rfl rfl rfl (by decide) dX12_breaksOff_6 (by omega) (by omega) rfl ?_
  have r2 : (-2147483648 : Int) ≤ (A 93) a_r.toNat ∧ (A 93) a_r.toNat ≤ 2147483647 := hM.2.2.2.2 93 a_r.toNat
  refine q_con B dX12_breaksOff_7 ?_
  refine q_add B dX12_breaksOff_8 ?_
  refine q_wrap (fun x3 ix3 => ?_)
  refine m_ist (k := 93) (i := 70) (n := 16) B hM rfl rfl rfl (by decide) dX12_breaksOff_9 (by omega) (by omega) (show (-2147483648 : Int) ≤ x3 from by first | omega | (simp only [wr_at] <;> omega)) (show x3 ≤ (2147483647 : Int) from by first | omega | (simp only [wr_at] <;> omega)) (u1_up A [(93, (A 93)), (91, (A 91)), (94, (A 94)), (95, (A 95))] 93 (wr (A 93) a_r x3)) (fun H locs hM => ?_)
  replace hM : MWd D dA h0 ad (mF dA h0 ad (f, g, A, L) s.heap.size) s.heap ((up f [(97, f 97)]), g, (up A [(93, (wr (A 93) a_r x3)), (91, (A 91)), (94, (A 94)), (95, (A 95))]), L) H locs := hM
  refine lv_aload_n B.1 B.2.1 dX12_breaksOff_10 rfl (lv_at hl 0 rfl) ?_
  refine m_geta (k := 93) B hM (by decide) rfl fl343 dX12_breaksOff_11 ?_
  refine lv_iload_n B.1 B.2.1 dX12_breaksOff_14 rfl (lv_at hl 1 rfl) ?_
  refine m_ild (k := 93) (i := 70) (n := 16) (z := a_r) (v := x3) B hM rfl rfl rfl (by decide) dX12_breaksOff_15 (by omega) (by omega) (by exact wr_at _ _ _) ?_
  refine q_bip B dX12_breaksOff_16 (by decide) ?_
  refine q_cge (tgt := 22) B dX12_breaksOff_18 (by decide) (by unfold inr; omega) (by unfold inr; omega) (fun c4 => ?_) (fun c4 => ?_)
  · have hfl := FIp_lt p_3 (by omega) (by omega) (show (A 91) ((a_r)).toNat ≠ 2 from by omega)
    refine lv_aload_n B.1 B.2.1 dX12_breaksOff_22 rfl (lv_at hl 0 rfl) ?_
    refine m_geta (k := 91) B hM (by decide) rfl fl337 dX12_breaksOff_23 ?_
    refine lv_iload_n B.1 B.2.1 dX12_breaksOff_26 rfl (lv_at hl 1 rfl) ?_
    refine q_con B dX12_breaksOff_27 ?_
    refine m_ist (k := 91) (i := 68) (n := 16) B hM rfl rfl rfl (by decide) dX12_breaksOff_28 (by omega) (by omega) (show (0 : Int) ≤ 2 from by first | omega | (simp only [wr_at] <;> omega)) (show 2 ≤ (2 : Int) from by first | omega | (simp only [wr_at] <;> omega)) (u1_up A [(93, (wr (A 93) a_r x3)), (91, (A 91)), (94, (A 94)), (95, (A 95))] 91 (wr (A 91) a_r 2)) (fun H locs hM => ?_)
    replace hM : MWd D dA h0 ad (mF dA h0 ad (f, g, A, L) s.heap.size) s.heap ((up f [(97, f 97)]), g, (up A [(93, (wr (A 93) a_r x3)), (91, (wr (A 91) a_r 2)), (94, (A 94)), (95, (A 95))]), L) H locs := hM
    refine lv_aload_n B.1 B.2.1 dX12_breaksOff_29 rfl (lv_at hl 0 rfl) ?_
    refine m_geta (k := 94) B hM (by decide) rfl fl346 dX12_breaksOff_30 ?_
    refine lv_aload_n B.1 B.2.1 dX12_breaksOff_33 rfl (lv_at hl 0 rfl) ?_
    refine m_get (k := 97) (v := f 97) B hM (by decide) rfl fl527 dX12_breaksOff_34 rfl ?_
    refine lv_iload_n B.1 B.2.1 dX12_breaksOff_37 rfl (lv_at hl 1 rfl) ?_
    refine m_ist (k := 94) (i := 71) (n := 16) B hM rfl rfl rfl (by decide) dX12_breaksOff_38 (by omega) (by omega) (show (-2147483648 : Int) ≤ a_r from by first | omega | (simp only [wr_at] <;> omega)) (show a_r ≤ (2147483647 : Int) from by first | omega | (simp only [wr_at] <;> omega)) (u1_up A [(93, (wr (A 93) a_r x3)), (91, (wr (A 91) a_r 2)), (94, (A 94)), (95, (A 95))] 94 (wr (A 94) (f 97) a_r)) (fun H locs hM => ?_)
    replace hM : MWd D dA h0 ad (mF dA h0 ad (f, g, A, L) s.heap.size) s.heap ((up f [(97, f 97)]), g, (up A [(93, (wr (A 93) a_r x3)), (91, (wr (A 91) a_r 2)), (94, (wr (A 94) (f 97) a_r)), (95, (A 95))]), L) H locs := hM
    refine lv_aload_n B.1 B.2.1 dX12_breaksOff_39 rfl (lv_at hl 0 rfl) ?_
    refine m_geta (k := 95) B hM (by decide) rfl fl349 dX12_breaksOff_40 ?_
    refine lv_aload_n B.1 B.2.1 dX12_breaksOff_43 rfl (lv_at hl 0 rfl) ?_
    refine m_get (k := 97) (v := f 97) B hM (by decide) rfl fl527 dX12_breaksOff_44 rfl ?_
    refine q_con B dX12_breaksOff_47 ?_
    refine m_ist (k := 95) (i := 72) (n := 16) B hM rfl rfl rfl (by decide) dX12_breaksOff_48 (by omega) (by omega) (show (-2147483648 : Int) ≤ 3 from by first | omega | (simp only [wr_at] <;> omega)) (show 3 ≤ (2147483647 : Int) from by first | omega | (simp only [wr_at] <;> omega)) (u1_up A [(93, (wr (A 93) a_r x3)), (91, (wr (A 91) a_r 2)), (94, (wr (A 94) (f 97) a_r)), (95, (A 95))] 95 (wr (A 95) (f 97) 3)) (fun H locs hM => ?_)
    replace hM : MWd D dA h0 ad (mF dA h0 ad (f, g, A, L) s.heap.size) s.heap ((up f [(97, f 97)]), g, (up A [(93, (wr (A 93) a_r x3)), (91, (wr (A 91) a_r 2)), (94, (wr (A 94) (f 97) a_r)), (95, (wr (A 95) (f 97) 3))]), L) H locs := hM
    refine lv_aload_n B.1 B.2.1 dX12_breaksOff_49 rfl (lv_at hl 0 rfl) ?_
    refine lv_dup B.1 B.2.1 dX12_breaksOff_50 rfl ?_
    refine m_get (k := 97) (v := f 97) B hM (by decide) rfl fl527 dX12_breaksOff_51 rfl ?_
    refine q_con B dX12_breaksOff_54 ?_
    refine q_add B dX12_breaksOff_55 ?_
    refine m_put (k := 97) B hM (by decide) rfl fl527 rfl dX12_breaksOff_56 rfl rfl (show (0 : Int) ≤ (f 97) + 1 from by first | omega | (simp only [wr_at] <;> omega)) (show (f 97) + 1 ≤ (16 : Int) from by first | omega | (simp only [wr_at] <;> omega)) (u1_up f [(97, f 97)] 97 ((f 97) + 1)) (fun H locs hM => ?_)
    replace hM : MWd D dA h0 ad (mF dA h0 ad (f, g, A, L) s.heap.size) s.heap ((up f [(97, (f 97) + 1)]), g, (up A [(93, (wr (A 93) a_r x3)), (91, (wr (A 91) a_r 2)), (94, (wr (A 94) (f 97) a_r)), (95, (wr (A 95) (f 97) 3))]), L) H locs := hM
    subst hPST
    exact m_vret B hM dX12_breaksOff_59 ⟨((f 97) + 1), ((wr (A 93) a_r x3)), ((wr (A 91) a_r 2)), ((wr (A 94) (f 97) a_r)), ((wr (A 95) (f 97) 3)), rfl, (by exact FIp_put p_3 (by omega) (by omega) (by omega) (by omega))⟩
  · subst hPST
    exact m_vret B hM dX12_breaksOff_21 ⟨(f 97), ((wr (A 93) a_r x3)), ((A 91)), ((A 94)), ((A 95)), rfl, (by exact p_3)⟩
