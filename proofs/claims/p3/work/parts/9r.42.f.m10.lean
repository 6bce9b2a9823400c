set_option maxHeartbeats 200000000 in
set_option maxRecDepth 20000 in
theorem k_size (l : Launch) (D : va_G) (dA : Nat → ClassId) (a_v : Int64) : SCl l yX12_size cX12_size 2 ({ frames := 0, cells := 0, slots := 0, locals := 0 }) D dA [.long a_v] (fun r => True) := by
  refine s_start (by decide) rfl (Nat.le_of_ble_eq_true rfl) (fun p e s m args below meth c ls B hl => ?_)
  have hl : lv_has ls 2 [(0, .long a_v)] := hl
  refine lv_lload_n B.1 B.2.1 dX12_size_0 rfl (lv_at hl 0 rfl) ?_
  refine lv_lconst (v := 0) B.1 B.2.1 dX12_size_1 (by decide) ?_
  refine q_lcmp B dX12_size_2 (fun x1 lx1 ux1 ex1 => ?_)
  refine q_ige (tgt := 11) B dX12_size_3 (by decide) (by unfold inr; omega) (fun c2 => ?_) (fun c2 => ?_)
  · refine lv_lload_n B.1 B.2.1 dX12_size_11 rfl (lv_at hl 0 rfl) ?_
    exact s_lret B dX12_size_12 (by trivial)
  · refine lv_lload_n B.1 B.2.1 dX12_size_6 rfl (lv_at hl 0 rfl) ?_
    refine lv_lneg B.1 B.2.1 dX12_size_7 ?_
    refine lv_topl (fun w3 ew3 => ?_)
    refine lv_goto (tgt := 12) B.1 B.2.1 dX12_size_8 (by decide) ?_
    exact s_lret B dX12_size_12 (by trivial)
set_option maxHeartbeats 200000000 in
set_option maxRecDepth 20000 in
theorem k_proposal (l : Launch) (D : va_G) (dA : Nat → ClassId) (h0 : Nat) (ad : Nat → Nat) (f : Nat → Int) (g : Nat → Int64) (A : Nat → Nat → Int) (L : Nat → Nat → Int64) (a_v : Int) (a_o : Int) (i_v : (-2147483648 : Int) ≤ a_v ∧ a_v ≤ 2147483647) (i_o : (-2147483648 : Int) ≤ a_o ∧ a_o ≤ 2147483647) (p_0 : 0 ≤ (a_o)) (p_1 : (a_o) < 8640) : MCi l yX12_proposal cX12_proposal 10 (some .int) ({ frames := 1, cells := 0, slots := 0, locals := 21 }) D dA h0 ad (f, g, A, L) [.int (II a_v), .int (II a_o)] (fun (r : Int) (σ : MS) => σ = (f, g, A, L) ∧ (True)) := by
  generalize hPST : (fun (r : Int) (σ : MS) => σ = (f, g, A, L) ∧ (True)) = PST
  refine m_enter (by decide) rfl (Nat.le_of_ble_eq_true rfl) (fun p e s m args below meth c ls B hM hl => ?_)
  have hA : ∀ q, s.heap.size ≤ q → mF dA h0 ad (f, g, A, L) s.heap.size q := fun q h => Or.inr h
  have hl : lv_has ls 10 [(0, .ref h0), (1, .int (II a_v)), (2, .int (II a_o))] := hl
  have LL32 : ∀ N : Nat, ∀ (v32_3 : Int) (v32_4 : Int) (H : Heap) (locs : List Loc) (ls : Array Slot), (MWd D dA h0 ad (mF dA h0 ad (f, g, A, L) s.heap.size) s.heap (f, g, A, L) H locs) → lv_has ls 10 [(0, .ref h0), (1, .int (II a_v)), (2, .int (II a_o)), (3, .int (II v32_3)), (4, .int (II v32_4))] → ((-2147483648 : Int) ≤ v32_3 ∧ v32_3 ≤ 2147483647) → ((-2147483648 : Int) ≤ v32_4 ∧ v32_4 ≤ 2147483647) → (1 ≤ (v32_4)) → ((v32_4) ≤ 4) → (0 ≤ 4 - (v32_4)) → (4 - (v32_4) < (N : Int)) → W p l e ({ frames := 1, cells := 0, slots := 0, locals := 21 }) s m args below meth c H locs 0 0 (MQ below (mQi D dA h0 ad (f, g, A, L) s.heap.size PST) args s 0 0 (mF dA h0 ad (f, g, A, L) s.heap.size)) (F0 m 32 ls []) := by
    intro N
    induction N with
    | zero => intro v32_3 v32_4 H locs ls hM hl hLL32_0 hLL32_1 hLL32_2 hLL32_3 hLL32_4 hN; exfalso; omega
    | succ N IH32 =>
      intro v32_3 v32_4 H locs ls hM hl hLL32_0 hLL32_1 hLL32_2 hLL32_3 hLL32_4 hN
      refine lv_iload B.1 B.2.1 dX12_proposal_32 (lv_at hl 4 rfl) ?_
      refine lv_aload_n B.1 B.2.1 dX12_proposal_34 rfl (lv_at hl 0 rfl) ?_
      refine m_geta (k := 71) B hM (by decide) rfl fl284 dX12_proposal_35 ?_
      refine lv_iload_n B.1 B.2.1 dX12_proposal_38 rfl (lv_at hl 2 rfl) ?_
      refine m_ild (k := 71) (i := 51) (n := 12960) (z := a_o) (v := (A 71) a_o.toNat) B hM rfl rfl rfl (by decide) dX12_proposal_39 (by omega) (by omega) rfl ?_
      have r1 : (0 : Int) ≤ (A 71) a_o.toNat ∧ (A 71) a_o.toNat ≤ 4 := hM.2.2.2.2 71 a_o.toNat
      refine q_cge (tgt := 108) B dX12_proposal_40 (by decide) (by unfold inr; omega) (by unfold inr; omega) (fun c2 => ?_) (fun c2 => ?_)
      · refine lv_iload_n B.1 B.2.1 dX12_proposal_108 rfl (lv_at hl 3 rfl) ?_
        subst hPST
        exact m_iret B hM dX12_proposal_109 (by unfold inr; omega) ⟨rfl, by trivial⟩
      · refine lv_aload_n B.1 B.2.1 dX12_proposal_43 rfl (lv_at hl 0 rfl) ?_
        refine m_geta (k := 72) B hM (by decide) rfl fl288 dX12_proposal_44 ?_
        refine q_con B dX12_proposal_47 ?_
        refine lv_iload_n B.1 B.2.1 dX12_proposal_48 rfl (lv_at hl 2 rfl) ?_
        refine q_mul B dX12_proposal_49 ?_
        refine lv_iload B.1 B.2.1 dX12_proposal_50 (lv_at hl 4 rfl) ?_
        refine q_add B dX12_proposal_52 ?_
        refine m_ild (k := 72) (i := 52) (n := 51840) (z := (4 * a_o) + v32_4) (v := (A 72) ((4 * a_o) + v32_4).toNat) B hM rfl rfl rfl (by decide) dX12_proposal_53 (by omega) (by omega) rfl ?_
        have r3 : (-2147483648 : Int) ≤ (A 72) ((4 * a_o) + v32_4).toNat ∧ (A 72) ((4 * a_o) + v32_4).toNat ≤ 2147483647 := hM.2.2.2.2 72 ((4 * a_o) + v32_4).toNat
        refine lv_istore (lv' := [(5, .int (II ((A 72) ((4 * a_o) + v32_4).toNat))), (0, .ref h0), (1, .int (II a_v)), (2, .int (II a_o)), (3, .int (II v32_3)), (4, .int (II v32_4))]) B.1 B.2.1 dX12_proposal_54 hl (by decide) rfl (fun ls hl => ?_)
        refine lv_iload B.1 B.2.1 dX12_proposal_56 (lv_at hl 0 rfl) ?_
        refine q_i2l B dX12_proposal_58 (fun w4 => ?_)
        refine lv_iload_n B.1 B.2.1 dX12_proposal_59 rfl (lv_at hl 2 rfl) ?_
        refine q_i2l B dX12_proposal_60 (fun w5 => ?_)
        refine lv_lsub B.1 B.2.1 dX12_proposal_61 ?_
        refine lv_topl (fun w6 ew6 => ?_)
        refine s_calll (n := 1) (rest := []) B hl.1 (k_size l D dA w6  ) rfl ok_size nm_size ⟨rfl, rfl⟩ ⟨Nat.le_of_ble_eq_true rfl, Nat.le_of_ble_eq_true rfl⟩ dX12_proposal_62 rfl rfl (Nat.le_of_ble_eq_true rfl) ⟨Nat.zero_le _, Nat.zero_le _⟩ (fun r7 hp8 => ?_)
        replace hp8 : True := hp8
        refine lv_lstore (lv' := [(6, .long r7), (5, .int (II ((A 72) ((4 * a_o) + v32_4).toNat))), (0, .ref h0), (1, .int (II a_v)), (2, .int (II a_o)), (3, .int (II v32_3)), (4, .int (II v32_4))]) B.1 B.2.1 dX12_proposal_65 hl (by decide) rfl (fun ls hl => ?_)
        refine lv_iload_n B.1 B.2.1 dX12_proposal_67 rfl (lv_at hl 5 rfl) ?_
        refine q_i2l B dX12_proposal_68 (fun w9 => ?_)
        refine lv_iload_n B.1 B.2.1 dX12_proposal_69 rfl (lv_at hl 3 rfl) ?_
        refine q_i2l B dX12_proposal_70 (fun w10 => ?_)
        refine lv_lsub B.1 B.2.1 dX12_proposal_71 ?_
        refine lv_topl (fun w11 ew11 => ?_)
        refine s_calll (n := 1) (rest := []) B hl.1 (k_size l D dA w11  ) rfl ok_size nm_size ⟨rfl, rfl⟩ ⟨Nat.le_of_ble_eq_true rfl, Nat.le_of_ble_eq_true rfl⟩ dX12_proposal_72 rfl rfl (Nat.le_of_ble_eq_true rfl) ⟨Nat.zero_le _, Nat.zero_le _⟩ (fun r12 hp13 => ?_)
        replace hp13 : True := hp13
        refine lv_lstore (lv' := [(8, .long r12), (6, .long r7), (5, .int (II ((A 72) ((4 * a_o) + v32_4).toNat))), (0, .ref h0), (1, .int (II a_v)), (2, .int (II a_o)), (3, .int (II v32_3)), (4, .int (II v32_4))]) B.1 B.2.1 dX12_proposal_75 hl (by decide) rfl (fun ls hl => ?_)
        refine lv_lload B.1 B.2.1 dX12_proposal_77 (lv_at hl 1 rfl) ?_
        refine lv_lload B.1 B.2.1 dX12_proposal_79 (lv_at hl 0 rfl) ?_
        refine q_lcmp B dX12_proposal_81 (fun x14 lx14 ux14 ex14 => ?_)
        refine q_ilt (tgt := 99) B dX12_proposal_82 (by decide) (by unfold inr; omega) (fun c15 => ?_) (fun c15 => ?_)
        · refine lv_iload B.1 B.2.1 dX12_proposal_99 (lv_at hl 2 rfl) ?_
          refine lv_istore_n (lv' := [(3, .int (II ((A 72) ((4 * a_o) + v32_4).toNat))), (8, .long r12), (6, .long r7), (5, .int (II ((A 72) ((4 * a_o) + v32_4).toNat))), (0, .ref h0), (1, .int (II a_v)), (2, .int (II a_o)), (4, .int (II v32_4))]) B.1 B.2.1 dX12_proposal_101 rfl hl (by decide) rfl (fun ls hl => ?_)
          refine q_inc (k := 7) (x := v32_4) (lv' := [(4, .int (II (v32_4 + 1))), (3, .int (II ((A 72) ((4 * a_o) + v32_4).toNat))), (8, .long r12), (6, .long r7), (5, .int (II ((A 72) ((4 * a_o) + v32_4).toNat))), (0, .ref h0), (1, .int (II a_v)), (2, .int (II a_o))]) B dX12_proposal_102 hl rfl (by decide) rfl (fun ls hl => ?_)
          refine lv_goto (tgt := 32) B.1 B.2.1 dX12_proposal_105 (by decide) ?_
          have hv16 : ((-2147483648 : Int) ≤ (A 72) ((4 * a_o) + v32_4).toNat ∧ ((A 72) ((4 * a_o) + v32_4).toNat : Int) ≤ 2147483647) ∧ ((-2147483648 : Int) ≤ v32_4 + 1 ∧ (v32_4 + 1 : Int) ≤ 2147483647) ∧ (1 ≤ (v32_4 + 1)) ∧ ((v32_4 + 1) ≤ 4) ∧ (0 ≤ 4 - (v32_4 + 1)) := by first | omega | (simp only [wr_at] <;> omega) | exact ⟨by first | omega | (simp only [wr_at] <;> omega) | assumption | (intro _; exact wr_at _ _ _), by first | omega | (simp only [wr_at] <;> omega) | assumption | (intro _; exact wr_at _ _ _), by first | omega | (simp only [wr_at] <;> omega) | assumption | (intro _; exact wr_at _ _ _), by first | omega | (simp only [wr_at] <;> omega) | assumption | (intro _; exact wr_at _ _ _), by first | omega | (simp only [wr_at] <;> omega) | assumption | (intro _; exact wr_at _ _ _)⟩
          exact IH32 ((A 72) ((4 * a_o) + v32_4).toNat) (v32_4 + 1) _ _ ls hM (lv_sub hl [5, 6, 7, 1, 0] rfl) hv16.1 hv16.2.1 hv16.2.2.1 hv16.2.2.2.1 hv16.2.2.2.2 (by first | omega | (simp only [wr_at] <;> omega) | assumption | (intro _; exact wr_at _ _ _))
        · refine lv_lload B.1 B.2.1 dX12_proposal_85 (lv_at hl 1 rfl) ?_
          refine lv_lload B.1 B.2.1 dX12_proposal_87 (lv_at hl 0 rfl) ?_
          refine q_lcmp B dX12_proposal_89 (fun x17 lx17 ux17 ex17 => ?_)
          refine q_ine (tgt := 102) B dX12_proposal_90 (by decide) (by unfold inr; omega) (fun c18 => ?_) (fun c18 => ?_)
          · refine q_inc (k := 7) (x := v32_4) (lv' := [(4, .int (II (v32_4 + 1))), (8, .long r12), (6, .long r7), (5, .int (II ((A 72) ((4 * a_o) + v32_4).toNat))), (0, .ref h0), (1, .int (II a_v)), (2, .int (II a_o)), (3, .int (II v32_3))]) B dX12_proposal_102 hl rfl (by decide) rfl (fun ls hl => ?_)
            refine lv_goto (tgt := 32) B.1 B.2.1 dX12_proposal_105 (by decide) ?_
            have hv19 : ((-2147483648 : Int) ≤ v32_3 ∧ (v32_3 : Int) ≤ 2147483647) ∧ ((-2147483648 : Int) ≤ v32_4 + 1 ∧ (v32_4 + 1 : Int) ≤ 2147483647) ∧ (1 ≤ (v32_4 + 1)) ∧ ((v32_4 + 1) ≤ 4) ∧ (0 ≤ 4 - (v32_4 + 1)) := by first | omega | (simp only [wr_at] <;> omega) | exact ⟨by first | omega | (simp only [wr_at] <;> omega) | assumption | (intro _; exact wr_at _ _ _), by first | omega | (simp only [wr_at] <;> omega) | assumption | (intro _; exact wr_at _ _ _), by first | omega | (simp only [wr_at] <;> omega) | assumption | (intro _; exact wr_at _ _ _), by first | omega | (simp only [wr_at] <;> omega) | assumption | (intro _; exact wr_at _ _ _), by first | omega | (simp only [wr_at] <;> omega) | assumption | (intro _; exact wr_at _ _ _)⟩
            exact IH32 v32_3 (v32_4 + 1) _ _ ls hM (lv_sub hl [4, 5, 6, 7, 0] rfl) hv19.1 hv19.2.1 hv19.2.2.1 hv19.2.2.2.1 hv19.2.2.2.2 (by first | omega | (simp only [wr_at] <;> omega) | assumption | (intro _; exact wr_at _ _ _))
          · refine lv_iload B.1 B.2.1 dX12_proposal_93 (lv_at hl 2 rfl) ?_
            refine lv_iload_n B.1 B.2.1 dX12_proposal_95 rfl (lv_at hl 6 rfl) ?_
            refine q_cge (tgt := 102) B dX12_proposal_96 (by decide) (by unfold inr; omega) (by unfold inr; omega) (fun c20 => ?_) (fun c20 => ?_)
            · refine q_inc (k := 7) (x := v32_4) (lv' := [(4, .int (II (v32_4 + 1))), (8, .long r12), (6, .long r7), (5, .int (II ((A 72) ((4 * a_o) + v32_4).toNat))), (0, .ref h0), (1, .int (II a_v)), (2, .int (II a_o)), (3, .int (II v32_3))]) B dX12_proposal_102 hl rfl (by decide) rfl (fun ls hl => ?_)
              refine lv_goto (tgt := 32) B.1 B.2.1 dX12_proposal_105 (by decide) ?_
              have hv21 : ((-2147483648 : Int) ≤ v32_3 ∧ (v32_3 : Int) ≤ 2147483647) ∧ ((-2147483648 : Int) ≤ v32_4 + 1 ∧ (v32_4 + 1 : Int) ≤ 2147483647) ∧ (1 ≤ (v32_4 + 1)) ∧ ((v32_4 + 1) ≤ 4) ∧ (0 ≤ 4 - (v32_4 + 1)) := by first | omega | (simp only [wr_at] <;> omega) | exact ⟨by first | omega | (simp only [wr_at] <;> omega) | assumption | (intro _; exact wr_at _ _ _), by first | omega | (simp only [wr_at] <;> omega) | assumption | (intro _; exact wr_at _ _ _), by first | omega | (simp only [wr_at] <;> omega) | assumption | (intro _; exact wr_at _ _ _), by first | omega | (simp only [wr_at] <;> omega) | assumption | (intro _; exact wr_at _ _ _), by first | omega | (simp only [wr_at] <;> omega) | assumption | (intro _; exact wr_at _ _ _)⟩
              exact IH32 v32_3 (v32_4 + 1) _ _ ls hM (lv_sub hl [4, 5, 6, 7, 0] rfl) hv21.1 hv21.2.1 hv21.2.2.1 hv21.2.2.2.1 hv21.2.2.2.2 (by first | omega | (simp only [wr_at] <;> omega) | assumption | (intro _; exact wr_at _ _ _))
            · refine lv_iload B.1 B.2.1 dX12_proposal_99 (lv_at hl 2 rfl) ?_
              refine lv_istore_n (lv' := [(3, .int (II ((A 72) ((4 * a_o) + v32_4).toNat))), (8, .long r12), (6, .long r7), (5, .int (II ((A 72) ((4 * a_o) + v32_4).toNat))), (0, .ref h0), (1, .int (II a_v)), (2, .int (II a_o)), (4, .int (II v32_4))]) B.1 B.2.1 dX12_proposal_101 rfl hl (by decide) rfl (fun ls hl => ?_)
              refine q_inc (k := 7) (x := v32_4) (lv' := [(4, .int (II (v32_4 + 1))), (3, .int (II ((A 72) ((4 * a_o) + v32_4).toNat))), (8, .long r12), (6, .long r7), (5, .int (II ((A 72) ((4 * a_o) + v32_4).toNat))), (0, .ref h0), (1, .int (II a_v)), (2, .int (II a_o))]) B dX12_proposal_102 hl rfl (by decide) rfl (fun ls hl => ?_)
              refine lv_goto (tgt := 32) B.1 B.2.1 dX12_proposal_105 (by decide) ?_
              have hv22 : ((-2147483648 : Int) ≤ (A 72) ((4 * a_o) + v32_4).toNat ∧ ((A 72) ((4 * a_o) + v32_4).toNat : Int) ≤ 2147483647) ∧ ((-2147483648 : Int) ≤ v32_4 + 1 ∧ (v32_4 + 1 : Int) ≤ 2147483647) ∧ (1 ≤ (v32_4 + 1)) ∧ ((v32_4 + 1) ≤ 4) ∧ (0 ≤ 4 - (v32_4 + 1)) := by first | omega | (simp only [wr_at] <;> omega) | exact ⟨by first | omega | (simp only [wr_at] <;> omega) | assumption | (intro _; exact wr_at _ _ _), by first | omega | (simp only [wr_at] <;> omega) | assumption | (intro _; exact wr_at _ _ _), by first | omega | (simp only [wr_at] <;> omega) | assumption | (intro _; exact wr_at _ _ _), by first | omega | (simp only [wr_at] <;> omega) | assumption | (intro _; exact wr_at _ _ _), by first | omega | (simp only [wr_at] <;> omega) | assumption | (intro _; exact wr_at _ _ _)⟩
              exact IH32 ((A 72) ((4 * a_o) + v32_4).toNat) (v32_4 + 1) _ _ ls hM (lv_sub hl [5, 6, 7, 1, 0] rfl) hv22.1 hv22.2.1 hv22.2.2.1 hv22.2.2.2.1 hv22.2.2.2.2 (by first | omega | (simp only [wr_at] <;> omega) | assumption | (intro _; exact wr_at _ _ _))
  refine lv_aload_n B.1 B.2.1 dX12_proposal_0 rfl (lv_at hl 0 rfl) ?_
  refine m_geta (k := 65) B hM (by decide) rfl fl266 dX12_proposal_1 ?_
  refine lv_iload_n B.1 B.2.1 dX12_proposal_4 rfl (lv_at hl 2 rfl) ?_
  refine m_ild (k := 65) (i := 45) (n := 12960) (z := a_o) (v := (A 65) a_o.toNat) B hM rfl rfl rfl (by decide) dX12_proposal_5 (by omega) (by omega) rfl ?_
  have r23 : (0 : Int) ≤ (A 65) a_o.toNat ∧ (A 65) a_o.toNat ≤ 115 := hM.2.2.2.2 65 a_o.toNat
  refine q_bip B dX12_proposal_6 (by decide) ?_
  refine q_ceq (tgt := 20) B dX12_proposal_8 (by decide) (by unfold inr; omega) (by unfold inr; omega) (fun c24 => ?_) (fun c24 => ?_)
  · refine lv_aload_n B.1 B.2.1 dX12_proposal_20 rfl (lv_at hl 0 rfl) ?_
    refine m_geta (k := 72) B hM (by decide) rfl fl288 dX12_proposal_21 ?_
    refine q_con B dX12_proposal_24 ?_
    refine lv_iload_n B.1 B.2.1 dX12_proposal_25 rfl (lv_at hl 2 rfl) ?_
    refine q_mul B dX12_proposal_26 ?_
    refine m_ild (k := 72) (i := 52) (n := 51840) (z := 4 * a_o) (v := (A 72) (4 * a_o).toNat) B hM rfl rfl rfl (by decide) dX12_proposal_27 (by omega) (by omega) rfl ?_
    have r25 : (-2147483648 : Int) ≤ (A 72) (4 * a_o).toNat ∧ (A 72) (4 * a_o).toNat ≤ 2147483647 := hM.2.2.2.2 72 (4 * a_o).toNat
    refine lv_istore_n (lv' := [(3, .int (II ((A 72) (4 * a_o).toNat))), (0, .ref h0), (1, .int (II a_v)), (2, .int (II a_o))]) B.1 B.2.1 dX12_proposal_28 rfl hl (by decide) rfl (fun ls hl => ?_)
    refine q_con B dX12_proposal_29 ?_
    refine lv_istore (lv' := [(4, .int (II 1)), (3, .int (II ((A 72) (4 * a_o).toNat))), (0, .ref h0), (1, .int (II a_v)), (2, .int (II a_o))]) B.1 B.2.1 dX12_proposal_30 hl (by decide) rfl (fun ls hl => ?_)
    have hv26 : ((-2147483648 : Int) ≤ (A 72) (4 * a_o).toNat ∧ ((A 72) (4 * a_o).toNat : Int) ≤ 2147483647) ∧ ((-2147483648 : Int) ≤ 1 ∧ (1 : Int) ≤ 2147483647) ∧ (1 ≤ (1 : Int)) ∧ ((1 : Int) ≤ 4) ∧ (0 ≤ 4 - (1 : Int)) := by first | omega | (simp only [wr_at] <;> omega) | exact ⟨by first | omega | (simp only [wr_at] <;> omega) | assumption | (intro _; exact wr_at _ _ _), by first | omega | (simp only [wr_at] <;> omega) | assumption | (intro _; exact wr_at _ _ _), by first | omega | (simp only [wr_at] <;> omega) | assumption | (intro _; exact wr_at _ _ _), by first | omega | (simp only [wr_at] <;> omega) | assumption | (intro _; exact wr_at _ _ _), by first | omega | (simp only [wr_at] <;> omega) | assumption | (intro _; exact wr_at _ _ _)⟩
    exact LL32 (Int.toNat (4 - (1 : Int) + 1)) ((A 72) (4 * a_o).toNat) 1 _ _ ls hM (lv_sub hl [2, 3, 4, 1, 0] rfl) hv26.1 hv26.2.1 hv26.2.2.1 hv26.2.2.2.1 hv26.2.2.2.2 (by first | omega | (simp only [wr_at] <;> omega) | assumption | (intro _; exact wr_at _ _ _))
  · refine lv_aload_n B.1 B.2.1 dX12_proposal_11 rfl (lv_at hl 0 rfl) ?_
    refine m_geta (k := 72) B hM (by decide) rfl fl288 dX12_proposal_12 ?_
    refine q_con B dX12_proposal_15 ?_
    refine lv_iload_n B.1 B.2.1 dX12_proposal_16 rfl (lv_at hl 2 rfl) ?_
    refine q_mul B dX12_proposal_17 ?_
    refine m_ild (k := 72) (i := 52) (n := 51840) (z := 4 * a_o) (v := (A 72) (4 * a_o).toNat) B hM rfl rfl rfl (by decide) dX12_proposal_18 (by omega) (by omega) rfl ?_
    have r27 : (-2147483648 : Int) ≤ (A 72) (4 * a_o).toNat ∧ (A 72) (4 * a_o).toNat ≤ 2147483647 := hM.2.2.2.2 72 (4 * a_o).toNat
    subst hPST
    exact m_iret B hM dX12_proposal_19 (by unfold inr; omega) ⟨rfl, by trivial⟩
set_option maxHeartbeats 200000000 in
set_option maxRecDepth 20000 in
theorem k_add2 (l : Launch) (D : va_G) (dA : Nat → ClassId) (h0 : Nat) (ad : Nat → Nat) (f : Nat → Int) (g : Nat → Int64) (A : Nat → Nat → Int) (L : Nat → Nat → Int64) (a_f : Int) (a_c : Int) (i_f : (-2147483648 : Int) ≤ a_f ∧ a_f ≤ 2147483647) (i_c : (-2147483648 : Int) ≤ a_c ∧ a_c ≤ 2147483647) (p_0 : 0 ≤ (a_f)) (p_1 : (a_f) < 500) (p_2 : (f 128) ≤ 999) : MCv l yX12_add2 cX12_add2 3 ({ frames := 0, cells := 0, slots := 0, locals := 0 }) D dA h0 ad (f, g, A, L) [.int (II a_f), .int (II a_c)] (fun (σ : MS) => ∃ b117 : Nat → Int, σ = ((up f [(128, ((f 128) + 1))]), g, (up A [(117, b117)]), L) ∧ (True)) := by
  generalize hPST : (fun (σ : MS) => ∃ b117 : Nat → Int, σ = ((up f [(128, ((f 128) + 1))]), g, (up A [(117, b117)]), L) ∧ (True)) = PST
  refine m_enterv (by decide) rfl (Nat.le_of_ble_eq_true rfl) (fun p e s m args below meth c ls B hM hl => ?_)
  have hA : ∀ q, s.heap.size ≤ q → mF dA h0 ad (f, g, A, L) s.heap.size q := fun q h => Or.inr h
  have hM : MWd D dA h0 ad (mF dA h0 ad (f, g, A, L) s.heap.size) s.heap ((up f [(128, f 128)]), g, (up A [(117, (A 117))]), L) s.heap [] := MW_pad hM (up_self f [128]) rfl (up_self A [117]) rfl
  have hl : lv_has ls 3 [(0, .ref h0), (1, .int (II a_f)), (2, .int (II a_c))] := hl
  have r1 : (0 : Int) ≤ f 128 ∧ f 128 ≤ 1000 := hM.2.2.2.1 128
  refine lv_aload_n B.1 B.2.1 dX12_add2_0 rfl (lv_at hl 0 rfl) ?_
  refine m_get (k := 128) (v := f 128) B hM (by decide) rfl fl692 dX12_add2_1 rfl ?_
  refine q_bip B dX12_add2_4 (by decide) ?_
  refine q_cge (tgt := 25) B dX12_add2_6 (by decide) (by unfold inr; omega) (by unfold inr; omega) (fun c2 => ?_) (fun c2 => ?_)
  · refine lv_aload_n B.1 B.2.1 dX12_add2_25 rfl (lv_at hl 0 rfl) ?_
    refine lv_dup B.1 B.2.1 dX12_add2_26 rfl ?_
    refine m_get (k := 128) (v := f 128) B hM (by decide) rfl fl692 dX12_add2_27 rfl ?_
    refine q_con B dX12_add2_30 ?_
    refine q_add B dX12_add2_31 ?_
    refine m_put (k := 128) B hM (by decide) rfl fl692 rfl dX12_add2_32 rfl rfl (show (0 : Int) ≤ (f 128) + 1 from by first | omega | (simp only [wr_at] <;> omega)) (show (f 128) + 1 ≤ (1000 : Int) from by first | omega | (simp only [wr_at] <;> omega)) (u1_up f [(128, f 128)] 128 ((f 128) + 1)) (fun H locs hM => ?_)
    replace hM : MWd D dA h0 ad (mF dA h0 ad (f, g, A, L) s.heap.size) s.heap ((up f [(128, (f 128) + 1)]), g, (up A [(117, (A 117))]), L) H locs := hM
    subst hPST
    exact m_vret B hM dX12_add2_35 ⟨((A 117)), rfl, by trivial⟩
  · refine lv_aload_n B.1 B.2.1 dX12_add2_9 rfl (lv_at hl 0 rfl) ?_
    refine m_geta (k := 117) B hM (by decide) rfl fl389 dX12_add2_10 ?_
    refine q_bip B dX12_add2_13 (by decide) ?_
    refine lv_iload_n B.1 B.2.1 dX12_add2_15 rfl (lv_at hl 1 rfl) ?_
    refine q_mul B dX12_add2_16 ?_
    refine lv_aload_n B.1 B.2.1 dX12_add2_17 rfl (lv_at hl 0 rfl) ?_
    refine m_get (k := 128) (v := f 128) B hM (by decide) rfl fl692 dX12_add2_18 rfl ?_
    refine q_add B dX12_add2_21 ?_
    refine lv_iload_n B.1 B.2.1 dX12_add2_22 rfl (lv_at hl 2 rfl) ?_
    refine q_i2b B dX12_add2_23 (fun x3 ix3 => ?_)
    unfold inr at ix3
    refine m_bst (k := 117) (i := 85) (n := 40000) B hM rfl rfl rfl (by decide) rfl dX12_add2_24 (by omega) (by omega) (fun H locs x4 lx4 ux4 hM => ?_)
    rw [u1_up] at hM
    replace hM : MWd D dA h0 ad (mF dA h0 ad (f, g, A, L) s.heap.size) s.heap ((up f [(128, f 128)]), g, (up A [(117, (wr (A 117) ((80 * a_f) + (f 128)) x4))]), L) H locs := hM
    refine lv_aload_n B.1 B.2.1 dX12_add2_25 rfl (lv_at hl 0 rfl) ?_
    refine lv_dup B.1 B.2.1 dX12_add2_26 rfl ?_
    refine m_get (k := 128) (v := f 128) B hM (by decide) rfl fl692 dX12_add2_27 rfl ?_
    refine q_con B dX12_add2_30 ?_
    refine q_add B dX12_add2_31 ?_
    refine m_put (k := 128) B hM (by decide) rfl fl692 rfl dX12_add2_32 rfl rfl (show (0 : Int) ≤ (f 128) + 1 from by first | omega | (simp only [wr_at] <;> omega)) (show (f 128) + 1 ≤ (1000 : Int) from by first | omega | (simp only [wr_at] <;> omega)) (u1_up f [(128, f 128)] 128 ((f 128) + 1)) (fun H locs hM => ?_)
    replace hM : MWd D dA h0 ad (mF dA h0 ad (f, g, A, L) s.heap.size) s.heap ((up f [(128, (f 128) + 1)]), g, (up A [(117, (wr (A 117) ((80 * a_f) + (f 128)) x4))]), L) H locs := hM
    subst hPST
    exact m_vret B hM dX12_add2_35 ⟨((wr (A 117) ((80 * a_f) + (f 128)) x4)), rfl, by trivial⟩
