set_option maxHeartbeats 200000000 in
set_option maxRecDepth 20000 in
theorem k_isTotal (l : Launch) (D : va_G) (dA : Nat → ClassId) (h0 : Nat) (ad : Nat → Nat) (f : Nat → Int) (g : Nat → Int64) (A : Nat → Nat → Int) (L : Nat → Nat → Int64) (a_p : Int) (a_o : Int) (i_p : (-2147483648 : Int) ≤ a_p ∧ a_p ≤ 2147483647) (i_o : (-2147483648 : Int) ≤ a_o ∧ a_o ≤ 2147483647) (p_0 : 0 ≤ (a_p)) (p_1 : (a_p) < 200) (p_2 : 0 ≤ (a_o)) (p_3 : (a_o) < 8640) (p_4 : AG (A 72) (4 * (a_o)) 3) : MCi l yX12_isTotal cX12_isTotal 9 (some .boolean) ({ frames := 0, cells := 0, slots := 0, locals := 0 }) D dA h0 ad (f, g, A, L) [.int (II a_p), .int (II a_o)] (fun (r : Int) (σ : MS) => σ = (f, g, A, L) ∧ (0 ≤ r ∧ r ≤ 1)) := by
  generalize hPST : (fun (r : Int) (σ : MS) => σ = (f, g, A, L) ∧ (0 ≤ r ∧ r ≤ 1)) = PST
  refine m_enter (by decide) rfl (Nat.le_of_ble_eq_true rfl) (fun p e s m args below meth c ls B hM hl => ?_)
  have hA : ∀ q, s.heap.size ≤ q → mF dA h0 ad (f, g, A, L) s.heap.size q := fun q h => Or.inr h
  have hl : lv_has ls 9 [(0, .ref h0), (1, .int (II a_p)), (2, .int (II a_o))] := hl
  have hg0 := p_4 0 (by omega) (by omega)
  rw [show 4 * (a_o) + 0 = 4 * (a_o) from by omega] at hg0
  have hg1 := p_4 1 (by omega) (by omega)
  have hg2 := p_4 2 (by omega) (by omega)
  have LL48 : ∀ N : Nat, ∀ (v48_5 : Int64) (v48_7 : Int) (H : Heap) (locs : List Loc) (ls : Array Slot), (MWd D dA h0 ad (mF dA h0 ad (f, g, A, L) s.heap.size) s.heap (f, g, A, L) H locs) → lv_has ls 9 [(0, .ref h0), (1, .int (II a_p)), (2, .int (II a_o)), (5, .long v48_5), (7, .int (II v48_7)), (3, .int (II (12 * (a_p) + (A 72) (4 * (a_o) + 2).toNat))), (4, .int (II (12 * (a_p) + (A 72) (4 * (a_o)).toNat)))] → ((-2147483648 : Int) ≤ v48_7 ∧ v48_7 ≤ 2147483647) → (0 ≤ (v48_7)) → ((v48_7) ≤ 20) → (0 ≤ 20 - (v48_7)) → (20 - (v48_7) < (N : Int)) → W p l e ({ frames := 0, cells := 0, slots := 0, locals := 0 }) s m args below meth c H locs 0 0 (MQ below (mQi D dA h0 ad (f, g, A, L) s.heap.size PST) args s 0 0 (mF dA h0 ad (f, g, A, L) s.heap.size)) (F0 m 48 ls []) := by
    intro N
    induction N with
    | zero => intro v48_5 v48_7 H locs ls hM hl hLL48_0 hLL48_1 hLL48_2 hLL48_3 hN; exfalso; omega
    | succ N IH48 =>
      intro v48_5 v48_7 H locs ls hM hl hLL48_0 hLL48_1 hLL48_2 hLL48_3 hN
      refine lv_iload B.1 B.2.1 dX12_isTotal_48 (lv_at hl 4 rfl) ?_
      refine lv_aload_n B.1 B.2.1 dX12_isTotal_50 rfl (lv_at hl 0 rfl) ?_
      refine m_geta (k := 87) B hM (by decide) rfl fl327 dX12_isTotal_51 ?_
      refine lv_iload B.1 B.2.1 dX12_isTotal_54 (lv_at hl 6 rfl) ?_
      refine m_ild (k := 87) (i := 65) (n := 2400) (z := 12 * (a_p) + (A 72) (4 * (a_o)).toNat) (v := (A 87) (12 * (a_p) + (A 72) (4 * (a_o)).toNat).toNat) B hM rfl rfl rfl (by decide) dX12_isTotal_56 (by omega) (by omega) rfl ?_
      have r1 : (0 : Int) ≤ (A 87) (12 * (a_p) + (A 72) (4 * (a_o)).toNat).toNat ∧ (A 87) (12 * (a_p) + (A 72) (4 * (a_o)).toNat).toNat ≤ 20 := hM.2.2.2.2 87 (12 * (a_p) + (A 72) (4 * (a_o)).toNat).toNat
      refine q_cge (tgt := 122) B dX12_isTotal_57 (by decide) (by unfold inr; omega) (by unfold inr; omega) (fun c2 => ?_) (fun c2 => ?_)
      · refine lv_lload B.1 B.2.1 dX12_isTotal_122 (lv_at hl 3 rfl) ?_
        refine lv_aload_n B.1 B.2.1 dX12_isTotal_124 rfl (lv_at hl 0 rfl) ?_
        refine m_geta (k := 84) B hM (by decide) rfl fl318 dX12_isTotal_125 ?_
        refine lv_iload_n B.1 B.2.1 dX12_isTotal_128 rfl (lv_at hl 5 rfl) ?_
        refine m_ild (k := 84) (i := 62) (n := 2400) (z := 12 * (a_p) + (A 72) (4 * (a_o) + 2).toNat) (v := (A 84) (12 * (a_p) + (A 72) (4 * (a_o) + 2).toNat).toNat) B hM rfl rfl rfl (by decide) dX12_isTotal_129 (by omega) (by omega) rfl ?_
        have r3 : (-2147483648 : Int) ≤ (A 84) (12 * (a_p) + (A 72) (4 * (a_o) + 2).toNat).toNat ∧ (A 84) (12 * (a_p) + (A 72) (4 * (a_o) + 2).toNat).toNat ≤ 2147483647 := hM.2.2.2.2 84 (12 * (a_p) + (A 72) (4 * (a_o) + 2).toNat).toNat
        refine q_i2l B dX12_isTotal_130 (fun w4 => ?_)
        refine q_lcmp B dX12_isTotal_131 (fun x5 lx5 ux5 ex5 => ?_)
        refine q_ine (tgt := 139) B dX12_isTotal_132 (by decide) (by unfold inr; omega) (fun c6 => ?_) (fun c6 => ?_)
        · refine q_con B dX12_isTotal_139 ?_
          subst hPST
          have hv7 : (0 ≤ (0 : Int)) ∧ ((0 : Int) ≤ 1) := by first | omega | (simp only [wr_at] <;> omega) | exact ⟨by first | omega | (simp only [wr_at] <;> omega) | assumption | (intro _; exact wr_at _ _ _), by first | omega | (simp only [wr_at] <;> omega) | assumption | (intro _; exact wr_at _ _ _)⟩
          exact m_zret B hM dX12_isTotal_140 (by omega) ⟨rfl, hv7.1, hv7.2⟩
        · refine q_con B dX12_isTotal_135 ?_
          refine lv_goto (tgt := 140) B.1 B.2.1 dX12_isTotal_136 (by decide) ?_
          subst hPST
          have hv8 : (0 ≤ (1 : Int)) ∧ ((1 : Int) ≤ 1) := by first | omega | (simp only [wr_at] <;> omega) | exact ⟨by first | omega | (simp only [wr_at] <;> omega) | assumption | (intro _; exact wr_at _ _ _), by first | omega | (simp only [wr_at] <;> omega) | assumption | (intro _; exact wr_at _ _ _)⟩
          exact m_zret B hM dX12_isTotal_140 (by omega) ⟨rfl, hv8.1, hv8.2⟩
      · refine q_bip B dX12_isTotal_60 (by decide) ?_
        refine lv_aload_n B.1 B.2.1 dX12_isTotal_62 rfl (lv_at hl 0 rfl) ?_
        refine m_geta (k := 88) B hM (by decide) rfl fl331 dX12_isTotal_63 ?_
        refine q_bip B dX12_isTotal_66 (by decide) ?_
        refine lv_iload B.1 B.2.1 dX12_isTotal_68 (lv_at hl 6 rfl) ?_
        refine q_mul B dX12_isTotal_70 ?_
        refine lv_iload B.1 B.2.1 dX12_isTotal_71 (lv_at hl 4 rfl) ?_
        refine q_add B dX12_isTotal_73 ?_
        refine m_ild (k := 88) (i := 66) (n := 48000) (z := (20 * (12 * (a_p) + (A 72) (4 * (a_o)).toNat)) + v48_7) (v := (A 88) ((20 * (12 * (a_p) + (A 72) (4 * (a_o)).toNat)) + v48_7).toNat) B hM rfl rfl rfl (by decide) dX12_isTotal_74 (by omega) (by omega) rfl ?_
        have r9 : (0 : Int) ≤ (A 88) ((20 * (12 * (a_p) + (A 72) (4 * (a_o)).toNat)) + v48_7).toNat ∧ (A 88) ((20 * (12 * (a_p) + (A 72) (4 * (a_o)).toNat)) + v48_7).toNat ≤ 199 := hM.2.2.2.2 88 ((20 * (12 * (a_p) + (A 72) (4 * (a_o)).toNat)) + v48_7).toNat
        refine q_mul B dX12_isTotal_75 ?_
        refine lv_aload_n B.1 B.2.1 dX12_isTotal_76 rfl (lv_at hl 0 rfl) ?_
        refine m_geta (k := 72) B hM (by decide) rfl fl288 dX12_isTotal_77 ?_
        refine q_con B dX12_isTotal_80 ?_
        refine lv_iload_n B.1 B.2.1 dX12_isTotal_81 rfl (lv_at hl 2 rfl) ?_
        refine q_mul B dX12_isTotal_82 ?_
        refine q_con B dX12_isTotal_83 ?_
        refine q_add B dX12_isTotal_84 ?_
        refine m_ild (k := 72) (i := 52) (n := 51840) (z := (4 * a_o) + 1) (v := (A 72) ((4 * a_o) + 1).toNat) B hM rfl rfl rfl (by decide) dX12_isTotal_85 (by omega) (by omega) rfl ?_
        have r10 : (-2147483648 : Int) ≤ (A 72) ((4 * a_o) + 1).toNat ∧ (A 72) ((4 * a_o) + 1).toNat ≤ 2147483647 := hM.2.2.2.2 72 ((4 * a_o) + 1).toNat
        refine q_add B dX12_isTotal_86 ?_
        refine lv_istore (lv' := [(8, .int (II ((12 * ((A 88) ((20 * (12 * (a_p) + (A 72) (4 * (a_o)).toNat)) + v48_7).toNat)) + ((A 72) ((4 * a_o) + 1).toNat)))), (0, .ref h0), (1, .int (II a_p)), (2, .int (II a_o)), (5, .long v48_5), (7, .int (II v48_7)), (3, .int (II (12 * (a_p) + (A 72) (4 * (a_o) + 2).toNat))), (4, .int (II (12 * (a_p) + (A 72) (4 * (a_o)).toNat)))]) B.1 B.2.1 dX12_isTotal_87 hl (by decide) rfl (fun ls hl => ?_)
        refine lv_lload B.1 B.2.1 dX12_isTotal_89 (lv_at hl 4 rfl) ?_
        refine lv_aload_n B.1 B.2.1 dX12_isTotal_91 rfl (lv_at hl 1 rfl) ?_
        refine m_geta (k := 89) B hM (by decide) rfl fl334 dX12_isTotal_92 ?_
        refine lv_iload B.1 B.2.1 dX12_isTotal_95 (lv_at hl 0 rfl) ?_
        refine m_zld (k := 89) (i := 67) (n := 2400) (z := (12 * ((A 88) ((20 * (12 * (a_p) + (A 72) (4 * (a_o)).toNat)) + v48_7).toNat)) + ((A 72) ((4 * a_o) + 1).toNat)) (v := (A 89) ((12 * ((A 88) ((20 * (12 * (a_p) + (A 72) (4 * (a_o)).toNat)) + v48_7).toNat)) + ((A 72) ((4 * a_o) + 1).toNat)).toNat) B hM rfl rfl rfl (by decide) dX12_isTotal_97 (by omega) (by omega) rfl ?_
        have r11 : (0 : Int) ≤ (A 89) ((12 * ((A 88) ((20 * (12 * (a_p) + (A 72) (4 * (a_o)).toNat)) + v48_7).toNat)) + ((A 72) ((4 * a_o) + 1).toNat)).toNat ∧ (A 89) ((12 * ((A 88) ((20 * (12 * (a_p) + (A 72) (4 * (a_o)).toNat)) + v48_7).toNat)) + ((A 72) ((4 * a_o) + 1).toNat)).toNat ≤ 1 := hM.2.2.2.2 89 ((12 * ((A 88) ((20 * (12 * (a_p) + (A 72) (4 * (a_o)).toNat)) + v48_7).toNat)) + ((A 72) ((4 * a_o) + 1).toNat)).toNat
        refine q_ieq (tgt := 112) B dX12_isTotal_98 (by decide) (by unfold inr; omega) (fun c12 => ?_) (fun c12 => ?_)
        · refine lv_lconst (v := 0) B.1 B.2.1 dX12_isTotal_112 (by decide) ?_
          refine lv_ladd B.1 B.2.1 dX12_isTotal_113 ?_
          refine lv_topl (fun w13 ew13 => ?_)
          refine lv_lstore (lv' := [(5, .long w13), (8, .int (II ((12 * ((A 88) ((20 * (12 * (a_p) + (A 72) (4 * (a_o)).toNat)) + v48_7).toNat)) + ((A 72) ((4 * a_o) + 1).toNat)))), (0, .ref h0), (1, .int (II a_p)), (2, .int (II a_o)), (7, .int (II v48_7)), (3, .int (II (12 * (a_p) + (A 72) (4 * (a_o) + 2).toNat))), (4, .int (II (12 * (a_p) + (A 72) (4 * (a_o)).toNat)))]) B.1 B.2.1 dX12_isTotal_114 hl (by decide) rfl (fun ls hl => ?_)
          refine q_inc (k := 5) (x := v48_7) (lv' := [(7, .int (II (v48_7 + 1))), (5, .long w13), (8, .int (II ((12 * ((A 88) ((20 * (12 * (a_p) + (A 72) (4 * (a_o)).toNat)) + v48_7).toNat)) + ((A 72) ((4 * a_o) + 1).toNat)))), (0, .ref h0), (1, .int (II a_p)), (2, .int (II a_o)), (3, .int (II (12 * (a_p) + (A 72) (4 * (a_o) + 2).toNat))), (4, .int (II (12 * (a_p) + (A 72) (4 * (a_o)).toNat)))]) B dX12_isTotal_116 hl rfl (by decide) rfl (fun ls hl => ?_)
          refine lv_goto (tgt := 48) B.1 B.2.1 dX12_isTotal_119 (by decide) ?_
          have hv14 : ((-2147483648 : Int) ≤ v48_7 + 1 ∧ (v48_7 + 1 : Int) ≤ 2147483647) ∧ (0 ≤ (v48_7 + 1)) ∧ ((v48_7 + 1) ≤ 20) ∧ (0 ≤ 20 - (v48_7 + 1)) := by first | omega | (simp only [wr_at] <;> omega) | exact ⟨by first | omega | (simp only [wr_at] <;> omega) | assumption | (intro _; exact wr_at _ _ _), by first | omega | (simp only [wr_at] <;> omega) | assumption | (intro _; exact wr_at _ _ _), by first | omega | (simp only [wr_at] <;> omega) | assumption | (intro _; exact wr_at _ _ _), by first | omega | (simp only [wr_at] <;> omega) | assumption | (intro _; exact wr_at _ _ _)⟩
          exact IH48 w13 (v48_7 + 1) _ _ ls hM (lv_sub hl [3, 4, 5, 1, 0, 6, 7] rfl) hv14.1 hv14.2.1 hv14.2.2.1 hv14.2.2.2 (by first | omega | (simp only [wr_at] <;> omega) | assumption | (intro _; exact wr_at _ _ _))
        · refine lv_aload_n B.1 B.2.1 dX12_isTotal_101 rfl (lv_at hl 1 rfl) ?_
          refine m_geta (k := 84) B hM (by decide) rfl fl318 dX12_isTotal_102 ?_
          refine lv_iload B.1 B.2.1 dX12_isTotal_105 (lv_at hl 0 rfl) ?_
          refine m_ild (k := 84) (i := 62) (n := 2400) (z := (12 * ((A 88) ((20 * (12 * (a_p) + (A 72) (4 * (a_o)).toNat)) + v48_7).toNat)) + ((A 72) ((4 * a_o) + 1).toNat)) (v := (A 84) ((12 * ((A 88) ((20 * (12 * (a_p) + (A 72) (4 * (a_o)).toNat)) + v48_7).toNat)) + ((A 72) ((4 * a_o) + 1).toNat)).toNat) B hM rfl rfl rfl (by decide) dX12_isTotal_107 (by omega) (by omega) rfl ?_
          have r15 : (-2147483648 : Int) ≤ (A 84) ((12 * ((A 88) ((20 * (12 * (a_p) + (A 72) (4 * (a_o)).toNat)) + v48_7).toNat)) + ((A 72) ((4 * a_o) + 1).toNat)).toNat ∧ (A 84) ((12 * ((A 88) ((20 * (12 * (a_p) + (A 72) (4 * (a_o)).toNat)) + v48_7).toNat)) + ((A 72) ((4 * a_o) + 1).toNat)).toNat ≤ 2147483647 := hM.2.2.2.2 84 ((12 * ((A 88) ((20 * (12 * (a_p) + (A 72) (4 * (a_o)).toNat)) + v48_7).toNat)) + ((A 72) ((4 * a_o) + 1).toNat)).toNat
          refine q_i2l B dX12_isTotal_108 (fun w16 => ?_)
          refine lv_goto (tgt := 113) B.1 B.2.1 dX12_isTotal_109 (by decide) ?_
          refine lv_ladd B.1 B.2.1 dX12_isTotal_113 ?_
          refine lv_topl (fun w17 ew17 => ?_)
          refine lv_lstore (lv' := [(5, .long w17), (8, .int (II ((12 * ((A 88) ((20 * (12 * (a_p) + (A 72) (4 * (a_o)).toNat)) + v48_7).toNat)) + ((A 72) ((4 * a_o) + 1).toNat)))), (0, .ref h0), (1, .int (II a_p)), (2, .int (II a_o)), (7, .int (II v48_7)), (3, .int (II (12 * (a_p) + (A 72) (4 * (a_o) + 2).toNat))), (4, .int (II (12 * (a_p) + (A 72) (4 * (a_o)).toNat)))]) B.1 B.2.1 dX12_isTotal_114 hl (by decide) rfl (fun ls hl => ?_)
          refine q_inc (k := 5) (x := v48_7) (lv' := [(7, .int (II (v48_7 + 1))), (5, .long w17), (8, .int (II ((12 * ((A 88) ((20 * (12 * (a_p) + (A 72) (4 * (a_o)).toNat)) + v48_7).toNat)) + ((A 72) ((4 * a_o) + 1).toNat)))), (0, .ref h0), (1, .int (II a_p)), (2, .int (II a_o)), (3, .int (II (12 * (a_p) + (A 72) (4 * (a_o) + 2).toNat))), (4, .int (II (12 * (a_p) + (A 72) (4 * (a_o)).toNat)))]) B dX12_isTotal_116 hl rfl (by decide) rfl (fun ls hl => ?_)
          refine lv_goto (tgt := 48) B.1 B.2.1 dX12_isTotal_119 (by decide) ?_
          have hv18 : ((-2147483648 : Int) ≤ v48_7 + 1 ∧ (v48_7 + 1 : Int) ≤ 2147483647) ∧ (0 ≤ (v48_7 + 1)) ∧ ((v48_7 + 1) ≤ 20) ∧ (0 ≤ 20 - (v48_7 + 1)) := by first | omega | (simp only [wr_at] <;> omega) | exact ⟨by first | omega | (simp only [wr_at] <;> omega) | assumption | (intro _; exact wr_at _ _ _), by first | omega | (simp only [wr_at] <;> omega) | assumption | (intro _; exact wr_at _ _ _), by first | omega | (simp only [wr_at] <;> omega) | assumption | (intro _; exact wr_at _ _ _), by first | omega | (simp only [wr_at] <;> omega) | assumption | (intro _; exact wr_at _ _ _)⟩
          exact IH48 w17 (v48_7 + 1) _ _ ls hM (lv_sub hl [3, 4, 5, 1, 0, 6, 7] rfl) hv18.1 hv18.2.1 hv18.2.2.1 hv18.2.2.2 (by first | omega | (simp only [wr_at] <;> omega) | assumption | (intro _; exact wr_at _ _ _))
  refine q_bip B dX12_isTotal_0 (by decide) ?_
  refine lv_iload_n B.1 B.2.1 dX12_isTotal_2 rfl (lv_at hl 1 rfl) ?_
  refine q_mul B dX12_isTotal_3 ?_
  refine lv_aload_n B.1 B.2.1 dX12_isTotal_4 rfl (lv_at hl 0 rfl) ?_
  refine m_geta (k := 72) B hM (by decide) rfl fl288 dX12_isTotal_5 ?_
  refine q_con B dX12_isTotal_8 ?_
  refine lv_iload_n B.1 B.2.1 dX12_isTotal_9 rfl (lv_at hl 2 rfl) ?_
  refine q_mul B dX12_isTotal_10 ?_
  refine q_con B dX12_isTotal_11 ?_
  refine q_add B dX12_isTotal_12 ?_
  refine m_ild (k := 72) (i := 52) (n := 51840) (z := (4 * a_o) + 2) (v := (A 72) ((4 * a_o) + 2).toNat) B hM rfl rfl rfl (by decide) dX12_isTotal_13 (by omega) (by omega) rfl ?_
  have r19 : (-2147483648 : Int) ≤ (A 72) ((4 * a_o) + 2).toNat ∧ (A 72) ((4 * a_o) + 2).toNat ≤ 2147483647 := hM.2.2.2.2 72 ((4 * a_o) + 2).toNat
  refine q_add B dX12_isTotal_14 ?_
  refine lv_istore_n (lv' := [(3, .int (II ((12 * a_p) + ((A 72) ((4 * a_o) + 2).toNat)))), (0, .ref h0), (1, .int (II a_p)), (2, .int (II a_o))]) B.1 B.2.1 dX12_isTotal_15 rfl hl (by decide) rfl (fun ls hl => ?_)
  refine lv_aload_n B.1 B.2.1 dX12_isTotal_16 rfl (lv_at hl 1 rfl) ?_
  refine m_geta (k := 89) B hM (by decide) rfl fl334 dX12_isTotal_17 ?_
  refine lv_iload_n B.1 B.2.1 dX12_isTotal_20 rfl (lv_at hl 0 rfl) ?_
  refine m_zld (k := 89) (i := 67) (n := 2400) (z := (12 * a_p) + ((A 72) ((4 * a_o) + 2).toNat)) (v := (A 89) ((12 * a_p) + ((A 72) ((4 * a_o) + 2).toNat)).toNat) B hM rfl rfl rfl (by decide) dX12_isTotal_21 (by omega) (by omega) rfl ?_
  have r20 : (0 : Int) ≤ (A 89) ((12 * a_p) + ((A 72) ((4 * a_o) + 2).toNat)).toNat ∧ (A 89) ((12 * a_p) + ((A 72) ((4 * a_o) + 2).toNat)).toNat ≤ 1 := hM.2.2.2.2 89 ((12 * a_p) + ((A 72) ((4 * a_o) + 2).toNat)).toNat
  refine q_ine (tgt := 27) B dX12_isTotal_22 (by decide) (by unfold inr; omega) (fun c21 => ?_) (fun c21 => ?_)
  · refine q_bip B dX12_isTotal_27 (by decide) ?_
    refine lv_iload_n B.1 B.2.1 dX12_isTotal_29 rfl (lv_at hl 2 rfl) ?_
    refine q_mul B dX12_isTotal_30 ?_
    refine lv_aload_n B.1 B.2.1 dX12_isTotal_31 rfl (lv_at hl 1 rfl) ?_
    refine m_geta (k := 72) B hM (by decide) rfl fl288 dX12_isTotal_32 ?_
    refine q_con B dX12_isTotal_35 ?_
    refine lv_iload_n B.1 B.2.1 dX12_isTotal_36 rfl (lv_at hl 3 rfl) ?_
    refine q_mul B dX12_isTotal_37 ?_
    refine m_ild (k := 72) (i := 52) (n := 51840) (z := 4 * a_o) (v := (A 72) (4 * a_o).toNat) B hM rfl rfl rfl (by decide) dX12_isTotal_38 (by omega) (by omega) rfl ?_
    have r22 : (-2147483648 : Int) ≤ (A 72) (4 * a_o).toNat ∧ (A 72) (4 * a_o).toNat ≤ 2147483647 := hM.2.2.2.2 72 (4 * a_o).toNat
    refine q_add B dX12_isTotal_39 ?_
    refine lv_istore (lv' := [(4, .int (II ((12 * a_p) + ((A 72) (4 * a_o).toNat)))), (3, .int (II ((12 * a_p) + ((A 72) ((4 * a_o) + 2).toNat)))), (0, .ref h0), (1, .int (II a_p)), (2, .int (II a_o))]) B.1 B.2.1 dX12_isTotal_40 hl (by decide) rfl (fun ls hl => ?_)
    refine lv_lconst (v := 0) B.1 B.2.1 dX12_isTotal_42 (by decide) ?_
    refine lv_lstore (lv' := [(5, .long ((0 : Int64))), (4, .int (II ((12 * a_p) + ((A 72) (4 * a_o).toNat)))), (3, .int (II ((12 * a_p) + ((A 72) ((4 * a_o) + 2).toNat)))), (0, .ref h0), (1, .int (II a_p)), (2, .int (II a_o))]) B.1 B.2.1 dX12_isTotal_43 hl (by decide) rfl (fun ls hl => ?_)
    refine q_con B dX12_isTotal_45 ?_
    refine lv_istore (lv' := [(7, .int (II 0)), (5, .long ((0 : Int64))), (4, .int (II ((12 * a_p) + ((A 72) (4 * a_o).toNat)))), (3, .int (II ((12 * a_p) + ((A 72) ((4 * a_o) + 2).toNat)))), (0, .ref h0), (1, .int (II a_p)), (2, .int (II a_o))]) B.1 B.2.1 dX12_isTotal_46 hl (by decide) rfl (fun ls hl => ?_)
    have hv23 : ((-2147483648 : Int) ≤ 0 ∧ (0 : Int) ≤ 2147483647) ∧ (0 ≤ (0 : Int)) ∧ ((0 : Int) ≤ 20) ∧ (0 ≤ 20 - (0 : Int)) := by first | omega | (simp only [wr_at] <;> omega) | exact ⟨by first | omega | (simp only [wr_at] <;> omega) | assumption | (intro _; exact wr_at _ _ _), by first | omega | (simp only [wr_at] <;> omega) | assumption | (intro _; exact wr_at _ _ _), by first | omega | (simp only [wr_at] <;> omega) | assumption | (intro _; exact wr_at _ _ _), by first | omega | (simp only [wr_at] <;> omega) | assumption | (intro _; exact wr_at _ _ _)⟩
    exact LL48 (Int.toNat (20 - (0 : Int) + 1)) ((0 : Int64)) 0 _ _ ls hM (lv_sub hl [4, 5, 6, 1, 0, 3, 2] rfl) hv23.1 hv23.2.1 hv23.2.2.1 hv23.2.2.2 (by first | omega | (simp only [wr_at] <;> omega) | assumption | (intro _; exact wr_at _ _ _))
  · refine q_con B dX12_isTotal_25 ?_
    subst hPST
    have hv24 : (0 ≤ (1 : Int)) ∧ ((1 : Int) ≤ 1) := by first | omega | (simp only [wr_at] <;> omega) | exact ⟨by first | omega | (simp only [wr_at] <;> omega) | assumption | (intro _; exact wr_at _ _ _), by first | omega | (simp only [wr_at] <;> omega) | assumption | (intro _; exact wr_at _ _ _)⟩
    exact m_zret B hM dX12_isTotal_26 (by omega) ⟨rfl, hv24.1, hv24.2⟩
set_option maxHeartbeats 200000000 in
set_option maxRecDepth 20000 in
theorem k_holds (l : Launch) (D : va_G) (dA : Nat → ClassId) (h0 : Nat) (ad : Nat → Nat) (f : Nat → Int) (g : Nat → Int64) (A : Nat → Nat → Int) (L : Nat → Nat → Int64) (a_p : Int) (a_m : Int) (a_o : Int) (i_p : (-2147483648 : Int) ≤ a_p ∧ a_p ≤ 2147483647) (i_m : (-2147483648 : Int) ≤ a_m ∧ a_m ≤ 2147483647) (i_o : (-2147483648 : Int) ≤ a_o ∧ a_o ≤ 2147483647) (p_0 : 0 ≤ (a_p)) (p_1 : (a_p) < 200) (p_2 : -1 ≤ (a_m)) (p_3 : (a_m) ≤ 11) (p_4 : 0 ≤ (a_o)) (p_5 : (a_o) < 8640) (p_6 : RWp 0 (f 3) (f 58) 1500 (A 26) (A 27) (A 28) (A 29) (A 30)) (p_7 : FIp (f 97) (A 91)) (p_8 : okA (f 58) (A 65) (A 72) (a_m) (a_o)) (p_9 : (100 ≤ (A 65) ((a_o)).toNat → (A 91) ((A 65) ((a_o)).toNat - 100).toNat = 1)) : MCi l yX12_holds cX12_holds 8 (some .boolean) ({ frames := 4, cells := 0, slots := 0, locals := 100 }) D dA h0 ad (f, g, A, L) [.int (II a_p), .int (II a_m), .int (II a_o)] (fun (r : Int) (σ : MS) => ∃ n127 : Int, ∃ n98 : Int, ∃ n97 : Int, ∃ b96 : Nat → Int, ∃ b93 : Nat → Int, ∃ b91 : Nat → Int, ∃ b94 : Nat → Int, ∃ b95 : Nat → Int, σ = ((up f [(127, n127), (98, n98), (97, n97)]), g, (up A [(96, b96), (93, b93), (91, b91), (94, b94), (95, b95)]), L) ∧ (0 ≤ r ∧ r ≤ 1 ∧ FIp (n97) b91)) := by
  generalize hPST : (fun (r : Int) (σ : MS) => ∃ n127 : Int, ∃ n98 : Int, ∃ n97 : Int, ∃ b96 : Nat → Int, ∃ b93 : Nat → Int, ∃ b91 : Nat → Int, ∃ b94 : Nat → Int, ∃ b95 : Nat → Int, σ = ((up f [(127, n127), (98, n98), (97, n97)]), g, (up A [(96, b96), (93, b93), (91, b91), (94, b94), (95, b95)]), L) ∧ (0 ≤ r ∧ r ≤ 1 ∧ FIp (n97) b91)) = PST
  refine m_enter (by decide) rfl (Nat.le_of_ble_eq_true rfl) (fun p e s m args below meth c ls B hM hl => ?_)
  have hA : ∀ q, s.heap.size ≤ q → mF dA h0 ad (f, g, A, L) s.heap.size q := fun q h => Or.inr h
  have hM : MWd D dA h0 ad (mF dA h0 ad (f, g, A, L) s.heap.size) s.heap ((up f [(127, f 127), (98, f 98), (97, f 97)]), g, (up A [(96, (A 96)), (93, (A 93)), (91, (A 91)), (94, (A 94)), (95, (A 95))]), L) s.heap [] := MW_pad hM (up_self f [127, 98, 97]) rfl (up_self A [96, 93, 91, 94, 95]) rfl
  have hl : lv_has ls 8 [(0, .ref h0), (1, .int (II a_p)), (2, .int (II a_m)), (3, .int (II a_o))] := hl
  have r1 : (0 : Int) ≤ f 3 ∧ f 3 ≤ 1 := hM.2.2.2.1 3
  have r2 : (0 : Int) ≤ f 58 ∧ f 58 ≤ 16 := hM.2.2.2.1 58
  have r3 : (0 : Int) ≤ f 97 ∧ f 97 ≤ 16 := hM.2.2.2.1 97
  have hoa := p_8.2
  have hob : (a_m) < 0 → (A 65) ((a_o)).toNat = 7 ∨ (A 65) ((a_o)).toNat = 8 := fun q => (p_8.1 q).elim (fun z => Or.inl z.1) (fun z => Or.inr z.1)
  have JJ143 : ∀ (s143_0 : Int) (H : Heap) (locs : List Loc) (ls : Array Slot), (MWd D dA h0 ad (mF dA h0 ad (f, g, A, L) s.heap.size) s.heap ((up f [(127, f 127), (98, f 98), (97, f 97)]), g, (up A [(96, (A 96)), (93, (A 93)), (91, (A 91)), (94, (A 94)), (95, (A 95))]), L) H locs) → lv_has ls 8 [(0, .ref h0), (1, .int (II a_p)), (2, .int (II a_m)), (3, .int (II a_o)), (4, .int (II ((A 65) ((a_o)).toNat)))] → ((-2147483648 : Int) ≤ s143_0 ∧ s143_0 ≤ 2147483647) → (3 ≤ (A 65) ((a_o)).toNat) → ((A 65) ((a_o)).toNat ≠ 7) → ((A 65) ((a_o)).toNat ≠ 8) → (((A 65) ((a_o)).toNat ≤ 6 ∨ (100 ≤ (A 65) ((a_o)).toNat ∧ (A 65) ((a_o)).toNat < 100 + (f 58)))) → W p l e ({ frames := 4, cells := 0, slots := 0, locals := 100 }) s m args below meth c H locs 0 0 (MQ below (mQi D dA h0 ad (f, g, A, L) s.heap.size PST) args s 0 0 (mF dA h0 ad (f, g, A, L) s.heap.size)) (F0 m 143 ls [.int (II s143_0)]) := by
    intro s143_0 H locs ls hM hl hJJ143_0 hJJ143_1 hJJ143_2 hJJ143_3 hJJ143_4
    have r4 : (0 : Int) ≤ f 127 ∧ f 127 ≤ 1 := hM.2.2.2.1 127
    have r5 : (0 : Int) ≤ f 98 ∧ f 98 ≤ 1 := hM.2.2.2.1 98
    refine lv_istore (lv' := [(7, .int (II s143_0)), (0, .ref h0), (1, .int (II a_p)), (2, .int (II a_m)), (3, .int (II a_o)), (4, .int (II ((A 65) ((a_o)).toNat)))]) B.1 B.2.1 dX12_holds_143 hl (by decide) rfl (fun ls hl => ?_)
    refine lv_aload_n B.1 B.2.1 dX12_holds_145 rfl (lv_at hl 1 rfl) ?_
    refine lv_iload B.1 B.2.1 dX12_holds_146 (lv_at hl 0 rfl) ?_
    refine lv_iload_n B.1 B.2.1 dX12_holds_148 rfl (lv_at hl 4 rfl) ?_
    have hv6 : ((-2147483648 : Int) ≤ s143_0 ∧ (s143_0 : Int) ≤ 2147483647) ∧ ((-2147483648 : Int) ≤ a_o ∧ (a_o : Int) ≤ 2147483647) ∧ (0 ≤ (a_o)) ∧ ((a_o) < 8640) ∧ ((3 ≤ (A 65) ((a_o)).toNat ∧ (A 65) ((a_o)).toNat ≤ 6 ∨ (100 ≤ (A 65) ((a_o)).toNat ∧ (A 65) ((a_o)).toNat < 100 + (f 58) ∧ (A 91) ((A 65) ((a_o)).toNat - 100).toNat = 1))) := by first | omega | (simp only [wr_at] <;> omega) | exact ⟨by first | omega | (simp only [wr_at] <;> omega) | assumption | (intro _; exact wr_at _ _ _), by first | omega | (simp only [wr_at] <;> omega) | assumption | (intro _; exact wr_at _ _ _), by first | omega | (simp only [wr_at] <;> omega) | assumption | (intro _; exact wr_at _ _ _), by first | omega | (simp only [wr_at] <;> omega) | assumption | (intro _; exact wr_at _ _ _), by first | omega | (simp only [wr_at] <;> omega) | assumption | (intro _; exact wr_at _ _ _)⟩
    refine m_calli (n := 2) (rest := []) B hM hA hl.1 (k_holdsAt l D dA h0 ad (up f [(127, f 127), (98, f 98), (97, f 97)]) g (up A [(96, (A 96)), (93, (A 93)), (91, (A 91)), (94, (A 94)), (95, (A 95))]) L s143_0 a_o hv6.1 hv6.2.1 hv6.2.2.1 hv6.2.2.2.1 (show RWp 0 (f 3) (f 58) 1500 (A 26) (A 27) (A 28) (A 29) (A 30) from by first | assumption | exact RWp_same (by assumption) (by omega) (by omega) (by omega) (by omega) | exact RWp_push (by assumption) (by assumption) (by assumption) (by assumption) (by assumption) (by assumption) (by assumption) (by assumption) (by omega) (by omega) (by omega) (by omega) (by omega) | exact RWp_bad (by omega) | exact RWp_0 (by omega) | exact RWp_oth (by assumption) (by assumption) (by assumption) (by assumption) (by assumption) (by assumption) (by omega) (by omega) (by omega) (by omega) (by omega) (by omega)) (show FIp (f 97) (A 91) from by exact p_7) hv6.2.2.2.2) rfl ok_holdsAt nm_holdsAt ⟨rfl, rfl⟩ ⟨Nat.le_of_ble_eq_true rfl, Nat.le_of_ble_eq_true rfl⟩ dX12_holds_149 rfl rfl (Nat.le_of_ble_eq_true rfl) ⟨Nat.zero_le _, Nat.zero_le _⟩ (fun r7 σr7 H locs ir7 hp8 hM => ?_)
    obtain ⟨x9, x10, x11, b12, b13, b14, b15, b16, rfl, hp8⟩ := hp8
    unfold inr at ir7
    replace hp8 : 0 ≤ r7 ∧ r7 ≤ 1 ∧ FIp (x11) b14 := hp8
    obtain ⟨hp8_0, hp8_1, hp8_2⟩ := hp8
    replace hM := MW_uF hM rfl
    replace hM := MW_uA hM rfl
    replace hM : MWd D dA h0 ad (mF dA h0 ad (f, g, A, L) s.heap.size) s.heap ((up f [(127, x9), (98, x10), (97, x11)]), g, (up A [(96, b12), (93, b13), (91, b14), (94, b15), (95, b16)]), L) H locs := hM
    have r17 : (0 : Int) ≤ x9 ∧ x9 ≤ 1 := hM.2.2.2.1 127
    have r18 : (0 : Int) ≤ x10 ∧ x10 ≤ 1 := hM.2.2.2.1 98
    have r19 : (0 : Int) ≤ x11 ∧ x11 ≤ 16 := hM.2.2.2.1 97
    subst hPST
    have hv20 : (0 ≤ (r7)) ∧ ((r7) ≤ 1) := by first | omega | (simp only [wr_at] <;> omega) | exact ⟨by first | omega | (simp only [wr_at] <;> omega) | assumption | (intro _; exact wr_at _ _ _), by first | omega | (simp only [wr_at] <;> omega) | assumption | (intro _; exact wr_at _ _ _)⟩
    exact m_zret B hM dX12_holds_152 (by omega) ⟨x9, x10, x11, b12, b13, b14, b15, b16, rfl, hv20.1, hv20.2, (by exact hp8_2)⟩
  refine lv_aload_n B.1 B.2.1 dX12_holds_0 rfl (lv_at hl 0 rfl) ?_
  refine m_geta (k := 65) B hM (by decide) rfl fl266 dX12_holds_1 ?_
  refine lv_iload_n B.1 B.2.1 dX12_holds_4 rfl (lv_at hl 3 rfl) ?_
  refine m_ild (k := 65) (i := 45) (n := 12960) (z := a_o) (v := (A 65) a_o.toNat) B hM rfl rfl rfl (by decide) dX12_holds_5 (by omega) (by omega) rfl ?_
  have r21 : (0 : Int) ≤ (A 65) a_o.toNat ∧ (A 65) a_o.toNat ≤ 115 := hM.2.2.2.2 65 a_o.toNat
  refine lv_istore (lv' := [(4, .int (II ((A 65) a_o.toNat))), (0, .ref h0), (1, .int (II a_p)), (2, .int (II a_m)), (3, .int (II a_o))]) B.1 B.2.1 dX12_holds_6 hl (by decide) rfl (fun ls hl => ?_)
  refine lv_iload B.1 B.2.1 dX12_holds_8 (lv_at hl 0 rfl) ?_
  refine q_bip B dX12_holds_10 (by decide) ?_
  refine q_cne (tgt := 39) B dX12_holds_12 (by decide) (by unfold inr; omega) (by unfold inr; omega) (fun c22 => ?_) (fun c22 => ?_)
  · refine lv_iload B.1 B.2.1 dX12_holds_39 (lv_at hl 0 rfl) ?_
    refine q_bip B dX12_holds_41 (by decide) ?_
    refine q_cne (tgt := 53) B dX12_holds_43 (by decide) (by unfold inr; omega) (by unfold inr; omega) (fun c23 => ?_) (fun c23 => ?_)
    · refine q_bip B dX12_holds_53 (by decide) ?_
      refine lv_iload_n B.1 B.2.1 dX12_holds_55 rfl (lv_at hl 2 rfl) ?_
      refine q_mul B dX12_holds_56 ?_
      refine lv_iload_n B.1 B.2.1 dX12_holds_57 rfl (lv_at hl 3 rfl) ?_
      refine q_add B dX12_holds_58 ?_
      refine lv_istore (lv' := [(5, .int (II ((12 * a_p) + a_m))), (4, .int (II ((A 65) a_o.toNat))), (0, .ref h0), (1, .int (II a_p)), (2, .int (II a_m)), (3, .int (II a_o))]) B.1 B.2.1 dX12_holds_59 hl (by decide) rfl (fun ls hl => ?_)
      refine lv_iload B.1 B.2.1 dX12_holds_61 (lv_at hl 1 rfl) ?_
      refine q_con B dX12_holds_63 ?_
      refine q_cne (tgt := 74) B dX12_holds_64 (by decide) (by unfold inr; omega) (by unfold inr; omega) (fun c24 => ?_) (fun c24 => ?_)
      · refine lv_aload_n B.1 B.2.1 dX12_holds_74 rfl (lv_at hl 2 rfl) ?_
        refine lv_aload_n B.1 B.2.1 dX12_holds_75 rfl (lv_at hl 2 rfl) ?_
        refine m_geta (k := 83) B hM (by decide) rfl fl315 dX12_holds_76 ?_
        refine lv_iload_n B.1 B.2.1 dX12_holds_79 rfl (lv_at hl 3 rfl) ?_
        refine m_ild (k := 83) (i := 61) (n := 200) (z := a_p) (v := (A 83) a_p.toNat) B hM rfl rfl rfl (by decide) dX12_holds_80 (by omega) (by omega) rfl ?_
        have r25 : (0 : Int) ≤ (A 83) a_p.toNat ∧ (A 83) a_p.toNat ≤ 15 := hM.2.2.2.2 83 a_p.toNat
        refine lv_iload_n B.1 B.2.1 dX12_holds_81 rfl (lv_at hl 4 rfl) ?_
        have hv26 : ((-2147483648 : Int) ≤ (A 83) a_p.toNat ∧ ((A 83) a_p.toNat : Int) ≤ 2147483647) ∧ ((-2147483648 : Int) ≤ a_m ∧ (a_m : Int) ≤ 2147483647) ∧ (0 ≤ ((A 83) a_p.toNat)) ∧ (((A 83) a_p.toNat) ≤ 15) ∧ ((a_m) ≤ 11) := by first | omega | (simp only [wr_at] <;> omega) | exact ⟨by first | omega | (simp only [wr_at] <;> omega) | assumption | (intro _; exact wr_at _ _ _), by first | omega | (simp only [wr_at] <;> omega) | assumption | (intro _; exact wr_at _ _ _), by first | omega | (simp only [wr_at] <;> omega) | assumption | (intro _; exact wr_at _ _ _), by first | omega | (simp only [wr_at] <;> omega) | assumption | (intro _; exact wr_at _ _ _), by first | omega | (simp only [wr_at] <;> omega) | assumption | (intro _; exact wr_at _ _ _)⟩
        refine m_calli (n := 2) (rest := []) B hM hA hl.1 (k_typeOf l D dA h0 ad (up f [(127, f 127), (98, f 98), (97, f 97)]) g (up A [(96, (A 96)), (93, (A 93)), (91, (A 91)), (94, (A 94)), (95, (A 95))]) L ((A 83) a_p.toNat) a_m hv26.1 hv26.2.1 hv26.2.2.1 hv26.2.2.2.1 hv26.2.2.2.2) rfl ok_typeOf nm_typeOf ⟨rfl, rfl⟩ ⟨Nat.le_of_ble_eq_true rfl, Nat.le_of_ble_eq_true rfl⟩ dX12_holds_82 rfl rfl (Nat.le_of_ble_eq_true rfl) ⟨Nat.zero_le _, Nat.zero_le _⟩ (fun r27 σr27 H locs ir27 hp28 hM => ?_)
        obtain ⟨rfl, hp28⟩ := hp28
        unfold inr at ir27
        replace hp28 : ((a_m) < 0 → r27 = -1) ∧ (0 ≤ (a_m) → r27 = (A 42) ((A 38) (12 * (16 * (f 3) + ((A 83) a_p.toNat)) + (a_m)).toNat).toNat) ∧ -1 ≤ r27 ∧ r27 ≤ 3 ∧ (0 ≤ (a_m) → 0 ≤ r27) := hp28
        obtain ⟨hp28_0, hp28_1, hp28_2, hp28_3, hp28_4⟩ := hp28
        refine lv_istore (lv' := [(6, .int (II r27)), (5, .int (II ((12 * a_p) + a_m))), (4, .int (II ((A 65) a_o.toNat))), (0, .ref h0), (1, .int (II a_p)), (2, .int (II a_m)), (3, .int (II a_o))]) B.1 B.2.1 dX12_holds_85 hl (by decide) rfl (fun ls hl => ?_)
        refine lv_iload B.1 B.2.1 dX12_holds_87 (lv_at hl 0 rfl) ?_
        refine q_con B dX12_holds_89 ?_
        refine q_ceq (tgt := 105) B dX12_holds_90 (by decide) (by unfold inr; omega) (by unfold inr; omega) (fun c29 => ?_) (fun c29 => ?_)
        · refine lv_iload B.1 B.2.1 dX12_holds_105 (lv_at hl 0 rfl) ?_
          refine q_ine (tgt := 120) B dX12_holds_107 (by decide) (by unfold inr; omega) (fun c30 => ?_) (fun c30 => ?_)
          · refine lv_iload B.1 B.2.1 dX12_holds_120 (lv_at hl 0 rfl) ?_
            refine q_con B dX12_holds_122 ?_
            refine q_cne (tgt := 136) B dX12_holds_123 (by decide) (by unfold inr; omega) (by unfold inr; omega) (fun c31 => ?_) (fun c31 => ?_)
            · refine lv_aload_n B.1 B.2.1 dX12_holds_136 rfl (lv_at hl 3 rfl) ?_
              refine m_geta (k := 87) B hM (by decide) rfl fl327 dX12_holds_137 ?_
              refine lv_iload B.1 B.2.1 dX12_holds_140 (lv_at hl 1 rfl) ?_
              refine m_ild (k := 87) (i := 65) (n := 2400) (z := (12 * a_p) + a_m) (v := (A 87) ((12 * a_p) + a_m).toNat) B hM rfl rfl rfl (by decide) dX12_holds_142 (by omega) (by omega) rfl ?_
              have r32 : (0 : Int) ≤ (A 87) ((12 * a_p) + a_m).toNat ∧ (A 87) ((12 * a_p) + a_m).toNat ≤ 20 := hM.2.2.2.2 87 ((12 * a_p) + a_m).toNat
              have hv33 : ((-2147483648 : Int) ≤ (A 87) ((12 * a_p) + a_m).toNat ∧ ((A 87) ((12 * a_p) + a_m).toNat : Int) ≤ 2147483647) ∧ (3 ≤ (A 65) ((a_o)).toNat) ∧ ((A 65) ((a_o)).toNat ≠ 7) ∧ ((A 65) ((a_o)).toNat ≠ 8) ∧ (((A 65) ((a_o)).toNat ≤ 6 ∨ (100 ≤ (A 65) ((a_o)).toNat ∧ (A 65) ((a_o)).toNat < 100 + (f 58)))) := by first | omega | (simp only [wr_at] <;> omega) | exact ⟨by first | omega | (simp only [wr_at] <;> omega) | assumption | (intro _; exact wr_at _ _ _), by first | omega | (simp only [wr_at] <;> omega) | assumption | (intro _; exact wr_at _ _ _), by first | omega | (simp only [wr_at] <;> omega) | assumption | (intro _; exact wr_at _ _ _), by first | omega | (simp only [wr_at] <;> omega) | assumption | (intro _; exact wr_at _ _ _), by first | omega | (simp only [wr_at] <;> omega) | assumption | (intro _; exact wr_at _ _ _)⟩
              exact JJ143 ((A 87) ((12 * a_p) + a_m).toNat) _ _ ls hM (lv_sub hl [3, 4, 5, 6, 2] rfl) hv33.1 hv33.2.1 hv33.2.2.1 hv33.2.2.2.1 hv33.2.2.2.2
            · refine lv_aload_n B.1 B.2.1 dX12_holds_126 rfl (lv_at hl 3 rfl) ?_
              refine m_geta (k := 85) B hM (by decide) rfl fl321 dX12_holds_127 ?_
              refine lv_iload B.1 B.2.1 dX12_holds_130 (lv_at hl 1 rfl) ?_
              refine m_ild (k := 85) (i := 63) (n := 2400) (z := (12 * a_p) + a_m) (v := (A 85) ((12 * a_p) + a_m).toNat) B hM rfl rfl rfl (by decide) dX12_holds_132 (by omega) (by omega) rfl ?_
              have r34 : (-2147483648 : Int) ≤ (A 85) ((12 * a_p) + a_m).toNat ∧ (A 85) ((12 * a_p) + a_m).toNat ≤ 2147483647 := hM.2.2.2.2 85 ((12 * a_p) + a_m).toNat
              refine lv_goto (tgt := 143) B.1 B.2.1 dX12_holds_133 (by decide) ?_
              have hv35 : ((-2147483648 : Int) ≤ (A 85) ((12 * a_p) + a_m).toNat ∧ ((A 85) ((12 * a_p) + a_m).toNat : Int) ≤ 2147483647) ∧ (3 ≤ (A 65) ((a_o)).toNat) ∧ ((A 65) ((a_o)).toNat ≠ 7) ∧ ((A 65) ((a_o)).toNat ≠ 8) ∧ (((A 65) ((a_o)).toNat ≤ 6 ∨ (100 ≤ (A 65) ((a_o)).toNat ∧ (A 65) ((a_o)).toNat < 100 + (f 58)))) := by first | omega | (simp only [wr_at] <;> omega) | exact ⟨by first | omega | (simp only [wr_at] <;> omega) | assumption | (intro _; exact wr_at _ _ _), by first | omega | (simp only [wr_at] <;> omega) | assumption | (intro _; exact wr_at _ _ _), by first | omega | (simp only [wr_at] <;> omega) | assumption | (intro _; exact wr_at _ _ _), by first | omega | (simp only [wr_at] <;> omega) | assumption | (intro _; exact wr_at _ _ _), by first | omega | (simp only [wr_at] <;> omega) | assumption | (intro _; exact wr_at _ _ _)⟩
              exact JJ143 ((A 85) ((12 * a_p) + a_m).toNat) _ _ ls hM (lv_sub hl [3, 4, 5, 6, 2] rfl) hv35.1 hv35.2.1 hv35.2.2.1 hv35.2.2.2.1 hv35.2.2.2.2
          · refine lv_aload_n B.1 B.2.1 dX12_holds_110 rfl (lv_at hl 3 rfl) ?_
            refine m_geta (k := 84) B hM (by decide) rfl fl318 dX12_holds_111 ?_
            refine lv_iload B.1 B.2.1 dX12_holds_114 (lv_at hl 1 rfl) ?_
            refine m_ild (k := 84) (i := 62) (n := 2400) (z := (12 * a_p) + a_m) (v := (A 84) ((12 * a_p) + a_m).toNat) B hM rfl rfl rfl (by decide) dX12_holds_116 (by omega) (by omega) rfl ?_
            have r36 : (-2147483648 : Int) ≤ (A 84) ((12 * a_p) + a_m).toNat ∧ (A 84) ((12 * a_p) + a_m).toNat ≤ 2147483647 := hM.2.2.2.2 84 ((12 * a_p) + a_m).toNat
            refine lv_goto (tgt := 143) B.1 B.2.1 dX12_holds_117 (by decide) ?_
            have hv37 : ((-2147483648 : Int) ≤ (A 84) ((12 * a_p) + a_m).toNat ∧ ((A 84) ((12 * a_p) + a_m).toNat : Int) ≤ 2147483647) ∧ (3 ≤ (A 65) ((a_o)).toNat) ∧ ((A 65) ((a_o)).toNat ≠ 7) ∧ ((A 65) ((a_o)).toNat ≠ 8) ∧ (((A 65) ((a_o)).toNat ≤ 6 ∨ (100 ≤ (A 65) ((a_o)).toNat ∧ (A 65) ((a_o)).toNat < 100 + (f 58)))) := by first | omega | (simp only [wr_at] <;> omega) | exact ⟨by first | omega | (simp only [wr_at] <;> omega) | assumption | (intro _; exact wr_at _ _ _), by first | omega | (simp only [wr_at] <;> omega) | assumption | (intro _; exact wr_at _ _ _), by first | omega | (simp only [wr_at] <;> omega) | assumption | (intro _; exact wr_at _ _ _), by first | omega | (simp only [wr_at] <;> omega) | assumption | (intro _; exact wr_at _ _ _), by first | omega | (simp only [wr_at] <;> omega) | assumption | (intro _; exact wr_at _ _ _)⟩
            exact JJ143 ((A 84) ((12 * a_p) + a_m).toNat) _ _ ls hM (lv_sub hl [3, 4, 5, 6, 2] rfl) hv37.1 hv37.2.1 hv37.2.2.1 hv37.2.2.2.1 hv37.2.2.2.2
        · refine lv_aload_n B.1 B.2.1 dX12_holds_93 rfl (lv_at hl 3 rfl) ?_
          refine m_geta (k := 89) B hM (by decide) rfl fl334 dX12_holds_94 ?_
          refine lv_iload B.1 B.2.1 dX12_holds_97 (lv_at hl 1 rfl) ?_
          refine m_zld (k := 89) (i := 67) (n := 2400) (z := (12 * a_p) + a_m) (v := (A 89) ((12 * a_p) + a_m).toNat) B hM rfl rfl rfl (by decide) dX12_holds_99 (by omega) (by omega) rfl ?_
          have r38 : (0 : Int) ≤ (A 89) ((12 * a_p) + a_m).toNat ∧ (A 89) ((12 * a_p) + a_m).toNat ≤ 1 := hM.2.2.2.2 89 ((12 * a_p) + a_m).toNat
          refine q_ine (tgt := 105) B dX12_holds_100 (by decide) (by unfold inr; omega) (fun c39 => ?_) (fun c39 => ?_)
          · refine lv_iload B.1 B.2.1 dX12_holds_105 (lv_at hl 0 rfl) ?_
            refine q_ine (tgt := 120) B dX12_holds_107 (by decide) (by unfold inr; omega) (fun c40 => ?_) (fun c40 => ?_)
            · refine lv_iload B.1 B.2.1 dX12_holds_120 (lv_at hl 0 rfl) ?_
              refine q_con B dX12_holds_122 ?_
              refine q_cne (tgt := 136) B dX12_holds_123 (by decide) (by unfold inr; omega) (by unfold inr; omega) (fun c41 => ?_) (fun c41 => ?_)
              · refine lv_aload_n B.1 B.2.1 dX12_holds_136 rfl (lv_at hl 3 rfl) ?_
                refine m_geta (k := 87) B hM (by decide) rfl fl327 dX12_holds_137 ?_
                refine lv_iload B.1 B.2.1 dX12_holds_140 (lv_at hl 1 rfl) ?_
                refine m_ild (k := 87) (i := 65) (n := 2400) (z := (12 * a_p) + a_m) (v := (A 87) ((12 * a_p) + a_m).toNat) B hM rfl rfl rfl (by decide) dX12_holds_142 (by omega) (by omega) rfl ?_
                have r42 : (0 : Int) ≤ (A 87) ((12 * a_p) + a_m).toNat ∧ (A 87) ((12 * a_p) + a_m).toNat ≤ 20 := hM.2.2.2.2 87 ((12 * a_p) + a_m).toNat
                have hv43 : ((-2147483648 : Int) ≤ (A 87) ((12 * a_p) + a_m).toNat ∧ ((A 87) ((12 * a_p) + a_m).toNat : Int) ≤ 2147483647) ∧ (3 ≤ (A 65) ((a_o)).toNat) ∧ ((A 65) ((a_o)).toNat ≠ 7) ∧ ((A 65) ((a_o)).toNat ≠ 8) ∧ (((A 65) ((a_o)).toNat ≤ 6 ∨ (100 ≤ (A 65) ((a_o)).toNat ∧ (A 65) ((a_o)).toNat < 100 + (f 58)))) := by first | omega | (simp only [wr_at] <;> omega) | exact ⟨by first | omega | (simp only [wr_at] <;> omega) | assumption | (intro _; exact wr_at _ _ _), by first | omega | (simp only [wr_at] <;> omega) | assumption | (intro _; exact wr_at _ _ _), by first | omega | (simp only [wr_at] <;> omega) | assumption | (intro _; exact wr_at _ _ _), by first | omega | (simp only [wr_at] <;> omega) | assumption | (intro _; exact wr_at _ _ _), by first | omega | (simp only [wr_at] <;> omega) | assumption | (intro _; exact wr_at _ _ _)⟩
                exact JJ143 ((A 87) ((12 * a_p) + a_m).toNat) _ _ ls hM (lv_sub hl [3, 4, 5, 6, 2] rfl) hv43.1 hv43.2.1 hv43.2.2.1 hv43.2.2.2.1 hv43.2.2.2.2
              · refine lv_aload_n B.1 B.2.1 dX12_holds_126 rfl (lv_at hl 3 rfl) ?_
                refine m_geta (k := 85) B hM (by decide) rfl fl321 dX12_holds_127 ?_
                refine lv_iload B.1 B.2.1 dX12_holds_130 (lv_at hl 1 rfl) ?_
                refine m_ild (k := 85) (i := 63) (n := 2400) (z := (12 * a_p) + a_m) (v := (A 85) ((12 * a_p) + a_m).toNat) B hM rfl rfl rfl (by decide) dX12_holds_132 (by omega) (by omega) rfl ?_
                have r44 : (-2147483648 : Int) ≤ (A 85) ((12 * a_p) + a_m).toNat ∧ (A 85) ((12 * a_p) + a_m).toNat ≤ 2147483647 := hM.2.2.2.2 85 ((12 * a_p) + a_m).toNat
                refine lv_goto (tgt := 143) B.1 B.2.1 dX12_holds_133 (by decide) ?_
                have hv45 : ((-2147483648 : Int) ≤ (A 85) ((12 * a_p) + a_m).toNat ∧ ((A 85) ((12 * a_p) + a_m).toNat : Int) ≤ 2147483647) ∧ (3 ≤ (A 65) ((a_o)).toNat) ∧ ((A 65) ((a_o)).toNat ≠ 7) ∧ ((A 65) ((a_o)).toNat ≠ 8) ∧ (((A 65) ((a_o)).toNat ≤ 6 ∨ (100 ≤ (A 65) ((a_o)).toNat ∧ (A 65) ((a_o)).toNat < 100 + (f 58)))) := by first | omega | (simp only [wr_at] <;> omega) | exact ⟨by first | omega | (simp only [wr_at] <;> omega) | assumption | (intro _; exact wr_at _ _ _), by first | omega | (simp only [wr_at] <;> omega) | assumption | (intro _; exact wr_at _ _ _), by first | omega | (simp only [wr_at] <;> omega) | assumption | (intro _; exact wr_at _ _ _), by first | omega | (simp only [wr_at] <;> omega) | assumption | (intro _; exact wr_at _ _ _), by first | omega | (simp only [wr_at] <;> omega) | assumption | (intro _; exact wr_at _ _ _)⟩
                exact JJ143 ((A 85) ((12 * a_p) + a_m).toNat) _ _ ls hM (lv_sub hl [3, 4, 5, 6, 2] rfl) hv45.1 hv45.2.1 hv45.2.2.1 hv45.2.2.2.1 hv45.2.2.2.2
            · refine lv_aload_n B.1 B.2.1 dX12_holds_110 rfl (lv_at hl 3 rfl) ?_
              refine m_geta (k := 84) B hM (by decide) rfl fl318 dX12_holds_111 ?_
              refine lv_iload B.1 B.2.1 dX12_holds_114 (lv_at hl 1 rfl) ?_
              refine m_ild (k := 84) (i := 62) (n := 2400) (z := (12 * a_p) + a_m) (v := (A 84) ((12 * a_p) + a_m).toNat) B hM rfl rfl rfl (by decide) dX12_holds_116 (by omega) (by omega) rfl ?_
              have r46 : (-2147483648 : Int) ≤ (A 84) ((12 * a_p) + a_m).toNat ∧ (A 84) ((12 * a_p) + a_m).toNat ≤ 2147483647 := hM.2.2.2.2 84 ((12 * a_p) + a_m).toNat
              refine lv_goto (tgt := 143) B.1 B.2.1 dX12_holds_117 (by decide) ?_
              have hv47 : ((-2147483648 : Int) ≤ (A 84) ((12 * a_p) + a_m).toNat ∧ ((A 84) ((12 * a_p) + a_m).toNat : Int) ≤ 2147483647) ∧ (3 ≤ (A 65) ((a_o)).toNat) ∧ ((A 65) ((a_o)).toNat ≠ 7) ∧ ((A 65) ((a_o)).toNat ≠ 8) ∧ (((A 65) ((a_o)).toNat ≤ 6 ∨ (100 ≤ (A 65) ((a_o)).toNat ∧ (A 65) ((a_o)).toNat < 100 + (f 58)))) := by first | omega | (simp only [wr_at] <;> omega) | exact ⟨by first | omega | (simp only [wr_at] <;> omega) | assumption | (intro _; exact wr_at _ _ _), by first | omega | (simp only [wr_at] <;> omega) | assumption | (intro _; exact wr_at _ _ _), by first | omega | (simp only [wr_at] <;> omega) | assumption | (intro _; exact wr_at _ _ _), by first | omega | (simp only [wr_at] <;> omega) | assumption | (intro _; exact wr_at _ _ _), by first | omega | (simp only [wr_at] <;> omega) | assumption | (intro _; exact wr_at _ _ _)⟩
              exact JJ143 ((A 84) ((12 * a_p) + a_m).toNat) _ _ ls hM (lv_sub hl [3, 4, 5, 6, 2] rfl) hv47.1 hv47.2.1 hv47.2.2.1 hv47.2.2.2.1 hv47.2.2.2.2
          · refine q_con B dX12_holds_103 ?_
            subst hPST
            have hv48 : (0 ≤ (1 : Int)) ∧ ((1 : Int) ≤ 1) := by first | omega | (simp only [wr_at] <;> omega) | exact ⟨by first | omega | (simp only [wr_at] <;> omega) | assumption | (intro _; exact wr_at _ _ _), by first | omega | (simp only [wr_at] <;> omega) | assumption | (intro _; exact wr_at _ _ _)⟩
            exact m_zret B hM dX12_holds_104 (by omega) ⟨(f 127), (f 98), (f 97), ((A 96)), ((A 93)), ((A 91)), ((A 94)), ((A 95)), rfl, hv48.1, hv48.2, (by exact p_7)⟩
      · refine lv_aload_n B.1 B.2.1 dX12_holds_67 rfl (lv_at hl 2 rfl) ?_
        refine lv_iload_n B.1 B.2.1 dX12_holds_68 rfl (lv_at hl 3 rfl) ?_
        refine lv_iload_n B.1 B.2.1 dX12_holds_69 rfl (lv_at hl 4 rfl) ?_
        have hv49 : ((-2147483648 : Int) ≤ a_p ∧ (a_p : Int) ≤ 2147483647) ∧ ((-2147483648 : Int) ≤ a_m ∧ (a_m : Int) ≤ 2147483647) ∧ (0 ≤ (a_p)) ∧ ((a_p) < 200) ∧ (0 ≤ (a_m)) ∧ ((a_m) ≤ 11) := by first | omega | (simp only [wr_at] <;> omega) | exact ⟨by first | omega | (simp only [wr_at] <;> omega) | assumption | (intro _; exact wr_at _ _ _), by first | omega | (simp only [wr_at] <;> omega) | assumption | (intro _; exact wr_at _ _ _), by first | omega | (simp only [wr_at] <;> omega) | assumption | (intro _; exact wr_at _ _ _), by first | omega | (simp only [wr_at] <;> omega) | assumption | (intro _; exact wr_at _ _ _), by first | omega | (simp only [wr_at] <;> omega) | assumption | (intro _; exact wr_at _ _ _), by first | omega | (simp only [wr_at] <;> omega) | assumption | (intro _; exact wr_at _ _ _)⟩
        refine m_calli (n := 2) (rest := []) B hM hA hl.1 (k_isThere l D dA h0 ad (up f [(127, f 127), (98, f 98), (97, f 97)]) g (up A [(96, (A 96)), (93, (A 93)), (91, (A 91)), (94, (A 94)), (95, (A 95))]) L a_p a_m hv49.1 hv49.2.1 hv49.2.2.1 hv49.2.2.2.1 hv49.2.2.2.2.1 hv49.2.2.2.2.2) rfl ok_isThere nm_isThere ⟨rfl, rfl⟩ ⟨Nat.le_of_ble_eq_true rfl, Nat.le_of_ble_eq_true rfl⟩ dX12_holds_70 rfl rfl (Nat.le_of_ble_eq_true rfl) ⟨Nat.zero_le _, Nat.zero_le _⟩ (fun r50 σr50 H locs ir50 hp51 hM => ?_)
        obtain ⟨rfl, hp51⟩ := hp51
        unfold inr at ir50
        replace hp51 : 0 ≤ r50 ∧ r50 ≤ 1 := hp51
        obtain ⟨hp51_0, hp51_1⟩ := hp51
        subst hPST
        have hv52 : (0 ≤ (r50)) ∧ ((r50) ≤ 1) := by first | omega | (simp only [wr_at] <;> omega) | exact ⟨by first | omega | (simp only [wr_at] <;> omega) | assumption | (intro _; exact wr_at _ _ _), by first | omega | (simp only [wr_at] <;> omega) | assumption | (intro _; exact wr_at _ _ _)⟩
        exact m_zret B hM dX12_holds_73 (by omega) ⟨(f 127), (f 98), (f 97), ((A 96)), ((A 93)), ((A 91)), ((A 94)), ((A 95)), rfl, hv52.1, hv52.2, (by exact p_7)⟩
    · have hag : AG (A 72) (4 * (a_o)) 3 := (p_8.1 (by omega)).elim (fun z => absurd z.1 (by omega)) (fun z => z.2)
      refine lv_aload_n B.1 B.2.1 dX12_holds_46 rfl (lv_at hl 1 rfl) ?_
      refine lv_iload_n B.1 B.2.1 dX12_holds_47 rfl (lv_at hl 2 rfl) ?_
      refine lv_iload_n B.1 B.2.1 dX12_holds_48 rfl (lv_at hl 4 rfl) ?_
      have hv53 : ((-2147483648 : Int) ≤ a_p ∧ (a_p : Int) ≤ 2147483647) ∧ ((-2147483648 : Int) ≤ a_o ∧ (a_o : Int) ≤ 2147483647) ∧ (0 ≤ (a_p)) ∧ ((a_p) < 200) ∧ (0 ≤ (a_o)) ∧ ((a_o) < 8640) := by first | omega | (simp only [wr_at] <;> omega) | exact ⟨by first | omega | (simp only [wr_at] <;> omega) | assumption | (intro _; exact wr_at _ _ _), by first | omega | (simp only [wr_at] <;> omega) | assumption | (intro _; exact wr_at _ _ _), by first | omega | (simp only [wr_at] <;> omega) | assumption | (intro _; exact wr_at _ _ _), by first | omega | (simp only [wr_at] <;> omega) | assumption | (intro _; exact wr_at _ _ _), by first | omega | (simp only [wr_at] <;> omega) | assumption | (intro _; exact wr_at _ _ _), by first | omega | (simp only [wr_at] <;> omega) | assumption | (intro _; exact wr_at _ _ _)⟩
      refine m_calli (n := 2) (rest := []) B hM hA hl.1 (k_isTotal l D dA h0 ad (up f [(127, f 127), (98, f 98), (97, f 97)]) g (up A [(96, (A 96)), (93, (A 93)), (91, (A 91)), (94, (A 94)), (95, (A 95))]) L a_p a_o hv53.1 hv53.2.1 hv53.2.2.1 hv53.2.2.2.1 hv53.2.2.2.2.1 hv53.2.2.2.2.2 (show AG (A 72) (4 * (a_o)) 3 from by assumption)) rfl ok_isTotal nm_isTotal ⟨rfl, rfl⟩ ⟨Nat.le_of_ble_eq_true rfl, Nat.le_of_ble_eq_true rfl⟩ dX12_holds_49 rfl rfl (Nat.le_of_ble_eq_true rfl) ⟨Nat.zero_le _, Nat.zero_le _⟩ (fun r54 σr54 H locs ir54 hp55 hM => ?_)
      obtain ⟨rfl, hp55⟩ := hp55
      unfold inr at ir54
      replace hp55 : 0 ≤ r54 ∧ r54 ≤ 1 := hp55
      obtain ⟨hp55_0, hp55_1⟩ := hp55
      subst hPST
      have hv56 : (0 ≤ (r54)) ∧ ((r54) ≤ 1) := by first | omega | (simp only [wr_at] <;> omega) | exact ⟨by first | omega | (simp only [wr_at] <;> omega) | assumption | (intro _; exact wr_at _ _ _), by first | omega | (simp only [wr_at] <;> omega) | assumption | (intro _; exact wr_at _ _ _)⟩
      exact m_zret B hM dX12_holds_52 (by omega) ⟨(f 127), (f 98), (f 97), ((A 96)), ((A 93)), ((A 91)), ((A 94)), ((A 95)), rfl, hv56.1, hv56.2, (by exact p_7)⟩
  · have hag : AG (A 72) (4 * (a_o)) 2 := (p_8.1 (by omega)).elim (fun z => z.2) (fun z => absurd z.1 (by omega))
    have hg0 := hag 0 (by omega) (by omega)
    rw [show 4 * (a_o) + 0 = 4 * (a_o) from by omega] at hg0
    have hg1 := hag 1 (by omega) (by omega)
    refine lv_aload_n B.1 B.2.1 dX12_holds_15 rfl (lv_at hl 1 rfl) ?_
    refine lv_iload_n B.1 B.2.1 dX12_holds_16 rfl (lv_at hl 2 rfl) ?_
    refine lv_aload_n B.1 B.2.1 dX12_holds_17 rfl (lv_at hl 1 rfl) ?_
    refine m_geta (k := 72) B hM (by decide) rfl fl288 dX12_holds_18 ?_
    refine q_con B dX12_holds_21 ?_
    refine lv_iload_n B.1 B.2.1 dX12_holds_22 rfl (lv_at hl 4 rfl) ?_
    refine q_mul B dX12_holds_23 ?_
    refine m_ild (k := 72) (i := 52) (n := 51840) (z := 4 * a_o) (v := (A 72) (4 * a_o).toNat) B hM rfl rfl rfl (by decide) dX12_holds_24 (by omega) (by omega) rfl ?_
    have r57 : (-2147483648 : Int) ≤ (A 72) (4 * a_o).toNat ∧ (A 72) (4 * a_o).toNat ≤ 2147483647 := hM.2.2.2.2 72 (4 * a_o).toNat
    refine lv_aload_n B.1 B.2.1 dX12_holds_25 rfl (lv_at hl 1 rfl) ?_
    refine m_geta (k := 72) B hM (by decide) rfl fl288 dX12_holds_26 ?_
    refine q_con B dX12_holds_29 ?_
    refine lv_iload_n B.1 B.2.1 dX12_holds_30 rfl (lv_at hl 4 rfl) ?_
    refine q_mul B dX12_holds_31 ?_
    refine q_con B dX12_holds_32 ?_
    refine q_add B dX12_holds_33 ?_
    refine m_ild (k := 72) (i := 52) (n := 51840) (z := (4 * a_o) + 1) (v := (A 72) ((4 * a_o) + 1).toNat) B hM rfl rfl rfl (by decide) dX12_holds_34 (by omega) (by omega) rfl ?_
    have r58 : (-2147483648 : Int) ≤ (A 72) ((4 * a_o) + 1).toNat ∧ (A 72) ((4 * a_o) + 1).toNat ≤ 2147483647 := hM.2.2.2.2 72 ((4 * a_o) + 1).toNat
    have hv59 : ((-2147483648 : Int) ≤ a_p ∧ (a_p : Int) ≤ 2147483647) ∧ ((-2147483648 : Int) ≤ (A 72) (4 * a_o).toNat ∧ ((A 72) (4 * a_o).toNat : Int) ≤ 2147483647) ∧ ((-2147483648 : Int) ≤ (A 72) ((4 * a_o) + 1).toNat ∧ ((A 72) ((4 * a_o) + 1).toNat : Int) ≤ 2147483647) ∧ (0 ≤ (a_p)) ∧ ((a_p) < 200) ∧ (0 ≤ ((A 72) (4 * a_o).toNat)) ∧ (((A 72) (4 * a_o).toNat) ≤ 11) ∧ (0 ≤ ((A 72) ((4 * a_o) + 1).toNat)) ∧ (((A 72) ((4 * a_o) + 1).toNat) ≤ 11) := by first | omega | (simp only [wr_at] <;> omega) | exact ⟨by first | omega | (simp only [wr_at] <;> omega) | assumption | (intro _; exact wr_at _ _ _), by first | omega | (simp only [wr_at] <;> omega) | assumption | (intro _; exact wr_at _ _ _), by first | omega | (simp only [wr_at] <;> omega) | assumption | (intro _; exact wr_at _ _ _), by first | omega | (simp only [wr_at] <;> omega) | assumption | (intro _; exact wr_at _ _ _), by first | omega | (simp only [wr_at] <;> omega) | assumption | (intro _; exact wr_at _ _ _), by first | omega | (simp only [wr_at] <;> omega) | assumption | (intro _; exact wr_at _ _ _), by first | omega | (simp only [wr_at] <;> omega) | assumption | (intro _; exact wr_at _ _ _), by first | omega | (simp only [wr_at] <;> omega) | assumption | (intro _; exact wr_at _ _ _), by first | omega | (simp only [wr_at] <;> omega) | assumption | (intro _; exact wr_at _ _ _)⟩
    refine m_calli (n := 3) (rest := []) B hM hA hl.1 (k_isBelow l D dA h0 ad (up f [(127, f 127), (98, f 98), (97, f 97)]) g (up A [(96, (A 96)), (93, (A 93)), (91, (A 91)), (94, (A 94)), (95, (A 95))]) L a_p ((A 72) (4 * a_o).toNat) ((A 72) ((4 * a_o) + 1).toNat) hv59.1 hv59.2.1 hv59.2.2.1 hv59.2.2.2.1 hv59.2.2.2.2.1 hv59.2.2.2.2.2.1 hv59.2.2.2.2.2.2.1 hv59.2.2.2.2.2.2.2.1 hv59.2.2.2.2.2.2.2.2) rfl ok_isBelow nm_isBelow ⟨rfl, rfl⟩ ⟨Nat.le_of_ble_eq_true rfl, Nat.le_of_ble_eq_true rfl⟩ dX12_holds_35 rfl rfl (Nat.le_of_ble_eq_true rfl) ⟨Nat.zero_le _, Nat.zero_le _⟩ (fun r60 σr60 H locs ir60 hp61 hM => ?_)
    obtain ⟨rfl, hp61⟩ := hp61
    unfold inr at ir60
    replace hp61 : 0 ≤ r60 ∧ r60 ≤ 1 := hp61
    obtain ⟨hp61_0, hp61_1⟩ := hp61
    subst hPST
    have hv62 : (0 ≤ (r60)) ∧ ((r60) ≤ 1) := by first | omega | (simp only [wr_at] <;> omega) | exact ⟨by first | omega | (simp only [wr_at] <;> omega) | assumption | (intro _; exact wr_at _ _ _), by first | omega | (simp only [wr_at] <;> omega) | assumption | (intro _; exact wr_at _ _ _)⟩
    exact m_zret B hM dX12_holds_38 (by omega) ⟨(f 127), (f 98), (f 97), ((A 96)), ((A 93)), ((A 91)), ((A 94)), ((A 95)), rfl, hv62.1, hv62.2, (by exact p_7)⟩
