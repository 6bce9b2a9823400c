set_option maxHeartbeats 200000000 in
set_option maxRecDepth 20000 in
theorem k_holdsAt (l : Launch) (D : va_G) (dA : Nat → ClassId) (h0 : Nat) (ad : Nat → Nat) (f : Nat → Int) (g : Nat → Int64) (A : Nat → Nat → Int) (L : Nat → Nat → Int64) (a_v : Int) (a_o : Int) (i_v : (-2147483648 : Int) ≤ a_v ∧ a_v ≤ 2147483647) (i_o : (-2147483648 : Int) ≤ a_o ∧ a_o ≤ 2147483647) (p_0 : 0 ≤ (a_o)) (p_1 : (a_o) < 8640) (p_2 : RWp 0 (f 3) (f 58) 1500 (A 26) (A 27) (A 28) (A 29) (A 30)) (p_3 : FIp (f 97) (A 91)) (p_4 : (3 ≤ (A 65) ((a_o)).toNat ∧ (A 65) ((a_o)).toNat ≤ 6 ∨ (100 ≤ (A 65) ((a_o)).toNat ∧ (A 65) ((a_o)).toNat < 100 + (f 58) ∧ (A 91) ((A 65) ((a_o)).toNat - 100).toNat = 1))) : MCi l yX12_holdsAt cX12_holdsAt 7 (some .boolean) ({ frames := 3, cells := 0, slots := 0, locals := 74 }) D dA h0 ad (f, g, A, L) [.int (II a_v), .int (II a_o)] (fun (r : Int) (σ : MS) => ∃ n127 : Int, ∃ n98 : Int, ∃ n97 : Int, ∃ b96 : Nat → Int, ∃ b93 : Nat → Int, ∃ b91 : Nat → Int, ∃ b94 : Nat → Int, ∃ b95 : Nat → Int, σ = ((up f [(127, n127), (98, n98), (97, n97)]), g, (up A [(96, b96), (93, b93), (91, b91), (94, b94), (95, b95)]), L) ∧ (0 ≤ r ∧ r ≤ 1 ∧ FIp (n97) b91)) := by
  generalize hPST : (fun (r : Int) (σ : MS) => ∃ n127 : Int, ∃ n98 : Int, ∃ n97 : Int, ∃ b96 : Nat → Int, ∃ b93 : Nat → Int, ∃ b91 : Nat → Int, ∃ b94 : Nat → Int, ∃ b95 : Nat → Int, σ = ((up f [(127, n127), (98, n98), (97, n97)]), g, (up A [(96, b96), (93, b93), (91, b91), (94, b94), (95, b95)]), L) ∧ (0 ≤ r ∧ r ≤ 1 ∧ FIp (n97) b91)) = PST
  refine m_enter (by decide) rfl (Nat.le_of_ble_eq_true rfl) (fun p e s m args below meth c ls B hM hl => ?_)
  have hA : ∀ q, s.heap.size ≤ q → mF dA h0 ad (f, g, A, L) s.heap.size q := fun q h => Or.inr h
  have hM : MWd D dA h0 ad (mF dA h0 ad (f, g, A, L) s.heap.size) s.heap ((up f [(127, f 127), (98, f 98), (97, f 97)]), g, (up A [(96, (A 96)), (93, (A 93)), (91, (A 91)), (94, (A 94)), (95, (A 95))]), L) s.heap [] := MW_pad hM (up_self f [127, 98, 97]) rfl (up_self A [96, 93, 91, 94, 95]) rfl
  have hl : lv_has ls 7 [(0, .ref h0), (1, .int (II a_v)), (2, .int (II a_o))] := hl
  have r1 : (0 : Int) ≤ f 3 ∧ f 3 ≤ 1 := hM.2.2.2.1 3
  have r2 : (0 : Int) ≤ f 58 ∧ f 58 ≤ 16 := hM.2.2.2.1 58
  have r3 : (0 : Int) ≤ f 97 ∧ f 97 ≤ 16 := hM.2.2.2.1 97
  have LL94 : ∀ N : Nat, ∀ (v94_5 : Int) (v94_6 : Int) (H : Heap) (locs : List Loc) (ls : Array Slot), (MWd D dA h0 ad (mF dA h0 ad (f, g, A, L) s.heap.size) s.heap ((up f [(127, f 127), (98, f 98), (97, f 97)]), g, (up A [(96, (A 96)), (93, (A 93)), (91, (A 91)), (94, (A 94)), (95, (A 95))]), L) H locs) → lv_has ls 7 [(0, .ref h0), (1, .int (II a_v)), (2, .int (II a_o)), (5, .int (II v94_5)), (6, .int (II v94_6))] → ((-2147483648 : Int) ≤ v94_5 ∧ v94_5 ≤ 2147483647) → ((-2147483648 : Int) ≤ v94_6 ∧ v94_6 ≤ 2147483647) → (0 ≤ (v94_5)) → ((v94_5) ≤ 1) → (0 ≤ (v94_6)) → ((v94_6) ≤ 4) → (0 ≤ 4 - (v94_6)) → (4 - (v94_6) < (N : Int)) → W p l e ({ frames := 3, cells := 0, slots := 0, locals := 74 }) s m args below meth c H locs 0 0 (MQ below (mQi D dA h0 ad (f, g, A, L) s.heap.size PST) args s 0 0 (mF dA h0 ad (f, g, A, L) s.heap.size)) (F0 m 94 ls []) := by
    intro N
    induction N with
    | zero => intro v94_5 v94_6 H locs ls hM hl hLL94_0 hLL94_1 hLL94_2 hLL94_3 hLL94_4 hLL94_5 hLL94_6 hN; exfalso; omega
    | succ N IH94 =>
      intro v94_5 v94_6 H locs ls hM hl hLL94_0 hLL94_1 hLL94_2 hLL94_3 hLL94_4 hLL94_5 hLL94_6 hN
      have r4 : (0 : Int) ≤ f 127 ∧ f 127 ≤ 1 := hM.2.2.2.1 127
      have r5 : (0 : Int) ≤ f 98 ∧ f 98 ≤ 1 := hM.2.2.2.1 98
      refine lv_iload B.1 B.2.1 dX12_holdsAt_94 (lv_at hl 4 rfl) ?_
      refine lv_aload_n B.1 B.2.1 dX12_holdsAt_96 rfl (lv_at hl 0 rfl) ?_
      refine m_geta (k := 71) B hM (by decide) rfl fl284 dX12_holdsAt_97 ?_
      refine lv_iload_n B.1 B.2.1 dX12_holdsAt_100 rfl (lv_at hl 2 rfl) ?_
      refine m_ild (k := 71) (i := 51) (n := 12960) (z := a_o) (v := (A 71) a_o.toNat) B hM rfl rfl rfl (by decide) dX12_holdsAt_101 (by omega) (by omega) rfl ?_
      have r6 : (0 : Int) ≤ (A 71) a_o.toNat ∧ (A 71) a_o.toNat ≤ 4 := hM.2.2.2.2 71 a_o.toNat
      refine q_cge (tgt := 138) B dX12_holdsAt_102 (by decide) (by unfold inr; omega) (by unfold inr; omega) (fun c7 => ?_) (fun c7 => ?_)
      · refine lv_iload B.1 B.2.1 dX12_holdsAt_138 (lv_at hl 3 rfl) ?_
        subst hPST
        have hv8 : (0 ≤ (v94_5)) ∧ ((v94_5) ≤ 1) := by first | omega | (simp only [wr_at] <;> omega) | exact ⟨by first | omega | (simp only [wr_at] <;> omega) | assumption | (intro _; exact wr_at _ _ _), by first | omega | (simp only [wr_at] <;> omega) | assumption | (intro _; exact wr_at _ _ _)⟩
        exact m_zret B hM dX12_holdsAt_140 (by omega) ⟨(f 127), (f 98), (f 97), ((A 96)), ((A 93)), ((A 91)), ((A 94)), ((A 95)), rfl, hv8.1, hv8.2, (by exact p_3)⟩
      · refine lv_iload B.1 B.2.1 dX12_holdsAt_105 (lv_at hl 3 rfl) ?_
        refine q_ine (tgt := 125) B dX12_holdsAt_107 (by decide) (by unfold inr; omega) (fun c9 => ?_) (fun c9 => ?_)
        · refine q_con B dX12_holdsAt_125 ?_
          refine lv_goto (tgt := 130) B.1 B.2.1 dX12_holdsAt_126 (by decide) ?_
          refine lv_istore (lv' := [(5, .int (II 1)), (0, .ref h0), (1, .int (II a_v)), (2, .int (II a_o)), (6, .int (II v94_6))]) B.1 B.2.1 dX12_holdsAt_130 hl (by decide) rfl (fun ls hl => ?_)
          refine q_inc (k := 4) (x := v94_6) (lv' := [(6, .int (II (v94_6 + 1))), (5, .int (II 1)), (0, .ref h0), (1, .int (II a_v)), (2, .int (II a_o))]) B dX12_holdsAt_132 hl rfl (by decide) rfl (fun ls hl => ?_)
          refine lv_goto (tgt := 94) B.1 B.2.1 dX12_holdsAt_135 (by decide) ?_
          have hv10 : ((-2147483648 : Int) ≤ 1 ∧ (1 : Int) ≤ 2147483647) ∧ ((-2147483648 : Int) ≤ v94_6 + 1 ∧ (v94_6 + 1 : Int) ≤ 2147483647) ∧ (0 ≤ (1 : Int)) ∧ ((1 : Int) ≤ 1) ∧ (0 ≤ (v94_6 + 1)) ∧ ((v94_6 + 1) ≤ 4) ∧ (0 ≤ 4 - (v94_6 + 1)) := by first | omega | (simp only [wr_at] <;> omega) | exact ⟨by first | omega | (simp only [wr_at] <;> omega) | assumption | (intro _; exact wr_at _ _ _), by first | omega | (simp only [wr_at] <;> omega) | assumption | (intro _; exact wr_at _ _ _), by first | omega | (simp only [wr_at] <;> omega) | assumption | (intro _; exact wr_at _ _ _), by first | omega | (simp only [wr_at] <;> omega) | assumption | (intro _; exact wr_at _ _ _), by first | omega | (simp only [wr_at] <;> omega) | assumption | (intro _; exact wr_at _ _ _), by first | omega | (simp only [wr_at] <;> omega) | assumption | (intro _; exact wr_at _ _ _), by first | omega | (simp only [wr_at] <;> omega) | assumption | (intro _; exact wr_at _ _ _)⟩
          exact IH94 1 (v94_6 + 1) _ _ ls hM (lv_sub hl [2, 3, 4, 1, 0] rfl) hv10.1 hv10.2.1 hv10.2.2.1 hv10.2.2.2.1 hv10.2.2.2.2.1 hv10.2.2.2.2.2.1 hv10.2.2.2.2.2.2 (by first | omega | (simp only [wr_at] <;> omega) | assumption | (intro _; exact wr_at _ _ _))
        · refine lv_aload_n B.1 B.2.1 dX12_holdsAt_110 rfl (lv_at hl 0 rfl) ?_
          refine m_geta (k := 72) B hM (by decide) rfl fl288 dX12_holdsAt_111 ?_
          refine q_con B dX12_holdsAt_114 ?_
          refine lv_iload_n B.1 B.2.1 dX12_holdsAt_115 rfl (lv_at hl 2 rfl) ?_
          refine q_mul B dX12_holdsAt_116 ?_
          refine lv_iload B.1 B.2.1 dX12_holdsAt_117 (lv_at hl 4 rfl) ?_
          refine q_add B dX12_holdsAt_119 ?_
          refine m_ild (k := 72) (i := 52) (n := 51840) (z := (4 * a_o) + v94_6) (v := (A 72) ((4 * a_o) + v94_6).toNat) B hM rfl rfl rfl (by decide) dX12_holdsAt_120 (by omega) (by omega) rfl ?_
          have r11 : (-2147483648 : Int) ≤ (A 72) ((4 * a_o) + v94_6).toNat ∧ (A 72) ((4 * a_o) + v94_6).toNat ≤ 2147483647 := hM.2.2.2.2 72 ((4 * a_o) + v94_6).toNat
          refine lv_iload_n B.1 B.2.1 dX12_holdsAt_121 rfl (lv_at hl 1 rfl) ?_
          refine q_cne (tgt := 129) B dX12_holdsAt_122 (by decide) (by unfold inr; omega) (by unfold inr; omega) (fun c12 => ?_) (fun c12 => ?_)
          · refine q_con B dX12_holdsAt_129 ?_
            refine lv_istore (lv' := [(5, .int (II 0)), (0, .ref h0), (1, .int (II a_v)), (2, .int (II a_o)), (6, .int (II v94_6))]) B.1 B.2.1 dX12_holdsAt_130 hl (by decide) rfl (fun ls hl => ?_)
            refine q_inc (k := 4) (x := v94_6) (lv' := [(6, .int (II (v94_6 + 1))), (5, .int (II 0)), (0, .ref h0), (1, .int (II a_v)), (2, .int (II a_o))]) B dX12_holdsAt_132 hl rfl (by decide) rfl (fun ls hl => ?_)
            refine lv_goto (tgt := 94) B.1 B.2.1 dX12_holdsAt_135 (by decide) ?_
            have hv13 : ((-2147483648 : Int) ≤ 0 ∧ (0 : Int) ≤ 2147483647) ∧ ((-2147483648 : Int) ≤ v94_6 + 1 ∧ (v94_6 + 1 : Int) ≤ 2147483647) ∧ (0 ≤ (0 : Int)) ∧ ((0 : Int) ≤ 1) ∧ (0 ≤ (v94_6 + 1)) ∧ ((v94_6 + 1) ≤ 4) ∧ (0 ≤ 4 - (v94_6 + 1)) := by first | omega | (simp only [wr_at] <;> omega) | exact ⟨by first | omega | (simp only [wr_at] <;> omega) | assumption | (intro _; exact wr_at _ _ _), by first | omega | (simp only [wr_at] <;> omega) | assumption | (intro _; exact wr_at _ _ _), by first | omega | (simp only [wr_at] <;> omega) | assumption | (intro _; exact wr_at _ _ _), by first | omega | (simp only [wr_at] <;> omega) | assumption | (intro _; exact wr_at _ _ _), by first | omega | (simp only [wr_at] <;> omega) | assumption | (intro _; exact wr_at _ _ _), by first | omega | (simp only [wr_at] <;> omega) | assumption | (intro _; exact wr_at _ _ _), by first | omega | (simp only [wr_at] <;> omega) | assumption | (intro _; exact wr_at _ _ _)⟩
            exact IH94 0 (v94_6 + 1) _ _ ls hM (lv_sub hl [2, 3, 4, 1, 0] rfl) hv13.1 hv13.2.1 hv13.2.2.1 hv13.2.2.2.1 hv13.2.2.2.2.1 hv13.2.2.2.2.2.1 hv13.2.2.2.2.2.2 (by first | omega | (simp only [wr_at] <;> omega) | assumption | (intro _; exact wr_at _ _ _))
          · refine q_con B dX12_holdsAt_125 ?_
            refine lv_goto (tgt := 130) B.1 B.2.1 dX12_holdsAt_126 (by decide) ?_
            refine lv_istore (lv' := [(5, .int (II 1)), (0, .ref h0), (1, .int (II a_v)), (2, .int (II a_o)), (6, .int (II v94_6))]) B.1 B.2.1 dX12_holdsAt_130 hl (by decide) rfl (fun ls hl => ?_)
            refine q_inc (k := 4) (x := v94_6) (lv' := [(6, .int (II (v94_6 + 1))), (5, .int (II 1)), (0, .ref h0), (1, .int (II a_v)), (2, .int (II a_o))]) B dX12_holdsAt_132 hl rfl (by decide) rfl (fun ls hl => ?_)
            refine lv_goto (tgt := 94) B.1 B.2.1 dX12_holdsAt_135 (by decide) ?_
            have hv14 : ((-2147483648 : Int) ≤ 1 ∧ (1 : Int) ≤ 2147483647) ∧ ((-2147483648 : Int) ≤ v94_6 + 1 ∧ (v94_6 + 1 : Int) ≤ 2147483647) ∧ (0 ≤ (1 : Int)) ∧ ((1 : Int) ≤ 1) ∧ (0 ≤ (v94_6 + 1)) ∧ ((v94_6 + 1) ≤ 4) ∧ (0 ≤ 4 - (v94_6 + 1)) := by first | omega | (simp only [wr_at] <;> omega) | exact ⟨by first | omega | (simp only [wr_at] <;> omega) | assumption | (intro _; exact wr_at _ _ _), by first | omega | (simp only [wr_at] <;> omega) | assumption | (intro _; exact wr_at _ _ _), by first | omega | (simp only [wr_at] <;> omega) | assumption | (intro _; exact wr_at _ _ _), by first | omega | (simp only [wr_at] <;> omega) | assumption | (intro _; exact wr_at _ _ _), by first | omega | (simp only [wr_at] <;> omega) | assumption | (intro _; exact wr_at _ _ _), by first | omega | (simp only [wr_at] <;> omega) | assumption | (intro _; exact wr_at _ _ _), by first | omega | (simp only [wr_at] <;> omega) | assumption | (intro _; exact wr_at _ _ _)⟩
            exact IH94 1 (v94_6 + 1) _ _ ls hM (lv_sub hl [2, 3, 4, 1, 0] rfl) hv14.1 hv14.2.1 hv14.2.2.1 hv14.2.2.2.1 hv14.2.2.2.2.1 hv14.2.2.2.2.2.1 hv14.2.2.2.2.2.2 (by first | omega | (simp only [wr_at] <;> omega) | assumption | (intro _; exact wr_at _ _ _))
  refine lv_aload_n B.1 B.2.1 dX12_holdsAt_0 rfl (lv_at hl 0 rfl) ?_
  refine m_geta (k := 65) B hM (by decide) rfl fl266 dX12_holdsAt_1 ?_
  refine lv_iload_n B.1 B.2.1 dX12_holdsAt_4 rfl (lv_at hl 2 rfl) ?_
  refine m_ild (k := 65) (i := 45) (n := 12960) (z := a_o) (v := (A 65) a_o.toNat) B hM rfl rfl rfl (by decide) dX12_holdsAt_5 (by omega) (by omega) rfl ?_
  have r15 : (0 : Int) ≤ (A 65) a_o.toNat ∧ (A 65) a_o.toNat ≤ 115 := hM.2.2.2.2 65 a_o.toNat
  refine lv_istore_n (lv' := [(3, .int (II ((A 65) a_o.toNat))), (0, .ref h0), (1, .int (II a_v)), (2, .int (II a_o))]) B.1 B.2.1 dX12_holdsAt_6 rfl hl (by decide) rfl (fun ls hl => ?_)
  refine lv_aload_n B.1 B.2.1 dX12_holdsAt_7 rfl (lv_at hl 1 rfl) ?_
  refine m_geta (k := 72) B hM (by decide) rfl fl288 dX12_holdsAt_8 ?_
  refine q_con B dX12_holdsAt_11 ?_
  refine lv_iload_n B.1 B.2.1 dX12_holdsAt_12 rfl (lv_at hl 3 rfl) ?_
  refine q_mul B dX12_holdsAt_13 ?_
  refine m_ild (k := 72) (i := 52) (n := 51840) (z := 4 * a_o) (v := (A 72) (4 * a_o).toNat) B hM rfl rfl rfl (by decide) dX12_holdsAt_14 (by omega) (by omega) rfl ?_
  have r16 : (-2147483648 : Int) ≤ (A 72) (4 * a_o).toNat ∧ (A 72) (4 * a_o).toNat ≤ 2147483647 := hM.2.2.2.2 72 (4 * a_o).toNat
  refine lv_istore (lv' := [(4, .int (II ((A 72) (4 * a_o).toNat))), (3, .int (II ((A 65) a_o.toNat))), (0, .ref h0), (1, .int (II a_v)), (2, .int (II a_o))]) B.1 B.2.1 dX12_holdsAt_15 hl (by decide) rfl (fun ls hl => ?_)
  refine lv_iload_n B.1 B.2.1 dX12_holdsAt_17 rfl (lv_at hl 1 rfl) ?_
  refine q_con B dX12_holdsAt_18 ?_
  refine q_cne (tgt := 34) B dX12_holdsAt_19 (by decide) (by unfold inr; omega) (by unfold inr; omega) (fun c17 => ?_) (fun c17 => ?_)
  · refine lv_iload_n B.1 B.2.1 dX12_holdsAt_34 rfl (lv_at hl 1 rfl) ?_
    refine q_con B dX12_holdsAt_35 ?_
    refine q_cne (tgt := 51) B dX12_holdsAt_36 (by decide) (by unfold inr; omega) (by unfold inr; omega) (fun c18 => ?_) (fun c18 => ?_)
    · refine lv_iload_n B.1 B.2.1 dX12_holdsAt_51 rfl (lv_at hl 1 rfl) ?_
      refine q_con B dX12_holdsAt_52 ?_
      refine q_cne (tgt := 82) B dX12_holdsAt_53 (by decide) (by unfold inr; omega) (by unfold inr; omega) (fun c19 => ?_) (fun c19 => ?_)
      · refine lv_iload_n B.1 B.2.1 dX12_holdsAt_82 rfl (lv_at hl 1 rfl) ?_
        refine q_bip B dX12_holdsAt_83 (by decide) ?_
        refine q_cne (tgt := 141) B dX12_holdsAt_85 (by decide) (by unfold inr; omega) (by unfold inr; omega) (fun c20 => ?_) (fun c20 => ?_)
        · refine lv_aload_n B.1 B.2.1 dX12_holdsAt_141 rfl (lv_at hl 2 rfl) ?_
          refine lv_iload_n B.1 B.2.1 dX12_holdsAt_142 rfl (lv_at hl 1 rfl) ?_
          refine q_bip B dX12_holdsAt_143 (by decide) ?_
          refine q_sub B dX12_holdsAt_145 ?_
          refine lv_iload_n B.1 B.2.1 dX12_holdsAt_146 rfl (lv_at hl 3 rfl) ?_
          refine lv_iload_n B.1 B.2.1 dX12_holdsAt_147 rfl (lv_at hl 4 rfl) ?_
          have hv21 : ((-2147483648 : Int) ≤ ((A 65) a_o.toNat) - 100 ∧ (((A 65) a_o.toNat) - 100 : Int) ≤ 2147483647) ∧ ((-2147483648 : Int) ≤ a_v ∧ (a_v : Int) ≤ 2147483647) ∧ ((-2147483648 : Int) ≤ a_o ∧ (a_o : Int) ≤ 2147483647) ∧ (0 ≤ (((A 65) a_o.toNat) - 100)) ∧ ((((A 65) a_o.toNat) - 100) < (f 58)) ∧ (0 ≤ (a_o)) ∧ ((a_o) < 8640) := by first | omega | (simp only [wr_at] <;> omega) | exact ⟨by first | omega | (simp only [wr_at] <;> omega) | assumption | (intro _; exact wr_at _ _ _), by first | omega | (simp only [wr_at] <;> omega) | assumption | (intro _; exact wr_at _ _ _), by first | omega | (simp only [wr_at] <;> omega) | assumption | (intro _; exact wr_at _ _ _), by first | omega | (simp only [wr_at] <;> omega) | assumption | (intro _; exact wr_at _ _ _), by first | omega | (simp only [wr_at] <;> omega) | assumption | (intro _; exact wr_at _ _ _), by first | omega | (simp only [wr_at] <;> omega) | assumption | (intro _; exact wr_at _ _ _), by first | omega | (simp only [wr_at] <;> omega) | assumption | (intro _; exact wr_at _ _ _)⟩
          refine m_calli (n := 3) (rest := []) B hM hA hl.1 (k_ownOf l D dA h0 ad (up f [(127, f 127), (98, f 98), (97, f 97)]) g (up A [(96, (A 96)), (93, (A 93)), (91, (A 91)), (94, (A 94)), (95, (A 95))]) L (((A 65) a_o.toNat) - 100) a_v a_o hv21.1 hv21.2.1 hv21.2.2.1 hv21.2.2.2.1 hv21.2.2.2.2.1 (show RWp 0 (f 3) (f 58) 1500 (A 26) (A 27) (A 28) (A 29) (A 30) from by first | assumption | exact RWp_same (by assumption) (by omega) (by omega) (by omega) (by omega) | exact RWp_push (by assumption) (by assumption) (by assumption) (by assumption) (by assumption) (by assumption) (by assumption) (by assumption) (by omega) (by omega) (by omega) (by omega) (by omega) | exact RWp_bad (by omega) | exact RWp_0 (by omega) | exact RWp_oth (by assumption) (by assumption) (by assumption) (by assumption) (by assumption) (by assumption) (by omega) (by omega) (by omega) (by omega) (by omega) (by omega)) hv21.2.2.2.2.2.1 hv21.2.2.2.2.2.2) rfl ok_ownOf nm_ownOf ⟨rfl, rfl⟩ ⟨Nat.le_of_ble_eq_true rfl, Nat.le_of_ble_eq_true rfl⟩ dX12_holdsAt_148 rfl rfl (Nat.le_of_ble_eq_true rfl) ⟨Nat.zero_le _, Nat.zero_le _⟩ (fun r22 σr22 H locs ir22 hp23 hM => ?_)
          obtain ⟨x24, b25, rfl, hp23⟩ := hp23
          unfold inr at ir22
          replace hp23 : True := hp23
          replace hM := MW_uF hM rfl
          replace hM := MW_uA hM rfl
          replace hM : MWd D dA h0 ad (mF dA h0 ad (f, g, A, L) s.heap.size) s.heap ((up f [(127, f 127), (98, x24), (97, f 97)]), g, (up A [(96, b25), (93, (A 93)), (91, (A 91)), (94, (A 94)), (95, (A 95))]), L) H locs := hM
          have r26 : (0 : Int) ≤ x24 ∧ x24 ≤ 1 := hM.2.2.2.1 98
          refine lv_istore (lv' := [(5, .int (II r22)), (4, .int (II ((A 72) (4 * a_o).toNat))), (3, .int (II ((A 65) a_o.toNat))), (0, .ref h0), (1, .int (II a_v)), (2, .int (II a_o))]) B.1 B.2.1 dX12_holdsAt_151 hl (by decide) rfl (fun ls hl => ?_)
          refine lv_aload_n B.1 B.2.1 dX12_holdsAt_153 rfl (lv_at hl 3 rfl) ?_
          refine m_get (k := 98) (v := x24) B hM (by decide) rfl fl601 dX12_holdsAt_154 rfl ?_
          refine lv_istore (lv' := [(6, .int (II x24)), (5, .int (II r22)), (4, .int (II ((A 72) (4 * a_o).toNat))), (3, .int (II ((A 65) a_o.toNat))), (0, .ref h0), (1, .int (II a_v)), (2, .int (II a_o))]) B.1 B.2.1 dX12_holdsAt_157 hl (by decide) rfl (fun ls hl => ?_)
          refine lv_aload_n B.1 B.2.1 dX12_holdsAt_159 rfl (lv_at hl 4 rfl) ?_
          refine lv_iload B.1 B.2.1 dX12_holdsAt_160 (lv_at hl 0 rfl) ?_
          refine q_ieq (tgt := 169) B dX12_holdsAt_162 (by decide) (by unfold inr; omega) (fun c27 => ?_) (fun c27 => ?_)
          · refine q_con B dX12_holdsAt_169 ?_
            refine m_put (k := 127) B hM (by decide) rfl fl654 rfl dX12_holdsAt_170 rfl rfl (show (0 : Int) ≤ 0 from by first | omega | (simp only [wr_at] <;> omega)) (show 0 ≤ (1 : Int) from by first | omega | (simp only [wr_at] <;> omega)) (u1_up f [(127, f 127), (98, x24), (97, f 97)] 127 0) (fun H locs hM => ?_)
            replace hM : MWd D dA h0 ad (mF dA h0 ad (f, g, A, L) s.heap.size) s.heap ((up f [(127, 0), (98, x24), (97, f 97)]), g, (up A [(96, b25), (93, (A 93)), (91, (A 91)), (94, (A 94)), (95, (A 95))]), L) H locs := hM
            refine lv_iload B.1 B.2.1 dX12_holdsAt_173 (lv_at hl 0 rfl) ?_
            refine q_ieq (tgt := 186) B dX12_holdsAt_175 (by decide) (by unfold inr; omega) (fun c28 => ?_) (fun c28 => ?_)
            · refine lv_iload B.1 B.2.1 dX12_holdsAt_186 (lv_at hl 0 rfl) ?_
              refine q_ine (tgt := 200) B dX12_holdsAt_188 (by decide) (by unfold inr; omega) (fun c29 => ?_) (fun c29 => ?_)
              · refine q_con B dX12_holdsAt_200 ?_
                subst hPST
                have hv30 : (0 ≤ (0 : Int)) ∧ ((0 : Int) ≤ 1) := by first | omega | (simp only [wr_at] <;> omega) | exact ⟨by first | omega | (simp only [wr_at] <;> omega) | assumption | (intro _; exact wr_at _ _ _), by first | omega | (simp only [wr_at] <;> omega) | assumption | (intro _; exact wr_at _ _ _)⟩
                exact m_zret B hM dX12_holdsAt_201 (by omega) ⟨0, x24, (f 97), b25, ((A 93)), ((A 91)), ((A 94)), ((A 95)), rfl, hv30.1, hv30.2, (by exact p_3)⟩
              · refine lv_iload B.1 B.2.1 dX12_holdsAt_191 (lv_at hl 1 rfl) ?_
                refine q_ieq (tgt := 200) B dX12_holdsAt_193 (by decide) (by unfold inr; omega) (fun c31 => ?_) (fun c31 => ?_)
                · refine q_con B dX12_holdsAt_200 ?_
                  subst hPST
                  have hv32 : (0 ≤ (0 : Int)) ∧ ((0 : Int) ≤ 1) := by first | omega | (simp only [wr_at] <;> omega) | exact ⟨by first | omega | (simp only [wr_at] <;> omega) | assumption | (intro _; exact wr_at _ _ _), by first | omega | (simp only [wr_at] <;> omega) | assumption | (intro _; exact wr_at _ _ _)⟩
                  exact m_zret B hM dX12_holdsAt_201 (by omega) ⟨0, x24, (f 97), b25, ((A 93)), ((A 91)), ((A 94)), ((A 95)), rfl, hv32.1, hv32.2, (by exact p_3)⟩
                · refine q_con B dX12_holdsAt_196 ?_
                  refine lv_goto (tgt := 201) B.1 B.2.1 dX12_holdsAt_197 (by decide) ?_
                  subst hPST
                  have hv33 : (0 ≤ (1 : Int)) ∧ ((1 : Int) ≤ 1) := by first | omega | (simp only [wr_at] <;> omega) | exact ⟨by first | omega | (simp only [wr_at] <;> omega) | assumption | (intro _; exact wr_at _ _ _), by first | omega | (simp only [wr_at] <;> omega) | assumption | (intro _; exact wr_at _ _ _)⟩
                  exact m_zret B hM dX12_holdsAt_201 (by omega) ⟨0, x24, (f 97), b25, ((A 93)), ((A 91)), ((A 94)), ((A 95)), rfl, hv33.1, hv33.2, (by exact p_3)⟩
            · refine lv_aload_n B.1 B.2.1 dX12_holdsAt_178 rfl (lv_at hl 4 rfl) ?_
              refine lv_iload_n B.1 B.2.1 dX12_holdsAt_179 rfl (lv_at hl 3 rfl) ?_
              refine q_bip B dX12_holdsAt_180 (by decide) ?_
              refine q_sub B dX12_holdsAt_182 ?_
              have hv34 : ((-2147483648 : Int) ≤ ((A 65) a_o.toNat) - 100 ∧ (((A 65) a_o.toNat) - 100 : Int) ≤ 2147483647) ∧ (0 ≤ (((A 65) a_o.toNat) - 100)) ∧ ((((A 65) a_o.toNat) - 100) < 16) ∧ ((A 91) ((((A 65) a_o.toNat) - 100)).toNat = 1) := by first | omega | (simp only [wr_at] <;> omega) | exact ⟨by first | omega | (simp only [wr_at] <;> omega) | assumption | (intro _; exact wr_at _ _ _), by first | omega | (simp only [wr_at] <;> omega) | assumption | (intro _; exact wr_at _ _ _), by first | omega | (simp only [wr_at] <;> omega) | assumption | (intro _; exact wr_at _ _ _), by first | omega | (simp only [wr_at] <;> omega) | assumption | (intro _; exact wr_at _ _ _)⟩
              refine m_callv (n := 1) (rest := []) B hM hA hl.1 (k_breaksOff l D dA h0 ad (up f [(127, 0), (98, x24), (97, f 97)]) g (up A [(96, b25), (93, (A 93)), (91, (A 91)), (94, (A 94)), (95, (A 95))]) L (((A 65) a_o.toNat) - 100) hv34.1 hv34.2.1 hv34.2.2.1 hv34.2.2.2 (show FIp (f 97) (A 91) from by exact p_3)) rfl ok_breaksOff nm_breaksOff ⟨rfl, rfl⟩ ⟨Nat.le_of_ble_eq_true rfl, Nat.le_of_ble_eq_true rfl⟩ dX12_holdsAt_183 rfl rfl (Nat.le_of_ble_eq_true rfl) ⟨Nat.zero_le _, Nat.zero_le _⟩ (fun σr35 H locs hp36 hM => ?_)
              obtain ⟨x37, b38, b39, b40, b41, rfl, hp36⟩ := hp36
              replace hp36 : FIp (x37) b39 := hp36
              replace hM := MW_uF hM rfl
              replace hM := MW_uA hM rfl
              replace hM : MWd D dA h0 ad (mF dA h0 ad (f, g, A, L) s.heap.size) s.heap ((up f [(127, 0), (98, x24), (97, x37)]), g, (up A [(96, b25), (93, b38), (91, b39), (94, b40), (95, b41)]), L) H locs := hM
              have r42 : (0 : Int) ≤ x37 ∧ x37 ≤ 16 := hM.2.2.2.1 97
              refine lv_iload B.1 B.2.1 dX12_holdsAt_186 (lv_at hl 0 rfl) ?_
              refine q_ine (tgt := 200) B dX12_holdsAt_188 (by decide) (by unfold inr; omega) (fun c43 => ?_) (fun c43 => ?_)
              · refine q_con B dX12_holdsAt_200 ?_
                subst hPST
                have hv44 : (0 ≤ (0 : Int)) ∧ ((0 : Int) ≤ 1) := by first | omega | (simp only [wr_at] <;> omega) | exact ⟨by first | omega | (simp only [wr_at] <;> omega) | assumption | (intro _; exact wr_at _ _ _), by first | omega | (simp only [wr_at] <;> omega) | assumption | (intro _; exact wr_at _ _ _)⟩
                exact m_zret B hM dX12_holdsAt_201 (by omega) ⟨0, x24, x37, b25, b38, b39, b40, b41, rfl, hv44.1, hv44.2, (by exact hp36)⟩
              · refine lv_iload B.1 B.2.1 dX12_holdsAt_191 (lv_at hl 1 rfl) ?_
                refine q_ieq (tgt := 200) B dX12_holdsAt_193 (by decide) (by unfold inr; omega) (fun c45 => ?_) (fun c45 => ?_)
                · refine q_con B dX12_holdsAt_200 ?_
                  subst hPST
                  have hv46 : (0 ≤ (0 : Int)) ∧ ((0 : Int) ≤ 1) := by first | omega | (simp only [wr_at] <;> omega) | exact ⟨by first | omega | (simp only [wr_at] <;> omega) | assumption | (intro _; exact wr_at _ _ _), by first | omega | (simp only [wr_at] <;> omega) | assumption | (intro _; exact wr_at _ _ _)⟩
                  exact m_zret B hM dX12_holdsAt_201 (by omega) ⟨0, x24, x37, b25, b38, b39, b40, b41, rfl, hv46.1, hv46.2, (by exact hp36)⟩
                · refine q_con B dX12_holdsAt_196 ?_
                  refine lv_goto (tgt := 201) B.1 B.2.1 dX12_holdsAt_197 (by decide) ?_
                  subst hPST
                  have hv47 : (0 ≤ (1 : Int)) ∧ ((1 : Int) ≤ 1) := by first | omega | (simp only [wr_at] <;> omega) | exact ⟨by first | omega | (simp only [wr_at] <;> omega) | assumption | (intro _; exact wr_at _ _ _), by first | omega | (simp only [wr_at] <;> omega) | assumption | (intro _; exact wr_at _ _ _)⟩
                  exact m_zret B hM dX12_holdsAt_201 (by omega) ⟨0, x24, x37, b25, b38, b39, b40, b41, rfl, hv47.1, hv47.2, (by exact hp36)⟩
          · refine q_con B dX12_holdsAt_165 ?_
            refine lv_goto (tgt := 170) B.1 B.2.1 dX12_holdsAt_166 (by decide) ?_
            refine m_put (k := 127) B hM (by decide) rfl fl654 rfl dX12_holdsAt_170 rfl rfl (show (0 : Int) ≤ 1 from by first | omega | (simp only [wr_at] <;> omega)) (show 1 ≤ (1 : Int) from by first | omega | (simp only [wr_at] <;> omega)) (u1_up f [(127, f 127), (98, x24), (97, f 97)] 127 1) (fun H locs hM => ?_)
            replace hM : MWd D dA h0 ad (mF dA h0 ad (f, g, A, L) s.heap.size) s.heap ((up f [(127, 1), (98, x24), (97, f 97)]), g, (up A [(96, b25), (93, (A 93)), (91, (A 91)), (94, (A 94)), (95, (A 95))]), L) H locs := hM
            refine lv_iload B.1 B.2.1 dX12_holdsAt_173 (lv_at hl 0 rfl) ?_
            refine q_ieq (tgt := 186) B dX12_holdsAt_175 (by decide) (by unfold inr; omega) (fun c48 => ?_) (fun c48 => ?_)
            · refine lv_iload B.1 B.2.1 dX12_holdsAt_186 (lv_at hl 0 rfl) ?_
              refine q_ine (tgt := 200) B dX12_holdsAt_188 (by decide) (by unfold inr; omega) (fun c49 => ?_) (fun c49 => ?_)
              · refine q_con B dX12_holdsAt_200 ?_
                subst hPST
                have hv50 : (0 ≤ (0 : Int)) ∧ ((0 : Int) ≤ 1) := by first | omega | (simp only [wr_at] <;> omega) | exact ⟨by first | omega | (simp only [wr_at] <;> omega) | assumption | (intro _; exact wr_at _ _ _), by first | omega | (simp only [wr_at] <;> omega) | assumption | (intro _; exact wr_at _ _ _)⟩
                exact m_zret B hM dX12_holdsAt_201 (by omega) ⟨1, x24, (f 97), b25, ((A 93)), ((A 91)), ((A 94)), ((A 95)), rfl, hv50.1, hv50.2, (by exact p_3)⟩
              · refine lv_iload B.1 B.2.1 dX12_holdsAt_191 (lv_at hl 1 rfl) ?_
                refine q_ieq (tgt := 200) B dX12_holdsAt_193 (by decide) (by unfold inr; omega) (fun c51 => ?_) (fun c51 => ?_)
                · refine q_con B dX12_holdsAt_200 ?_
                  subst hPST
                  have hv52 : (0 ≤ (0 : Int)) ∧ ((0 : Int) ≤ 1) := by first | omega | (simp only [wr_at] <;> omega) | exact ⟨by first | omega | (simp only [wr_at] <;> omega) | assumption | (intro _; exact wr_at _ _ _), by first | omega | (simp only [wr_at] <;> omega) | assumption | (intro _; exact wr_at _ _ _)⟩
                  exact m_zret B hM dX12_holdsAt_201 (by omega) ⟨1, x24, (f 97), b25, ((A 93)), ((A 91)), ((A 94)), ((A 95)), rfl, hv52.1, hv52.2, (by exact p_3)⟩
                · refine q_con B dX12_holdsAt_196 ?_
                  refine lv_goto (tgt := 201) B.1 B.2.1 dX12_holdsAt_197 (by decide) ?_
                  subst hPST
                  have hv53 : (0 ≤ (1 : Int)) ∧ ((1 : Int) ≤ 1) := by first | omega | (simp only [wr_at] <;> omega) | exact ⟨by first | omega | (simp only [wr_at] <;> omega) | assumption | (intro _; exact wr_at _ _ _), by first | omega | (simp only [wr_at] <;> omega) | assumption | (intro _; exact wr_at _ _ _)⟩
                  exact m_zret B hM dX12_holdsAt_201 (by omega) ⟨1, x24, (f 97), b25, ((A 93)), ((A 91)), ((A 94)), ((A 95)), rfl, hv53.1, hv53.2, (by exact p_3)⟩
            · refine lv_aload_n B.1 B.2.1 dX12_holdsAt_178 rfl (lv_at hl 4 rfl) ?_
              refine lv_iload_n B.1 B.2.1 dX12_holdsAt_179 rfl (lv_at hl 3 rfl) ?_
              refine q_bip B dX12_holdsAt_180 (by decide) ?_
              refine q_sub B dX12_holdsAt_182 ?_
              have hv54 : ((-2147483648 : Int) ≤ ((A 65) a_o.toNat) - 100 ∧ (((A 65) a_o.toNat) - 100 : Int) ≤ 2147483647) ∧ (0 ≤ (((A 65) a_o.toNat) - 100)) ∧ ((((A 65) a_o.toNat) - 100) < 16) ∧ ((A 91) ((((A 65) a_o.toNat) - 100)).toNat = 1) := by first | omega | (simp only [wr_at] <;> omega) | exact ⟨by first | omega | (simp only [wr_at] <;> omega) | assumption | (intro _; exact wr_at _ _ _), by first | omega | (simp only [wr_at] <;> omega) | assumption | (intro _; exact wr_at _ _ _), by first | omega | (simp only [wr_at] <;> omega) | assumption | (intro _; exact wr_at _ _ _), by first | omega | (simp only [wr_at] <;> omega) | assumption | (intro _; exact wr_at _ _ _)⟩
              refine m_callv (n := 1) (rest := []) B hM hA hl.1 (k_breaksOff l D dA h0 ad (up f [(127, 1), (98, x24), (97, f 97)]) g (up A [(96, b25), (93, (A 93)), (91, (A 91)), (94, (A 94)), (95, (A 95))]) L (((A 65) a_o.toNat) - 100) hv54.1 hv54.2.1 hv54.2.2.1 hv54.2.2.2 (show FIp (f 97) (A 91) from by exact p_3)) rfl ok_breaksOff nm_breaksOff ⟨rfl, rfl⟩ ⟨Nat.le_of_ble_eq_true rfl, Nat.le_of_ble_eq_true rfl⟩ dX12_holdsAt_183 rfl rfl (Nat.le_of_ble_eq_true rfl) ⟨Nat.zero_le _, Nat.zero_le _⟩ (fun σr55 H locs hp56 hM => ?_)
              obtain ⟨x57, b58, b59, b60, b61, rfl, hp56⟩ := hp56
              replace hp56 : FIp (x57) b59 := hp56
              replace hM := MW_uF hM rfl
              replace hM := MW_uA hM rfl
              replace hM : MWd D dA h0 ad (mF dA h0 ad (f, g, A, L) s.heap.size) s.heap ((up f [(127, 1), (98, x24), (97, x57)]), g, (up A [(96, b25), (93, b58), (91, b59), (94, b60), (95, b61)]), L) H locs := hM
              have r62 : (0 : Int) ≤ x57 ∧ x57 ≤ 16 := hM.2.2.2.1 97
              refine lv_iload B.1 B.2.1 dX12_holdsAt_186 (lv_at hl 0 rfl) ?_
              refine q_ine (tgt := 200) B dX12_holdsAt_188 (by decide) (by unfold inr; omega) (fun c63 => ?_) (fun c63 => ?_)
              · refine q_con B dX12_holdsAt_200 ?_
                subst hPST
                have hv64 : (0 ≤ (0 : Int)) ∧ ((0 : Int) ≤ 1) := by first | omega | (simp only [wr_at] <;> omega) | exact ⟨by first | omega | (simp only [wr_at] <;> omega) | assumption | (intro _; exact wr_at _ _ _), by first | omega | (simp only [wr_at] <;> omega) | assumption | (intro _; exact wr_at _ _ _)⟩
                exact m_zret B hM dX12_holdsAt_201 (by omega) ⟨1, x24, x57, b25, b58, b59, b60, b61, rfl, hv64.1, hv64.2, (by exact hp56)⟩
              · refine lv_iload B.1 B.2.1 dX12_holdsAt_191 (lv_at hl 1 rfl) ?_
                refine q_ieq (tgt := 200) B dX12_holdsAt_193 (by decide) (by unfold inr; omega) (fun c65 => ?_) (fun c65 => ?_)
                · refine q_con B dX12_holdsAt_200 ?_
                  subst hPST
                  have hv66 : (0 ≤ (0 : Int)) ∧ ((0 : Int) ≤ 1) := by first | omega | (simp only [wr_at] <;> omega) | exact ⟨by first | omega | (simp only [wr_at] <;> omega) | assumption | (intro _; exact wr_at _ _ _), by first | omega | (simp only [wr_at] <;> omega) | assumption | (intro _; exact wr_at _ _ _)⟩
                  exact m_zret B hM dX12_holdsAt_201 (by omega) ⟨1, x24, x57, b25, b58, b59, b60, b61, rfl, hv66.1, hv66.2, (by exact hp56)⟩
                · refine q_con B dX12_holdsAt_196 ?_
                  refine lv_goto (tgt := 201) B.1 B.2.1 dX12_holdsAt_197 (by decide) ?_
                  subst hPST
                  have hv67 : (0 ≤ (1 : Int)) ∧ ((1 : Int) ≤ 1) := by first | omega | (simp only [wr_at] <;> omega) | exact ⟨by first | omega | (simp only [wr_at] <;> omega) | assumption | (intro _; exact wr_at _ _ _), by first | omega | (simp only [wr_at] <;> omega) | assumption | (intro _; exact wr_at _ _ _)⟩
                  exact m_zret B hM dX12_holdsAt_201 (by omega) ⟨1, x24, x57, b25, b58, b59, b60, b61, rfl, hv67.1, hv67.2, (by exact hp56)⟩
        · refine q_con B dX12_holdsAt_88 ?_
          refine lv_istore (lv' := [(5, .int (II 0)), (4, .int (II ((A 72) (4 * a_o).toNat))), (3, .int (II ((A 65) a_o.toNat))), (0, .ref h0), (1, .int (II a_v)), (2, .int (II a_o))]) B.1 B.2.1 dX12_holdsAt_89 hl (by decide) rfl (fun ls hl => ?_)
          refine q_con B dX12_holdsAt_91 ?_
          refine lv_istore (lv' := [(6, .int (II 0)), (5, .int (II 0)), (4, .int (II ((A 72) (4 * a_o).toNat))), (3, .int (II ((A 65) a_o.toNat))), (0, .ref h0), (1, .int (II a_v)), (2, .int (II a_o))]) B.1 B.2.1 dX12_holdsAt_92 hl (by decide) rfl (fun ls hl => ?_)
          have hv68 : ((-2147483648 : Int) ≤ 0 ∧ (0 : Int) ≤ 2147483647) ∧ ((-2147483648 : Int) ≤ 0 ∧ (0 : Int) ≤ 2147483647) ∧ (0 ≤ (0 : Int)) ∧ ((0 : Int) ≤ 1) ∧ (0 ≤ (0 : Int)) ∧ ((0 : Int) ≤ 4) ∧ (0 ≤ 4 - (0 : Int)) := by first | omega | (simp only [wr_at] <;> omega) | exact ⟨by first | omega | (simp only [wr_at] <;> omega) | assumption | (intro _; exact wr_at _ _ _), by first | omega | (simp only [wr_at] <;> omega) | assumption | (intro _; exact wr_at _ _ _), by first | omega | (simp only [wr_at] <;> omega) | assumption | (intro _; exact wr_at _ _ _), by first | omega | (simp only [wr_at] <;> omega) | assumption | (intro _; exact wr_at _ _ _), by first | omega | (simp only [wr_at] <;> omega) | assumption | (intro _; exact wr_at _ _ _), by first | omega | (simp only [wr_at] <;> omega) | assumption | (intro _; exact wr_at _ _ _), by first | omega | (simp only [wr_at] <;> omega) | assumption | (intro _; exact wr_at _ _ _)⟩
          exact LL94 (Int.toNat (4 - (0 : Int) + 1)) 0 0 _ _ ls hM (lv_sub hl [4, 5, 6, 1, 0] rfl) hv68.1 hv68.2.1 hv68.2.2.1 hv68.2.2.2.1 hv68.2.2.2.2.1 hv68.2.2.2.2.2.1 hv68.2.2.2.2.2.2 (by first | omega | (simp only [wr_at] <;> omega) | assumption | (intro _; exact wr_at _ _ _))
      · refine lv_iload_n B.1 B.2.1 dX12_holdsAt_56 rfl (lv_at hl 3 rfl) ?_
        refine lv_iload B.1 B.2.1 dX12_holdsAt_57 (lv_at hl 0 rfl) ?_
        refine q_clt (tgt := 80) B dX12_holdsAt_59 (by decide) (by unfold inr; omega) (by unfold inr; omega) (fun c69 => ?_) (fun c69 => ?_)
        · refine q_con B dX12_holdsAt_80 ?_
          subst hPST
          have hv70 : (0 ≤ (0 : Int)) ∧ ((0 : Int) ≤ 1) := by first | omega | (simp only [wr_at] <;> omega) | exact ⟨by first | omega | (simp only [wr_at] <;> omega) | assumption | (intro _; exact wr_at _ _ _), by first | omega | (simp only [wr_at] <;> omega) | assumption | (intro _; exact wr_at _ _ _)⟩
          exact m_zret B hM dX12_holdsAt_81 (by omega) ⟨(f 127), (f 98), (f 97), ((A 96)), ((A 93)), ((A 91)), ((A 94)), ((A 95)), rfl, hv70.1, hv70.2, (by exact p_3)⟩
        · refine lv_iload_n B.1 B.2.1 dX12_holdsAt_62 rfl (lv_at hl 3 rfl) ?_
          refine lv_aload_n B.1 B.2.1 dX12_holdsAt_63 rfl (lv_at hl 2 rfl) ?_
          refine m_geta (k := 72) B hM (by decide) rfl fl288 dX12_holdsAt_64 ?_
          refine q_con B dX12_holdsAt_67 ?_
          refine lv_iload_n B.1 B.2.1 dX12_holdsAt_68 rfl (lv_at hl 4 rfl) ?_
          refine q_mul B dX12_holdsAt_69 ?_
          refine q_con B dX12_holdsAt_70 ?_
          refine q_add B dX12_holdsAt_71 ?_
          refine m_ild (k := 72) (i := 52) (n := 51840) (z := (4 * a_o) + 1) (v := (A 72) ((4 * a_o) + 1).toNat) B hM rfl rfl rfl (by decide) dX12_holdsAt_72 (by omega) (by omega) rfl ?_
          have r71 : (-2147483648 : Int) ≤ (A 72) ((4 * a_o) + 1).toNat ∧ (A 72) ((4 * a_o) + 1).toNat ≤ 2147483647 := hM.2.2.2.2 72 ((4 * a_o) + 1).toNat
          refine q_cgt (tgt := 80) B dX12_holdsAt_73 (by decide) (by unfold inr; omega) (by unfold inr; omega) (fun c72 => ?_) (fun c72 => ?_)
          · refine q_con B dX12_holdsAt_80 ?_
            subst hPST
            have hv73 : (0 ≤ (0 : Int)) ∧ ((0 : Int) ≤ 1) := by first | omega | (simp only [wr_at] <;> omega) | exact ⟨by first | omega | (simp only [wr_at] <;> omega) | assumption | (intro _; exact wr_at _ _ _), by first | omega | (simp only [wr_at] <;> omega) | assumption | (intro _; exact wr_at _ _ _)⟩
            exact m_zret B hM dX12_holdsAt_81 (by omega) ⟨(f 127), (f 98), (f 97), ((A 96)), ((A 93)), ((A 91)), ((A 94)), ((A 95)), rfl, hv73.1, hv73.2, (by exact p_3)⟩
          · refine q_con B dX12_holdsAt_76 ?_
            refine lv_goto (tgt := 81) B.1 B.2.1 dX12_holdsAt_77 (by decide) ?_
            subst hPST
            have hv74 : (0 ≤ (1 : Int)) ∧ ((1 : Int) ≤ 1) := by first | omega | (simp only [wr_at] <;> omega) | exact ⟨by first | omega | (simp only [wr_at] <;> omega) | assumption | (intro _; exact wr_at _ _ _), by first | omega | (simp only [wr_at] <;> omega) | assumption | (intro _; exact wr_at _ _ _)⟩
            exact m_zret B hM dX12_holdsAt_81 (by omega) ⟨(f 127), (f 98), (f 97), ((A 96)), ((A 93)), ((A 91)), ((A 94)), ((A 95)), rfl, hv74.1, hv74.2, (by exact p_3)⟩
    · refine lv_iload_n B.1 B.2.1 dX12_holdsAt_39 rfl (lv_at hl 3 rfl) ?_
      refine lv_iload B.1 B.2.1 dX12_holdsAt_40 (lv_at hl 0 rfl) ?_
      refine q_cgt (tgt := 49) B dX12_holdsAt_42 (by decide) (by unfold inr; omega) (by unfold inr; omega) (fun c75 => ?_) (fun c75 => ?_)
      · refine q_con B dX12_holdsAt_49 ?_
        subst hPST
        have hv76 : (0 ≤ (0 : Int)) ∧ ((0 : Int) ≤ 1) := by first | omega | (simp only [wr_at] <;> omega) | exact ⟨by first | omega | (simp only [wr_at] <;> omega) | assumption | (intro _; exact wr_at _ _ _), by first | omega | (simp only [wr_at] <;> omega) | assumption | (intro _; exact wr_at _ _ _)⟩
        exact m_zret B hM dX12_holdsAt_50 (by omega) ⟨(f 127), (f 98), (f 97), ((A 96)), ((A 93)), ((A 91)), ((A 94)), ((A 95)), rfl, hv76.1, hv76.2, (by exact p_3)⟩
      · refine q_con B dX12_holdsAt_45 ?_
        refine lv_goto (tgt := 50) B.1 B.2.1 dX12_holdsAt_46 (by decide) ?_
        subst hPST
        have hv77 : (0 ≤ (1 : Int)) ∧ ((1 : Int) ≤ 1) := by first | omega | (simp only [wr_at] <;> omega) | exact ⟨by first | omega | (simp only [wr_at] <;> omega) | assumption | (intro _; exact wr_at _ _ _), by first | omega | (simp only [wr_at] <;> omega) | assumption | (intro _; exact wr_at _ _ _)⟩
        exact m_zret B hM dX12_holdsAt_50 (by omega) ⟨(f 127), (f 98), (f 97), ((A 96)), ((A 93)), ((A 91)), ((A 94)), ((A 95)), rfl, hv77.1, hv77.2, (by exact p_3)⟩
  · refine lv_iload_n B.1 B.2.1 dX12_holdsAt_22 rfl (lv_at hl 3 rfl) ?_
    refine lv_iload B.1 B.2.1 dX12_holdsAt_23 (lv_at hl 0 rfl) ?_
    refine q_clt (tgt := 32) B dX12_holdsAt_25 (by decide) (by unfold inr; omega) (by unfold inr; omega) (fun c78 => ?_) (fun c78 => ?_)
    · refine q_con B dX12_holdsAt_32 ?_
      subst hPST
      have hv79 : (0 ≤ (0 : Int)) ∧ ((0 : Int) ≤ 1) := by first | omega | (simp only [wr_at] <;> omega) | exact ⟨by first | omega | (simp only [wr_at] <;> omega) | assumption | (intro _; exact wr_at _ _ _), by first | omega | (simp only [wr_at] <;> omega) | assumption | (intro _; exact wr_at _ _ _)⟩
      exact m_zret B hM dX12_holdsAt_33 (by omega) ⟨(f 127), (f 98), (f 97), ((A 96)), ((A 93)), ((A 91)), ((A 94)), ((A 95)), rfl, hv79.1, hv79.2, (by exact p_3)⟩
    · refine q_con B dX12_holdsAt_28 ?_
      refine lv_goto (tgt := 33) B.1 B.2.1 dX12_holdsAt_29 (by decide) ?_
      subst hPST
      have hv80 : (0 ≤ (1 : Int)) ∧ ((1 : Int) ≤ 1) := by first | omega | (simp only [wr_at] <;> omega) | exact ⟨by first | omega | (simp only [wr_at] <;> omega) | assumption | (intro _; exact wr_at _ _ _), by first | omega | (simp only [wr_at] <;> omega) | assumption | (intro _; exact wr_at _ _ _)⟩
      exact m_zret B hM dX12_holdsAt_33 (by omega) ⟨(f 127), (f 98), (f 97), ((A 96)), ((A 93)), ((A 91)), ((A 94)), ((A 95)), rfl, hv80.1, hv80.2, (by exact p_3)⟩
set_option maxHeartbeats 200000000 in
set_option maxRecDepth 20000 in
theorem k_isThere (l : Launch) (D : va_G) (dA : Nat → ClassId) (h0 : Nat) (ad : Nat → Nat) (f : Nat → Int) (g : Nat → Int64) (A : Nat → Nat → Int) (L : Nat → Nat → Int64) (a_p : Int) (a_m : Int) (i_p : (-2147483648 : Int) ≤ a_p ∧ a_p ≤ 2147483647) (i_m : (-2147483648 : Int) ≤ a_m ∧ a_m ≤ 2147483647) (p_0 : 0 ≤ (a_p)) (p_1 : (a_p) < 200) (p_2 : 0 ≤ (a_m)) (p_3 : (a_m) ≤ 11) : MCi l yX12_isThere cX12_isThere 3 (some .boolean) ({ frames := 1, cells := 0, slots := 0, locals := 22 }) D dA h0 ad (f, g, A, L) [.int (II a_p), .int (II a_m)] (fun (r : Int) (σ : MS) => σ = (f, g, A, L) ∧ (0 ≤ r ∧ r ≤ 1)) := by
  generalize hPST : (fun (r : Int) (σ : MS) => σ = (f, g, A, L) ∧ (0 ≤ r ∧ r ≤ 1)) = PST
  refine m_enter (by decide) rfl (Nat.le_of_ble_eq_true rfl) (fun p e s m args below meth c ls B hM hl => ?_)
  have hA : ∀ q, s.heap.size ≤ q → mF dA h0 ad (f, g, A, L) s.heap.size q := fun q h => Or.inr h
  have hl : lv_has ls 3 [(0, .ref h0), (1, .int (II a_p)), (2, .int (II a_m))] := hl
  have r1 : (0 : Int) ≤ f 3 ∧ f 3 ≤ 1 := hM.2.2.2.1 3
  refine lv_aload_n B.1 B.2.1 dX12_isThere_0 rfl (lv_at hl 0 rfl) ?_
  refine lv_aload_n B.1 B.2.1 dX12_isThere_1 rfl (lv_at hl 0 rfl) ?_
  refine m_geta (k := 83) B hM (by decide) rfl fl315 dX12_isThere_2 ?_
  refine lv_iload_n B.1 B.2.1 dX12_isThere_5 rfl (lv_at hl 1 rfl) ?_
  refine m_ild (k := 83) (i := 61) (n := 200) (z := a_p) (v := (A 83) a_p.toNat) B hM rfl rfl rfl (by decide) dX12_isThere_6 (by omega) (by omega) rfl ?_
  have r2 : (0 : Int) ≤ (A 83) a_p.toNat ∧ (A 83) a_p.toNat ≤ 15 := hM.2.2.2.2 83 a_p.toNat
  refine lv_iload_n B.1 B.2.1 dX12_isThere_7 rfl (lv_at hl 2 rfl) ?_
  have hv3 : ((-2147483648 : Int) ≤ (A 83) a_p.toNat ∧ ((A 83) a_p.toNat : Int) ≤ 2147483647) ∧ ((-2147483648 : Int) ≤ a_m ∧ (a_m : Int) ≤ 2147483647) ∧ (0 ≤ ((A 83) a_p.toNat)) ∧ (((A 83) a_p.toNat) ≤ 15) ∧ ((a_m) ≤ 11) := by first | omega | (simp only [wr_at] <;> omega) | exact ⟨by first | omega | (simp only [wr_at] <;> omega) | assumption | (intro _; exact wr_at _ _ _), by first | omega | (simp only [wr_at] <;> omega) | assumption | (intro _; exact wr_at _ _ _), by first | omega | (simp only [wr_at] <;> omega) | assumption | (intro _; exact wr_at _ _ _), by first | omega | (simp only [wr_at] <;> omega) | assumption | (intro _; exact wr_at _ _ _), by first | omega | (simp only [wr_at] <;> omega) | assumption | (intro _; exact wr_at _ _ _)⟩
  refine m_calli (n := 2) (rest := []) B hM hA hl.1 (k_typeOf l D dA h0 ad f g A L ((A 83) a_p.toNat) a_m hv3.1 hv3.2.1 hv3.2.2.1 hv3.2.2.2.1 hv3.2.2.2.2) rfl ok_typeOf nm_typeOf ⟨rfl, rfl⟩ ⟨Nat.le_of_ble_eq_true rfl, Nat.le_of_ble_eq_true rfl⟩ dX12_isThere_8 rfl rfl (Nat.le_of_ble_eq_true rfl) ⟨Nat.zero_le _, Nat.zero_le _⟩ (fun r4 σr4 H locs ir4 hp5 hM => ?_)
  obtain ⟨rfl, hp5⟩ := hp5
  unfold inr at ir4
  replace hp5 : ((a_m) < 0 → r4 = -1) ∧ (0 ≤ (a_m) → r4 = (A 42) ((A 38) (12 * (16 * (f 3) + ((A 83) a_p.toNat)) + (a_m)).toNat).toNat) ∧ -1 ≤ r4 ∧ r4 ≤ 3 ∧ (0 ≤ (a_m) → 0 ≤ r4) := hp5
  obtain ⟨hp5_0, hp5_1, hp5_2, hp5_3, hp5_4⟩ := hp5
  refine q_con B dX12_isThere_11 ?_
  refine q_cne (tgt := 37) B dX12_isThere_12 (by decide) (by unfold inr; omega) (by unfold inr; omega) (fun c6 => ?_) (fun c6 => ?_)
  · refine lv_aload_n B.1 B.2.1 dX12_isThere_37 rfl (lv_at hl 0 rfl) ?_
    refine m_geta (k := 89) B hM (by decide) rfl fl334 dX12_isThere_38 ?_
    refine q_bip B dX12_isThere_41 (by decide) ?_
    refine lv_iload_n B.1 B.2.1 dX12_isThere_43 rfl (lv_at hl 1 rfl) ?_
    refine q_mul B dX12_isThere_44 ?_
    refine lv_iload_n B.1 B.2.1 dX12_isThere_45 rfl (lv_at hl 2 rfl) ?_
    refine q_add B dX12_isThere_46 ?_
    refine m_zld (k := 89) (i := 67) (n := 2400) (z := (12 * a_p) + a_m) (v := (A 89) ((12 * a_p) + a_m).toNat) B hM rfl rfl rfl (by decide) dX12_isThere_47 (by omega) (by omega) rfl ?_
    have r7 : (0 : Int) ≤ (A 89) ((12 * a_p) + a_m).toNat ∧ (A 89) ((12 * a_p) + a_m).toNat ≤ 1 := hM.2.2.2.2 89 ((12 * a_p) + a_m).toNat
    subst hPST
    have hv8 : (0 ≤ ((A 89) ((12 * a_p) + a_m).toNat)) ∧ (((A 89) ((12 * a_p) + a_m).toNat) ≤ 1) := by first | omega | (simp only [wr_at] <;> omega) | exact ⟨by first | omega | (simp only [wr_at] <;> omega) | assumption | (intro _; exact wr_at _ _ _), by first | omega | (simp only [wr_at] <;> omega) | assumption | (intro _; exact wr_at _ _ _)⟩
    exact m_zret B hM dX12_isThere_48 (by omega) ⟨rfl, hv8.1, hv8.2⟩
  · refine lv_aload_n B.1 B.2.1 dX12_isThere_15 rfl (lv_at hl 0 rfl) ?_
    refine m_geta (k := 87) B hM (by decide) rfl fl327 dX12_isThere_16 ?_
    refine q_bip B dX12_isThere_19 (by decide) ?_
    refine lv_iload_n B.1 B.2.1 dX12_isThere_21 rfl (lv_at hl 1 rfl) ?_
    refine q_mul B dX12_isThere_22 ?_
    refine lv_iload_n B.1 B.2.1 dX12_isThere_23 rfl (lv_at hl 2 rfl) ?_
    refine q_add B dX12_isThere_24 ?_
    refine m_ild (k := 87) (i := 65) (n := 2400) (z := (12 * a_p) + a_m) (v := (A 87) ((12 * a_p) + a_m).toNat) B hM rfl rfl rfl (by decide) dX12_isThere_25 (by omega) (by omega) rfl ?_
    have r9 : (0 : Int) ≤ (A 87) ((12 * a_p) + a_m).toNat ∧ (A 87) ((12 * a_p) + a_m).toNat ≤ 20 := hM.2.2.2.2 87 ((12 * a_p) + a_m).toNat
    refine q_ile (tgt := 33) B dX12_isThere_26 (by decide) (by unfold inr; omega) (fun c10 => ?_) (fun c10 => ?_)
    · refine q_con B dX12_isThere_33 ?_
      refine lv_goto (tgt := 48) B.1 B.2.1 dX12_isThere_34 (by decide) ?_
      subst hPST
      have hv11 : (0 ≤ (0 : Int)) ∧ ((0 : Int) ≤ 1) := by first | omega | (simp only [wr_at] <;> omega) | exact ⟨by first | omega | (simp only [wr_at] <;> omega) | assumption | (intro _; exact wr_at _ _ _), by first | omega | (simp only [wr_at] <;> omega) | assumption | (intro _; exact wr_at _ _ _)⟩
      exact m_zret B hM dX12_isThere_48 (by omega) ⟨rfl, hv11.1, hv11.2⟩
    · refine q_con B dX12_isThere_29 ?_
      refine lv_goto (tgt := 48) B.1 B.2.1 dX12_isThere_30 (by decide) ?_
      subst hPST
      have hv12 : (0 ≤ (1 : Int)) ∧ ((1 : Int) ≤ 1) := by first | omega | (simp only [wr_at] <;> omega) | exact ⟨by first | omega | (simp only [wr_at] <;> omega) | assumption | (intro _; exact wr_at _ _ _), by first | omega | (simp only [wr_at] <;> omega) | assumption | (intro _; exact wr_at _ _ _)⟩
      exact m_zret B hM dX12_isThere_48 (by omega) ⟨rfl, hv12.1, hv12.2⟩
set_option maxHeartbeats 200000000 in
set_option maxRecDepth 20000 in
theorem k_isBelow (l : Launch) (D : va_G) (dA : Nat → ClassId) (h0 : Nat) (ad : Nat → Nat) (f : Nat → Int) (g : Nat → Int64) (A : Nat → Nat → Int) (L : Nat → Nat → Int64) (a_p : Int) (a_x : Int) (a_y : Int) (i_p : (-2147483648 : Int) ≤ a_p ∧ a_p ≤ 2147483647) (i_x : (-2147483648 : Int) ≤ a_x ∧ a_x ≤ 2147483647) (i_y : (-2147483648 : Int) ≤ a_y ∧ a_y ≤ 2147483647) (p_0 : 0 ≤ (a_p)) (p_1 : (a_p) < 200) (p_2 : 0 ≤ (a_x)) (p_3 : (a_x) ≤ 11) (p_4 : 0 ≤ (a_y)) (p_5 : (a_y) ≤ 11) : MCi l yX12_isBelow cX12_isBelow 4 (some .boolean) ({ frames := 0, cells := 0, slots := 0, locals := 0 }) D dA h0 ad (f, g, A, L) [.int (II a_p), .int (II a_x), .int (II a_y)] (fun (r : Int) (σ : MS) => σ = (f, g, A, L) ∧ (0 ≤ r ∧ r ≤ 1)) := by
  generalize hPST : (fun (r : Int) (σ : MS) => σ = (f, g, A, L) ∧ (0 ≤ r ∧ r ≤ 1)) = PST
  refine m_enter (by decide) rfl (Nat.le_of_ble_eq_true rfl) (fun p e s m args below meth c ls B hM hl => ?_)
  have hA : ∀ q, s.heap.size ≤ q → mF dA h0 ad (f, g, A, L) s.heap.size q := fun q h => Or.inr h
  have hl : lv_has ls 4 [(0, .ref h0), (1, .int (II a_p)), (2, .int (II a_x)), (3, .int (II a_y))] := hl
  refine lv_aload_n B.1 B.2.1 dX12_isBelow_0 rfl (lv_at hl 0 rfl) ?_
  refine m_geta (k := 89) B hM (by decide) rfl fl334 dX12_isBelow_1 ?_
  refine q_bip B dX12_isBelow_4 (by decide) ?_
  refine lv_iload_n B.1 B.2.1 dX12_isBelow_6 rfl (lv_at hl 1 rfl) ?_
  refine q_mul B dX12_isBelow_7 ?_
  refine lv_iload_n B.1 B.2.1 dX12_isBelow_8 rfl (lv_at hl 2 rfl) ?_
  refine q_add B dX12_isBelow_9 ?_
  refine m_zld (k := 89) (i := 67) (n := 2400) (z := (12 * a_p) + a_x) (v := (A 89) ((12 * a_p) + a_x).toNat) B hM rfl rfl rfl (by decide) dX12_isBelow_10 (by omega) (by omega) rfl ?_
  have r1 : (0 : Int) ≤ (A 89) ((12 * a_p) + a_x).toNat ∧ (A 89) ((12 * a_p) + a_x).toNat ≤ 1 := hM.2.2.2.2 89 ((12 * a_p) + a_x).toNat
  refine q_ieq (tgt := 53) B dX12_isBelow_11 (by decide) (by unfold inr; omega) (fun c2 => ?_) (fun c2 => ?_)
  · refine q_con B dX12_isBelow_53 ?_
    refine lv_goto (tgt := 58) B.1 B.2.1 dX12_isBelow_54 (by decide) ?_
    subst hPST
    have hv3 : (0 ≤ (1 : Int)) ∧ ((1 : Int) ≤ 1) := by first | omega | (simp only [wr_at] <;> omega) | exact ⟨by first | omega | (simp only [wr_at] <;> omega) | assumption | (intro _; exact wr_at _ _ _), by first | omega | (simp only [wr_at] <;> omega) | assumption | (intro _; exact wr_at _ _ _)⟩
    exact m_zret B hM dX12_isBelow_58 (by omega) ⟨rfl, hv3.1, hv3.2⟩
  · refine lv_aload_n B.1 B.2.1 dX12_isBelow_14 rfl (lv_at hl 0 rfl) ?_
    refine m_geta (k := 89) B hM (by decide) rfl fl334 dX12_isBelow_15 ?_
    refine q_bip B dX12_isBelow_18 (by decide) ?_
    refine lv_iload_n B.1 B.2.1 dX12_isBelow_20 rfl (lv_at hl 1 rfl) ?_
    refine q_mul B dX12_isBelow_21 ?_
    refine lv_iload_n B.1 B.2.1 dX12_isBelow_22 rfl (lv_at hl 3 rfl) ?_
    refine q_add B dX12_isBelow_23 ?_
    refine m_zld (k := 89) (i := 67) (n := 2400) (z := (12 * a_p) + a_y) (v := (A 89) ((12 * a_p) + a_y).toNat) B hM rfl rfl rfl (by decide) dX12_isBelow_24 (by omega) (by omega) rfl ?_
    have r4 : (0 : Int) ≤ (A 89) ((12 * a_p) + a_y).toNat ∧ (A 89) ((12 * a_p) + a_y).toNat ≤ 1 := hM.2.2.2.2 89 ((12 * a_p) + a_y).toNat
    refine q_ieq (tgt := 53) B dX12_isBelow_25 (by decide) (by unfold inr; omega) (fun c5 => ?_) (fun c5 => ?_)
    · refine q_con B dX12_isBelow_53 ?_
      refine lv_goto (tgt := 58) B.1 B.2.1 dX12_isBelow_54 (by decide) ?_
      subst hPST
      have hv6 : (0 ≤ (1 : Int)) ∧ ((1 : Int) ≤ 1) := by first | omega | (simp only [wr_at] <;> omega) | exact ⟨by first | omega | (simp only [wr_at] <;> omega) | assumption | (intro _; exact wr_at _ _ _), by first | omega | (simp only [wr_at] <;> omega) | assumption | (intro _; exact wr_at _ _ _)⟩
      exact m_zret B hM dX12_isBelow_58 (by omega) ⟨rfl, hv6.1, hv6.2⟩
    · refine lv_aload_n B.1 B.2.1 dX12_isBelow_28 rfl (lv_at hl 0 rfl) ?_
      refine m_geta (k := 84) B hM (by decide) rfl fl318 dX12_isBelow_29 ?_
      refine q_bip B dX12_isBelow_32 (by decide) ?_
      refine lv_iload_n B.1 B.2.1 dX12_isBelow_34 rfl (lv_at hl 1 rfl) ?_
      refine q_mul B dX12_isBelow_35 ?_
      refine lv_iload_n B.1 B.2.1 dX12_isBelow_36 rfl (lv_at hl 2 rfl) ?_
      refine q_add B dX12_isBelow_37 ?_
      refine m_ild (k := 84) (i := 62) (n := 2400) (z := (12 * a_p) + a_x) (v := (A 84) ((12 * a_p) + a_x).toNat) B hM rfl rfl rfl (by decide) dX12_isBelow_38 (by omega) (by omega) rfl ?_
      have r7 : (-2147483648 : Int) ≤ (A 84) ((12 * a_p) + a_x).toNat ∧ (A 84) ((12 * a_p) + a_x).toNat ≤ 2147483647 := hM.2.2.2.2 84 ((12 * a_p) + a_x).toNat
      refine lv_aload_n B.1 B.2.1 dX12_isBelow_39 rfl (lv_at hl 0 rfl) ?_
      refine m_geta (k := 84) B hM (by decide) rfl fl318 dX12_isBelow_40 ?_
      refine q_bip B dX12_isBelow_43 (by decide) ?_
      refine lv_iload_n B.1 B.2.1 dX12_isBelow_45 rfl (lv_at hl 1 rfl) ?_
      refine q_mul B dX12_isBelow_46 ?_
      refine lv_iload_n B.1 B.2.1 dX12_isBelow_47 rfl (lv_at hl 3 rfl) ?_
      refine q_add B dX12_isBelow_48 ?_
      refine m_ild (k := 84) (i := 62) (n := 2400) (z := (12 * a_p) + a_y) (v := (A 84) ((12 * a_p) + a_y).toNat) B hM rfl rfl rfl (by decide) dX12_isBelow_49 (by omega) (by omega) rfl ?_
      have r8 : (-2147483648 : Int) ≤ (A 84) ((12 * a_p) + a_y).toNat ∧ (A 84) ((12 * a_p) + a_y).toNat ≤ 2147483647 := hM.2.2.2.2 84 ((12 * a_p) + a_y).toNat
      refine q_cge (tgt := 57) B dX12_isBelow_50 (by decide) (by unfold inr; omega) (by unfold inr; omega) (fun c9 => ?_) (fun c9 => ?_)
      · refine q_con B dX12_isBelow_57 ?_
        subst hPST
        have hv10 : (0 ≤ (0 : Int)) ∧ ((0 : Int) ≤ 1) := by first | omega | (simp only [wr_at] <;> omega) | exact ⟨by first | omega | (simp only [wr_at] <;> omega) | assumption | (intro _; exact wr_at _ _ _), by first | omega | (simp only [wr_at] <;> omega) | assumption | (intro _; exact wr_at _ _ _)⟩
        exact m_zret B hM dX12_isBelow_58 (by omega) ⟨rfl, hv10.1, hv10.2⟩
      · refine q_con B dX12_isBelow_53 ?_
        refine lv_goto (tgt := 58) B.1 B.2.1 dX12_isBelow_54 (by decide) ?_
        subst hPST
        have hv11 : (0 ≤ (1 : Int)) ∧ ((1 : Int) ≤ 1) := by first | omega | (simp only [wr_at] <;> omega) | exact ⟨by first | omega | (simp only [wr_at] <;> omega) | assumption | (intro _; exact wr_at _ _ _), by first | omega | (simp only [wr_at] <;> omega) | assumption | (intro _; exact wr_at _ _ _)⟩
        exact m_zret B hM dX12_isBelow_58 (by omega) ⟨rfl, hv11.1, hv11.2⟩
