set_option maxHeartbeats 200000000 in
set_option maxRecDepth 20000 in
theorem k_askOne (l : Launch) (D : va_G) (dA : Nat → ClassId) (h0 : Nat) (ad : Nat → Nat) (f : Nat → Int) (g : Nat → Int64) (A : Nat → Nat → Int) (L : Nat → Nat → Int64) (a_p : Int) (a_m : Int) (a_o : Int) (i_p : (-2147483648 : Int) ≤ a_p ∧ a_p ≤ 2147483647) (i_m : (-2147483648 : Int) ≤ a_m ∧ a_m ≤ 2147483647) (i_o : (-2147483648 : Int) ≤ a_o ∧ a_o ≤ 2147483647) (p_0 : 0 ≤ (a_p)) (p_1 : (a_p) < 200) (p_2 : -1 ≤ (a_m)) (p_3 : (a_m) ≤ 11) (p_4 : 0 ≤ (a_o)) (p_5 : (a_o) < 8640) (p_6 : RWp 0 (f 3) (f 58) 1500 (A 26) (A 27) (A 28) (A 29) (A 30)) (p_7 : FIp (f 97) (A 91)) (p_8 : FHp (A 116) (A 110)) (p_9 : TXI (A 69) (A 70)) (p_10 : (f 101) ≤ (f 105)) (p_11 : 1 ≤ (f 124)) (p_12 : okA (f 58) (A 65) (A 72) (a_m) (a_o)) (p_13 : (f 105) ≤ 4999) : MCv l yX12_askOne cX12_askOne 5 ({ frames := 5, cells := 0, slots := 0, locals := 127 }) D dA h0 ad (f, g, A, L) [.int (II a_p), .int (II a_m), .int (II a_o)] (fun (σ : MS) => ∃ n127 : Int, ∃ n105 : Int, ∃ n104 : Int, ∃ n101 : Int, ∃ n128 : Int, ∃ n98 : Int, ∃ n97 : Int, ∃ b92 : Nat → Int, ∃ b96 : Nat → Int, ∃ b91 : Nat → Int, ∃ b94 : Nat → Int, ∃ b95 : Nat → Int, ∃ b93 : Nat → Int, ∃ b106 : Nat → Int, ∃ b107 : Nat → Int, ∃ b108 : Nat → Int, ∃ b109 : Nat → Int, ∃ b110 : Nat → Int, ∃ b111 : Nat → Int, ∃ b112 : Nat → Int, ∃ b115 : Nat → Int, ∃ b116 : Nat → Int, ∃ b114 : Nat → Int, ∃ b117 : Nat → Int, ∃ b113 : Nat → Int, σ = ((up f [(127, n127), (105, n105), (104, n104), (101, n101), (128, n128), (98, n98), (97, n97)]), g, (up A [(92, b92), (96, b96), (91, b91), (94, b94), (95, b95), (93, b93), (106, b106), (107, b107), (108, b108), (109, b109), (110, b110), (111, b111), (112, b112), (115, b115), (116, b116), (114, b114), (117, b117), (113, b113)]), L) ∧ (FIp (n97) b91 ∧ FHp b116 b110 ∧ (n101) ≤ (n105) ∧ (n105) = (f 105) + 1)) := by
  generalize hPST : (fun (σ : MS) => ∃ n127 : Int, ∃ n105 : Int, ∃ n104 : Int, ∃ n101 : Int, ∃ n128 : Int, ∃ n98 : Int, ∃ n97 : Int, ∃ b92 : Nat → Int, ∃ b96 : Nat → Int, ∃ b91 : Nat → Int, ∃ b94 : Nat → Int, ∃ b95 : Nat → Int, ∃ b93 : Nat → Int, ∃ b106 : Nat → Int, ∃ b107 : Nat → Int, ∃ b108 : Nat → Int, ∃ b109 : Nat → Int, ∃ b110 : Nat → Int, ∃ b111 : Nat → Int, ∃ b112 : Nat → Int, ∃ b115 : Nat → Int, ∃ b116 : Nat → Int, ∃ b114 : Nat → Int, ∃ b117 : Nat → Int, ∃ b113 : Nat → Int, σ = ((up f [(127, n127), (105, n105), (104, n104), (101, n101), (128, n128), (98, n98), (97, n97)]), g, (up A [(92, b92), (96, b96), (91, b91), (94, b94), (95, b95), (93, b93), (106, b106), (107, b107), (108, b108), (109, b109), (110, b110), (111, b111), (112, b112), (115, b115), (116, b116), (114, b114), (117, b117), (113, b113)]), L) ∧ (FIp (n97) b91 ∧ FHp b116 b110 ∧ (n101) ≤ (n105) ∧ (n105) = (f 105) + 1)) = PST
  refine m_enterv (by decide) rfl (Nat.le_of_ble_eq_true rfl) (fun p e s m args below meth c ls B hM hl => ?_)
  have hA : ∀ q, s.heap.size ≤ q → mF dA h0 ad (f, g, A, L) s.heap.size q := fun q h => Or.inr h
  have hM : MWd D dA h0 ad (mF dA h0 ad (f, g, A, L) s.heap.size) s.heap ((up f [(127, f 127), (105, f 105), (104, f 104), (101, f 101), (128, f 128), (98, f 98), (97, f 97)]), g, (up A [(92, (A 92)), (96, (A 96)), (91, (A 91)), (94, (A 94)), (95, (A 95)), (93, (A 93)), (106, (A 106)), (107, (A 107)), (108, (A 108)), (109, (A 109)), (110, (A 110)), (111, (A 111)), (112, (A 112)), (115, (A 115)), (116, (A 116)), (114, (A 114)), (117, (A 117)), (113, (A 113))]), L) s.heap [] := MW_pad hM (up_self f [127, 105, 104, 101, 128, 98, 97]) rfl (up_self A [92, 96, 91, 94, 95, 93, 106, 107, 108, 109, 110, 111, 112, 115, 116, 114, 117, 113]) rfl
  have hl : lv_has ls 5 [(0, .ref h0), (1, .int (II a_p)), (2, .int (II a_m)), (3, .int (II a_o))] := hl
  have r1 : (0 : Int) ≤ f 3 ∧ f 3 ≤ 1 := hM.2.2.2.1 3
  have r2 : (0 : Int) ≤ f 58 ∧ f 58 ≤ 16 := hM.2.2.2.1 58
  have r3 : (0 : Int) ≤ f 97 ∧ f 97 ≤ 16 := hM.2.2.2.1 97
  have r4 : (0 : Int) ≤ f 101 ∧ f 101 ≤ 5000 := hM.2.2.2.1 101
  have r5 : (0 : Int) ≤ f 105 ∧ f 105 ≤ 5000 := hM.2.2.2.1 105
  have r6 : (0 : Int) ≤ f 124 ∧ f 124 ≤ 201 := hM.2.2.2.1 124
  have hoa := p_12.2
  have hob : (a_m) < 0 → (A 65) ((a_o)).toNat = 7 ∨ (A 65) ((a_o)).toNat = 8 := fun q => (p_12.1 q).elim (fun z => Or.inl z.1) (fun z => Or.inr z.1)
  have JJ87 : ∀ (y87_127 : Int) (y87_104 : Int) (y87_98 : Int) (y87_97 : Int) (y87_92 : Nat → Int) (y87_96 : Nat → Int) (y87_91 : Nat → Int) (y87_94 : Nat → Int) (y87_95 : Nat → Int) (y87_93 : Nat → Int) (H : Heap) (locs : List Loc) (ls : Array Slot), (MWd D dA h0 ad (mF dA h0 ad (f, g, A, L) s.heap.size) s.heap ((up f [(127, y87_127), (105, (f 105) + 1), (104, y87_104), (101, (f 101)), (128, (f 128)), (98, y87_98), (97, y87_97)]), g, (up A [(92, y87_92), (96, y87_96), (91, y87_91), (94, y87_94), (95, y87_95), (93, y87_93), (106, (A 106)), (107, (A 107)), (108, (A 108)), (109, (A 109)), (110, (A 110)), (111, (A 111)), (112, (A 112)), (115, (A 115)), (116, (A 116)), (114, (A 114)), (117, (A 117)), (113, (A 113))]), L) H locs) → lv_has ls 5 [(0, .ref h0), (1, .int (II a_p)), (2, .int (II a_m)), (3, .int (II a_o))] → (FIp (y87_97) y87_91) → W p l e ({ frames := 5, cells := 0, slots := 0, locals := 127 }) s m args below meth c H locs 0 0 (MQ below (mQv D dA h0 ad (f, g, A, L) s.heap.size PST) args s 0 0 (mF dA h0 ad (f, g, A, L) s.heap.size)) (F0 m 87 ls []) := by
    intro y87_127 y87_104 y87_98 y87_97 y87_92 y87_96 y87_91 y87_94 y87_95 y87_93 H locs ls hM hl hJJ87_0
    have r7 : (0 : Int) ≤ y87_127 ∧ y87_127 ≤ 1 := hM.2.2.2.1 127
    have r8 : (0 : Int) ≤ (f 105) + 1 ∧ (f 105) + 1 ≤ 5000 := hM.2.2.2.1 105
    have r9 : (-2147483648 : Int) ≤ y87_104 ∧ y87_104 ≤ 2147483647 := hM.2.2.2.1 104
    have r10 : (0 : Int) ≤ (f 101) ∧ (f 101) ≤ 5000 := hM.2.2.2.1 101
    have r11 : (0 : Int) ≤ (f 128) ∧ (f 128) ≤ 1000 := hM.2.2.2.1 128
    have r12 : (0 : Int) ≤ y87_98 ∧ y87_98 ≤ 1 := hM.2.2.2.1 98
    have r13 : (0 : Int) ≤ y87_97 ∧ y87_97 ≤ 16 := hM.2.2.2.1 97
    refine lv_aload_n B.1 B.2.1 dX12_askOne_87 rfl (lv_at hl 0 rfl) ?_
    refine m_get (k := 101) (v := (f 101)) B hM (by decide) rfl fl534 dX12_askOne_88 rfl ?_
    refine q_sip B dX12_askOne_91 (by decide) ?_
    refine q_cge (tgt := 104) B dX12_askOne_94 (by decide) (by unfold inr; omega) (by unfold inr; omega) (fun c14 => ?_) (fun c14 => ?_)
    · refine lv_aload_n B.1 B.2.1 dX12_askOne_104 rfl (lv_at hl 0 rfl) ?_
      refine lv_dup B.1 B.2.1 dX12_askOne_105 rfl ?_
      refine m_get (k := 101) (v := (f 101)) B hM (by decide) rfl fl534 dX12_askOne_106 rfl ?_
      refine q_con B dX12_askOne_109 ?_
      refine q_add B dX12_askOne_110 ?_
      refine m_put (k := 101) B hM (by decide) rfl fl534 rfl dX12_askOne_111 rfl rfl (show (0 : Int) ≤ ((f 101)) + 1 from by first | omega | (simp only [wr_at] <;> omega)) (show ((f 101)) + 1 ≤ (5000 : Int) from by first | omega | (simp only [wr_at] <;> omega)) (u1_up f [(127, y87_127), (105, (f 105) + 1), (104, y87_104), (101, (f 101)), (128, (f 128)), (98, y87_98), (97, y87_97)] 101 (((f 101)) + 1)) (fun H locs hM => ?_)
      replace hM : MWd D dA h0 ad (mF dA h0 ad (f, g, A, L) s.heap.size) s.heap ((up f [(127, y87_127), (105, (f 105) + 1), (104, y87_104), (101, ((f 101)) + 1), (128, (f 128)), (98, y87_98), (97, y87_97)]), g, (up A [(92, y87_92), (96, y87_96), (91, y87_91), (94, y87_94), (95, y87_95), (93, y87_93), (106, (A 106)), (107, (A 107)), (108, (A 108)), (109, (A 109)), (110, (A 110)), (111, (A 111)), (112, (A 112)), (115, (A 115)), (116, (A 116)), (114, (A 114)), (117, (A 117)), (113, (A 113))]), L) H locs := hM
      subst hPST
      have hv15 : ((((f 101)) + 1) ≤ ((f 105) + 1)) ∧ (((f 105) + 1) = (f 105) + 1) := by first | omega | (simp only [wr_at] <;> omega) | exact ⟨by first | omega | (simp only [wr_at] <;> omega) | assumption | (intro _; exact wr_at _ _ _), by first | omega | (simp only [wr_at] <;> omega) | assumption | (intro _; exact wr_at _ _ _)⟩
      exact m_vret B hM dX12_askOne_114 ⟨y87_127, ((f 105) + 1), y87_104, (((f 101)) + 1), ((f 128)), y87_98, y87_97, y87_92, y87_96, y87_91, y87_94, y87_95, y87_93, ((A 106)), ((A 107)), ((A 108)), ((A 109)), ((A 110)), ((A 111)), ((A 112)), ((A 115)), ((A 116)), ((A 114)), ((A 117)), ((A 113)), rfl, (by exact hJJ87_0), (by exact p_8), hv15.1, hv15.2⟩
    · refine lv_aload_n B.1 B.2.1 dX12_askOne_97 rfl (lv_at hl 0 rfl) ?_
      refine lv_iload_n B.1 B.2.1 dX12_askOne_98 rfl (lv_at hl 1 rfl) ?_
      refine lv_iload_n B.1 B.2.1 dX12_askOne_99 rfl (lv_at hl 2 rfl) ?_
      refine lv_iload_n B.1 B.2.1 dX12_askOne_100 rfl (lv_at hl 3 rfl) ?_
      have hv16 : ((-2147483648 : Int) ≤ a_p ∧ (a_p : Int) ≤ 2147483647) ∧ ((-2147483648 : Int) ≤ a_m ∧ (a_m : Int) ≤ 2147483647) ∧ ((-2147483648 : Int) ≤ a_o ∧ (a_o : Int) ≤ 2147483647) ∧ (0 ≤ (a_p)) ∧ ((a_p) < 200) ∧ (-1 ≤ (a_m)) ∧ ((a_m) ≤ 11) ∧ (0 ≤ (a_o)) ∧ ((a_o) < 8640) ∧ (((f 101)) < 500) ∧ (1 ≤ (f 124)) := by first | omega | (simp only [wr_at] <;> omega) | exact ⟨by first | omega | (simp only [wr_at] <;> omega) | assumption | (intro _; exact wr_at _ _ _), by first | omega | (simp only [wr_at] <;> omega) | assumption | (intro _; exact wr_at _ _ _), by first | omega | (simp only [wr_at] <;> omega) | assumption | (intro _; exact wr_at _ _ _), by first | omega | (simp only [wr_at] <;> omega) | assumption | (intro _; exact wr_at _ _ _), by first | omega | (simp only [wr_at] <;> omega) | assumption | (intro _; exact wr_at _ _ _), by first | omega | (simp only [wr_at] <;> omega) | assumption | (intro _; exact wr_at _ _ _), by first | omega | (simp only [wr_at] <;> omega) | assumption | (intro _; exact wr_at _ _ _), by first | omega | (simp only [wr_at] <;> omega) | assumption | (intro _; exact wr_at _ _ _), by first | omega | (simp only [wr_at] <;> omega) | assumption | (intro _; exact wr_at _ _ _), by first | omega | (simp only [wr_at] <;> omega) | assumption | (intro _; exact wr_at _ _ _), by first | omega | (simp only [wr_at] <;> omega) | assumption | (intro _; exact wr_at _ _ _)⟩
      refine m_callv (n := 3) (rest := []) B hM hA hl.1 (k_note l D dA h0 ad (up f [(127, y87_127), (105, (f 105) + 1), (104, y87_104), (101, (f 101)), (128, (f 128)), (98, y87_98), (97, y87_97)]) g (up A [(92, y87_92), (96, y87_96), (91, y87_91), (94, y87_94), (95, y87_95), (93, y87_93), (106, (A 106)), (107, (A 107)), (108, (A 108)), (109, (A 109)), (110, (A 110)), (111, (A 111)), (112, (A 112)), (115, (A 115)), (116, (A 116)), (114, (A 114)), (117, (A 117)), (113, (A 113))]) L a_p a_m a_o hv16.1 hv16.2.1 hv16.2.2.1 hv16.2.2.2.1 hv16.2.2.2.2.1 hv16.2.2.2.2.2.1 hv16.2.2.2.2.2.2.1 hv16.2.2.2.2.2.2.2.1 hv16.2.2.2.2.2.2.2.2.1 (show TXI (A 69) (A 70) from by first | assumption | exact TXI_neg (by assumption) (by omega) | exact TXI_put (by assumption) (by omega)) (show okA (f 58) (A 65) (A 72) (a_m) (a_o) from by assumption) hv16.2.2.2.2.2.2.2.2.2.1 (show FHp (A 116) (A 110) from by exact p_8) hv16.2.2.2.2.2.2.2.2.2.2) rfl ok_note nm_note ⟨rfl, rfl⟩ ⟨Nat.le_of_ble_eq_true rfl, Nat.le_of_ble_eq_true rfl⟩ dX12_askOne_101 rfl rfl (Nat.le_of_ble_eq_true rfl) ⟨Nat.zero_le _, Nat.zero_le _⟩ (fun σr17 H locs hp18 hM => ?_)
      obtain ⟨x19, b20, b21, b22, b23, b24, b25, b26, b27, b28, b29, b30, b31, rfl, hp18⟩ := hp18
      replace hp18 : FHp b28 b24 := hp18
      replace hM := MW_uF hM rfl
      replace hM := MW_uA hM rfl
      replace hM : MWd D dA h0 ad (mF dA h0 ad (f, g, A, L) s.heap.size) s.heap ((up f [(127, y87_127), (105, (f 105) + 1), (104, y87_104), (101, (f 101)), (128, x19), (98, y87_98), (97, y87_97)]), g, (up A [(92, y87_92), (96, y87_96), (91, y87_91), (94, y87_94), (95, y87_95), (93, y87_93), (106, b20), (107, b21), (108, b22), (109, b23), (110, b24), (111, b25), (112, b26), (115, b27), (116, b28), (114, b29), (117, b30), (113, b31)]), L) H locs := hM
      have r32 : (0 : Int) ≤ x19 ∧ x19 ≤ 1000 := hM.2.2.2.1 128
      refine lv_aload_n B.1 B.2.1 dX12_askOne_104 rfl (lv_at hl 0 rfl) ?_
      refine lv_dup B.1 B.2.1 dX12_askOne_105 rfl ?_
      refine m_get (k := 101) (v := (f 101)) B hM (by decide) rfl fl534 dX12_askOne_106 rfl ?_
      refine q_con B dX12_askOne_109 ?_
      refine q_add B dX12_askOne_110 ?_
      refine m_put (k := 101) B hM (by decide) rfl fl534 rfl dX12_askOne_111 rfl rfl (show (0 : Int) ≤ ((f 101)) + 1 from by first | omega | (simp only [wr_at] <;> omega)) (show ((f 101)) + 1 ≤ (5000 : Int) from by first | omega | (simp only [wr_at] <;> omega)) (u1_up f [(127, y87_127), (105, (f 105) + 1), (104, y87_104), (101, (f 101)), (128, x19), (98, y87_98), (97, y87_97)] 101 (((f 101)) + 1)) (fun H locs hM => ?_)
      replace hM : MWd D dA h0 ad (mF dA h0 ad (f, g, A, L) s.heap.size) s.heap ((up f [(127, y87_127), (105, (f 105) + 1), (104, y87_104), (101, ((f 101)) + 1), (128, x19), (98, y87_98), (97, y87_97)]), g, (up A [(92, y87_92), (96, y87_96), (91, y87_91), (94, y87_94), (95, y87_95), (93, y87_93), (106, b20), (107, b21), (108, b22), (109, b23), (110, b24), (111, b25), (112, b26), (115, b27), (116, b28), (114, b29), (117, b30), (113, b31)]), L) H locs := hM
      subst hPST
      have hv33 : ((((f 101)) + 1) ≤ ((f 105) + 1)) ∧ (((f 105) + 1) = (f 105) + 1) := by first | omega | (simp only [wr_at] <;> omega) | exact ⟨by first | omega | (simp only [wr_at] <;> omega) | assumption | (intro _; exact wr_at _ _ _), by first | omega | (simp only [wr_at] <;> omega) | assumption | (intro _; exact wr_at _ _ _)⟩
      exact m_vret B hM dX12_askOne_114 ⟨y87_127, ((f 105) + 1), y87_104, (((f 101)) + 1), x19, y87_98, y87_97, y87_92, y87_96, y87_91, y87_94, y87_95, y87_93, b20, b21, b22, b23, b24, b25, b26, b27, b28, b29, b30, b31, rfl, (by exact hJJ87_0), (by exact hp18), hv33.1, hv33.2⟩
  have JJ57 : ∀ (y57_98 : Int) (y57_97 : Int) (y57_92 : Nat → Int) (y57_96 : Nat → Int) (y57_91 : Nat → Int) (y57_94 : Nat → Int) (y57_95 : Nat → Int) (H : Heap) (locs : List Loc) (ls : Array Slot), (MWd D dA h0 ad (mF dA h0 ad (f, g, A, L) s.heap.size) s.heap ((up f [(127, 0), (105, (f 105) + 1), (104, (f 104)), (101, (f 101)), (128, (f 128)), (98, y57_98), (97, y57_97)]), g, (up A [(92, y57_92), (96, y57_96), (91, y57_91), (94, y57_94), (95, y57_95), (93, (A 93)), (106, (A 106)), (107, (A 107)), (108, (A 108)), (109, (A 109)), (110, (A 110)), (111, (A 111)), (112, (A 112)), (115, (A 115)), (116, (A 116)), (114, (A 114)), (117, (A 117)), (113, (A 113))]), L) H locs) → lv_has ls 5 [(0, .ref h0), (1, .int (II a_p)), (2, .int (II a_m)), (3, .int (II a_o)), (4, .int (II ((A 65) ((a_o)).toNat)))] → (FIp (y57_97) y57_91) → ((100 ≤ (A 65) ((a_o)).toNat → y57_91 ((A 65) ((a_o)).toNat - 100).toNat = 1)) → W p l e ({ frames := 5, cells := 0, slots := 0, locals := 127 }) s m args below meth c H locs 0 0 (MQ below (mQv D dA h0 ad (f, g, A, L) s.heap.size PST) args s 0 0 (mF dA h0 ad (f, g, A, L) s.heap.size)) (F0 m 57 ls []) := by
    intro y57_98 y57_97 y57_92 y57_96 y57_91 y57_94 y57_95 H locs ls hM hl hJJ57_0 hJJ57_1
    have r34 : (0 : Int) ≤ (f 105) + 1 ∧ (f 105) + 1 ≤ 5000 := hM.2.2.2.1 105
    have r35 : (-2147483648 : Int) ≤ (f 104) ∧ (f 104) ≤ 2147483647 := hM.2.2.2.1 104
    have r36 : (0 : Int) ≤ (f 101) ∧ (f 101) ≤ 5000 := hM.2.2.2.1 101
    have r37 : (0 : Int) ≤ (f 128) ∧ (f 128) ≤ 1000 := hM.2.2.2.1 128
    have r38 : (0 : Int) ≤ y57_98 ∧ y57_98 ≤ 1 := hM.2.2.2.1 98
    have r39 : (0 : Int) ≤ y57_97 ∧ y57_97 ≤ 16 := hM.2.2.2.1 97
    refine lv_aload_n B.1 B.2.1 dX12_askOne_57 rfl (lv_at hl 0 rfl) ?_
    refine lv_iload_n B.1 B.2.1 dX12_askOne_58 rfl (lv_at hl 1 rfl) ?_
    refine lv_iload_n B.1 B.2.1 dX12_askOne_59 rfl (lv_at hl 2 rfl) ?_
    refine lv_iload_n B.1 B.2.1 dX12_askOne_60 rfl (lv_at hl 3 rfl) ?_
    have hv40 : ((-2147483648 : Int) ≤ a_p ∧ (a_p : Int) ≤ 2147483647) ∧ ((-2147483648 : Int) ≤ a_m ∧ (a_m : Int) ≤ 2147483647) ∧ ((-2147483648 : Int) ≤ a_o ∧ (a_o : Int) ≤ 2147483647) ∧ (0 ≤ (a_p)) ∧ ((a_p) < 200) ∧ (-1 ≤ (a_m)) ∧ ((a_m) ≤ 11) ∧ (0 ≤ (a_o)) ∧ ((a_o) < 8640) ∧ ((100 ≤ (A 65) ((a_o)).toNat → y57_91 ((A 65) ((a_o)).toNat - 100).toNat = 1)) := by first | omega | (simp only [wr_at] <;> omega) | exact ⟨by first | omega | (simp only [wr_at] <;> omega) | assumption | (intro _; exact wr_at _ _ _), by first | omega | (simp only [wr_at] <;> omega) | assumption | (intro _; exact wr_at _ _ _), by first | omega | (simp only [wr_at] <;> omega) | assumption | (intro _; exact wr_at _ _ _), by first | omega | (simp only [wr_at] <;> omega) | assumption | (intro _; exact wr_at _ _ _), by first | omega | (simp only [wr_at] <;> omega) | assumption | (intro _; exact wr_at _ _ _), by first | omega | (simp only [wr_at] <;> omega) | assumption | (intro _; exact wr_at _ _ _), by first | omega | (simp only [wr_at] <;> omega) | assumption | (intro _; exact wr_at _ _ _), by first | omega | (simp only [wr_at] <;> omega) | assumption | (intro _; exact wr_at _ _ _), by first | omega | (simp only [wr_at] <;> omega) | assumption | (intro _; exact wr_at _ _ _), by first | omega | (simp only [wr_at] <;> omega) | assumption | (intro _; exact wr_at _ _ _)⟩
    refine m_calli (n := 3) (rest := []) B hM hA hl.1 (k_holds l D dA h0 ad (up f [(127, 0), (105, (f 105) + 1), (104, (f 104)), (101, (f 101)), (128, (f 128)), (98, y57_98), (97, y57_97)]) g (up A [(92, y57_92), (96, y57_96), (91, y57_91), (94, y57_94), (95, y57_95), (93, (A 93)), (106, (A 106)), (107, (A 107)), (108, (A 108)), (109, (A 109)), (110, (A 110)), (111, (A 111)), (112, (A 112)), (115, (A 115)), (116, (A 116)), (114, (A 114)), (117, (A 117)), (113, (A 113))]) L a_p a_m a_o hv40.1 hv40.2.1 hv40.2.2.1 hv40.2.2.2.1 hv40.2.2.2.2.1 hv40.2.2.2.2.2.1 hv40.2.2.2.2.2.2.1 hv40.2.2.2.2.2.2.2.1 hv40.2.2.2.2.2.2.2.2.1 (show RWp 0 (f 3) (f 58) 1500 (A 26) (A 27) (A 28) (A 29) (A 30) from by first | assumption | exact RWp_same (by assumption) (by omega) (by omega) (by omega) (by omega) | exact RWp_push (by assumption) (by assumption) (by assumption) (by assumption) (by assumption) (by assumption) (by assumption) (by assumption) (by omega) (by omega) (by omega) (by omega) (by omega) | exact RWp_bad (by omega) | exact RWp_0 (by omega) | exact RWp_oth (by assumption) (by assumption) (by assumption) (by assumption) (by assumption) (by assumption) (by omega) (by omega) (by omega) (by omega) (by omega) (by omega)) (show FIp (y57_97) y57_91 from by exact hJJ57_0) (show okA (f 58) (A 65) (A 72) (a_m) (a_o) from by assumption) hv40.2.2.2.2.2.2.2.2.2) rfl ok_holds nm_holds ⟨rfl, rfl⟩ ⟨Nat.le_of_ble_eq_true rfl, Nat.le_of_ble_eq_true rfl⟩ dX12_askOne_61 rfl rfl (Nat.le_of_ble_eq_true rfl) ⟨Nat.zero_le _, Nat.zero_le _⟩ (fun r41 σr41 H locs ir41 hp42 hM => ?_)
    obtain ⟨x43, x44, x45, b46, b47, b48, b49, b50, rfl, hp42⟩ := hp42
    unfold inr at ir41
    replace hp42 : 0 ≤ r41 ∧ r41 ≤ 1 ∧ FIp (x45) b48 := hp42
    obtain ⟨hp42_0, hp42_1, hp42_2⟩ := hp42
    replace hM := MW_uF hM rfl
    replace hM := MW_uA hM rfl
    replace hM : MWd D dA h0 ad (mF dA h0 ad (f, g, A, L) s.heap.size) s.heap ((up f [(127, x43), (105, (f 105) + 1), (104, (f 104)), (101, (f 101)), (128, (f 128)), (98, x44), (97, x45)]), g, (up A [(92, y57_92), (96, b46), (91, b48), (94, b49), (95, b50), (93, b47), (106, (A 106)), (107, (A 107)), (108, (A 108)), (109, (A 109)), (110, (A 110)), (111, (A 111)), (112, (A 112)), (115, (A 115)), (116, (A 116)), (114, (A 114)), (117, (A 117)), (113, (A 113))]), L) H locs := hM
    have r51 : (0 : Int) ≤ x43 ∧ x43 ≤ 1 := hM.2.2.2.1 127
    have r52 : (0 : Int) ≤ x44 ∧ x44 ≤ 1 := hM.2.2.2.1 98
    have r53 : (0 : Int) ≤ x45 ∧ x45 ≤ 16 := hM.2.2.2.1 97
    refine q_ieq (tgt := 68) B dX12_askOne_64 (by decide) (by unfold inr; omega) (fun c54 => ?_) (fun c54 => ?_)
    · refine lv_aload_n B.1 B.2.1 dX12_askOne_68 rfl (lv_at hl 0 rfl) ?_
      refine m_geta (k := 66) B hM (by decide) rfl fl269 dX12_askOne_69 ?_
      refine lv_iload_n B.1 B.2.1 dX12_askOne_72 rfl (lv_at hl 3 rfl) ?_
      refine m_ild (k := 66) (i := 46) (n := 12960) (z := a_o) (v := (A 66) a_o.toNat) B hM rfl rfl rfl (by decide) dX12_askOne_73 (by omega) (by omega) rfl ?_
      have r55 : (-2147483648 : Int) ≤ (A 66) a_o.toNat ∧ (A 66) a_o.toNat ≤ 2147483647 := hM.2.2.2.2 66 a_o.toNat
      refine q_ine (tgt := 87) B dX12_askOne_74 (by decide) (by unfold inr; omega) (fun c56 => ?_) (fun c56 => ?_)
      · exact JJ87 x43 ((f 104)) x44 x45 y57_92 b46 b48 b49 b50 b47 _ _ ls hM (lv_sub hl [0, 1, 2, 3] rfl) (by exact hp42_2)
      · refine lv_aload_n B.1 B.2.1 dX12_askOne_77 rfl (lv_at hl 0 rfl) ?_
        refine lv_dup B.1 B.2.1 dX12_askOne_78 rfl ?_
        refine m_get (k := 104) (v := (f 104)) B hM (by decide) rfl fl617 dX12_askOne_79 rfl ?_
        refine q_con B dX12_askOne_82 ?_
        refine q_add B dX12_askOne_83 ?_
        refine q_wrap (fun x57 ix57 => ?_)
        refine m_put (k := 104) B hM (by decide) rfl fl617 rfl dX12_askOne_84 rfl rfl (show (-2147483648 : Int) ≤ x57 from by first | omega | (simp only [wr_at] <;> omega)) (show x57 ≤ (2147483647 : Int) from by first | omega | (simp only [wr_at] <;> omega)) (u1_up f [(127, x43), (105, (f 105) + 1), (104, (f 104)), (101, (f 101)), (128, (f 128)), (98, x44), (97, x45)] 104 x57) (fun H locs hM => ?_)
        replace hM : MWd D dA h0 ad (mF dA h0 ad (f, g, A, L) s.heap.size) s.heap ((up f [(127, x43), (105, (f 105) + 1), (104, x57), (101, (f 101)), (128, (f 128)), (98, x44), (97, x45)]), g, (up A [(92, y57_92), (96, b46), (91, b48), (94, b49), (95, b50), (93, b47), (106, (A 106)), (107, (A 107)), (108, (A 108)), (109, (A 109)), (110, (A 110)), (111, (A 111)), (112, (A 112)), (115, (A 115)), (116, (A 116)), (114, (A 114)), (117, (A 117)), (113, (A 113))]), L) H locs := hM
        exact JJ87 x43 x57 x44 x45 y57_92 b46 b48 b49 b50 b47 _ _ ls hM (lv_sub hl [0, 1, 2, 3] rfl) (by exact hp42_2)
    · subst hPST
      have hv58 : (((f 101)) ≤ ((f 105) + 1)) ∧ (((f 105) + 1) = (f 105) + 1) := by first | omega | (simp only [wr_at] <;> omega) | exact ⟨by first | omega | (simp only [wr_at] <;> omega) | assumption | (intro _; exact wr_at _ _ _), by first | omega | (simp only [wr_at] <;> omega) | assumption | (intro _; exact wr_at _ _ _)⟩
      exact m_vret B hM dX12_askOne_67 ⟨x43, ((f 105) + 1), ((f 104)), ((f 101)), ((f 128)), x44, x45, y57_92, b46, b48, b49, b50, b47, ((A 106)), ((A 107)), ((A 108)), ((A 109)), ((A 110)), ((A 111)), ((A 112)), ((A 115)), ((A 116)), ((A 114)), ((A 117)), ((A 113)), rfl, (by exact hp42_2), (by exact p_8), hv58.1, hv58.2⟩
  refine lv_aload_n B.1 B.2.1 dX12_askOne_0 rfl (lv_at hl 0 rfl) ?_
  refine m_geta (k := 65) B hM (by decide) rfl fl266 dX12_askOne_1 ?_
  refine lv_iload_n B.1 B.2.1 dX12_askOne_4 rfl (lv_at hl 3 rfl) ?_
  refine m_ild (k := 65) (i := 45) (n := 12960) (z := a_o) (v := (A 65) a_o.toNat) B hM rfl rfl rfl (by decide) dX12_askOne_5 (by omega) (by omega) rfl ?_
  have r59 : (0 : Int) ≤ (A 65) a_o.toNat ∧ (A 65) a_o.toNat ≤ 115 := hM.2.2.2.2 65 a_o.toNat
  refine lv_istore (lv' := [(4, .int (II ((A 65) a_o.toNat))), (0, .ref h0), (1, .int (II a_p)), (2, .int (II a_m)), (3, .int (II a_o))]) B.1 B.2.1 dX12_askOne_6 hl (by decide) rfl (fun ls hl => ?_)
  refine lv_aload_n B.1 B.2.1 dX12_askOne_8 rfl (lv_at hl 1 rfl) ?_
  refine q_con B dX12_askOne_9 ?_
  refine m_put (k := 127) B hM (by decide) rfl fl654 rfl dX12_askOne_10 rfl rfl (show (0 : Int) ≤ 0 from by first | omega | (simp only [wr_at] <;> omega)) (show 0 ≤ (1 : Int) from by first | omega | (simp only [wr_at] <;> omega)) (u1_up f [(127, f 127), (105, f 105), (104, f 104), (101, f 101), (128, f 128), (98, f 98), (97, f 97)] 127 0) (fun H locs hM => ?_)
  replace hM : MWd D dA h0 ad (mF dA h0 ad (f, g, A, L) s.heap.size) s.heap ((up f [(127, 0), (105, f 105), (104, f 104), (101, f 101), (128, f 128), (98, f 98), (97, f 97)]), g, (up A [(92, (A 92)), (96, (A 96)), (91, (A 91)), (94, (A 94)), (95, (A 95)), (93, (A 93)), (106, (A 106)), (107, (A 107)), (108, (A 108)), (109, (A 109)), (110, (A 110)), (111, (A 111)), (112, (A 112)), (115, (A 115)), (116, (A 116)), (114, (A 114)), (117, (A 117)), (113, (A 113))]), L) H locs := hM
  refine lv_aload_n B.1 B.2.1 dX12_askOne_13 rfl (lv_at hl 1 rfl) ?_
  refine lv_dup B.1 B.2.1 dX12_askOne_14 rfl ?_
  refine m_get (k := 105) (v := f 105) B hM (by decide) rfl fl620 dX12_askOne_15 rfl ?_
  refine q_con B dX12_askOne_18 ?_
  refine q_add B dX12_askOne_19 ?_
  refine m_put (k := 105) B hM (by decide) rfl fl620 rfl dX12_askOne_20 rfl rfl (show (0 : Int) ≤ (f 105) + 1 from by first | omega | (simp only [wr_at] <;> omega)) (show (f 105) + 1 ≤ (5000 : Int) from by first | omega | (simp only [wr_at] <;> omega)) (u1_up f [(127, 0), (105, f 105), (104, f 104), (101, f 101), (128, f 128), (98, f 98), (97, f 97)] 105 ((f 105) + 1)) (fun H locs hM => ?_)
  replace hM : MWd D dA h0 ad (mF dA h0 ad (f, g, A, L) s.heap.size) s.heap ((up f [(127, 0), (105, (f 105) + 1), (104, f 104), (101, f 101), (128, f 128), (98, f 98), (97, f 97)]), g, (up A [(92, (A 92)), (96, (A 96)), (91, (A 91)), (94, (A 94)), (95, (A 95)), (93, (A 93)), (106, (A 106)), (107, (A 107)), (108, (A 108)), (109, (A 109)), (110, (A 110)), (111, (A 111)), (112, (A 112)), (115, (A 115)), (116, (A 116)), (114, (A 114)), (117, (A 117)), (113, (A 113))]), L) H locs := hM
  refine lv_iload B.1 B.2.1 dX12_askOne_23 (lv_at hl 0 rfl) ?_
  refine q_bip B dX12_askOne_25 (by decide) ?_
  refine q_clt (tgt := 57) B dX12_askOne_27 (by decide) (by unfold inr; omega) (by unfold inr; omega) (fun c60 => ?_) (fun c60 => ?_)
  · exact JJ57 (f 98) (f 97) ((A 92)) ((A 96)) ((A 91)) ((A 94)) ((A 95)) _ _ ls hM (lv_sub hl [1, 2, 3, 4, 0] rfl) (by exact p_7) (by first | omega | (simp only [wr_at] <;> omega) | assumption | (intro _; exact wr_at _ _ _))
  · refine lv_aload_n B.1 B.2.1 dX12_askOne_30 rfl (lv_at hl 1 rfl) ?_
    refine lv_iload B.1 B.2.1 dX12_askOne_31 (lv_at hl 0 rfl) ?_
    refine q_bip B dX12_askOne_33 (by decide) ?_
    refine q_sub B dX12_askOne_35 ?_
    have hv61 : ((-2147483648 : Int) ≤ ((A 65) a_o.toNat) - 100 ∧ (((A 65) a_o.toNat) - 100 : Int) ≤ 2147483647) ∧ (0 ≤ (((A 65) a_o.toNat) - 100)) ∧ ((((A 65) a_o.toNat) - 100) < (f 58)) := by first | omega | (simp only [wr_at] <;> omega) | exact ⟨by first | omega | (simp only [wr_at] <;> omega) | assumption | (intro _; exact wr_at _ _ _), by first | omega | (simp only [wr_at] <;> omega) | assumption | (intro _; exact wr_at _ _ _), by first | omega | (simp only [wr_at] <;> omega) | assumption | (intro _; exact wr_at _ _ _)⟩
    refine m_calli (n := 1) (rest := []) B hM hA hl.1 (k_starts l D dA h0 ad (up f [(127, 0), (105, (f 105) + 1), (104, f 104), (101, f 101), (128, f 128), (98, f 98), (97, f 97)]) g (up A [(92, (A 92)), (96, (A 96)), (91, (A 91)), (94, (A 94)), (95, (A 95)), (93, (A 93)), (106, (A 106)), (107, (A 107)), (108, (A 108)), (109, (A 109)), (110, (A 110)), (111, (A 111)), (112, (A 112)), (115, (A 115)), (116, (A 116)), (114, (A 114)), (117, (A 117)), (113, (A 113))]) L (((A 65) a_o.toNat) - 100) hv61.1 hv61.2.1 hv61.2.2 (show RWp 0 (f 3) (f 58) 1500 (A 26) (A 27) (A 28) (A 29) (A 30) from by first | assumption | exact RWp_same (by assumption) (by omega) (by omega) (by omega) (by omega) | exact RWp_push (by assumption) (by assumption) (by assumption) (by assumption) (by assumption) (by assumption) (by assumption) (by assumption) (by omega) (by omega) (by omega) (by omega) (by omega) | exact RWp_bad (by omega) | exact RWp_0 (by omega) | exact RWp_oth (by assumption) (by assumption) (by assumption) (by assumption) (by assumption) (by assumption) (by omega) (by omega) (by omega) (by omega) (by omega) (by omega)) (show FIp (f 97) (A 91) from by exact p_7)) rfl ok_starts nm_starts ⟨rfl, rfl⟩ ⟨Nat.le_of_ble_eq_true rfl, Nat.le_of_ble_eq_true rfl⟩ dX12_askOne_36 rfl rfl (Nat.le_of_ble_eq_true rfl) ⟨Nat.zero_le _, Nat.zero_le _⟩ (fun r62 σr62 H locs ir62 hp63 hM => ?_)
    obtain ⟨x64, x65, b66, b67, b68, b69, rfl, hp63⟩ := hp63
    unfold inr at ir62
    replace hp63 : 0 ≤ r62 ∧ r62 ≤ 1 ∧ (r62 = 1 → b67 ((((A 65) a_o.toNat) - 100)).toNat = 1) ∧ FIp (x65) b67 := hp63
    obtain ⟨hp63_0, hp63_1, hp63_2, hp63_3⟩ := hp63
    replace hM := MW_uF hM rfl
    replace hM := MW_uA hM rfl
    replace hM : MWd D dA h0 ad (mF dA h0 ad (f, g, A, L) s.heap.size) s.heap ((up f [(127, 0), (105, (f 105) + 1), (104, f 104), (101, f 101), (128, f 128), (98, x64), (97, x65)]), g, (up A [(92, (A 92)), (96, b66), (91, b67), (94, b68), (95, b69), (93, (A 93)), (106, (A 106)), (107, (A 107)), (108, (A 108)), (109, (A 109)), (110, (A 110)), (111, (A 111)), (112, (A 112)), (115, (A 115)), (116, (A 116)), (114, (A 114)), (117, (A 117)), (113, (A 113))]), L) H locs := hM
    have r70 : (0 : Int) ≤ x64 ∧ x64 ≤ 1 := hM.2.2.2.1 98
    have r71 : (0 : Int) ≤ x65 ∧ x65 ≤ 16 := hM.2.2.2.1 97
    refine q_ine (tgt := 43) B dX12_askOne_39 (by decide) (by unfold inr; omega) (fun c72 => ?_) (fun c72 => ?_)
    · refine lv_aload_n B.1 B.2.1 dX12_askOne_43 rfl (lv_at hl 1 rfl) ?_
      refine m_geta (k := 92) B hM (by decide) rfl fl340 dX12_askOne_44 ?_
      refine lv_iload B.1 B.2.1 dX12_askOne_47 (lv_at hl 0 rfl) ?_
      refine q_bip B dX12_askOne_49 (by decide) ?_
      refine q_sub B dX12_askOne_51 ?_
      refine lv_dup2_11 B.1 B.2.1 dX12_askOne_52 rfl rfl ?_
      refine m_ild (k := 92) (i := 69) (n := 16) (z := ((A 65) a_o.toNat) - 100) (v := (A 92) (((A 65) a_o.toNat) - 100).toNat) B hM rfl rfl rfl (by decide) dX12_askOne_53 (by omega) (by omega) rfl ?_
      have r73 : (-2147483648 : Int) ≤ (A 92) (((A 65) a_o.toNat) - 100).toNat ∧ (A 92) (((A 65) a_o.toNat) - 100).toNat ≤ 2147483647 := hM.2.2.2.2 92 (((A 65) a_o.toNat) - 100).toNat
      refine q_con B dX12_askOne_54 ?_
      refine q_add B dX12_askOne_55 ?_
      refine q_wrap (fun x74 ix74 => ?_)
      refine m_ist (k := 92) (i := 69) (n := 16) B hM rfl rfl rfl (by decide) dX12_askOne_56 (by omega) (by omega) (show (-2147483648 : Int) ≤ x74 from by first | omega | (simp only [wr_at] <;> omega)) (show x74 ≤ (2147483647 : Int) from by first | omega | (simp only [wr_at] <;> omega)) (u1_up A [(92, (A 92)), (96, b66), (91, b67), (94, b68), (95, b69), (93, (A 93)), (106, (A 106)), (107, (A 107)), (108, (A 108)), (109, (A 109)), (110, (A 110)), (111, (A 111)), (112, (A 112)), (115, (A 115)), (116, (A 116)), (114, (A 114)), (117, (A 117)), (113, (A 113))] 92 (wr (A 92) (((A 65) a_o.toNat) - 100) x74)) (fun H locs hM => ?_)
      replace hM : MWd D dA h0 ad (mF dA h0 ad (f, g, A, L) s.heap.size) s.heap ((up f [(127, 0), (105, (f 105) + 1), (104, f 104), (101, f 101), (128, f 128), (98, x64), (97, x65)]), g, (up A [(92, (wr (A 92) (((A 65) a_o.toNat) - 100) x74)), (96, b66), (91, b67), (94, b68), (95, b69), (93, (A 93)), (106, (A 106)), (107, (A 107)), (108, (A 108)), (109, (A 109)), (110, (A 110)), (111, (A 111)), (112, (A 112)), (115, (A 115)), (116, (A 116)), (114, (A 114)), (117, (A 117)), (113, (A 113))]), L) H locs := hM
      exact JJ57 x64 x65 ((wr (A 92) (((A 65) a_o.toNat) - 100) x74)) b66 b67 b68 b69 _ _ ls hM (lv_sub hl [1, 2, 3, 4, 0] rfl) (by exact hp63_3) (by first | omega | (simp only [wr_at] <;> omega) | assumption | (intro _; exact wr_at _ _ _))
    · subst hPST
      have hv75 : ((f 101) ≤ ((f 105) + 1)) ∧ (((f 105) + 1) = (f 105) + 1) := by first | omega | (simp only [wr_at] <;> omega) | exact ⟨by first | omega | (simp only [wr_at] <;> omega) | assumption | (intro _; exact wr_at _ _ _), by first | omega | (simp only [wr_at] <;> omega) | assumption | (intro _; exact wr_at _ _ _)⟩
      exact m_vret B hM dX12_askOne_42 ⟨0, ((f 105) + 1), (f 104), (f 101), (f 128), x64, x65, ((A 92)), b66, b67, b68, b69, ((A 93)), ((A 106)), ((A 107)), ((A 108)), ((A 109)), ((A 110)), ((A 111)), ((A 112)), ((A 115)), ((A 116)), ((A 114)), ((A 117)), ((A 113)), rfl, (by exact hp63_3), (by exact p_8), hv75.1, hv75.2⟩
set_option maxHeartbeats 200000000 in
set_option maxRecDepth 20000 in
theorem k_isOver (l : Launch) (D : va_G) (dA : Nat → ClassId) (h0 : Nat) (ad : Nat → Nat) (f : Nat → Int) (g : Nat → Int64) (A : Nat → Nat → Int) (L : Nat → Nat → Int64) : MCi l yX12_isOver cX12_isOver 1 (some .boolean) ({ frames := 0, cells := 0, slots := 0, locals := 0 }) D dA h0 ad (f, g, A, L) [] (fun (r : Int) (σ : MS) => σ = (f, g, A, L) ∧ (0 ≤ r ∧ r ≤ 1 ∧ (r = 1 ↔ 5000 ≤ (f 105)))) := by
  generalize hPST : (fun (r : Int) (σ : MS) => σ = (f, g, A, L) ∧ (0 ≤ r ∧ r ≤ 1 ∧ (r = 1 ↔ 5000 ≤ (f 105)))) = PST
  refine m_enter (by decide) rfl (Nat.le_of_ble_eq_true rfl) (fun p e s m args below meth c ls B hM hl => ?_)
  have hA : ∀ q, s.heap.size ≤ q → mF dA h0 ad (f, g, A, L) s.heap.size q := fun q h => Or.inr h
  have hl : lv_has ls 1 [(0, .ref h0)] := hl
  have r1 : (0 : Int) ≤ f 105 ∧ f 105 ≤ 5000 := hM.2.2.2.1 105
  refine lv_aload_n B.1 B.2.1 dX12_isOver_0 rfl (lv_at hl 0 rfl) ?_
  refine m_get (k := 105) (v := f 105) B hM (by decide) rfl fl620 dX12_isOver_1 rfl ?_
  refine q_sip B dX12_isOver_4 (by decide) ?_
  refine q_clt (tgt := 14) B dX12_isOver_7 (by decide) (by unfold inr; omega) (by unfold inr; omega) (fun c2 => ?_) (fun c2 => ?_)
  · refine q_con B dX12_isOver_14 ?_
    subst hPST
    exact m_zret B hM dX12_isOver_15 (by omega) ⟨rfl, by omega⟩
  · refine q_con B dX12_isOver_10 ?_
    refine lv_goto (tgt := 15) B.1 B.2.1 dX12_isOver_11 (by decide) ?_
    subst hPST
    exact m_zret B hM dX12_isOver_15 (by omega) ⟨rfl, by omega⟩
