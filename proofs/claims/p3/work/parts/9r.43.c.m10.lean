set_option maxHeartbeats 200000000 in
set_option maxRecDepth 20000 in
theorem k_note (l : Launch) (D : va_G) (dA : Nat → ClassId) (h0 : Nat) (ad : Nat → Nat) (f : Nat → Int) (g : Nat → Int64) (A : Nat → Nat → Int) (L : Nat → Nat → Int64) (a_p : Int) (a_m : Int) (a_o : Int) (i_p : (-2147483648 : Int) ≤ a_p ∧ a_p ≤ 2147483647) (i_m : (-2147483648 : Int) ≤ a_m ∧ a_m ≤ 2147483647) (i_o : (-2147483648 : Int) ≤ a_o ∧ a_o ≤ 2147483647) (p_0 : 0 ≤ (a_p)) (p_1 : (a_p) < 200) (p_2 : -1 ≤ (a_m)) (p_3 : (a_m) ≤ 11) (p_4 : 0 ≤ (a_o)) (p_5 : (a_o) < 8640) (p_6 : TXI (A 69) (A 70)) (p_7 : okA (f 58) (A 65) (A 72) (a_m) (a_o)) (p_8 : (f 101) < 500) (p_9 : FHp (A 116) (A 110)) (p_10 : 1 ≤ (f 124)) : MCv l yX12_note cX12_note 7 ({ frames := 3, cells := 0, slots := 0, locals := 79 }) D dA h0 ad (f, g, A, L) [.int (II a_p), .int (II a_m), .int (II a_o)] (fun (σ : MS) => ∃ n128 : Int, ∃ b106 : Nat → Int, ∃ b107 : Nat → Int, ∃ b108 : Nat → Int, ∃ b109 : Nat → Int, ∃ b110 : Nat → Int, ∃ b111 : Nat → Int, ∃ b112 : Nat → Int, ∃ b115 : Nat → Int, ∃ b116 : Nat → Int, ∃ b114 : Nat → Int, ∃ b117 : Nat → Int, ∃ b113 : Nat → Int, σ = ((up f [(128, n128)]), g, (up A [(106, b106), (107, b107), (108, b108), (109, b109), (110, b110), (111, b111), (112, b112), (115, b115), (116, b116), (114, b114), (117, b117), (113, b113)]), L) ∧ (FHp b116 b110)) := by
  generalize hPST : (fun (σ : MS) => ∃ n128 : Int, ∃ b106 : Nat → Int, ∃ b107 : Nat → Int, ∃ b108 : Nat → Int, ∃ b109 : Nat → Int, ∃ b110 : Nat → Int, ∃ b111 : Nat → Int, ∃ b112 : Nat → Int, ∃ b115 : Nat → Int, ∃ b116 : Nat → Int, ∃ b114 : Nat → Int, ∃ b117 : Nat → Int, ∃ b113 : Nat → Int, σ = ((up f [(128, n128)]), g, (up A [(106, b106), (107, b107), (108, b108), (109, b109), (110, b110), (111, b111), (112, b112), (115, b115), (116, b116), (114, b114), (117, b117), (113, b113)]), L) ∧ (FHp b116 b110)) = PST
  refine m_enterv (by decide) rfl (Nat.le_of_ble_eq_true rfl) (fun p e s m args below meth c ls B hM hl => ?_)
  have hA : ∀ q, s.heap.size ≤ q → mF dA h0 ad (f, g, A, L) s.heap.size q := fun q h => Or.inr h
  have hM : MWd D dA h0 ad (mF dA h0 ad (f, g, A, L) s.heap.size) s.heap ((up f [(128, f 128)]), g, (up A [(106, (A 106)), (107, (A 107)), (108, (A 108)), (109, (A 109)), (110, (A 110)), (111, (A 111)), (112, (A 112)), (115, (A 115)), (116, (A 116)), (114, (A 114)), (117, (A 117)), (113, (A 113))]), L) s.heap [] := MW_pad hM (up_self f [128]) rfl (up_self A [106, 107, 108, 109, 110, 111, 112, 115, 116, 114, 117, 113]) rfl
  have hl : lv_has ls 7 [(0, .ref h0), (1, .int (II a_p)), (2, .int (II a_m)), (3, .int (II a_o))] := hl
  have r1 : (0 : Int) ≤ f 58 ∧ f 58 ≤ 16 := hM.2.2.2.1 58
  have r2 : (0 : Int) ≤ f 101 ∧ f 101 ≤ 5000 := hM.2.2.2.1 101
  have r3 : (0 : Int) ≤ f 124 ∧ f 124 ≤ 201 := hM.2.2.2.1 124
  have hoa := p_7.2
  have hob : (a_m) < 0 → (A 65) ((a_o)).toNat = 7 ∨ (A 65) ((a_o)).toNat = 8 := fun q => (p_7.1 q).elim (fun z => Or.inl z.1) (fun z => Or.inr z.1)
  have JJ166 : ∀ (s166_0 : Int) (y166_106 : Nat → Int) (y166_107 : Nat → Int) (y166_108 : Nat → Int) (y166_109 : Nat → Int) (y166_111 : Nat → Int) (y166_112 : Nat → Int) (y166_115 : Nat → Int) (H : Heap) (locs : List Loc) (ls : Array Slot), (MWd D dA h0 ad (mF dA h0 ad (f, g, A, L) s.heap.size) s.heap ((up f [(128, f 128)]), g, (up A [(106, y166_106), (107, y166_107), (108, y166_108), (109, y166_109), (110, (wr (A 110) (f 101) (a_m))), (111, y166_111), (112, y166_112), (115, y166_115), (116, (A 116)), (114, (A 114)), (117, (A 117)), (113, (A 113))]), L) H locs) → lv_has ls 7 [(0, .ref h0), (1, .int (II a_p)), (2, .int (II a_m)), (3, .int (II a_o)), (4, .int (II ((f 101)))), (5, .int (II ((A 65) ((a_o)).toNat)))] → ((-2147483648 : Int) ≤ s166_0 ∧ s166_0 ≤ 2147483647) → (0 ≤ (s166_0)) → ((s166_0) ≤ 1) → (((s166_0) = 1 → 0 ≤ (a_m))) → W p l e ({ frames := 3, cells := 0, slots := 0, locals := 79 }) s m args below meth c H locs 0 0 (MQ below (mQv D dA h0 ad (f, g, A, L) s.heap.size PST) args s 0 0 (mF dA h0 ad (f, g, A, L) s.heap.size)) (F0 m 166 ls [.int (II s166_0), .int (II ((f 101))), .ref (ad 116)]) := by
    intro s166_0 y166_106 y166_107 y166_108 y166_109 y166_111 y166_112 y166_115 H locs ls hM hl hJJ166_0 hJJ166_1 hJJ166_2 hJJ166_3
    have r4 : (0 : Int) ≤ f 128 ∧ f 128 ≤ 1000 := hM.2.2.2.1 128
    refine m_zst (k := 116) (i := 84) (n := 500) B hM rfl rfl rfl (by decide) dX12_note_166 (by omega) (by omega) (by omega) (show (0 : Int) ≤ s166_0 from by first | omega | (simp only [wr_at] <;> omega)) (show s166_0 ≤ (1 : Int) from by first | omega | (simp only [wr_at] <;> omega)) (u1_up A [(106, y166_106), (107, y166_107), (108, y166_108), (109, y166_109), (110, (wr (A 110) (f 101) (a_m))), (111, y166_111), (112, y166_112), (115, y166_115), (116, (A 116)), (114, (A 114)), (117, (A 117)), (113, (A 113))] 116 (wr (A 116) ((f 101)) s166_0)) (fun H locs hM => ?_)
    replace hM : MWd D dA h0 ad (mF dA h0 ad (f, g, A, L) s.heap.size) s.heap ((up f [(128, f 128)]), g, (up A [(106, y166_106), (107, y166_107), (108, y166_108), (109, y166_109), (110, (wr (A 110) (f 101) (a_m))), (111, y166_111), (112, y166_112), (115, y166_115), (116, (wr (A 116) ((f 101)) s166_0)), (114, (A 114)), (117, (A 117)), (113, (A 113))]), L) H locs := hM
    refine lv_aload_n B.1 B.2.1 dX12_note_167 rfl (lv_at hl 0 rfl) ?_
    refine m_geta (k := 114) B hM (by decide) rfl fl379 dX12_note_168 ?_
    refine lv_iload B.1 B.2.1 dX12_note_171 (lv_at hl 4 rfl) ?_
    refine lv_aload_n B.1 B.2.1 dX12_note_173 rfl (lv_at hl 0 rfl) ?_
    refine m_geta (k := 116) B hM (by decide) rfl fl385 dX12_note_174 ?_
    refine lv_iload B.1 B.2.1 dX12_note_177 (lv_at hl 4 rfl) ?_
    refine m_zld (k := 116) (i := 84) (n := 500) (z := (f 101)) (v := s166_0) B hM rfl rfl rfl (by decide) dX12_note_179 (by omega) (by omega) (by exact wr_at _ _ _) ?_
    refine q_ieq (tgt := 202) B dX12_note_180 (by decide) (by unfold inr; omega) (fun c5 => ?_) (fun c5 => ?_)
    · refine q_con B dX12_note_202 ?_
      refine m_ist (k := 114) (i := 82) (n := 500) B hM rfl rfl rfl (by decide) dX12_note_203 (by omega) (by omega) (show (-2147483648 : Int) ≤ 0 from by first | omega | (simp only [wr_at] <;> omega)) (show 0 ≤ (2147483647 : Int) from by first | omega | (simp only [wr_at] <;> omega)) (u1_up A [(106, y166_106), (107, y166_107), (108, y166_108), (109, y166_109), (110, (wr (A 110) (f 101) (a_m))), (111, y166_111), (112, y166_112), (115, y166_115), (116, (wr (A 116) ((f 101)) s166_0)), (114, (A 114)), (117, (A 117)), (113, (A 113))] 114 (wr (A 114) ((f 101)) 0)) (fun H locs hM => ?_)
      replace hM : MWd D dA h0 ad (mF dA h0 ad (f, g, A, L) s.heap.size) s.heap ((up f [(128, f 128)]), g, (up A [(106, y166_106), (107, y166_107), (108, y166_108), (109, y166_109), (110, (wr (A 110) (f 101) (a_m))), (111, y166_111), (112, y166_112), (115, y166_115), (116, (wr (A 116) ((f 101)) s166_0)), (114, (wr (A 114) ((f 101)) 0)), (117, (A 117)), (113, (A 113))]), L) H locs := hM
      refine lv_aload_n B.1 B.2.1 dX12_note_204 rfl (lv_at hl 0 rfl) ?_
      refine lv_iload B.1 B.2.1 dX12_note_205 (lv_at hl 4 rfl) ?_
      refine lv_iload_n B.1 B.2.1 dX12_note_207 rfl (lv_at hl 1 rfl) ?_
      refine lv_iload_n B.1 B.2.1 dX12_note_208 rfl (lv_at hl 2 rfl) ?_
      refine lv_iload_n B.1 B.2.1 dX12_note_209 rfl (lv_at hl 3 rfl) ?_
      have hv6 : ((-2147483648 : Int) ≤ (f 101) ∧ ((f 101) : Int) ≤ 2147483647) ∧ ((-2147483648 : Int) ≤ a_p ∧ (a_p : Int) ≤ 2147483647) ∧ ((-2147483648 : Int) ≤ a_m ∧ (a_m : Int) ≤ 2147483647) ∧ ((-2147483648 : Int) ≤ a_o ∧ (a_o : Int) ≤ 2147483647) ∧ (0 ≤ ((f 101))) ∧ (((f 101)) < 500) ∧ (0 ≤ (a_p)) ∧ ((a_p) < 200) ∧ (-1 ≤ (a_m)) ∧ ((a_m) ≤ 11) ∧ (0 ≤ (a_o)) ∧ ((a_o) < 8640) := by first | omega | (simp only [wr_at] <;> omega) | exact ⟨by first | omega | (simp only [wr_at] <;> omega) | assumption | (intro _; exact wr_at _ _ _), by first | omega | (simp only [wr_at] <;> omega) | assumption | (intro _; exact wr_at _ _ _), by first | omega | (simp only [wr_at] <;> omega) | assumption | (intro _; exact wr_at _ _ _), by first | omega | (simp only [wr_at] <;> omega) | assumption | (intro _; exact wr_at _ _ _), by first | omega | (simp only [wr_at] <;> omega) | assumption | (intro _; exact wr_at _ _ _), by first | omega | (simp only [wr_at] <;> omega) | assumption | (intro _; exact wr_at _ _ _), by first | omega | (simp only [wr_at] <;> omega) | assumption | (intro _; exact wr_at _ _ _), by first | omega | (simp only [wr_at] <;> omega) | assumption | (intro _; exact wr_at _ _ _), by first | omega | (simp only [wr_at] <;> omega) | assumption | (intro _; exact wr_at _ _ _), by first | omega | (simp only [wr_at] <;> omega) | assumption | (intro _; exact wr_at _ _ _), by first | omega | (simp only [wr_at] <;> omega) | assumption | (intro _; exact wr_at _ _ _), by first | omega | (simp only [wr_at] <;> omega) | assumption | (intro _; exact wr_at _ _ _)⟩
      refine m_callv (n := 4) (rest := []) B hM hA hl.1 (k_say l D dA h0 ad (up f [(128, f 128)]) g (up A [(106, y166_106), (107, y166_107), (108, y166_108), (109, y166_109), (110, (wr (A 110) (f 101) (a_m))), (111, y166_111), (112, y166_112), (115, y166_115), (116, (wr (A 116) ((f 101)) s166_0)), (114, (wr (A 114) ((f 101)) 0)), (117, (A 117)), (113, (A 113))]) L ((f 101)) a_p a_m a_o hv6.1 hv6.2.1 hv6.2.2.1 hv6.2.2.2.1 hv6.2.2.2.2.1 hv6.2.2.2.2.2.1 hv6.2.2.2.2.2.2.1 hv6.2.2.2.2.2.2.2.1 hv6.2.2.2.2.2.2.2.2.1 hv6.2.2.2.2.2.2.2.2.2.1 hv6.2.2.2.2.2.2.2.2.2.2.1 hv6.2.2.2.2.2.2.2.2.2.2.2 (show TXI (A 69) (A 70) from by first | assumption | exact TXI_neg (by assumption) (by omega) | exact TXI_put (by assumption) (by omega))) rfl ok_say nm_say ⟨rfl, rfl⟩ ⟨Nat.le_of_ble_eq_true rfl, Nat.le_of_ble_eq_true rfl⟩ dX12_note_210 rfl rfl (Nat.le_of_ble_eq_true rfl) ⟨Nat.zero_le _, Nat.zero_le _⟩ (fun σr7 H locs hp8 hM => ?_)
      obtain ⟨x9, b10, b11, rfl, hp8⟩ := hp8
      replace hp8 : True := hp8
      replace hM := MW_uF hM rfl
      replace hM := MW_uA hM rfl
      replace hM : MWd D dA h0 ad (mF dA h0 ad (f, g, A, L) s.heap.size) s.heap ((up f [(128, x9)]), g, (up A [(106, y166_106), (107, y166_107), (108, y166_108), (109, y166_109), (110, (wr (A 110) (f 101) (a_m))), (111, y166_111), (112, y166_112), (115, y166_115), (116, (wr (A 116) ((f 101)) s166_0)), (114, (wr (A 114) ((f 101)) 0)), (117, b10), (113, b11)]), L) H locs := hM
      have r12 : (0 : Int) ≤ x9 ∧ x9 ≤ 1000 := hM.2.2.2.1 128
      subst hPST
      exact m_vret B hM dX12_note_213 ⟨x9, y166_106, y166_107, y166_108, y166_109, ((wr (A 110) (f 101) (a_m))), y166_111, y166_112, y166_115, ((wr (A 116) ((f 101)) s166_0)), ((wr (A 114) ((f 101)) 0)), b10, b11, rfl, (by exact FHp_put p_9 (by omega))⟩
    · refine lv_aload_n B.1 B.2.1 dX12_note_183 rfl (lv_at hl 0 rfl) ?_
      refine lv_aload_n B.1 B.2.1 dX12_note_184 rfl (lv_at hl 0 rfl) ?_
      refine m_geta (k := 84) B hM (by decide) rfl fl318 dX12_note_185 ?_
      refine q_bip B dX12_note_188 (by decide) ?_
      refine lv_iload_n B.1 B.2.1 dX12_note_190 rfl (lv_at hl 1 rfl) ?_
      refine q_mul B dX12_note_191 ?_
      refine lv_iload_n B.1 B.2.1 dX12_note_192 rfl (lv_at hl 2 rfl) ?_
      refine q_add B dX12_note_193 ?_
      refine m_ild (k := 84) (i := 62) (n := 2400) (z := (12 * a_p) + a_m) (v := (A 84) ((12 * a_p) + a_m).toNat) B hM rfl rfl rfl (by decide) dX12_note_194 (by omega) (by omega) rfl ?_
      have r13 : (-2147483648 : Int) ≤ (A 84) ((12 * a_p) + a_m).toNat ∧ (A 84) ((12 * a_p) + a_m).toNat ≤ 2147483647 := hM.2.2.2.2 84 ((12 * a_p) + a_m).toNat
      refine lv_iload_n B.1 B.2.1 dX12_note_195 rfl (lv_at hl 3 rfl) ?_
      have hv14 : ((-2147483648 : Int) ≤ (A 84) ((12 * a_p) + a_m).toNat ∧ ((A 84) ((12 * a_p) + a_m).toNat : Int) ≤ 2147483647) ∧ ((-2147483648 : Int) ≤ a_o ∧ (a_o : Int) ≤ 2147483647) ∧ (0 ≤ (a_o)) ∧ ((a_o) < 8640) := by first | omega | (simp only [wr_at] <;> omega) | exact ⟨by first | omega | (simp only [wr_at] <;> omega) | assumption | (intro _; exact wr_at _ _ _), by first | omega | (simp only [wr_at] <;> omega) | assumption | (intro _; exact wr_at _ _ _), by first | omega | (simp only [wr_at] <;> omega) | assumption | (intro _; exact wr_at _ _ _), by first | omega | (simp only [wr_at] <;> omega) | assumption | (intro _; exact wr_at _ _ _)⟩
      refine m_calli (n := 2) (rest := [.int (II ((f 101))), .ref (ad 114)]) B hM hA hl.1 (k_proposal l D dA h0 ad (up f [(128, f 128)]) g (up A [(106, y166_106), (107, y166_107), (108, y166_108), (109, y166_109), (110, (wr (A 110) (f 101) (a_m))), (111, y166_111), (112, y166_112), (115, y166_115), (116, (wr (A 116) ((f 101)) s166_0)), (114, (A 114)), (117, (A 117)), (113, (A 113))]) L ((A 84) ((12 * a_p) + a_m).toNat) a_o hv14.1 hv14.2.1 hv14.2.2.1 hv14.2.2.2) rfl ok_proposal nm_proposal ⟨rfl, rfl⟩ ⟨Nat.le_of_ble_eq_true rfl, Nat.le_of_ble_eq_true rfl⟩ dX12_note_196 rfl rfl (Nat.le_of_ble_eq_true rfl) ⟨Nat.zero_le _, Nat.zero_le _⟩ (fun r15 σr15 H locs ir15 hp16 hM => ?_)
      obtain ⟨rfl, hp16⟩ := hp16
      unfold inr at ir15
      replace hp16 : True := hp16
      refine lv_goto (tgt := 203) B.1 B.2.1 dX12_note_199 (by decide) ?_
      refine m_ist (k := 114) (i := 82) (n := 500) B hM rfl rfl rfl (by decide) dX12_note_203 (by omega) (by omega) (show (-2147483648 : Int) ≤ r15 from by first | omega | (simp only [wr_at] <;> omega)) (show r15 ≤ (2147483647 : Int) from by first | omega | (simp only [wr_at] <;> omega)) (u1_up A [(106, y166_106), (107, y166_107), (108, y166_108), (109, y166_109), (110, (wr (A 110) (f 101) (a_m))), (111, y166_111), (112, y166_112), (115, y166_115), (116, (wr (A 116) ((f 101)) s166_0)), (114, (A 114)), (117, (A 117)), (113, (A 113))] 114 (wr (A 114) ((f 101)) r15)) (fun H locs hM => ?_)
      replace hM : MWd D dA h0 ad (mF dA h0 ad (f, g, A, L) s.heap.size) s.heap ((up f [(128, f 128)]), g, (up A [(106, y166_106), (107, y166_107), (108, y166_108), (109, y166_109), (110, (wr (A 110) (f 101) (a_m))), (111, y166_111), (112, y166_112), (115, y166_115), (116, (wr (A 116) ((f 101)) s166_0)), (114, (wr (A 114) ((f 101)) r15)), (117, (A 117)), (113, (A 113))]), L) H locs := hM
      refine lv_aload_n B.1 B.2.1 dX12_note_204 rfl (lv_at hl 0 rfl) ?_
      refine lv_iload B.1 B.2.1 dX12_note_205 (lv_at hl 4 rfl) ?_
      refine lv_iload_n B.1 B.2.1 dX12_note_207 rfl (lv_at hl 1 rfl) ?_
      refine lv_iload_n B.1 B.2.1 dX12_note_208 rfl (lv_at hl 2 rfl) ?_
      refine lv_iload_n B.1 B.2.1 dX12_note_209 rfl (lv_at hl 3 rfl) ?_
      have hv17 : ((-2147483648 : Int) ≤ (f 101) ∧ ((f 101) : Int) ≤ 2147483647) ∧ ((-2147483648 : Int) ≤ a_p ∧ (a_p : Int) ≤ 2147483647) ∧ ((-2147483648 : Int) ≤ a_m ∧ (a_m : Int) ≤ 2147483647) ∧ ((-2147483648 : Int) ≤ a_o ∧ (a_o : Int) ≤ 2147483647) ∧ (0 ≤ ((f 101))) ∧ (((f 101)) < 500) ∧ (0 ≤ (a_p)) ∧ ((a_p) < 200) ∧ (-1 ≤ (a_m)) ∧ ((a_m) ≤ 11) ∧ (0 ≤ (a_o)) ∧ ((a_o) < 8640) := by first | omega | (simp only [wr_at] <;> omega) | exact ⟨by first | omega | (simp only [wr_at] <;> omega) | assumption | (intro _; exact wr_at _ _ _), by first | omega | (simp only [wr_at] <;> omega) | assumption | (intro _; exact wr_at _ _ _), by first | omega | (simp only [wr_at] <;> omega) | assumption | (intro _; exact wr_at _ _ _), by first | omega | (simp only [wr_at] <;> omega) | assumption | (intro _; exact wr_at _ _ _), by first | omega | (simp only [wr_at] <;> omega) | assumption | (intro _; exact wr_at _ _ _), by first | omega | (simp only [wr_at] <;> omega) | assumption | (intro _; exact wr_at _ _ _), by first | omega | (simp only [wr_at] <;> omega) | assumption | (intro _; exact wr_at _ _ _), by first | omega | (simp only [wr_at] <;> omega) | assumption | (intro _; exact wr_at _ _ _), by first | omega | (simp only [wr_at] <;> omega) | assumption | (intro _; exact wr_at _ _ _), by first | omega | (simp only [wr_at] <;> omega) | assumption | (intro _; exact wr_at _ _ _), by first | omega | (simp only [wr_at] <;> omega) | assumption | (intro _; exact wr_at _ _ _), by first | omega | (simp only [wr_at] <;> omega) | assumption | (intro _; exact wr_at _ _ _)⟩
      refine m_callv (n := 4) (rest := []) B hM hA hl.1 (k_say l D dA h0 ad (up f [(128, f 128)]) g (up A [(106, y166_106), (107, y166_107), (108, y166_108), (109, y166_109), (110, (wr (A 110) (f 101) (a_m))), (111, y166_111), (112, y166_112), (115, y166_115), (116, (wr (A 116) ((f 101)) s166_0)), (114, (wr (A 114) ((f 101)) r15)), (117, (A 117)), (113, (A 113))]) L ((f 101)) a_p a_m a_o hv17.1 hv17.2.1 hv17.2.2.1 hv17.2.2.2.1 hv17.2.2.2.2.1 hv17.2.2.2.2.2.1 hv17.2.2.2.2.2.2.1 hv17.2.2.2.2.2.2.2.1 hv17.2.2.2.2.2.2.2.2.1 hv17.2.2.2.2.2.2.2.2.2.1 hv17.2.2.2.2.2.2.2.2.2.2.1 hv17.2.2.2.2.2.2.2.2.2.2.2 (show TXI (A 69) (A 70) from by first | assumption | exact TXI_neg (by assumption) (by omega) | exact TXI_put (by assumption) (by omega))) rfl ok_say nm_say ⟨rfl, rfl⟩ ⟨Nat.le_of_ble_eq_true rfl, Nat.le_of_ble_eq_true rfl⟩ dX12_note_210 rfl rfl (Nat.le_of_ble_eq_true rfl) ⟨Nat.zero_le _, Nat.zero_le _⟩ (fun σr18 H locs hp19 hM => ?_)
      obtain ⟨x20, b21, b22, rfl, hp19⟩ := hp19
      replace hp19 : True := hp19
      replace hM := MW_uF hM rfl
      replace hM := MW_uA hM rfl
      replace hM : MWd D dA h0 ad (mF dA h0 ad (f, g, A, L) s.heap.size) s.heap ((up f [(128, x20)]), g, (up A [(106, y166_106), (107, y166_107), (108, y166_108), (109, y166_109), (110, (wr (A 110) (f 101) (a_m))), (111, y166_111), (112, y166_112), (115, y166_115), (116, (wr (A 116) ((f 101)) s166_0)), (114, (wr (A 114) ((f 101)) r15)), (117, b21), (113, b22)]), L) H locs := hM
      have r23 : (0 : Int) ≤ x20 ∧ x20 ≤ 1000 := hM.2.2.2.1 128
      subst hPST
      exact m_vret B hM dX12_note_213 ⟨x20, y166_106, y166_107, y166_108, y166_109, ((wr (A 110) (f 101) (a_m))), y166_111, y166_112, y166_115, ((wr (A 116) ((f 101)) s166_0)), ((wr (A 114) ((f 101)) r15)), b21, b22, rfl, (by exact FHp_put p_9 (by omega))⟩
  have LL92 : ∀ N : Nat, ∀ (v92_6 : Int) (y92_106 : Nat → Int) (y92_107 : Nat → Int) (y92_108 : Nat → Int) (y92_109 : Nat → Int) (y92_111 : Nat → Int) (y92_112 : Nat → Int) (y92_115 : Nat → Int) (H : Heap) (locs : List Loc) (ls : Array Slot), (MWd D dA h0 ad (mF dA h0 ad (f, g, A, L) s.heap.size) s.heap ((up f [(128, f 128)]), g, (up A [(106, y92_106), (107, y92_107), (108, y92_108), (109, y92_109), (110, (wr (A 110) (f 101) (a_m))), (111, y92_111), (112, y92_112), (115, y92_115), (116, (A 116)), (114, (A 114)), (117, (A 117)), (113, (A 113))]), L) H locs) → lv_has ls 7 [(0, .ref h0), (1, .int (II a_p)), (2, .int (II a_m)), (3, .int (II a_o)), (6, .int (II v92_6)), (4, .int (II ((f 101)))), (5, .int (II ((A 65) ((a_o)).toNat)))] → ((-2147483648 : Int) ≤ v92_6 ∧ v92_6 ≤ 2147483647) → (1 ≤ (v92_6)) → ((v92_6) ≤ 201) → (0 ≤ 201 - (v92_6)) → (201 - (v92_6) < (N : Int)) → W p l e ({ frames := 3, cells := 0, slots := 0, locals := 79 }) s m args below meth c H locs 0 0 (MQ below (mQv D dA h0 ad (f, g, A, L) s.heap.size PST) args s 0 0 (mF dA h0 ad (f, g, A, L) s.heap.size)) (F0 m 92 ls []) := by
    intro N
    induction N with
    | zero => intro v92_6 y92_106 y92_107 y92_108 y92_109 y92_111 y92_112 y92_115 H locs ls hM hl hLL92_0 hLL92_1 hLL92_2 hLL92_3 hN; exfalso; omega
    | succ N IH92 =>
      intro v92_6 y92_106 y92_107 y92_108 y92_109 y92_111 y92_112 y92_115 H locs ls hM hl hLL92_0 hLL92_1 hLL92_2 hLL92_3 hN
      have r24 : (0 : Int) ≤ f 128 ∧ f 128 ≤ 1000 := hM.2.2.2.1 128
      refine lv_iload B.1 B.2.1 dX12_note_92 (lv_at hl 4 rfl) ?_
      refine lv_aload_n B.1 B.2.1 dX12_note_94 rfl (lv_at hl 0 rfl) ?_
      refine m_get (k := 124) (v := f 124) B hM (by decide) rfl fl632 dX12_note_95 rfl ?_
      refine q_cge (tgt := 136) B dX12_note_98 (by decide) (by unfold inr; omega) (by unfold inr; omega) (fun c25 => ?_) (fun c25 => ?_)
      · refine lv_aload_n B.1 B.2.1 dX12_note_136 rfl (lv_at hl 0 rfl) ?_
        refine m_geta (k := 116) B hM (by decide) rfl fl385 dX12_note_137 ?_
        refine lv_iload B.1 B.2.1 dX12_note_140 (lv_at hl 5 rfl) ?_
        refine lv_iload B.1 B.2.1 dX12_note_142 (lv_at hl 6 rfl) ?_
        refine q_con B dX12_note_144 ?_
        refine q_ceq (tgt := 161) B dX12_note_145 (by decide) (by unfold inr; omega) (by unfold inr; omega) (fun c26 => ?_) (fun c26 => ?_)
        · refine q_con B dX12_note_161 ?_
          refine lv_goto (tgt := 166) B.1 B.2.1 dX12_note_162 (by decide) ?_
          have hv27 : ((-2147483648 : Int) ≤ 1 ∧ (1 : Int) ≤ 2147483647) ∧ (0 ≤ (1 : Int)) ∧ ((1 : Int) ≤ 1) ∧ (((1 : Int) = 1 → 0 ≤ (a_m))) := by first | omega | (simp only [wr_at] <;> omega) | exact ⟨by first | omega | (simp only [wr_at] <;> omega) | assumption | (intro _; exact wr_at _ _ _), by first | omega | (simp only [wr_at] <;> omega) | assumption | (intro _; exact wr_at _ _ _), by first | omega | (simp only [wr_at] <;> omega) | assumption | (intro _; exact wr_at _ _ _), by first | omega | (simp only [wr_at] <;> omega) | assumption | (intro _; exact wr_at _ _ _)⟩
          exact JJ166 1 y92_106 y92_107 y92_108 y92_109 y92_111 y92_112 y92_115 _ _ ls hM (lv_sub hl [0, 1, 2, 3, 5, 6] rfl) hv27.1 hv27.2.1 hv27.2.2.1 hv27.2.2.2
        · refine lv_iload B.1 B.2.1 dX12_note_148 (lv_at hl 6 rfl) ?_
          refine q_con B dX12_note_150 ?_
          refine q_ceq (tgt := 161) B dX12_note_151 (by decide) (by unfold inr; omega) (by unfold inr; omega) (fun c28 => ?_) (fun c28 => ?_)
          · refine q_con B dX12_note_161 ?_
            refine lv_goto (tgt := 166) B.1 B.2.1 dX12_note_162 (by decide) ?_
            have hv29 : ((-2147483648 : Int) ≤ 1 ∧ (1 : Int) ≤ 2147483647) ∧ (0 ≤ (1 : Int)) ∧ ((1 : Int) ≤ 1) ∧ (((1 : Int) = 1 → 0 ≤ (a_m))) := by first | omega | (simp only [wr_at] <;> omega) | exact ⟨by first | omega | (simp only [wr_at] <;> omega) | assumption | (intro _; exact wr_at _ _ _), by first | omega | (simp only [wr_at] <;> omega) | assumption | (intro _; exact wr_at _ _ _), by first | omega | (simp only [wr_at] <;> omega) | assumption | (intro _; exact wr_at _ _ _), by first | omega | (simp only [wr_at] <;> omega) | assumption | (intro _; exact wr_at _ _ _)⟩
            exact JJ166 1 y92_106 y92_107 y92_108 y92_109 y92_111 y92_112 y92_115 _ _ ls hM (lv_sub hl [0, 1, 2, 3, 5, 6] rfl) hv29.1 hv29.2.1 hv29.2.2.1 hv29.2.2.2
          · refine lv_iload B.1 B.2.1 dX12_note_154 (lv_at hl 6 rfl) ?_
            refine q_bip B dX12_note_156 (by decide) ?_
            refine q_cne (tgt := 165) B dX12_note_158 (by decide) (by unfold inr; omega) (by unfold inr; omega) (fun c30 => ?_) (fun c30 => ?_)
            · refine q_con B dX12_note_165 ?_
              have hv31 : ((-2147483648 : Int) ≤ 0 ∧ (0 : Int) ≤ 2147483647) ∧ (0 ≤ (0 : Int)) ∧ ((0 : Int) ≤ 1) ∧ (((0 : Int) = 1 → 0 ≤ (a_m))) := by first | omega | (simp only [wr_at] <;> omega) | exact ⟨by first | omega | (simp only [wr_at] <;> omega) | assumption | (intro _; exact wr_at _ _ _), by first | omega | (simp only [wr_at] <;> omega) | assumption | (intro _; exact wr_at _ _ _), by first | omega | (simp only [wr_at] <;> omega) | assumption | (intro _; exact wr_at _ _ _), by first | omega | (simp only [wr_at] <;> omega) | assumption | (intro _; exact wr_at _ _ _)⟩
              exact JJ166 0 y92_106 y92_107 y92_108 y92_109 y92_111 y92_112 y92_115 _ _ ls hM (lv_sub hl [0, 1, 2, 3, 5, 6] rfl) hv31.1 hv31.2.1 hv31.2.2.1 hv31.2.2.2
            · refine q_con B dX12_note_161 ?_
              refine lv_goto (tgt := 166) B.1 B.2.1 dX12_note_162 (by decide) ?_
              have hv32 : ((-2147483648 : Int) ≤ 1 ∧ (1 : Int) ≤ 2147483647) ∧ (0 ≤ (1 : Int)) ∧ ((1 : Int) ≤ 1) ∧ (((1 : Int) = 1 → 0 ≤ (a_m))) := by first | omega | (simp only [wr_at] <;> omega) | exact ⟨by first | omega | (simp only [wr_at] <;> omega) | assumption | (intro _; exact wr_at _ _ _), by first | omega | (simp only [wr_at] <;> omega) | assumption | (intro _; exact wr_at _ _ _), by first | omega | (simp only [wr_at] <;> omega) | assumption | (intro _; exact wr_at _ _ _), by first | omega | (simp only [wr_at] <;> omega) | assumption | (intro _; exact wr_at _ _ _)⟩
              exact JJ166 1 y92_106 y92_107 y92_108 y92_109 y92_111 y92_112 y92_115 _ _ ls hM (lv_sub hl [0, 1, 2, 3, 5, 6] rfl) hv32.1 hv32.2.1 hv32.2.2.1 hv32.2.2.2
      · refine lv_iload B.1 B.2.1 dX12_note_101 (lv_at hl 4 rfl) ?_
        refine q_bip B dX12_note_103 (by decide) ?_
        refine q_cgt (tgt := 136) B dX12_note_105 (by decide) (by unfold inr; omega) (by unfold inr; omega) (fun c33 => ?_) (fun c33 => ?_)
        · refine lv_aload_n B.1 B.2.1 dX12_note_136 rfl (lv_at hl 0 rfl) ?_
          refine m_geta (k := 116) B hM (by decide) rfl fl385 dX12_note_137 ?_
          refine lv_iload B.1 B.2.1 dX12_note_140 (lv_at hl 5 rfl) ?_
          refine lv_iload B.1 B.2.1 dX12_note_142 (lv_at hl 6 rfl) ?_
          refine q_con B dX12_note_144 ?_
          refine q_ceq (tgt := 161) B dX12_note_145 (by decide) (by unfold inr; omega) (by unfold inr; omega) (fun c34 => ?_) (fun c34 => ?_)
          · refine q_con B dX12_note_161 ?_
            refine lv_goto (tgt := 166) B.1 B.2.1 dX12_note_162 (by decide) ?_
            have hv35 : ((-2147483648 : Int) ≤ 1 ∧ (1 : Int) ≤ 2147483647) ∧ (0 ≤ (1 : Int)) ∧ ((1 : Int) ≤ 1) ∧ (((1 : Int) = 1 → 0 ≤ (a_m))) := by first | omega | (simp only [wr_at] <;> omega) | exact ⟨by first | omega | (simp only [wr_at] <;> omega) | assumption | (intro _; exact wr_at _ _ _), by first | omega | (simp only [wr_at] <;> omega) | assumption | (intro _; exact wr_at _ _ _), by first | omega | (simp only [wr_at] <;> omega) | assumption | (intro _; exact wr_at _ _ _), by first | omega | (simp only [wr_at] <;> omega) | assumption | (intro _; exact wr_at _ _ _)⟩
            exact JJ166 1 y92_106 y92_107 y92_108 y92_109 y92_111 y92_112 y92_115 _ _ ls hM (lv_sub hl [0, 1, 2, 3, 5, 6] rfl) hv35.1 hv35.2.1 hv35.2.2.1 hv35.2.2.2
          · refine lv_iload B.1 B.2.1 dX12_note_148 (lv_at hl 6 rfl) ?_
            refine q_con B dX12_note_150 ?_
            refine q_ceq (tgt := 161) B dX12_note_151 (by decide) (by unfold inr; omega) (by unfold inr; omega) (fun c36 => ?_) (fun c36 => ?_)
            · refine q_con B dX12_note_161 ?_
              refine lv_goto (tgt := 166) B.1 B.2.1 dX12_note_162 (by decide) ?_
              have hv37 : ((-2147483648 : Int) ≤ 1 ∧ (1 : Int) ≤ 2147483647) ∧ (0 ≤ (1 : Int)) ∧ ((1 : Int) ≤ 1) ∧ (((1 : Int) = 1 → 0 ≤ (a_m))) := by first | omega | (simp only [wr_at] <;> omega) | exact ⟨by first | omega | (simp only [wr_at] <;> omega) | assumption | (intro _; exact wr_at _ _ _), by first | omega | (simp only [wr_at] <;> omega) | assumption | (intro _; exact wr_at _ _ _), by first | omega | (simp only [wr_at] <;> omega) | assumption | (intro _; exact wr_at _ _ _), by first | omega | (simp only [wr_at] <;> omega) | assumption | (intro _; exact wr_at _ _ _)⟩
              exact JJ166 1 y92_106 y92_107 y92_108 y92_109 y92_111 y92_112 y92_115 _ _ ls hM (lv_sub hl [0, 1, 2, 3, 5, 6] rfl) hv37.1 hv37.2.1 hv37.2.2.1 hv37.2.2.2
            · refine lv_iload B.1 B.2.1 dX12_note_154 (lv_at hl 6 rfl) ?_
              refine q_bip B dX12_note_156 (by decide) ?_
              refine q_cne (tgt := 165) B dX12_note_158 (by decide) (by unfold inr; omega) (by unfold inr; omega) (fun c38 => ?_) (fun c38 => ?_)
              · refine q_con B dX12_note_165 ?_
                have hv39 : ((-2147483648 : Int) ≤ 0 ∧ (0 : Int) ≤ 2147483647) ∧ (0 ≤ (0 : Int)) ∧ ((0 : Int) ≤ 1) ∧ (((0 : Int) = 1 → 0 ≤ (a_m))) := by first | omega | (simp only [wr_at] <;> omega) | exact ⟨by first | omega | (simp only [wr_at] <;> omega) | assumption | (intro _; exact wr_at _ _ _), by first | omega | (simp only [wr_at] <;> omega) | assumption | (intro _; exact wr_at _ _ _), by first | omega | (simp only [wr_at] <;> omega) | assumption | (intro _; exact wr_at _ _ _), by first | omega | (simp only [wr_at] <;> omega) | assumption | (intro _; exact wr_at _ _ _)⟩
                exact JJ166 0 y92_106 y92_107 y92_108 y92_109 y92_111 y92_112 y92_115 _ _ ls hM (lv_sub hl [0, 1, 2, 3, 5, 6] rfl) hv39.1 hv39.2.1 hv39.2.2.1 hv39.2.2.2
              · refine q_con B dX12_note_161 ?_
                refine lv_goto (tgt := 166) B.1 B.2.1 dX12_note_162 (by decide) ?_
                have hv40 : ((-2147483648 : Int) ≤ 1 ∧ (1 : Int) ≤ 2147483647) ∧ (0 ≤ (1 : Int)) ∧ ((1 : Int) ≤ 1) ∧ (((1 : Int) = 1 → 0 ≤ (a_m))) := by first | omega | (simp only [wr_at] <;> omega) | exact ⟨by first | omega | (simp only [wr_at] <;> omega) | assumption | (intro _; exact wr_at _ _ _), by first | omega | (simp only [wr_at] <;> omega) | assumption | (intro _; exact wr_at _ _ _), by first | omega | (simp only [wr_at] <;> omega) | assumption | (intro _; exact wr_at _ _ _), by first | omega | (simp only [wr_at] <;> omega) | assumption | (intro _; exact wr_at _ _ _)⟩
                exact JJ166 1 y92_106 y92_107 y92_108 y92_109 y92_111 y92_112 y92_115 _ _ ls hM (lv_sub hl [0, 1, 2, 3, 5, 6] rfl) hv40.1 hv40.2.1 hv40.2.2.1 hv40.2.2.2
        · refine lv_aload_n B.1 B.2.1 dX12_note_108 rfl (lv_at hl 0 rfl) ?_
          refine m_geta (k := 115) B hM (by decide) rfl fl382 dX12_note_109 ?_
          refine q_bip B dX12_note_112 (by decide) ?_
          refine lv_iload B.1 B.2.1 dX12_note_114 (lv_at hl 5 rfl) ?_
          refine q_mul B dX12_note_116 ?_
          refine lv_iload B.1 B.2.1 dX12_note_117 (lv_at hl 4 rfl) ?_
          refine q_add B dX12_note_119 ?_
          refine q_con B dX12_note_120 ?_
          refine q_sub B dX12_note_121 ?_
          refine lv_aload_n B.1 B.2.1 dX12_note_122 rfl (lv_at hl 0 rfl) ?_
          refine m_geta (k := 123) B hM (by decide) rfl fl407 dX12_note_123 ?_
          refine lv_iload B.1 B.2.1 dX12_note_126 (lv_at hl 4 rfl) ?_
          refine m_ild (k := 123) (i := 91) (n := 201) (z := v92_6) (v := (A 123) v92_6.toNat) B hM rfl rfl rfl (by decide) dX12_note_128 (by omega) (by omega) rfl ?_
          have r41 : (-2147483648 : Int) ≤ (A 123) v92_6.toNat ∧ (A 123) v92_6.toNat ≤ 2147483647 := hM.2.2.2.2 123 v92_6.toNat
          refine m_ist (k := 115) (i := 83) (n := 20000) B hM rfl rfl rfl (by decide) dX12_note_129 (by omega) (by omega) (show (-2147483648 : Int) ≤ (A 123) v92_6.toNat from by first | omega | (simp only [wr_at] <;> omega)) (show (A 123) v92_6.toNat ≤ (2147483647 : Int) from by first | omega | (simp only [wr_at] <;> omega)) (u1_up A [(106, y92_106), (107, y92_107), (108, y92_108), (109, y92_109), (110, (wr (A 110) (f 101) (a_m))), (111, y92_111), (112, y92_112), (115, y92_115), (116, (A 116)), (114, (A 114)), (117, (A 117)), (113, (A 113))] 115 (wr y92_115 (((40 * ((f 101))) + v92_6) - 1) ((A 123) v92_6.toNat))) (fun H locs hM => ?_)
          replace hM : MWd D dA h0 ad (mF dA h0 ad (f, g, A, L) s.heap.size) s.heap ((up f [(128, f 128)]), g, (up A [(106, y92_106), (107, y92_107), (108, y92_108), (109, y92_109), (110, (wr (A 110) (f 101) (a_m))), (111, y92_111), (112, y92_112), (115, (wr y92_115 (((40 * ((f 101))) + v92_6) - 1) ((A 123) v92_6.toNat))), (116, (A 116)), (114, (A 114)), (117, (A 117)), (113, (A 113))]), L) H locs := hM
          refine q_inc (k := 4) (x := v92_6) (lv' := [(6, .int (II (v92_6 + 1))), (0, .ref h0), (1, .int (II a_p)), (2, .int (II a_m)), (3, .int (II a_o)), (4, .int (II ((f 101)))), (5, .int (II ((A 65) ((a_o)).toNat)))]) B dX12_note_130 hl rfl (by decide) rfl (fun ls hl => ?_)
          refine lv_goto (tgt := 92) B.1 B.2.1 dX12_note_133 (by decide) ?_
          have hv42 : ((-2147483648 : Int) ≤ v92_6 + 1 ∧ (v92_6 + 1 : Int) ≤ 2147483647) ∧ (1 ≤ (v92_6 + 1)) ∧ ((v92_6 + 1) ≤ 201) ∧ (0 ≤ 201 - (v92_6 + 1)) := by first | omega | (simp only [wr_at] <;> omega) | exact ⟨by first | omega | (simp only [wr_at] <;> omega) | assumption | (intro _; exact wr_at _ _ _), by first | omega | (simp only [wr_at] <;> omega) | assumption | (intro _; exact wr_at _ _ _), by first | omega | (simp only [wr_at] <;> omega) | assumption | (intro _; exact wr_at _ _ _), by first | omega | (simp only [wr_at] <;> omega) | assumption | (intro _; exact wr_at _ _ _)⟩
          exact IH92 (v92_6 + 1) y92_106 y92_107 y92_108 y92_109 y92_111 y92_112 ((wr y92_115 (((40 * ((f 101))) + v92_6) - 1) ((A 123) v92_6.toNat))) _ _ ls hM (lv_sub hl [1, 2, 3, 4, 0, 5, 6] rfl) hv42.1 hv42.2.1 hv42.2.2.1 hv42.2.2.2 (by first | omega | (simp only [wr_at] <;> omega) | assumption | (intro _; exact wr_at _ _ _))
  refine lv_aload_n B.1 B.2.1 dX12_note_0 rfl (lv_at hl 0 rfl) ?_
  refine m_get (k := 101) (v := f 101) B hM (by decide) rfl fl534 dX12_note_1 rfl ?_
  refine lv_istore (lv' := [(4, .int (II (f 101))), (0, .ref h0), (1, .int (II a_p)), (2, .int (II a_m)), (3, .int (II a_o))]) B.1 B.2.1 dX12_note_4 hl (by decide) rfl (fun ls hl => ?_)
  refine lv_aload_n B.1 B.2.1 dX12_note_6 rfl (lv_at hl 1 rfl) ?_
  refine m_geta (k := 65) B hM (by decide) rfl fl266 dX12_note_7 ?_
  refine lv_iload_n B.1 B.2.1 dX12_note_10 rfl (lv_at hl 4 rfl) ?_
  refine m_ild (k := 65) (i := 45) (n := 12960) (z := a_o) (v := (A 65) a_o.toNat) B hM rfl rfl rfl (by decide) dX12_note_11 (by omega) (by omega) rfl ?_
  have r43 : (0 : Int) ≤ (A 65) a_o.toNat ∧ (A 65) a_o.toNat ≤ 115 := hM.2.2.2.2 65 a_o.toNat
  refine lv_istore (lv' := [(5, .int (II ((A 65) a_o.toNat))), (4, .int (II (f 101))), (0, .ref h0), (1, .int (II a_p)), (2, .int (II a_m)), (3, .int (II a_o))]) B.1 B.2.1 dX12_note_12 hl (by decide) rfl (fun ls hl => ?_)
  refine lv_aload_n B.1 B.2.1 dX12_note_14 rfl (lv_at hl 2 rfl) ?_
  refine m_geta (k := 106) B hM (by decide) rfl fl355 dX12_note_15 ?_
  refine lv_iload B.1 B.2.1 dX12_note_18 (lv_at hl 1 rfl) ?_
  refine lv_iload B.1 B.2.1 dX12_note_20 (lv_at hl 0 rfl) ?_
  refine m_ist (k := 106) (i := 74) (n := 500) B hM rfl rfl rfl (by decide) dX12_note_22 (by omega) (by omega) (show (-2147483648 : Int) ≤ (A 65) a_o.toNat from by first | omega | (simp only [wr_at] <;> omega)) (show (A 65) a_o.toNat ≤ (2147483647 : Int) from by first | omega | (simp only [wr_at] <;> omega)) (u1_up A [(106, (A 106)), (107, (A 107)), (108, (A 108)), (109, (A 109)), (110, (A 110)), (111, (A 111)), (112, (A 112)), (115, (A 115)), (116, (A 116)), (114, (A 114)), (117, (A 117)), (113, (A 113))] 106 (wr (A 106) (f 101) ((A 65) a_o.toNat))) (fun H locs hM => ?_)
  replace hM : MWd D dA h0 ad (mF dA h0 ad (f, g, A, L) s.heap.size) s.heap ((up f [(128, f 128)]), g, (up A [(106, (wr (A 106) (f 101) ((A 65) a_o.toNat))), (107, (A 107)), (108, (A 108)), (109, (A 109)), (110, (A 110)), (111, (A 111)), (112, (A 112)), (115, (A 115)), (116, (A 116)), (114, (A 114)), (117, (A 117)), (113, (A 113))]), L) H locs := hM
  refine lv_aload_n B.1 B.2.1 dX12_note_23 rfl (lv_at hl 2 rfl) ?_
  refine m_geta (k := 107) B hM (by decide) rfl fl358 dX12_note_24 ?_
  refine lv_iload B.1 B.2.1 dX12_note_27 (lv_at hl 1 rfl) ?_
  refine lv_aload_n B.1 B.2.1 dX12_note_29 rfl (lv_at hl 2 rfl) ?_
  refine m_geta (k := 66) B hM (by decide) rfl fl269 dX12_note_30 ?_
  refine lv_iload_n B.1 B.2.1 dX12_note_33 rfl (lv_at hl 5 rfl) ?_
  refine m_ild (k := 66) (i := 46) (n := 12960) (z := a_o) (v := (A 66) a_o.toNat) B hM rfl rfl rfl (by decide) dX12_note_34 (by omega) (by omega) rfl ?_
  have r44 : (-2147483648 : Int) ≤ (A 66) a_o.toNat ∧ (A 66) a_o.toNat ≤ 2147483647 := hM.2.2.2.2 66 a_o.toNat
  refine m_ist (k := 107) (i := 75) (n := 500) B hM rfl rfl rfl (by decide) dX12_note_35 (by omega) (by omega) (show (-2147483648 : Int) ≤ (A 66) a_o.toNat from by first | omega | (simp only [wr_at] <;> omega)) (show (A 66) a_o.toNat ≤ (2147483647 : Int) from by first | omega | (simp only [wr_at] <;> omega)) (u1_up A [(106, (wr (A 106) (f 101) ((A 65) a_o.toNat))), (107, (A 107)), (108, (A 108)), (109, (A 109)), (110, (A 110)), (111, (A 111)), (112, (A 112)), (115, (A 115)), (116, (A 116)), (114, (A 114)), (117, (A 117)), (113, (A 113))] 107 (wr (A 107) (f 101) ((A 66) a_o.toNat))) (fun H locs hM => ?_)
  replace hM : MWd D dA h0 ad (mF dA h0 ad (f, g, A, L) s.heap.size) s.heap ((up f [(128, f 128)]), g, (up A [(106, (wr (A 106) (f 101) ((A 65) a_o.toNat))), (107, (wr (A 107) (f 101) ((A 66) a_o.toNat))), (108, (A 108)), (109, (A 109)), (110, (A 110)), (111, (A 111)), (112, (A 112)), (115, (A 115)), (116, (A 116)), (114, (A 114)), (117, (A 117)), (113, (A 113))]), L) H locs := hM
  refine lv_aload_n B.1 B.2.1 dX12_note_36 rfl (lv_at hl 2 rfl) ?_
  refine m_geta (k := 108) B hM (by decide) rfl fl361 dX12_note_37 ?_
  refine lv_iload B.1 B.2.1 dX12_note_40 (lv_at hl 1 rfl) ?_
  refine lv_aload_n B.1 B.2.1 dX12_note_42 rfl (lv_at hl 2 rfl) ?_
  refine m_geta (k := 68) B hM (by decide) rfl fl275 dX12_note_43 ?_
  refine lv_iload_n B.1 B.2.1 dX12_note_46 rfl (lv_at hl 5 rfl) ?_
  refine m_ild (k := 68) (i := 48) (n := 12960) (z := a_o) (v := (A 68) a_o.toNat) B hM rfl rfl rfl (by decide) dX12_note_47 (by omega) (by omega) rfl ?_
  have r45 : (-2147483648 : Int) ≤ (A 68) a_o.toNat ∧ (A 68) a_o.toNat ≤ 2147483647 := hM.2.2.2.2 68 a_o.toNat
  refine m_ist (k := 108) (i := 76) (n := 500) B hM rfl rfl rfl (by decide) dX12_note_48 (by omega) (by omega) (show (-2147483648 : Int) ≤ (A 68) a_o.toNat from by first | omega | (simp only [wr_at] <;> omega)) (show (A 68) a_o.toNat ≤ (2147483647 : Int) from by first | omega | (simp only [wr_at] <;> omega)) (u1_up A [(106, (wr (A 106) (f 101) ((A 65) a_o.toNat))), (107, (wr (A 107) (f 101) ((A 66) a_o.toNat))), (108, (A 108)), (109, (A 109)), (110, (A 110)), (111, (A 111)), (112, (A 112)), (115, (A 115)), (116, (A 116)), (114, (A 114)), (117, (A 117)), (113, (A 113))] 108 (wr (A 108) (f 101) ((A 68) a_o.toNat))) (fun H locs hM => ?_)
  replace hM : MWd D dA h0 ad (mF dA h0 ad (f, g, A, L) s.heap.size) s.heap ((up f [(128, f 128)]), g, (up A [(106, (wr (A 106) (f 101) ((A 65) a_o.toNat))), (107, (wr (A 107) (f 101) ((A 66) a_o.toNat))), (108, (wr (A 108) (f 101) ((A 68) a_o.toNat))), (109, (A 109)), (110, (A 110)), (111, (A 111)), (112, (A 112)), (115, (A 115)), (116, (A 116)), (114, (A 114)), (117, (A 117)), (113, (A 113))]), L) H locs := hM
  refine lv_aload_n B.1 B.2.1 dX12_note_49 rfl (lv_at hl 2 rfl) ?_
  refine m_geta (k := 109) B hM (by decide) rfl fl364 dX12_note_50 ?_
  refine lv_iload B.1 B.2.1 dX12_note_53 (lv_at hl 1 rfl) ?_
  refine lv_iload_n B.1 B.2.1 dX12_note_55 rfl (lv_at hl 3 rfl) ?_
  refine m_ist (k := 109) (i := 77) (n := 500) B hM rfl rfl rfl (by decide) dX12_note_56 (by omega) (by omega) (show (0 : Int) ≤ a_p from by first | omega | (simp only [wr_at] <;> omega)) (show a_p ≤ (199 : Int) from by first | omega | (simp only [wr_at] <;> omega)) (u1_up A [(106, (wr (A 106) (f 101) ((A 65) a_o.toNat))), (107, (wr (A 107) (f 101) ((A 66) a_o.toNat))), (108, (wr (A 108) (f 101) ((A 68) a_o.toNat))), (109, (A 109)), (110, (A 110)), (111, (A 111)), (112, (A 112)), (115, (A 115)), (116, (A 116)), (114, (A 114)), (117, (A 117)), (113, (A 113))] 109 (wr (A 109) (f 101) a_p)) (fun H locs hM => ?_)
  replace hM : MWd D dA h0 ad (mF dA h0 ad (f, g, A, L) s.heap.size) s.heap ((up f [(128, f 128)]), g, (up A [(106, (wr (A 106) (f 101) ((A 65) a_o.toNat))), (107, (wr (A 107) (f 101) ((A 66) a_o.toNat))), (108, (wr (A 108) (f 101) ((A 68) a_o.toNat))), (109, (wr (A 109) (f 101) a_p)), (110, (A 110)), (111, (A 111)), (112, (A 112)), (115, (A 115)), (116, (A 116)), (114, (A 114)), (117, (A 117)), (113, (A 113))]), L) H locs := hM
  refine lv_aload_n B.1 B.2.1 dX12_note_57 rfl (lv_at hl 2 rfl) ?_
  refine m_geta (k := 110) B hM (by decide) rfl fl367 dX12_note_58 ?_
  refine lv_iload B.1 B.2.1 dX12_note_61 (lv_at hl 1 rfl) ?_
  refine lv_iload_n B.1 B.2.1 dX12_note_63 rfl (lv_at hl 4 rfl) ?_
  refine m_ist (k := 110) (i := 78) (n := 500) B hM rfl rfl rfl (by decide) dX12_note_64 (by omega) (by omega) (show (-1 : Int) ≤ a_m from by first | omega | (simp only [wr_at] <;> omega)) (show a_m ≤ (11 : Int) from by first | omega | (simp only [wr_at] <;> omega)) (u1_up A [(106, (wr (A 106) (f 101) ((A 65) a_o.toNat))), (107, (wr (A 107) (f 101) ((A 66) a_o.toNat))), (108, (wr (A 108) (f 101) ((A 68) a_o.toNat))), (109, (wr (A 109) (f 101) a_p)), (110, (A 110)), (111, (A 111)), (112, (A 112)), (115, (A 115)), (116, (A 116)), (114, (A 114)), (117, (A 117)), (113, (A 113))] 110 (wr (A 110) (f 101) a_m)) (fun H locs hM => ?_)
  replace hM : MWd D dA h0 ad (mF dA h0 ad (f, g, A, L) s.heap.size) s.heap ((up f [(128, f 128)]), g, (up A [(106, (wr (A 106) (f 101) ((A 65) a_o.toNat))), (107, (wr (A 107) (f 101) ((A 66) a_o.toNat))), (108, (wr (A 108) (f 101) ((A 68) a_o.toNat))), (109, (wr (A 109) (f 101) a_p)), (110, (wr (A 110) (f 101) a_m)), (111, (A 111)), (112, (A 112)), (115, (A 115)), (116, (A 116)), (114, (A 114)), (117, (A 117)), (113, (A 113))]), L) H locs := hM
  refine lv_aload_n B.1 B.2.1 dX12_note_65 rfl (lv_at hl 2 rfl) ?_
  refine m_geta (k := 111) B hM (by decide) rfl fl370 dX12_note_66 ?_
  refine lv_iload B.1 B.2.1 dX12_note_69 (lv_at hl 1 rfl) ?_
  refine lv_aload_n B.1 B.2.1 dX12_note_71 rfl (lv_at hl 2 rfl) ?_
  refine m_get (k := 127) (v := f 127) B hM (by decide) rfl fl654 dX12_note_72 rfl ?_
  have r46 : (0 : Int) ≤ f 127 ∧ f 127 ≤ 1 := hM.2.2.2.1 127
  refine m_ist (k := 111) (i := 79) (n := 500) B hM rfl rfl rfl (by decide) dX12_note_75 (by omega) (by omega) (show (-2147483648 : Int) ≤ f 127 from by first | omega | (simp only [wr_at] <;> omega)) (show f 127 ≤ (2147483647 : Int) from by first | omega | (simp only [wr_at] <;> omega)) (u1_up A [(106, (wr (A 106) (f 101) ((A 65) a_o.toNat))), (107, (wr (A 107) (f 101) ((A 66) a_o.toNat))), (108, (wr (A 108) (f 101) ((A 68) a_o.toNat))), (109, (wr (A 109) (f 101) a_p)), (110, (wr (A 110) (f 101) a_m)), (111, (A 111)), (112, (A 112)), (115, (A 115)), (116, (A 116)), (114, (A 114)), (117, (A 117)), (113, (A 113))] 111 (wr (A 111) (f 101) (f 127))) (fun H locs hM => ?_)
  replace hM : MWd D dA h0 ad (mF dA h0 ad (f, g, A, L) s.heap.size) s.heap ((up f [(128, f 128)]), g, (up A [(106, (wr (A 106) (f 101) ((A 65) a_o.toNat))), (107, (wr (A 107) (f 101) ((A 66) a_o.toNat))), (108, (wr (A 108) (f 101) ((A 68) a_o.toNat))), (109, (wr (A 109) (f 101) a_p)), (110, (wr (A 110) (f 101) a_m)), (111, (wr (A 111) (f 101) (f 127))), (112, (A 112)), (115, (A 115)), (116, (A 116)), (114, (A 114)), (117, (A 117)), (113, (A 113))]), L) H locs := hM
  refine lv_aload_n B.1 B.2.1 dX12_note_76 rfl (lv_at hl 2 rfl) ?_
  refine m_geta (k := 112) B hM (by decide) rfl fl373 dX12_note_77 ?_
  refine lv_iload B.1 B.2.1 dX12_note_80 (lv_at hl 1 rfl) ?_
  refine lv_aload_n B.1 B.2.1 dX12_note_82 rfl (lv_at hl 2 rfl) ?_
  refine m_get (k := 124) (v := f 124) B hM (by decide) rfl fl632 dX12_note_83 rfl ?_
  refine q_con B dX12_note_86 ?_
  refine q_sub B dX12_note_87 ?_
  refine m_ist (k := 112) (i := 80) (n := 500) B hM rfl rfl rfl (by decide) dX12_note_88 (by omega) (by omega) (show (-2147483648 : Int) ≤ (f 124) - 1 from by first | omega | (simp only [wr_at] <;> omega)) (show (f 124) - 1 ≤ (2147483647 : Int) from by first | omega | (simp only [wr_at] <;> omega)) (u1_up A [(106, (wr (A 106) (f 101) ((A 65) a_o.toNat))), (107, (wr (A 107) (f 101) ((A 66) a_o.toNat))), (108, (wr (A 108) (f 101) ((A 68) a_o.toNat))), (109, (wr (A 109) (f 101) a_p)), (110, (wr (A 110) (f 101) a_m)), (111, (wr (A 111) (f 101) (f 127))), (112, (A 112)), (115, (A 115)), (116, (A 116)), (114, (A 114)), (117, (A 117)), (113, (A 113))] 112 (wr (A 112) (f 101) ((f 124) - 1))) (fun H locs hM => ?_)
  replace hM : MWd D dA h0 ad (mF dA h0 ad (f, g, A, L) s.heap.size) s.heap ((up f [(128, f 128)]), g, (up A [(106, (wr (A 106) (f 101) ((A 65) a_o.toNat))), (107, (wr (A 107) (f 101) ((A 66) a_o.toNat))), (108, (wr (A 108) (f 101) ((A 68) a_o.toNat))), (109, (wr (A 109) (f 101) a_p)), (110, (wr (A 110) (f 101) a_m)), (111, (wr (A 111) (f 101) (f 127))), (112, (wr (A 112) (f 101) ((f 124) - 1))), (115, (A 115)), (116, (A 116)), (114, (A 114)), (117, (A 117)), (113, (A 113))]), L) H locs := hM
  refine q_con B dX12_note_89 ?_
  refine lv_istore (lv' := [(6, .int (II 1)), (5, .int (II ((A 65) a_o.toNat))), (4, .int (II (f 101))), (0, .ref h0), (1, .int (II a_p)), (2, .int (II a_m)), (3, .int (II a_o))]) B.1 B.2.1 dX12_note_90 hl (by decide) rfl (fun ls hl => ?_)
  have hv47 : ((-2147483648 : Int) ≤ 1 ∧ (1 : Int) ≤ 2147483647) ∧ (1 ≤ (1 : Int)) ∧ ((1 : Int) ≤ 201) ∧ (0 ≤ 201 - (1 : Int)) := by first | omega | (simp only [wr_at] <;> omega) | exact ⟨by first | omega | (simp only [wr_at] <;> omega) | assumption | (intro _; exact wr_at _ _ _), by first | omega | (simp only [wr_at] <;> omega) | assumption | (intro _; exact wr_at _ _ _), by first | omega | (simp only [wr_at] <;> omega) | assumption | (intro _; exact wr_at _ _ _), by first | omega | (simp only [wr_at] <;> omega) | assumption | (intro _; exact wr_at _ _ _)⟩
  exact LL92 (Int.toNat (201 - (1 : Int) + 1)) 1 ((wr (A 106) (f 101) ((A 65) a_o.toNat))) ((wr (A 107) (f 101) ((A 66) a_o.toNat))) ((wr (A 108) (f 101) ((A 68) a_o.toNat))) ((wr (A 109) (f 101) a_p)) ((wr (A 111) (f 101) (f 127))) ((wr (A 112) (f 101) ((f 124) - 1))) ((A 115)) _ _ ls hM (lv_sub hl [3, 4, 5, 6, 0, 2, 1] rfl) hv47.1 hv47.2.1 hv47.2.2.1 hv47.2.2.2 (by first | omega | (simp only [wr_at] <;> omega) | assumption | (intro _; exact wr_at _ _ _))
