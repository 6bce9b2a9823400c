set_option maxHeartbeats 200000000 in
set_option maxRecDepth 20000 in
theorem k_say (l : Launch) (D : va_G) (dA : Nat → ClassId) (h0 : Nat) (ad : Nat → Nat) (f : Nat → Int) (g : Nat → Int64) (A : Nat → Nat → Int) (L : Nat → Nat → Int64) (a_f : Int) (a_p : Int) (a_m : Int) (a_o : Int) (i_f : (-2147483648 : Int) ≤ a_f ∧ a_f ≤ 2147483647) (i_p : (-2147483648 : Int) ≤ a_p ∧ a_p ≤ 2147483647) (i_m : (-2147483648 : Int) ≤ a_m ∧ a_m ≤ 2147483647) (i_o : (-2147483648 : Int) ≤ a_o ∧ a_o ≤ 2147483647) (p_0 : 0 ≤ (a_f)) (p_1 : (a_f) < 500) (p_2 : 0 ≤ (a_p)) (p_3 : (a_p) < 200) (p_4 : -1 ≤ (a_m)) (p_5 : (a_m) ≤ 11) (p_6 : 0 ≤ (a_o)) (p_7 : (a_o) < 8640) (p_8 : TXI (A 69) (A 70)) : MCv l yX12_say cX12_say 12 ({ frames := 2, cells := 0, slots := 0, locals := 48 }) D dA h0 ad (f, g, A, L) [.int (II a_f), .int (II a_p), .int (II a_m), .int (II a_o)] (fun (σ : MS) => ∃ n128 : Int, ∃ b117 : Nat → Int, ∃ b113 : Nat → Int, σ = ((up f [(128, n128)]), g, (up A [(117, b117), (113, b113)]), L) ∧ (True)) := by
  generalize hPST : (fun (σ : MS) => ∃ n128 : Int, ∃ b117 : Nat → Int, ∃ b113 : Nat → Int, σ = ((up f [(128, n128)]), g, (up A [(117, b117), (113, b113)]), L) ∧ (True)) = PST
  refine m_enterv (by decide) rfl (Nat.le_of_ble_eq_true rfl) (fun p e s m args below meth c ls B hM hl => ?_)
  have hA : ∀ q, s.heap.size ≤ q → mF dA h0 ad (f, g, A, L) s.heap.size q := fun q h => Or.inr h
  have hM : MWd D dA h0 ad (mF dA h0 ad (f, g, A, L) s.heap.size) s.heap ((up f [(128, f 128)]), g, (up A [(117, (A 117)), (113, (A 113))]), L) s.heap [] := MW_pad hM (up_self f [128]) rfl (up_self A [117, 113]) rfl
  have hl : lv_has ls 12 [(0, .ref h0), (1, .int (II a_f)), (2, .int (II a_p)), (3, .int (II a_m)), (4, .int (II a_o))] := hl
  have r1 : (0 : Int) ≤ f 3 ∧ f 3 ≤ 1 := hM.2.2.2.1 3
  have r2 : (0 : Int) ≤ f 128 ∧ f 128 ≤ 1000 := hM.2.2.2.1 128
  have hto := p_8 ((a_o)).toNat
  have hts : (0 : Int) ≤ (A 70) ((a_o)).toNat ∧ (A 70) ((a_o)).toNat ≤ 30 := hM.2.2.2.2 70 ((a_o)).toNat
  have LL156 : ∀ N : Nat, ∀ (v156_5 : Int) (v156_7 : Int) (v156_8 : Int) (v156_9 : Int) (y156_128 : Int) (y156_117 : Nat → Int) (y156_113 : Nat → Int) (H : Heap) (locs : List Loc) (ls : Array Slot), (MWd D dA h0 ad (mF dA h0 ad (f, g, A, L) s.heap.size) s.heap ((up f [(128, y156_128)]), g, (up A [(117, y156_117), (113, y156_113)]), L) H locs) → lv_has ls 12 [(0, .ref h0), (1, .int (II a_f)), (2, .int (II a_p)), (3, .int (II a_m)), (4, .int (II a_o)), (5, .int (II v156_5)), (7, .int (II v156_7)), (8, .int (II v156_8)), (9, .int (II v156_9))] → ((-2147483648 : Int) ≤ v156_5 ∧ v156_5 ≤ 2147483647) → ((-2147483648 : Int) ≤ v156_7 ∧ v156_7 ≤ 2147483647) → ((-2147483648 : Int) ≤ v156_8 ∧ v156_8 ≤ 2147483647) → ((-2147483648 : Int) ≤ v156_9 ∧ v156_9 ≤ 2147483647) → (0 ≤ (v156_9)) → ((v156_9) ≤ 32) → (0 ≤ (y156_128)) → ((y156_128) ≤ 12 * (v156_9)) → (0 ≤ 40 - (v156_9)) → (40 - (v156_9) < (N : Int)) → W p l e ({ frames := 2, cells := 0, slots := 0, locals := 48 }) s m args below meth c H locs 0 0 (MQ below (mQv D dA h0 ad (f, g, A, L) s.heap.size PST) args s 0 0 (mF dA h0 ad (f, g, A, L) s.heap.size)) (F0 m 156 ls []) := by
    intro N
    induction N with
    | zero => intro v156_5 v156_7 v156_8 v156_9 y156_128 y156_117 y156_113 H locs ls hM hl hLL156_0 hLL156_1 hLL156_2 hLL156_3 hLL156_4 hLL156_5 hLL156_6 hLL156_7 hLL156_8 hN; exfalso; omega
    | succ N IH156 =>
      intro v156_5 v156_7 v156_8 v156_9 y156_128 y156_117 y156_113 H locs ls hM hl hLL156_0 hLL156_1 hLL156_2 hLL156_3 hLL156_4 hLL156_5 hLL156_6 hLL156_7 hLL156_8 hN
      have JJ300 : ∀ (v300_5 : Int) (v300_7 : Int) (v300_8 : Int) (s300_0 : Int) (s300_1 : Int) (H : Heap) (locs : List Loc) (ls : Array Slot), (MWd D dA h0 ad (mF dA h0 ad (f, g, A, L) s.heap.size) s.heap ((up f [(128, y156_128)]), g, (up A [(117, y156_117), (113, y156_113)]), L) H locs) → lv_has ls 12 [(0, .ref h0), (1, .int (II a_f)), (2, .int (II a_p)), (3, .int (II a_m)), (4, .int (II a_o)), (5, .int (II v300_5)), (7, .int (II v300_7)), (8, .int (II v300_8)), (9, .int (II ((v156_9))))] → ((-2147483648 : Int) ≤ v300_5 ∧ v300_5 ≤ 2147483647) → ((-2147483648 : Int) ≤ v300_7 ∧ v300_7 ≤ 2147483647) → ((-2147483648 : Int) ≤ v300_8 ∧ v300_8 ≤ 2147483647) → ((-2147483648 : Int) ≤ s300_0 ∧ s300_0 ≤ 2147483647) → ((-2147483648 : Int) ≤ s300_1 ∧ s300_1 ≤ 2147483647) → ((v156_9) < (A 70) ((a_o)).toNat) → ((s300_1) = (a_f)) → W p l e ({ frames := 2, cells := 0, slots := 0, locals := 48 }) s m args below meth c H locs 0 0 (MQ below (mQv D dA h0 ad (f, g, A, L) s.heap.size PST) args s 0 0 (mF dA h0 ad (f, g, A, L) s.heap.size)) (F0 m 300 ls [.int (II s300_0), .int (II s300_1), .ref h0]) := by
        intro v300_5 v300_7 v300_8 s300_0 s300_1 H locs ls hM hl hJJ300_0 hJJ300_1 hJJ300_2 hJJ300_3 hJJ300_4 hJJ300_5 hJJ300_6
        have r3 : (0 : Int) ≤ y156_128 ∧ y156_128 ≤ 1000 := hM.2.2.2.1 128
        have hv4 : ((-2147483648 : Int) ≤ s300_1 ∧ (s300_1 : Int) ≤ 2147483647) ∧ ((-2147483648 : Int) ≤ s300_0 ∧ (s300_0 : Int) ≤ 2147483647) ∧ (0 ≤ (s300_1)) ∧ ((s300_1) < 500) ∧ ((y156_128) ≤ 900) := by first | omega | (simp only [wr_at] <;> omega) | exact ⟨by first | omega | (simp only [wr_at] <;> omega) | assumption | (intro _; exact wr_at _ _ _), by first | omega | (simp only [wr_at] <;> omega) | assumption | (intro _; exact wr_at _ _ _), by first | omega | (simp only [wr_at] <;> omega) | assumption | (intro _; exact wr_at _ _ _), by first | omega | (simp only [wr_at] <;> omega) | assumption | (intro _; exact wr_at _ _ _), by first | omega | (simp only [wr_at] <;> omega) | assumption | (intro _; exact wr_at _ _ _)⟩
        refine m_callv (n := 2) (rest := []) B hM hA hl.1 (k_addNumber l D dA h0 ad (up f [(128, y156_128)]) g (up A [(117, y156_117), (113, y156_113)]) L s300_1 s300_0 hv4.1 hv4.2.1 hv4.2.2.1 hv4.2.2.2.1 hv4.2.2.2.2) rfl ok_addNumber nm_addNumber ⟨rfl, rfl⟩ ⟨Nat.le_of_ble_eq_true rfl, Nat.le_of_ble_eq_true rfl⟩ dX12_say_300 rfl rfl (Nat.le_of_ble_eq_true rfl) ⟨Nat.zero_le _, Nat.zero_le _⟩ (fun σr5 H locs hp6 hM => ?_)
        obtain ⟨x7, b8, rfl, hp6⟩ := hp6
        replace hp6 : (x7) ≤ (y156_128) + 12 := hp6
        replace hM := MW_uF hM rfl
        replace hM := MW_uA hM rfl
        replace hM : MWd D dA h0 ad (mF dA h0 ad (f, g, A, L) s.heap.size) s.heap ((up f [(128, x7)]), g, (up A [(117, b8), (113, y156_113)]), L) H locs := hM
        have r9 : (0 : Int) ≤ x7 ∧ x7 ≤ 1000 := hM.2.2.2.1 128
        refine q_inc (k := 8) (x := (v156_9)) (lv' := [(9, .int (II (((v156_9)) + 2))), (0, .ref h0), (1, .int (II a_f)), (2, .int (II a_p)), (3, .int (II a_m)), (4, .int (II a_o)), (5, .int (II v300_5)), (7, .int (II v300_7)), (8, .int (II v300_8))]) B dX12_say_303 hl rfl (by decide) rfl (fun ls hl => ?_)
        refine lv_goto (tgt := 316) B.1 B.2.1 dX12_say_306 (by decide) ?_
        refine q_inc (k := 0) (x := ((v156_9)) + 2) (lv' := [(9, .int (II ((((v156_9)) + 2) + 1))), (0, .ref h0), (1, .int (II a_f)), (2, .int (II a_p)), (3, .int (II a_m)), (4, .int (II a_o)), (5, .int (II v300_5)), (7, .int (II v300_7)), (8, .int (II v300_8))]) B dX12_say_316 hl rfl (by decide) rfl (fun ls hl => ?_)
        refine lv_goto (tgt := 156) B.1 B.2.1 dX12_say_319 (by decide) ?_
        have hv10 : ((-2147483648 : Int) ≤ v300_5 ∧ (v300_5 : Int) ≤ 2147483647) ∧ ((-2147483648 : Int) ≤ v300_7 ∧ (v300_7 : Int) ≤ 2147483647) ∧ ((-2147483648 : Int) ≤ v300_8 ∧ (v300_8 : Int) ≤ 2147483647) ∧ ((-2147483648 : Int) ≤ (((v156_9)) + 2) + 1 ∧ ((((v156_9)) + 2) + 1 : Int) ≤ 2147483647) ∧ (0 ≤ ((((v156_9)) + 2) + 1)) ∧ (((((v156_9)) + 2) + 1) ≤ 32) ∧ (0 ≤ (x7)) ∧ ((x7) ≤ 12 * ((((v156_9)) + 2) + 1)) ∧ (0 ≤ 40 - ((((v156_9)) + 2) + 1)) := by first | omega | (simp only [wr_at] <;> omega) | exact ⟨by first | omega | (simp only [wr_at] <;> omega) | assumption | (intro _; exact wr_at _ _ _), by first | omega | (simp only [wr_at] <;> omega) | assumption | (intro _; exact wr_at _ _ _), by first | omega | (simp only [wr_at] <;> omega) | assumption | (intro _; exact wr_at _ _ _), by first | omega | (simp only [wr_at] <;> omega) | assumption | (intro _; exact wr_at _ _ _), by first | omega | (simp only [wr_at] <;> omega) | assumption | (intro _; exact wr_at _ _ _), by first | omega | (simp only [wr_at] <;> omega) | assumption | (intro _; exact wr_at _ _ _), by first | omega | (simp only [wr_at] <;> omega) | assumption | (intro _; exact wr_at _ _ _), by first | omega | (simp only [wr_at] <;> omega) | assumption | (intro _; exact wr_at _ _ _), by first | omega | (simp only [wr_at] <;> omega) | assumption | (intro _; exact wr_at _ _ _)⟩
        exact IH156 v300_5 v300_7 v300_8 ((((v156_9)) + 2) + 1) x7 b8 y156_113 _ _ ls hM (lv_sub hl [1, 2, 3, 4, 5, 6, 7, 8, 0] rfl) hv10.1 hv10.2.1 hv10.2.2.1 hv10.2.2.2.1 hv10.2.2.2.2.1 hv10.2.2.2.2.2.1 hv10.2.2.2.2.2.2.1 hv10.2.2.2.2.2.2.2.1 hv10.2.2.2.2.2.2.2.2 (by first | omega | (simp only [wr_at] <;> omega) | assumption | (intro _; exact wr_at _ _ _))
      have JJ249 : ∀ (v249_5 : Int) (v249_7 : Int) (v249_8 : Int) (v249_10 : Int) (s249_0 : Int) (H : Heap) (locs : List Loc) (ls : Array Slot), (MWd D dA h0 ad (mF dA h0 ad (f, g, A, L) s.heap.size) s.heap ((up f [(128, y156_128)]), g, (up A [(117, y156_117), (113, y156_113)]), L) H locs) → lv_has ls 12 [(0, .ref h0), (1, .int (II a_f)), (2, .int (II a_p)), (3, .int (II a_m)), (4, .int (II a_o)), (5, .int (II v249_5)), (7, .int (II v249_7)), (8, .int (II v249_8)), (10, .int (II v249_10)), (9, .int (II ((v156_9))))] → ((-2147483648 : Int) ≤ v249_5 ∧ v249_5 ≤ 2147483647) → ((-2147483648 : Int) ≤ v249_7 ∧ v249_7 ≤ 2147483647) → ((-2147483648 : Int) ≤ v249_8 ∧ v249_8 ≤ 2147483647) → ((-2147483648 : Int) ≤ v249_10 ∧ v249_10 ≤ 2147483647) → ((-2147483648 : Int) ≤ s249_0 ∧ s249_0 ≤ 2147483647) → ((v156_9) < (A 70) ((a_o)).toNat) → (-128 ≤ (v249_10)) → ((v249_10) ≤ 127) → W p l e ({ frames := 2, cells := 0, slots := 0, locals := 48 }) s m args below meth c H locs 0 0 (MQ below (mQv D dA h0 ad (f, g, A, L) s.heap.size PST) args s 0 0 (mF dA h0 ad (f, g, A, L) s.heap.size)) (F0 m 249 ls [.int (II s249_0)]) := by
        intro v249_5 v249_7 v249_8 v249_10 s249_0 H locs ls hM hl hJJ249_0 hJJ249_1 hJJ249_2 hJJ249_3 hJJ249_4 hJJ249_5 hJJ249_6 hJJ249_7
        have r11 : (0 : Int) ≤ y156_128 ∧ y156_128 ≤ 1000 := hM.2.2.2.1 128
        refine lv_istore (lv' := [(11, .int (II s249_0)), (0, .ref h0), (1, .int (II a_f)), (2, .int (II a_p)), (3, .int (II a_m)), (4, .int (II a_o)), (5, .int (II v249_5)), (7, .int (II v249_7)), (8, .int (II v249_8)), (10, .int (II v249_10)), (9, .int (II ((v156_9))))]) B.1 B.2.1 dX12_say_249 hl (by decide) rfl (fun ls hl => ?_)
        refine lv_iload B.1 B.2.1 dX12_say_251 (lv_at hl 0 rfl) ?_
        refine q_bip B dX12_say_253 (by decide) ?_
        refine q_ceq (tgt := 272) B dX12_say_255 (by decide) (by unfold inr; omega) (by unfold inr; omega) (fun c12 => ?_) (fun c12 => ?_)
        · refine lv_aload_n B.1 B.2.1 dX12_say_272 rfl (lv_at hl 1 rfl) ?_
          refine lv_iload_n B.1 B.2.1 dX12_say_273 rfl (lv_at hl 2 rfl) ?_
          refine lv_iload B.1 B.2.1 dX12_say_274 (lv_at hl 0 rfl) ?_
          refine q_bip B dX12_say_276 (by decide) ?_
          refine q_cne (tgt := 286) B dX12_say_278 (by decide) (by unfold inr; omega) (by unfold inr; omega) (fun c13 => ?_) (fun c13 => ?_)
          · refine lv_iload B.1 B.2.1 dX12_say_286 (lv_at hl 0 rfl) ?_
            refine q_bip B dX12_say_288 (by decide) ?_
            refine q_cne (tgt := 298) B dX12_say_290 (by decide) (by unfold inr; omega) (by unfold inr; omega) (fun c14 => ?_) (fun c14 => ?_)
            · refine lv_iload B.1 B.2.1 dX12_say_298 (lv_at hl 8 rfl) ?_
              have hv15 : ((-2147483648 : Int) ≤ v249_5 ∧ (v249_5 : Int) ≤ 2147483647) ∧ ((-2147483648 : Int) ≤ v249_7 ∧ (v249_7 : Int) ≤ 2147483647) ∧ ((-2147483648 : Int) ≤ v249_8 ∧ (v249_8 : Int) ≤ 2147483647) ∧ ((-2147483648 : Int) ≤ v249_8 ∧ (v249_8 : Int) ≤ 2147483647) ∧ ((-2147483648 : Int) ≤ a_f ∧ (a_f : Int) ≤ 2147483647) ∧ ((v156_9) < (A 70) ((a_o)).toNat) ∧ ((a_f) = (a_f)) := by first | omega | (simp only [wr_at] <;> omega) | exact ⟨by first | omega | (simp only [wr_at] <;> omega) | assumption | (intro _; exact wr_at _ _ _), by first | omega | (simp only [wr_at] <;> omega) | assumption | (intro _; exact wr_at _ _ _), by first | omega | (simp only [wr_at] <;> omega) | assumption | (intro _; exact wr_at _ _ _), by first | omega | (simp only [wr_at] <;> omega) | assumption | (intro _; exact wr_at _ _ _), by first | omega | (simp only [wr_at] <;> omega) | assumption | (intro _; exact wr_at _ _ _), by first | omega | (simp only [wr_at] <;> omega) | assumption | (intro _; exact wr_at _ _ _), by first | omega | (simp only [wr_at] <;> omega) | assumption | (intro _; exact wr_at _ _ _)⟩
              exact JJ300 v249_5 v249_7 v249_8 v249_8 a_f _ _ ls hM (lv_sub hl [1, 2, 3, 4, 5, 6, 7, 8, 10] rfl) hv15.1 hv15.2.1 hv15.2.2.1 hv15.2.2.2.1 hv15.2.2.2.2.1 hv15.2.2.2.2.2.1 hv15.2.2.2.2.2.2
            · refine lv_iload B.1 B.2.1 dX12_say_293 (lv_at hl 7 rfl) ?_
              refine lv_goto (tgt := 300) B.1 B.2.1 dX12_say_295 (by decide) ?_
              have hv16 : ((-2147483648 : Int) ≤ v249_5 ∧ (v249_5 : Int) ≤ 2147483647) ∧ ((-2147483648 : Int) ≤ v249_7 ∧ (v249_7 : Int) ≤ 2147483647) ∧ ((-2147483648 : Int) ≤ v249_8 ∧ (v249_8 : Int) ≤ 2147483647) ∧ ((-2147483648 : Int) ≤ v249_7 ∧ (v249_7 : Int) ≤ 2147483647) ∧ ((-2147483648 : Int) ≤ a_f ∧ (a_f : Int) ≤ 2147483647) ∧ ((v156_9) < (A 70) ((a_o)).toNat) ∧ ((a_f) = (a_f)) := by first | omega | (simp only [wr_at] <;> omega) | exact ⟨by first | omega | (simp only [wr_at] <;> omega) | assumption | (intro _; exact wr_at _ _ _), by first | omega | (simp only [wr_at] <;> omega) | assumption | (intro _; exact wr_at _ _ _), by first | omega | (simp only [wr_at] <;> omega) | assumption | (intro _; exact wr_at _ _ _), by first | omega | (simp only [wr_at] <;> omega) | assumption | (intro _; exact wr_at _ _ _), by first | omega | (simp only [wr_at] <;> omega) | assumption | (intro _; exact wr_at _ _ _), by first | omega | (simp only [wr_at] <;> omega) | assumption | (intro _; exact wr_at _ _ _), by first | omega | (simp only [wr_at] <;> omega) | assumption | (intro _; exact wr_at _ _ _)⟩
              exact JJ300 v249_5 v249_7 v249_8 v249_7 a_f _ _ ls hM (lv_sub hl [1, 2, 3, 4, 5, 6, 7, 8, 10] rfl) hv16.1 hv16.2.1 hv16.2.2.1 hv16.2.2.2.1 hv16.2.2.2.2.1 hv16.2.2.2.2.2.1 hv16.2.2.2.2.2.2
          · refine lv_iload B.1 B.2.1 dX12_say_281 (lv_at hl 6 rfl) ?_
            refine lv_goto (tgt := 300) B.1 B.2.1 dX12_say_283 (by decide) ?_
            have hv17 : ((-2147483648 : Int) ≤ v249_5 ∧ (v249_5 : Int) ≤ 2147483647) ∧ ((-2147483648 : Int) ≤ v249_7 ∧ (v249_7 : Int) ≤ 2147483647) ∧ ((-2147483648 : Int) ≤ v249_8 ∧ (v249_8 : Int) ≤ 2147483647) ∧ ((-2147483648 : Int) ≤ v249_5 ∧ (v249_5 : Int) ≤ 2147483647) ∧ ((-2147483648 : Int) ≤ a_f ∧ (a_f : Int) ≤ 2147483647) ∧ ((v156_9) < (A 70) ((a_o)).toNat) ∧ ((a_f) = (a_f)) := by first | omega | (simp only [wr_at] <;> omega) | exact ⟨by first | omega | (simp only [wr_at] <;> omega) | assumption | (intro _; exact wr_at _ _ _), by first | omega | (simp only [wr_at] <;> omega) | assumption | (intro _; exact wr_at _ _ _), by first | omega | (simp only [wr_at] <;> omega) | assumption | (intro _; exact wr_at _ _ _), by first | omega | (simp only [wr_at] <;> omega) | assumption | (intro _; exact wr_at _ _ _), by first | omega | (simp only [wr_at] <;> omega) | assumption | (intro _; exact wr_at _ _ _), by first | omega | (simp only [wr_at] <;> omega) | assumption | (intro _; exact wr_at _ _ _), by first | omega | (simp only [wr_at] <;> omega) | assumption | (intro _; exact wr_at _ _ _)⟩
            exact JJ300 v249_5 v249_7 v249_8 v249_5 a_f _ _ ls hM (lv_sub hl [1, 2, 3, 4, 5, 6, 7, 8, 10] rfl) hv17.1 hv17.2.1 hv17.2.2.1 hv17.2.2.2.1 hv17.2.2.2.2.1 hv17.2.2.2.2.2.1 hv17.2.2.2.2.2.2
        · refine lv_iload B.1 B.2.1 dX12_say_258 (lv_at hl 0 rfl) ?_
          refine q_bip B dX12_say_260 (by decide) ?_
          refine q_ceq (tgt := 272) B dX12_say_262 (by decide) (by unfold inr; omega) (by unfold inr; omega) (fun c18 => ?_) (fun c18 => ?_)
          · refine lv_aload_n B.1 B.2.1 dX12_say_272 rfl (lv_at hl 1 rfl) ?_
            refine lv_iload_n B.1 B.2.1 dX12_say_273 rfl (lv_at hl 2 rfl) ?_
            refine lv_iload B.1 B.2.1 dX12_say_274 (lv_at hl 0 rfl) ?_
            refine q_bip B dX12_say_276 (by decide) ?_
            refine q_cne (tgt := 286) B dX12_say_278 (by decide) (by unfold inr; omega) (by unfold inr; omega) (fun c19 => ?_) (fun c19 => ?_)
            · refine lv_iload B.1 B.2.1 dX12_say_286 (lv_at hl 0 rfl) ?_
              refine q_bip B dX12_say_288 (by decide) ?_
              refine q_cne (tgt := 298) B dX12_say_290 (by decide) (by unfold inr; omega) (by unfold inr; omega) (fun c20 => ?_) (fun c20 => ?_)
              · refine lv_iload B.1 B.2.1 dX12_say_298 (lv_at hl 8 rfl) ?_
                have hv21 : ((-2147483648 : Int) ≤ v249_5 ∧ (v249_5 : Int) ≤ 2147483647) ∧ ((-2147483648 : Int) ≤ v249_7 ∧ (v249_7 : Int) ≤ 2147483647) ∧ ((-2147483648 : Int) ≤ v249_8 ∧ (v249_8 : Int) ≤ 2147483647) ∧ ((-2147483648 : Int) ≤ v249_8 ∧ (v249_8 : Int) ≤ 2147483647) ∧ ((-2147483648 : Int) ≤ a_f ∧ (a_f : Int) ≤ 2147483647) ∧ ((v156_9) < (A 70) ((a_o)).toNat) ∧ ((a_f) = (a_f)) := by first | omega | (simp only [wr_at] <;> omega) | exact ⟨by first | omega | (simp only [wr_at] <;> omega) | assumption | (intro _; exact wr_at _ _ _), by first | omega | (simp only [wr_at] <;> omega) | assumption | (intro _; exact wr_at _ _ _), by first | omega | (simp only [wr_at] <;> omega) | assumption | (intro _; exact wr_at _ _ _), by first | omega | (simp only [wr_at] <;> omega) | assumption | (intro _; exact wr_at _ _ _), by first | omega | (simp only [wr_at] <;> omega) | assumption | (intro _; exact wr_at _ _ _), by first | omega | (simp only [wr_at] <;> omega) | assumption | (intro _; exact wr_at _ _ _), by first | omega | (simp only [wr_at] <;> omega) | assumption | (intro _; exact wr_at _ _ _)⟩
                exact JJ300 v249_5 v249_7 v249_8 v249_8 a_f _ _ ls hM (lv_sub hl [1, 2, 3, 4, 5, 6, 7, 8, 10] rfl) hv21.1 hv21.2.1 hv21.2.2.1 hv21.2.2.2.1 hv21.2.2.2.2.1 hv21.2.2.2.2.2.1 hv21.2.2.2.2.2.2
              · refine lv_iload B.1 B.2.1 dX12_say_293 (lv_at hl 7 rfl) ?_
                refine lv_goto (tgt := 300) B.1 B.2.1 dX12_say_295 (by decide) ?_
                have hv22 : ((-2147483648 : Int) ≤ v249_5 ∧ (v249_5 : Int) ≤ 2147483647) ∧ ((-2147483648 : Int) ≤ v249_7 ∧ (v249_7 : Int) ≤ 2147483647) ∧ ((-2147483648 : Int) ≤ v249_8 ∧ (v249_8 : Int) ≤ 2147483647) ∧ ((-2147483648 : Int) ≤ v249_7 ∧ (v249_7 : Int) ≤ 2147483647) ∧ ((-2147483648 : Int) ≤ a_f ∧ (a_f : Int) ≤ 2147483647) ∧ ((v156_9) < (A 70) ((a_o)).toNat) ∧ ((a_f) = (a_f)) := by first | omega | (simp only [wr_at] <;> omega) | exact ⟨by first | omega | (simp only [wr_at] <;> omega) | assumption | (intro _; exact wr_at _ _ _), by first | omega | (simp only [wr_at] <;> omega) | assumption | (intro _; exact wr_at _ _ _), by first | omega | (simp only [wr_at] <;> omega) | assumption | (intro _; exact wr_at _ _ _), by first | omega | (simp only [wr_at] <;> omega) | assumption | (intro _; exact wr_at _ _ _), by first | omega | (simp only [wr_at] <;> omega) | assumption | (intro _; exact wr_at _ _ _), by first | omega | (simp only [wr_at] <;> omega) | assumption | (intro _; exact wr_at _ _ _), by first | omega | (simp only [wr_at] <;> omega) | assumption | (intro _; exact wr_at _ _ _)⟩
                exact JJ300 v249_5 v249_7 v249_8 v249_7 a_f _ _ ls hM (lv_sub hl [1, 2, 3, 4, 5, 6, 7, 8, 10] rfl) hv22.1 hv22.2.1 hv22.2.2.1 hv22.2.2.2.1 hv22.2.2.2.2.1 hv22.2.2.2.2.2.1 hv22.2.2.2.2.2.2
            · refine lv_iload B.1 B.2.1 dX12_say_281 (lv_at hl 6 rfl) ?_
              refine lv_goto (tgt := 300) B.1 B.2.1 dX12_say_283 (by decide) ?_
              have hv23 : ((-2147483648 : Int) ≤ v249_5 ∧ (v249_5 : Int) ≤ 2147483647) ∧ ((-2147483648 : Int) ≤ v249_7 ∧ (v249_7 : Int) ≤ 2147483647) ∧ ((-2147483648 : Int) ≤ v249_8 ∧ (v249_8 : Int) ≤ 2147483647) ∧ ((-2147483648 : Int) ≤ v249_5 ∧ (v249_5 : Int) ≤ 2147483647) ∧ ((-2147483648 : Int) ≤ a_f ∧ (a_f : Int) ≤ 2147483647) ∧ ((v156_9) < (A 70) ((a_o)).toNat) ∧ ((a_f) = (a_f)) := by first | omega | (simp only [wr_at] <;> omega) | exact ⟨by first | omega | (simp only [wr_at] <;> omega) | assumption | (intro _; exact wr_at _ _ _), by first | omega | (simp only [wr_at] <;> omega) | assumption | (intro _; exact wr_at _ _ _), by first | omega | (simp only [wr_at] <;> omega) | assumption | (intro _; exact wr_at _ _ _), by first | omega | (simp only [wr_at] <;> omega) | assumption | (intro _; exact wr_at _ _ _), by first | omega | (simp only [wr_at] <;> omega) | assumption | (intro _; exact wr_at _ _ _), by first | omega | (simp only [wr_at] <;> omega) | assumption | (intro _; exact wr_at _ _ _), by first | omega | (simp only [wr_at] <;> omega) | assumption | (intro _; exact wr_at _ _ _)⟩
              exact JJ300 v249_5 v249_7 v249_8 v249_5 a_f _ _ ls hM (lv_sub hl [1, 2, 3, 4, 5, 6, 7, 8, 10] rfl) hv23.1 hv23.2.1 hv23.2.2.1 hv23.2.2.2.1 hv23.2.2.2.2.1 hv23.2.2.2.2.2.1 hv23.2.2.2.2.2.2
          · refine lv_iload B.1 B.2.1 dX12_say_265 (lv_at hl 0 rfl) ?_
            refine q_bip B dX12_say_267 (by decide) ?_
            refine q_cne (tgt := 309) B dX12_say_269 (by decide) (by unfold inr; omega) (by unfold inr; omega) (fun c24 => ?_) (fun c24 => ?_)
            · refine lv_aload_n B.1 B.2.1 dX12_say_309 rfl (lv_at hl 1 rfl) ?_
              refine lv_iload_n B.1 B.2.1 dX12_say_310 rfl (lv_at hl 2 rfl) ?_
              refine lv_iload B.1 B.2.1 dX12_say_311 (lv_at hl 9 rfl) ?_
              have hv25 : ((-2147483648 : Int) ≤ a_f ∧ (a_f : Int) ≤ 2147483647) ∧ ((-2147483648 : Int) ≤ v249_10 ∧ (v249_10 : Int) ≤ 2147483647) ∧ (0 ≤ (a_f)) ∧ ((a_f) < 500) ∧ ((y156_128) ≤ 999) := by first | omega | (simp only [wr_at] <;> omega) | exact ⟨by first | omega | (simp only [wr_at] <;> omega) | assumption | (intro _; exact wr_at _ _ _), by first | omega | (simp only [wr_at] <;> omega) | assumption | (intro _; exact wr_at _ _ _), by first | omega | (simp only [wr_at] <;> omega) | assumption | (intro _; exact wr_at _ _ _), by first | omega | (simp only [wr_at] <;> omega) | assumption | (intro _; exact wr_at _ _ _), by first | omega | (simp only [wr_at] <;> omega) | assumption | (intro _; exact wr_at _ _ _)⟩
              refine m_callv (n := 2) (rest := []) B hM hA hl.1 (k_add2 l D dA h0 ad (up f [(128, y156_128)]) g (up A [(117, y156_117), (113, y156_113)]) L a_f v249_10 hv25.1 hv25.2.1 hv25.2.2.1 hv25.2.2.2.1 hv25.2.2.2.2) rfl ok_add2 nm_add2 ⟨rfl, rfl⟩ ⟨Nat.le_of_ble_eq_true rfl, Nat.le_of_ble_eq_true rfl⟩ dX12_say_313 rfl rfl (Nat.le_of_ble_eq_true rfl) ⟨Nat.zero_le _, Nat.zero_le _⟩ (fun σr26 H locs hp27 hM => ?_)
              obtain ⟨b28, rfl, hp27⟩ := hp27
              replace hp27 : True := hp27
              replace hM := MW_uF hM rfl
              replace hM := MW_uA hM rfl
              replace hM : MWd D dA h0 ad (mF dA h0 ad (f, g, A, L) s.heap.size) s.heap ((up f [(128, (y156_128) + 1)]), g, (up A [(117, b28), (113, y156_113)]), L) H locs := hM
              have r29 : (0 : Int) ≤ (y156_128) + 1 ∧ (y156_128) + 1 ≤ 1000 := hM.2.2.2.1 128
              refine q_inc (k := 10) (x := (v156_9)) (lv' := [(9, .int (II (((v156_9)) + 1))), (11, .int (II s249_0)), (0, .ref h0), (1, .int (II a_f)), (2, .int (II a_p)), (3, .int (II a_m)), (4, .int (II a_o)), (5, .int (II v249_5)), (7, .int (II v249_7)), (8, .int (II v249_8)), (10, .int (II v249_10))]) B dX12_say_316 hl rfl (by decide) rfl (fun ls hl => ?_)
              refine lv_goto (tgt := 156) B.1 B.2.1 dX12_say_319 (by decide) ?_
              have hv30 : ((-2147483648 : Int) ≤ v249_5 ∧ (v249_5 : Int) ≤ 2147483647) ∧ ((-2147483648 : Int) ≤ v249_7 ∧ (v249_7 : Int) ≤ 2147483647) ∧ ((-2147483648 : Int) ≤ v249_8 ∧ (v249_8 : Int) ≤ 2147483647) ∧ ((-2147483648 : Int) ≤ ((v156_9)) + 1 ∧ (((v156_9)) + 1 : Int) ≤ 2147483647) ∧ (0 ≤ (((v156_9)) + 1)) ∧ ((((v156_9)) + 1) ≤ 32) ∧ (0 ≤ ((y156_128) + 1)) ∧ (((y156_128) + 1) ≤ 12 * (((v156_9)) + 1)) ∧ (0 ≤ 40 - (((v156_9)) + 1)) := by first | omega | (simp only [wr_at] <;> omega) | exact ⟨by first | omega | (simp only [wr_at] <;> omega) | assumption | (intro _; exact wr_at _ _ _), by first | omega | (simp only [wr_at] <;> omega) | assumption | (intro _; exact wr_at _ _ _), by first | omega | (simp only [wr_at] <;> omega) | assumption | (intro _; exact wr_at _ _ _), by first | omega | (simp only [wr_at] <;> omega) | assumption | (intro _; exact wr_at _ _ _), by first | omega | (simp only [wr_at] <;> omega) | assumption | (intro _; exact wr_at _ _ _), by first | omega | (simp only [wr_at] <;> omega) | assumption | (intro _; exact wr_at _ _ _), by first | omega | (simp only [wr_at] <;> omega) | assumption | (intro _; exact wr_at _ _ _), by first | omega | (simp only [wr_at] <;> omega) | assumption | (intro _; exact wr_at _ _ _), by first | omega | (simp only [wr_at] <;> omega) | assumption | (intro _; exact wr_at _ _ _)⟩
              exact IH156 v249_5 v249_7 v249_8 (((v156_9)) + 1) ((y156_128) + 1) b28 y156_113 _ _ ls hM (lv_sub hl [2, 3, 4, 5, 6, 7, 8, 9, 0] rfl) hv30.1 hv30.2.1 hv30.2.2.1 hv30.2.2.2.1 hv30.2.2.2.2.1 hv30.2.2.2.2.2.1 hv30.2.2.2.2.2.2.1 hv30.2.2.2.2.2.2.2.1 hv30.2.2.2.2.2.2.2.2 (by first | omega | (simp only [wr_at] <;> omega) | assumption | (intro _; exact wr_at _ _ _))
            · refine lv_aload_n B.1 B.2.1 dX12_say_272 rfl (lv_at hl 1 rfl) ?_
              refine lv_iload_n B.1 B.2.1 dX12_say_273 rfl (lv_at hl 2 rfl) ?_
              refine lv_iload B.1 B.2.1 dX12_say_274 (lv_at hl 0 rfl) ?_
              refine q_bip B dX12_say_276 (by decide) ?_
              refine q_cne (tgt := 286) B dX12_say_278 (by decide) (by unfold inr; omega) (by unfold inr; omega) (fun c31 => ?_) (fun c31 => ?_)
              · refine lv_iload B.1 B.2.1 dX12_say_286 (lv_at hl 0 rfl) ?_
                refine q_bip B dX12_say_288 (by decide) ?_
                refine q_cne (tgt := 298) B dX12_say_290 (by decide) (by unfold inr; omega) (by unfold inr; omega) (fun c32 => ?_) (fun c32 => ?_)
                · refine lv_iload B.1 B.2.1 dX12_say_298 (lv_at hl 8 rfl) ?_
                  have hv33 : ((-2147483648 : Int) ≤ v249_5 ∧ (v249_5 : Int) ≤ 2147483647) ∧ ((-2147483648 : Int) ≤ v249_7 ∧ (v249_7 : Int) ≤ 2147483647) ∧ ((-2147483648 : Int) ≤ v249_8 ∧ (v249_8 : Int) ≤ 2147483647) ∧ ((-2147483648 : Int) ≤ v249_8 ∧ (v249_8 : Int) ≤ 2147483647) ∧ ((-2147483648 : Int) ≤ a_f ∧ (a_f : Int) ≤ 2147483647) ∧ ((v156_9) < (A 70) ((a_o)).toNat) ∧ ((a_f) = (a_f)) := by first | omega | (simp only [wr_at] <;> omega) | exact ⟨by first | omega | (simp only [wr_at] <;> omega) | assumption | (intro _; exact wr_at _ _ _), by first | omega | (simp only [wr_at] <;> omega) | assumption | (intro _; exact wr_at _ _ _), by first | omega | (simp only [wr_at] <;> omega) | assumption | (intro _; exact wr_at _ _ _), by first | omega | (simp only [wr_at] <;> omega) | assumption | (intro _; exact wr_at _ _ _), by first | omega | (simp only [wr_at] <;> omega) | assumption | (intro _; exact wr_at _ _ _), by first | omega | (simp only [wr_at] <;> omega) | assumption | (intro _; exact wr_at _ _ _), by first | omega | (simp only [wr_at] <;> omega) | assumption | (intro _; exact wr_at _ _ _)⟩
                  exact JJ300 v249_5 v249_7 v249_8 v249_8 a_f _ _ ls hM (lv_sub hl [1, 2, 3, 4, 5, 6, 7, 8, 10] rfl) hv33.1 hv33.2.1 hv33.2.2.1 hv33.2.2.2.1 hv33.2.2.2.2.1 hv33.2.2.2.2.2.1 hv33.2.2.2.2.2.2
                · refine lv_iload B.1 B.2.1 dX12_say_293 (lv_at hl 7 rfl) ?_
                  refine lv_goto (tgt := 300) B.1 B.2.1 dX12_say_295 (by decide) ?_
                  have hv34 : ((-2147483648 : Int) ≤ v249_5 ∧ (v249_5 : Int) ≤ 2147483647) ∧ ((-2147483648 : Int) ≤ v249_7 ∧ (v249_7 : Int) ≤ 2147483647) ∧ ((-2147483648 : Int) ≤ v249_8 ∧ (v249_8 : Int) ≤ 2147483647) ∧ ((-2147483648 : Int) ≤ v249_7 ∧ (v249_7 : Int) ≤ 2147483647) ∧ ((-2147483648 : Int) ≤ a_f ∧ (a_f : Int) ≤ 2147483647) ∧ ((v156_9) < (A 70) ((a_o)).toNat) ∧ ((a_f) = (a_f)) := by first | omega | (simp only [wr_at] <;> omega) | exact ⟨by first | omega | (simp only [wr_at] <;> omega) | assumption | (intro _; exact wr_at _ _ _), by first | omega | (simp only [wr_at] <;> omega) | assumption | (intro _; exact wr_at _ _ _), by first | omega | (simp only [wr_at] <;> omega) | assumption | (intro _; exact wr_at _ _ _), by first | omega | (simp only [wr_at] <;> omega) | assumption | (intro _; exact wr_at _ _ _), by first | omega | (simp only [wr_at] <;> omega) | assumption | (intro _; exact wr_at _ _ _), by first | omega | (simp only [wr_at] <;> omega) | assumption | (intro _; exact wr_at _ _ _), by first | omega | (simp only [wr_at] <;> omega) | assumption | (intro _; exact wr_at _ _ _)⟩
                  exact JJ300 v249_5 v249_7 v249_8 v249_7 a_f _ _ ls hM (lv_sub hl [1, 2, 3, 4, 5, 6, 7, 8, 10] rfl) hv34.1 hv34.2.1 hv34.2.2.1 hv34.2.2.2.1 hv34.2.2.2.2.1 hv34.2.2.2.2.2.1 hv34.2.2.2.2.2.2
              · refine lv_iload B.1 B.2.1 dX12_say_281 (lv_at hl 6 rfl) ?_
                refine lv_goto (tgt := 300) B.1 B.2.1 dX12_say_283 (by decide) ?_
                have hv35 : ((-2147483648 : Int) ≤ v249_5 ∧ (v249_5 : Int) ≤ 2147483647) ∧ ((-2147483648 : Int) ≤ v249_7 ∧ (v249_7 : Int) ≤ 2147483647) ∧ ((-2147483648 : Int) ≤ v249_8 ∧ (v249_8 : Int) ≤ 2147483647) ∧ ((-2147483648 : Int) ≤ v249_5 ∧ (v249_5 : Int) ≤ 2147483647) ∧ ((-2147483648 : Int) ≤ a_f ∧ (a_f : Int) ≤ 2147483647) ∧ ((v156_9) < (A 70) ((a_o)).toNat) ∧ ((a_f) = (a_f)) := by first | omega | (simp only [wr_at] <;> omega) | exact ⟨by first | omega | (simp only [wr_at] <;> omega) | assumption | (intro _; exact wr_at _ _ _), by first | omega | (simp only [wr_at] <;> omega) | assumption | (intro _; exact wr_at _ _ _), by first | omega | (simp only [wr_at] <;> omega) | assumption | (intro _; exact wr_at _ _ _), by first | omega | (simp only [wr_at] <;> omega) | assumption | (intro _; exact wr_at _ _ _), by first | omega | (simp only [wr_at] <;> omega) | assumption | (intro _; exact wr_at _ _ _), by first | omega | (simp only [wr_at] <;> omega) | assumption | (intro _; exact wr_at _ _ _), by first | omega | (simp only [wr_at] <;> omega) | assumption | (intro _; exact wr_at _ _ _)⟩
                exact JJ300 v249_5 v249_7 v249_8 v249_5 a_f _ _ ls hM (lv_sub hl [1, 2, 3, 4, 5, 6, 7, 8, 10] rfl) hv35.1 hv35.2.1 hv35.2.2.1 hv35.2.2.2.1 hv35.2.2.2.2.1 hv35.2.2.2.2.2.1 hv35.2.2.2.2.2.2
      have r36 : (0 : Int) ≤ y156_128 ∧ y156_128 ≤ 1000 := hM.2.2.2.1 128
      refine lv_iload B.1 B.2.1 dX12_say_156 (lv_at hl 8 rfl) ?_
      refine lv_aload_n B.1 B.2.1 dX12_say_158 rfl (lv_at hl 0 rfl) ?_
      refine m_geta (k := 70) B hM (by decide) rfl fl281 dX12_say_159 ?_
      refine lv_iload B.1 B.2.1 dX12_say_162 (lv_at hl 4 rfl) ?_
      refine m_ild (k := 70) (i := 50) (n := 12960) (z := a_o) (v := (A 70) a_o.toNat) B hM rfl rfl rfl (by decide) dX12_say_164 (by omega) (by omega) rfl ?_
      have r37 : (0 : Int) ≤ (A 70) a_o.toNat ∧ (A 70) a_o.toNat ≤ 30 := hM.2.2.2.2 70 a_o.toNat
      refine q_cge (tgt := 322) B dX12_say_165 (by decide) (by unfold inr; omega) (by unfold inr; omega) (fun c38 => ?_) (fun c38 => ?_)
      · refine lv_aload_n B.1 B.2.1 dX12_say_322 rfl (lv_at hl 0 rfl) ?_
        refine m_geta (k := 113) B hM (by decide) rfl fl376 dX12_say_323 ?_
        refine lv_iload_n B.1 B.2.1 dX12_say_326 rfl (lv_at hl 1 rfl) ?_
        refine lv_aload_n B.1 B.2.1 dX12_say_327 rfl (lv_at hl 0 rfl) ?_
        refine m_get (k := 128) (v := y156_128) B hM (by decide) rfl fl692 dX12_say_328 rfl ?_
        refine q_bip B dX12_say_331 (by decide) ?_
        refine q_cge (tgt := 343) B dX12_say_333 (by decide) (by unfold inr; omega) (by unfold inr; omega) (fun c39 => ?_) (fun c39 => ?_)
        · refine q_bip B dX12_say_343 (by decide) ?_
          refine m_ist (k := 113) (i := 81) (n := 500) B hM rfl rfl rfl (by decide) dX12_say_345 (by omega) (by omega) (show (0 : Int) ≤ 80 from by first | omega | (simp only [wr_at] <;> omega)) (show 80 ≤ (80 : Int) from by first | omega | (simp only [wr_at] <;> omega)) (u1_up A [(117, y156_117), (113, y156_113)] 113 (wr y156_113 a_f 80)) (fun H locs hM => ?_)
          replace hM : MWd D dA h0 ad (mF dA h0 ad (f, g, A, L) s.heap.size) s.heap ((up f [(128, y156_128)]), g, (up A [(117, y156_117), (113, (wr y156_113 a_f 80))]), L) H locs := hM
          subst hPST
          exact m_vret B hM dX12_say_346 ⟨y156_128, y156_117, ((wr y156_113 a_f 80)), rfl, by trivial⟩
        · refine lv_aload_n B.1 B.2.1 dX12_say_336 rfl (lv_at hl 0 rfl) ?_
          refine m_get (k := 128) (v := y156_128) B hM (by decide) rfl fl692 dX12_say_337 rfl ?_
          refine lv_goto (tgt := 345) B.1 B.2.1 dX12_say_340 (by decide) ?_
          refine m_ist (k := 113) (i := 81) (n := 500) B hM rfl rfl rfl (by decide) dX12_say_345 (by omega) (by omega) (show (0 : Int) ≤ y156_128 from by first | omega | (simp only [wr_at] <;> omega)) (show y156_128 ≤ (80 : Int) from by first | omega | (simp only [wr_at] <;> omega)) (u1_up A [(117, y156_117), (113, y156_113)] 113 (wr y156_113 a_f y156_128)) (fun H locs hM => ?_)
          replace hM : MWd D dA h0 ad (mF dA h0 ad (f, g, A, L) s.heap.size) s.heap ((up f [(128, y156_128)]), g, (up A [(117, y156_117), (113, (wr y156_113 a_f y156_128))]), L) H locs := hM
          subst hPST
          exact m_vret B hM dX12_say_346 ⟨y156_128, y156_117, ((wr y156_113 a_f y156_128)), rfl, by trivial⟩
      · refine lv_aload_n B.1 B.2.1 dX12_say_168 rfl (lv_at hl 0 rfl) ?_
        refine m_geta (k := 2) B hM (by decide) rfl fl7 dX12_say_169 ?_
        refine lv_aload_n B.1 B.2.1 dX12_say_172 rfl (lv_at hl 0 rfl) ?_
        refine m_geta (k := 69) B hM (by decide) rfl fl278 dX12_say_173 ?_
        refine lv_iload B.1 B.2.1 dX12_say_176 (lv_at hl 4 rfl) ?_
        refine m_ild (k := 69) (i := 49) (n := 12960) (z := a_o) (v := (A 69) a_o.toNat) B hM rfl rfl rfl (by decide) dX12_say_178 (by omega) (by omega) rfl ?_
        have r40 : (0 : Int) ≤ (A 69) a_o.toNat ∧ (A 69) a_o.toNat ≤ 6000 := hM.2.2.2.2 69 a_o.toNat
        refine lv_iload B.1 B.2.1 dX12_say_179 (lv_at hl 8 rfl) ?_
        refine q_add B dX12_say_181 ?_
        refine m_bld (k := 2) (i := 1) (n := 6000) (z := ((A 69) a_o.toNat) + v156_9) (v := (A 2) (((A 69) a_o.toNat) + v156_9).toNat) B hM rfl rfl rfl (by decide) dX12_say_182 (by omega) (by omega) rfl ?_
        have r41 : (-128 : Int) ≤ (A 2) (((A 69) a_o.toNat) + v156_9).toNat ∧ (A 2) (((A 69) a_o.toNat) + v156_9).toNat ≤ 127 := hM.2.2.2.2 2 (((A 69) a_o.toNat) + v156_9).toNat
        refine lv_istore (lv' := [(10, .int (II ((A 2) (((A 69) a_o.toNat) + v156_9).toNat))), (0, .ref h0), (1, .int (II a_f)), (2, .int (II a_p)), (3, .int (II a_m)), (4, .int (II a_o)), (5, .int (II v156_5)), (7, .int (II v156_7)), (8, .int (II v156_8)), (9, .int (II v156_9))]) B.1 B.2.1 dX12_say_183 hl (by decide) rfl (fun ls hl => ?_)
        refine lv_iload B.1 B.2.1 dX12_say_185 (lv_at hl 9 rfl) ?_
        refine q_con B dX12_say_187 ?_
        refine q_add B dX12_say_188 ?_
        refine lv_aload_n B.1 B.2.1 dX12_say_189 rfl (lv_at hl 1 rfl) ?_
        refine m_geta (k := 70) B hM (by decide) rfl fl281 dX12_say_190 ?_
        refine lv_iload B.1 B.2.1 dX12_say_193 (lv_at hl 5 rfl) ?_
        refine m_ild (k := 70) (i := 50) (n := 12960) (z := a_o) (v := (A 70) a_o.toNat) B hM rfl rfl rfl (by decide) dX12_say_195 (by omega) (by omega) rfl ?_
        refine q_cge (tgt := 248) B dX12_say_196 (by decide) (by unfold inr; omega) (by unfold inr; omega) (fun c42 => ?_) (fun c42 => ?_)
        · refine q_con B dX12_say_248 ?_
          have hv43 : ((-2147483648 : Int) ≤ v156_5 ∧ (v156_5 : Int) ≤ 2147483647) ∧ ((-2147483648 : Int) ≤ v156_7 ∧ (v156_7 : Int) ≤ 2147483647) ∧ ((-2147483648 : Int) ≤ v156_8 ∧ (v156_8 : Int) ≤ 2147483647) ∧ ((-2147483648 : Int) ≤ (A 2) (((A 69) a_o.toNat) + v156_9).toNat ∧ ((A 2) (((A 69) a_o.toNat) + v156_9).toNat : Int) ≤ 2147483647) ∧ ((-2147483648 : Int) ≤ 0 ∧ (0 : Int) ≤ 2147483647) ∧ ((v156_9) < (A 70) ((a_o)).toNat) ∧ (-128 ≤ ((A 2) (((A 69) a_o.toNat) + v156_9).toNat)) ∧ (((A 2) (((A 69) a_o.toNat) + v156_9).toNat) ≤ 127) := by first | omega | (simp only [wr_at] <;> omega) | exact ⟨by first | omega | (simp only [wr_at] <;> omega) | assumption | (intro _; exact wr_at _ _ _), by first | omega | (simp only [wr_at] <;> omega) | assumption | (intro _; exact wr_at _ _ _), by first | omega | (simp only [wr_at] <;> omega) | assumption | (intro _; exact wr_at _ _ _), by first | omega | (simp only [wr_at] <;> omega) | assumption | (intro _; exact wr_at _ _ _), by first | omega | (simp only [wr_at] <;> omega) | assumption | (intro _; exact wr_at _ _ _), by first | omega | (simp only [wr_at] <;> omega) | assumption | (intro _; exact wr_at _ _ _), by first | omega | (simp only [wr_at] <;> omega) | assumption | (intro _; exact wr_at _ _ _), by first | omega | (simp only [wr_at] <;> omega) | assumption | (intro _; exact wr_at _ _ _)⟩
          exact JJ249 v156_5 v156_7 v156_8 ((A 2) (((A 69) a_o.toNat) + v156_9).toNat) 0 _ _ ls hM (lv_sub hl [1, 2, 3, 4, 5, 6, 7, 8, 0, 9] rfl) hv43.1 hv43.2.1 hv43.2.2.1 hv43.2.2.2.1 hv43.2.2.2.2.1 hv43.2.2.2.2.2.1 hv43.2.2.2.2.2.2.1 hv43.2.2.2.2.2.2.2
        · refine lv_iload B.1 B.2.1 dX12_say_199 (lv_at hl 0 rfl) ?_
          refine q_bip B dX12_say_201 (by decide) ?_
          refine q_cne (tgt := 248) B dX12_say_203 (by decide) (by unfold inr; omega) (by unfold inr; omega) (fun c44 => ?_) (fun c44 => ?_)
          · refine q_con B dX12_say_248 ?_
            have hv45 : ((-2147483648 : Int) ≤ v156_5 ∧ (v156_5 : Int) ≤ 2147483647) ∧ ((-2147483648 : Int) ≤ v156_7 ∧ (v156_7 : Int) ≤ 2147483647) ∧ ((-2147483648 : Int) ≤ v156_8 ∧ (v156_8 : Int) ≤ 2147483647) ∧ ((-2147483648 : Int) ≤ (A 2) (((A 69) a_o.toNat) + v156_9).toNat ∧ ((A 2) (((A 69) a_o.toNat) + v156_9).toNat : Int) ≤ 2147483647) ∧ ((-2147483648 : Int) ≤ 0 ∧ (0 : Int) ≤ 2147483647) ∧ ((v156_9) < (A 70) ((a_o)).toNat) ∧ (-128 ≤ ((A 2) (((A 69) a_o.toNat) + v156_9).toNat)) ∧ (((A 2) (((A 69) a_o.toNat) + v156_9).toNat) ≤ 127) := by first | omega | (simp only [wr_at] <;> omega) | exact ⟨by first | omega | (simp only [wr_at] <;> omega) | assumption | (intro _; exact wr_at _ _ _), by first | omega | (simp only [wr_at] <;> omega) | assumption | (intro _; exact wr_at _ _ _), by first | omega | (simp only [wr_at] <;> omega) | assumption | (intro _; exact wr_at _ _ _), by first | omega | (simp only [wr_at] <;> omega) | assumption | (intro _; exact wr_at _ _ _), by first | omega | (simp only [wr_at] <;> omega) | assumption | (intro _; exact wr_at _ _ _), by first | omega | (simp only [wr_at] <;> omega) | assumption | (intro _; exact wr_at _ _ _), by first | omega | (simp only [wr_at] <;> omega) | assumption | (intro _; exact wr_at _ _ _), by first | omega | (simp only [wr_at] <;> omega) | assumption | (intro _; exact wr_at _ _ _)⟩
            exact JJ249 v156_5 v156_7 v156_8 ((A 2) (((A 69) a_o.toNat) + v156_9).toNat) 0 _ _ ls hM (lv_sub hl [1, 2, 3, 4, 5, 6, 7, 8, 0, 9] rfl) hv45.1 hv45.2.1 hv45.2.2.1 hv45.2.2.2.1 hv45.2.2.2.2.1 hv45.2.2.2.2.2.1 hv45.2.2.2.2.2.2.1 hv45.2.2.2.2.2.2.2
          · refine lv_aload_n B.1 B.2.1 dX12_say_206 rfl (lv_at hl 1 rfl) ?_
            refine m_geta (k := 2) B hM (by decide) rfl fl7 dX12_say_207 ?_
            refine lv_aload_n B.1 B.2.1 dX12_say_210 rfl (lv_at hl 1 rfl) ?_
            refine m_geta (k := 69) B hM (by decide) rfl fl278 dX12_say_211 ?_
            refine lv_iload B.1 B.2.1 dX12_say_214 (lv_at hl 5 rfl) ?_
            refine m_ild (k := 69) (i := 49) (n := 12960) (z := a_o) (v := (A 69) a_o.toNat) B hM rfl rfl rfl (by decide) dX12_say_216 (by omega) (by omega) rfl ?_
            refine lv_iload B.1 B.2.1 dX12_say_217 (lv_at hl 9 rfl) ?_
            refine q_add B dX12_say_219 ?_
            refine q_con B dX12_say_220 ?_
            refine q_add B dX12_say_221 ?_
            refine m_bld (k := 2) (i := 1) (n := 6000) (z := (((A 69) a_o.toNat) + v156_9) + 2) (v := (A 2) ((((A 69) a_o.toNat) + v156_9) + 2).toNat) B hM rfl rfl rfl (by decide) dX12_say_222 (by omega) (by omega) rfl ?_
            have r46 : (-128 : Int) ≤ (A 2) ((((A 69) a_o.toNat) + v156_9) + 2).toNat ∧ (A 2) ((((A 69) a_o.toNat) + v156_9) + 2).toNat ≤ 127 := hM.2.2.2.2 2 ((((A 69) a_o.toNat) + v156_9) + 2).toNat
            refine q_bip B dX12_say_223 (by decide) ?_
            refine q_cne (tgt := 248) B dX12_say_225 (by decide) (by unfold inr; omega) (by unfold inr; omega) (fun c47 => ?_) (fun c47 => ?_)
            · refine q_con B dX12_say_248 ?_
              have hv48 : ((-2147483648 : Int) ≤ v156_5 ∧ (v156_5 : Int) ≤ 2147483647) ∧ ((-2147483648 : Int) ≤ v156_7 ∧ (v156_7 : Int) ≤ 2147483647) ∧ ((-2147483648 : Int) ≤ v156_8 ∧ (v156_8 : Int) ≤ 2147483647) ∧ ((-2147483648 : Int) ≤ (A 2) (((A 69) a_o.toNat) + v156_9).toNat ∧ ((A 2) (((A 69) a_o.toNat) + v156_9).toNat : Int) ≤ 2147483647) ∧ ((-2147483648 : Int) ≤ 0 ∧ (0 : Int) ≤ 2147483647) ∧ ((v156_9) < (A 70) ((a_o)).toNat) ∧ (-128 ≤ ((A 2) (((A 69) a_o.toNat) + v156_9).toNat)) ∧ (((A 2) (((A 69) a_o.toNat) + v156_9).toNat) ≤ 127) := by first | omega | (simp only [wr_at] <;> omega) | exact ⟨by first | omega | (simp only [wr_at] <;> omega) | assumption | (intro _; exact wr_at _ _ _), by first | omega | (simp only [wr_at] <;> omega) | assumption | (intro _; exact wr_at _ _ _), by first | omega | (simp only [wr_at] <;> omega) | assumption | (intro _; exact wr_at _ _ _), by first | omega | (simp only [wr_at] <;> omega) | assumption | (intro _; exact wr_at _ _ _), by first | omega | (simp only [wr_at] <;> omega) | assumption | (intro _; exact wr_at _ _ _), by first | omega | (simp only [wr_at] <;> omega) | assumption | (intro _; exact wr_at _ _ _), by first | omega | (simp only [wr_at] <;> omega) | assumption | (intro _; exact wr_at _ _ _), by first | omega | (simp only [wr_at] <;> omega) | assumption | (intro _; exact wr_at _ _ _)⟩
              exact JJ249 v156_5 v156_7 v156_8 ((A 2) (((A 69) a_o.toNat) + v156_9).toNat) 0 _ _ ls hM (lv_sub hl [1, 2, 3, 4, 5, 6, 7, 8, 0, 9] rfl) hv48.1 hv48.2.1 hv48.2.2.1 hv48.2.2.2.1 hv48.2.2.2.2.1 hv48.2.2.2.2.2.1 hv48.2.2.2.2.2.2.1 hv48.2.2.2.2.2.2.2
            · refine lv_aload_n B.1 B.2.1 dX12_say_228 rfl (lv_at hl 1 rfl) ?_
              refine m_geta (k := 2) B hM (by decide) rfl fl7 dX12_say_229 ?_
              refine lv_aload_n B.1 B.2.1 dX12_say_232 rfl (lv_at hl 1 rfl) ?_
              refine m_geta (k := 69) B hM (by decide) rfl fl278 dX12_say_233 ?_
              refine lv_iload B.1 B.2.1 dX12_say_236 (lv_at hl 5 rfl) ?_
              refine m_ild (k := 69) (i := 49) (n := 12960) (z := a_o) (v := (A 69) a_o.toNat) B hM rfl rfl rfl (by decide) dX12_say_238 (by omega) (by omega) rfl ?_
              refine lv_iload B.1 B.2.1 dX12_say_239 (lv_at hl 9 rfl) ?_
              refine q_add B dX12_say_241 ?_
              refine q_con B dX12_say_242 ?_
              refine q_add B dX12_say_243 ?_
              refine m_bld (k := 2) (i := 1) (n := 6000) (z := (((A 69) a_o.toNat) + v156_9) + 1) (v := (A 2) ((((A 69) a_o.toNat) + v156_9) + 1).toNat) B hM rfl rfl rfl (by decide) dX12_say_244 (by omega) (by omega) rfl ?_
              have r49 : (-128 : Int) ≤ (A 2) ((((A 69) a_o.toNat) + v156_9) + 1).toNat ∧ (A 2) ((((A 69) a_o.toNat) + v156_9) + 1).toNat ≤ 127 := hM.2.2.2.2 2 ((((A 69) a_o.toNat) + v156_9) + 1).toNat
              refine lv_goto (tgt := 249) B.1 B.2.1 dX12_say_245 (by decide) ?_
              have hv50 : ((-2147483648 : Int) ≤ v156_5 ∧ (v156_5 : Int) ≤ 2147483647) ∧ ((-2147483648 : Int) ≤ v156_7 ∧ (v156_7 : Int) ≤ 2147483647) ∧ ((-2147483648 : Int) ≤ v156_8 ∧ (v156_8 : Int) ≤ 2147483647) ∧ ((-2147483648 : Int) ≤ (A 2) (((A 69) a_o.toNat) + v156_9).toNat ∧ ((A 2) (((A 69) a_o.toNat) + v156_9).toNat : Int) ≤ 2147483647) ∧ ((-2147483648 : Int) ≤ (A 2) ((((A 69) a_o.toNat) + v156_9) + 1).toNat ∧ ((A 2) ((((A 69) a_o.toNat) + v156_9) + 1).toNat : Int) ≤ 2147483647) ∧ ((v156_9) < (A 70) ((a_o)).toNat) ∧ (-128 ≤ ((A 2) (((A 69) a_o.toNat) + v156_9).toNat)) ∧ (((A 2) (((A 69) a_o.toNat) + v156_9).toNat) ≤ 127) := by first | omega | (simp only [wr_at] <;> omega) | exact ⟨by first | omega | (simp only [wr_at] <;> omega) | assumption | (intro _; exact wr_at _ _ _), by first | omega | (simp only [wr_at] <;> omega) | assumption | (intro _; exact wr_at _ _ _), by first | omega | (simp only [wr_at] <;> omega) | assumption | (intro _; exact wr_at _ _ _), by first | omega | (simp only [wr_at] <;> omega) | assumption | (intro _; exact wr_at _ _ _), by first | omega | (simp only [wr_at] <;> omega) | assumption | (intro _; exact wr_at _ _ _), by first | omega | (simp only [wr_at] <;> omega) | assumption | (intro _; exact wr_at _ _ _), by first | omega | (simp only [wr_at] <;> omega) | assumption | (intro _; exact wr_at _ _ _), by first | omega | (simp only [wr_at] <;> omega) | assumption | (intro _; exact wr_at _ _ _)⟩
              exact JJ249 v156_5 v156_7 v156_8 ((A 2) (((A 69) a_o.toNat) + v156_9).toNat) ((A 2) ((((A 69) a_o.toNat) + v156_9) + 1).toNat) _ _ ls hM (lv_sub hl [1, 2, 3, 4, 5, 6, 7, 8, 0, 9] rfl) hv50.1 hv50.2.1 hv50.2.2.1 hv50.2.2.2.1 hv50.2.2.2.2.1 hv50.2.2.2.2.2.1 hv50.2.2.2.2.2.2.1 hv50.2.2.2.2.2.2.2
  have JJ151 : ∀ (v151_5 : Int) (v151_7 : Int) (s151_0 : Int) (H : Heap) (locs : List Loc) (ls : Array Slot), (MWd D dA h0 ad (mF dA h0 ad (f, g, A, L) s.heap.size) s.heap ((up f [(128, 0)]), g, (up A [(117, (A 117)), (113, (A 113))]), L) H locs) → lv_has ls 12 [(0, .ref h0), (1, .int (II a_f)), (2, .int (II a_p)), (3, .int (II a_m)), (4, .int (II a_o)), (5, .int (II v151_5)), (7, .int (II v151_7))] → ((-2147483648 : Int) ≤ v151_5 ∧ v151_5 ≤ 2147483647) → ((-2147483648 : Int) ≤ v151_7 ∧ v151_7 ≤ 2147483647) → ((-2147483648 : Int) ≤ s151_0 ∧ s151_0 ≤ 2147483647) → W p l e ({ frames := 2, cells := 0, slots := 0, locals := 48 }) s m args below meth c H locs 0 0 (MQ below (mQv D dA h0 ad (f, g, A, L) s.heap.size PST) args s 0 0 (mF dA h0 ad (f, g, A, L) s.heap.size)) (F0 m 151 ls [.int (II s151_0)]) := by
    intro v151_5 v151_7 s151_0 H locs ls hM hl hJJ151_0 hJJ151_1 hJJ151_2
    refine lv_istore (lv' := [(8, .int (II s151_0)), (0, .ref h0), (1, .int (II a_f)), (2, .int (II a_p)), (3, .int (II a_m)), (4, .int (II a_o)), (5, .int (II v151_5)), (7, .int (II v151_7))]) B.1 B.2.1 dX12_say_151 hl (by decide) rfl (fun ls hl => ?_)
    refine q_con B dX12_say_153 ?_
    refine lv_istore (lv' := [(9, .int (II 0)), (8, .int (II s151_0)), (0, .ref h0), (1, .int (II a_f)), (2, .int (II a_p)), (3, .int (II a_m)), (4, .int (II a_o)), (5, .int (II v151_5)), (7, .int (II v151_7))]) B.1 B.2.1 dX12_say_154 hl (by decide) rfl (fun ls hl => ?_)
    have hv51 : ((-2147483648 : Int) ≤ v151_5 ∧ (v151_5 : Int) ≤ 2147483647) ∧ ((-2147483648 : Int) ≤ v151_7 ∧ (v151_7 : Int) ≤ 2147483647) ∧ ((-2147483648 : Int) ≤ s151_0 ∧ (s151_0 : Int) ≤ 2147483647) ∧ ((-2147483648 : Int) ≤ 0 ∧ (0 : Int) ≤ 2147483647) ∧ (0 ≤ (0 : Int)) ∧ ((0 : Int) ≤ 32) ∧ (0 ≤ (0 : Int)) ∧ ((0 : Int) ≤ 12 * (0 : Int)) ∧ (0 ≤ 40 - (0 : Int)) := by first | omega | (simp only [wr_at] <;> omega) | exact ⟨by first | omega | (simp only [wr_at] <;> omega) | assumption | (intro _; exact wr_at _ _ _), by first | omega | (simp only [wr_at] <;> omega) | assumption | (intro _; exact wr_at _ _ _), by first | omega | (simp only [wr_at] <;> omega) | assumption | (intro _; exact wr_at _ _ _), by first | omega | (simp only [wr_at] <;> omega) | assumption | (intro _; exact wr_at _ _ _), by first | omega | (simp only [wr_at] <;> omega) | assumption | (intro _; exact wr_at _ _ _), by first | omega | (simp only [wr_at] <;> omega) | assumption | (intro _; exact wr_at _ _ _), by first | omega | (simp only [wr_at] <;> omega) | assumption | (intro _; exact wr_at _ _ _), by first | omega | (simp only [wr_at] <;> omega) | assumption | (intro _; exact wr_at _ _ _), by first | omega | (simp only [wr_at] <;> omega) | assumption | (intro _; exact wr_at _ _ _)⟩
    exact LL156 (Int.toNat (40 - (0 : Int) + 1)) v151_5 v151_7 s151_0 0 0 ((A 117)) ((A 113)) _ _ ls hM (lv_sub hl [2, 3, 4, 5, 6, 7, 8, 1, 0] rfl) hv51.1 hv51.2.1 hv51.2.2.1 hv51.2.2.2.1 hv51.2.2.2.2.1 hv51.2.2.2.2.2.1 hv51.2.2.2.2.2.2.1 hv51.2.2.2.2.2.2.2.1 hv51.2.2.2.2.2.2.2.2 (by first | omega | (simp only [wr_at] <;> omega) | assumption | (intro _; exact wr_at _ _ _))
  have JJ118 : ∀ (v118_5 : Int) (v118_6 : Int) (s118_0 : Int) (H : Heap) (locs : List Loc) (ls : Array Slot), (MWd D dA h0 ad (mF dA h0 ad (f, g, A, L) s.heap.size) s.heap ((up f [(128, 0)]), g, (up A [(117, (A 117)), (113, (A 113))]), L) H locs) → lv_has ls 12 [(0, .ref h0), (1, .int (II a_f)), (2, .int (II a_p)), (3, .int (II a_m)), (4, .int (II a_o)), (5, .int (II v118_5)), (6, .int (II v118_6))] → ((-2147483648 : Int) ≤ v118_5 ∧ v118_5 ≤ 2147483647) → ((-2147483648 : Int) ≤ v118_6 ∧ v118_6 ≤ 2147483647) → ((-2147483648 : Int) ≤ s118_0 ∧ s118_0 ≤ 2147483647) → (0 ≤ (v118_6)) → ((v118_6) ≤ 1) → W p l e ({ frames := 2, cells := 0, slots := 0, locals := 48 }) s m args below meth c H locs 0 0 (MQ below (mQv D dA h0 ad (f, g, A, L) s.heap.size PST) args s 0 0 (mF dA h0 ad (f, g, A, L) s.heap.size)) (F0 m 118 ls [.int (II s118_0)]) := by
    intro v118_5 v118_6 s118_0 H locs ls hM hl hJJ118_0 hJJ118_1 hJJ118_2 hJJ118_3 hJJ118_4
    refine lv_istore (lv' := [(7, .int (II s118_0)), (0, .ref h0), (1, .int (II a_f)), (2, .int (II a_p)), (3, .int (II a_m)), (4, .int (II a_o)), (5, .int (II v118_5)), (6, .int (II v118_6))]) B.1 B.2.1 dX12_say_118 hl (by decide) rfl (fun ls hl => ?_)
    refine lv_iload B.1 B.2.1 dX12_say_120 (lv_at hl 7 rfl) ?_
    refine q_ieq (tgt := 150) B dX12_say_122 (by decide) (by unfold inr; omega) (fun c52 => ?_) (fun c52 => ?_)
    · refine q_con B dX12_say_150 ?_
      have hv53 : ((-2147483648 : Int) ≤ v118_5 ∧ (v118_5 : Int) ≤ 2147483647) ∧ ((-2147483648 : Int) ≤ s118_0 ∧ (s118_0 : Int) ≤ 2147483647) ∧ ((-2147483648 : Int) ≤ 0 ∧ (0 : Int) ≤ 2147483647) := by first | omega | (simp only [wr_at] <;> omega) | exact ⟨by first | omega | (simp only [wr_at] <;> omega) | assumption | (intro _; exact wr_at _ _ _), by first | omega | (simp only [wr_at] <;> omega) | assumption | (intro _; exact wr_at _ _ _), by first | omega | (simp only [wr_at] <;> omega) | assumption | (intro _; exact wr_at _ _ _)⟩
      exact JJ151 v118_5 s118_0 0 _ _ ls hM (lv_sub hl [1, 2, 3, 4, 5, 6, 0] rfl) hv53.1 hv53.2.1 hv53.2.2
    · refine lv_aload_n B.1 B.2.1 dX12_say_125 rfl (lv_at hl 1 rfl) ?_
      refine m_geta (k := 71) B hM (by decide) rfl fl284 dX12_say_126 ?_
      refine lv_iload B.1 B.2.1 dX12_say_129 (lv_at hl 5 rfl) ?_
      refine m_ild (k := 71) (i := 51) (n := 12960) (z := a_o) (v := (A 71) a_o.toNat) B hM rfl rfl rfl (by decide) dX12_say_131 (by omega) (by omega) rfl ?_
      have r54 : (0 : Int) ≤ (A 71) a_o.toNat ∧ (A 71) a_o.toNat ≤ 4 := hM.2.2.2.2 71 a_o.toNat
      refine q_con B dX12_say_132 ?_
      refine q_cle (tgt := 150) B dX12_say_133 (by decide) (by unfold inr; omega) (by unfold inr; omega) (fun c55 => ?_) (fun c55 => ?_)
      · refine q_con B dX12_say_150 ?_
        have hv56 : ((-2147483648 : Int) ≤ v118_5 ∧ (v118_5 : Int) ≤ 2147483647) ∧ ((-2147483648 : Int) ≤ s118_0 ∧ (s118_0 : Int) ≤ 2147483647) ∧ ((-2147483648 : Int) ≤ 0 ∧ (0 : Int) ≤ 2147483647) := by first | omega | (simp only [wr_at] <;> omega) | exact ⟨by first | omega | (simp only [wr_at] <;> omega) | assumption | (intro _; exact wr_at _ _ _), by first | omega | (simp only [wr_at] <;> omega) | assumption | (intro _; exact wr_at _ _ _), by first | omega | (simp only [wr_at] <;> omega) | assumption | (intro _; exact wr_at _ _ _)⟩
        exact JJ151 v118_5 s118_0 0 _ _ ls hM (lv_sub hl [1, 2, 3, 4, 5, 6, 0] rfl) hv56.1 hv56.2.1 hv56.2.2
      · refine lv_aload_n B.1 B.2.1 dX12_say_136 rfl (lv_at hl 1 rfl) ?_
        refine m_geta (k := 72) B hM (by decide) rfl fl288 dX12_say_137 ?_
        refine q_con B dX12_say_140 ?_
        refine lv_iload B.1 B.2.1 dX12_say_141 (lv_at hl 5 rfl) ?_
        refine q_mul B dX12_say_143 ?_
        refine q_con B dX12_say_144 ?_
        refine q_add B dX12_say_145 ?_
        refine m_ild (k := 72) (i := 52) (n := 51840) (z := (4 * a_o) + 1) (v := (A 72) ((4 * a_o) + 1).toNat) B hM rfl rfl rfl (by decide) dX12_say_146 (by omega) (by omega) rfl ?_
        have r57 : (-2147483648 : Int) ≤ (A 72) ((4 * a_o) + 1).toNat ∧ (A 72) ((4 * a_o) + 1).toNat ≤ 2147483647 := hM.2.2.2.2 72 ((4 * a_o) + 1).toNat
        refine lv_goto (tgt := 151) B.1 B.2.1 dX12_say_147 (by decide) ?_
        have hv58 : ((-2147483648 : Int) ≤ v118_5 ∧ (v118_5 : Int) ≤ 2147483647) ∧ ((-2147483648 : Int) ≤ s118_0 ∧ (s118_0 : Int) ≤ 2147483647) ∧ ((-2147483648 : Int) ≤ (A 72) ((4 * a_o) + 1).toNat ∧ ((A 72) ((4 * a_o) + 1).toNat : Int) ≤ 2147483647) := by first | omega | (simp only [wr_at] <;> omega) | exact ⟨by first | omega | (simp only [wr_at] <;> omega) | assumption | (intro _; exact wr_at _ _ _), by first | omega | (simp only [wr_at] <;> omega) | assumption | (intro _; exact wr_at _ _ _), by first | omega | (simp only [wr_at] <;> omega) | assumption | (intro _; exact wr_at _ _ _)⟩
        exact JJ151 v118_5 s118_0 ((A 72) ((4 * a_o) + 1).toNat) _ _ ls hM (lv_sub hl [1, 2, 3, 4, 5, 6, 0] rfl) hv58.1 hv58.2.1 hv58.2.2
  have JJ88 : ∀ (v88_5 : Int) (s88_0 : Int) (H : Heap) (locs : List Loc) (ls : Array Slot), (MWd D dA h0 ad (mF dA h0 ad (f, g, A, L) s.heap.size) s.heap ((up f [(128, 0)]), g, (up A [(117, (A 117)), (113, (A 113))]), L) H locs) → lv_has ls 12 [(0, .ref h0), (1, .int (II a_f)), (2, .int (II a_p)), (3, .int (II a_m)), (4, .int (II a_o)), (5, .int (II v88_5))] → ((-2147483648 : Int) ≤ v88_5 ∧ v88_5 ≤ 2147483647) → ((-2147483648 : Int) ≤ s88_0 ∧ s88_0 ≤ 2147483647) → (0 ≤ (s88_0)) → ((s88_0) ≤ 1) → W p l e ({ frames := 2, cells := 0, slots := 0, locals := 48 }) s m args below meth c H locs 0 0 (MQ below (mQv D dA h0 ad (f, g, A, L) s.heap.size PST) args s 0 0 (mF dA h0 ad (f, g, A, L) s.heap.size)) (F0 m 88 ls [.int (II s88_0)]) := by
    intro v88_5 s88_0 H locs ls hM hl hJJ88_0 hJJ88_1 hJJ88_2 hJJ88_3
    refine lv_istore (lv' := [(6, .int (II s88_0)), (0, .ref h0), (1, .int (II a_f)), (2, .int (II a_p)), (3, .int (II a_m)), (4, .int (II a_o)), (5, .int (II v88_5))]) B.1 B.2.1 dX12_say_88 hl (by decide) rfl (fun ls hl => ?_)
    refine lv_iload B.1 B.2.1 dX12_say_90 (lv_at hl 0 rfl) ?_
    refine q_ieq (tgt := 117) B dX12_say_92 (by decide) (by unfold inr; omega) (fun c59 => ?_) (fun c59 => ?_)
    · refine q_con B dX12_say_117 ?_
      have hv60 : ((-2147483648 : Int) ≤ v88_5 ∧ (v88_5 : Int) ≤ 2147483647) ∧ ((-2147483648 : Int) ≤ s88_0 ∧ (s88_0 : Int) ≤ 2147483647) ∧ ((-2147483648 : Int) ≤ 0 ∧ (0 : Int) ≤ 2147483647) ∧ (0 ≤ (s88_0)) ∧ ((s88_0) ≤ 1) := by first | omega | (simp only [wr_at] <;> omega) | exact ⟨by first | omega | (simp only [wr_at] <;> omega) | assumption | (intro _; exact wr_at _ _ _), by first | omega | (simp only [wr_at] <;> omega) | assumption | (intro _; exact wr_at _ _ _), by first | omega | (simp only [wr_at] <;> omega) | assumption | (intro _; exact wr_at _ _ _), by first | omega | (simp only [wr_at] <;> omega) | assumption | (intro _; exact wr_at _ _ _), by first | omega | (simp only [wr_at] <;> omega) | assumption | (intro _; exact wr_at _ _ _)⟩
      exact JJ118 v88_5 s88_0 0 _ _ ls hM (lv_sub hl [1, 2, 3, 4, 5, 6, 0] rfl) hv60.1 hv60.2.1 hv60.2.2.1 hv60.2.2.2.1 hv60.2.2.2.2
    · refine lv_aload_n B.1 B.2.1 dX12_say_95 rfl (lv_at hl 1 rfl) ?_
      refine m_geta (k := 71) B hM (by decide) rfl fl284 dX12_say_96 ?_
      refine lv_iload B.1 B.2.1 dX12_say_99 (lv_at hl 5 rfl) ?_
      refine m_ild (k := 71) (i := 51) (n := 12960) (z := a_o) (v := (A 71) a_o.toNat) B hM rfl rfl rfl (by decide) dX12_say_101 (by omega) (by omega) rfl ?_
      have r61 : (0 : Int) ≤ (A 71) a_o.toNat ∧ (A 71) a_o.toNat ≤ 4 := hM.2.2.2.2 71 a_o.toNat
      refine q_ile (tgt := 117) B dX12_say_102 (by decide) (by unfold inr; omega) (fun c62 => ?_) (fun c62 => ?_)
      · refine q_con B dX12_say_117 ?_
        have hv63 : ((-2147483648 : Int) ≤ v88_5 ∧ (v88_5 : Int) ≤ 2147483647) ∧ ((-2147483648 : Int) ≤ s88_0 ∧ (s88_0 : Int) ≤ 2147483647) ∧ ((-2147483648 : Int) ≤ 0 ∧ (0 : Int) ≤ 2147483647) ∧ (0 ≤ (s88_0)) ∧ ((s88_0) ≤ 1) := by first | omega | (simp only [wr_at] <;> omega) | exact ⟨by first | omega | (simp only [wr_at] <;> omega) | assumption | (intro _; exact wr_at _ _ _), by first | omega | (simp only [wr_at] <;> omega) | assumption | (intro _; exact wr_at _ _ _), by first | omega | (simp only [wr_at] <;> omega) | assumption | (intro _; exact wr_at _ _ _), by first | omega | (simp only [wr_at] <;> omega) | assumption | (intro _; exact wr_at _ _ _), by first | omega | (simp only [wr_at] <;> omega) | assumption | (intro _; exact wr_at _ _ _)⟩
        exact JJ118 v88_5 s88_0 0 _ _ ls hM (lv_sub hl [1, 2, 3, 4, 5, 6, 0] rfl) hv63.1 hv63.2.1 hv63.2.2.1 hv63.2.2.2.1 hv63.2.2.2.2
      · refine lv_aload_n B.1 B.2.1 dX12_say_105 rfl (lv_at hl 1 rfl) ?_
        refine m_geta (k := 72) B hM (by decide) rfl fl288 dX12_say_106 ?_
        refine q_con B dX12_say_109 ?_
        refine lv_iload B.1 B.2.1 dX12_say_110 (lv_at hl 5 rfl) ?_
        refine q_mul B dX12_say_112 ?_
        refine m_ild (k := 72) (i := 52) (n := 51840) (z := 4 * a_o) (v := (A 72) (4 * a_o).toNat) B hM rfl rfl rfl (by decide) dX12_say_113 (by omega) (by omega) rfl ?_
        have r64 : (-2147483648 : Int) ≤ (A 72) (4 * a_o).toNat ∧ (A 72) (4 * a_o).toNat ≤ 2147483647 := hM.2.2.2.2 72 (4 * a_o).toNat
        refine lv_goto (tgt := 118) B.1 B.2.1 dX12_say_114 (by decide) ?_
        have hv65 : ((-2147483648 : Int) ≤ v88_5 ∧ (v88_5 : Int) ≤ 2147483647) ∧ ((-2147483648 : Int) ≤ s88_0 ∧ (s88_0 : Int) ≤ 2147483647) ∧ ((-2147483648 : Int) ≤ (A 72) (4 * a_o).toNat ∧ ((A 72) (4 * a_o).toNat : Int) ≤ 2147483647) ∧ (0 ≤ (s88_0)) ∧ ((s88_0) ≤ 1) := by first | omega | (simp only [wr_at] <;> omega) | exact ⟨by first | omega | (simp only [wr_at] <;> omega) | assumption | (intro _; exact wr_at _ _ _), by first | omega | (simp only [wr_at] <;> omega) | assumption | (intro _; exact wr_at _ _ _), by first | omega | (simp only [wr_at] <;> omega) | assumption | (intro _; exact wr_at _ _ _), by first | omega | (simp only [wr_at] <;> omega) | assumption | (intro _; exact wr_at _ _ _), by first | omega | (simp only [wr_at] <;> omega) | assumption | (intro _; exact wr_at _ _ _)⟩
        exact JJ118 v88_5 s88_0 ((A 72) (4 * a_o).toNat) _ _ ls hM (lv_sub hl [1, 2, 3, 4, 5, 6, 0] rfl) hv65.1 hv65.2.1 hv65.2.2.1 hv65.2.2.2.1 hv65.2.2.2.2
  have JJ57 : ∀ (s57_0 : Int) (H : Heap) (locs : List Loc) (ls : Array Slot), (MWd D dA h0 ad (mF dA h0 ad (f, g, A, L) s.heap.size) s.heap ((up f [(128, 0)]), g, (up A [(117, (A 117)), (113, (A 113))]), L) H locs) → lv_has ls 12 [(0, .ref h0), (1, .int (II a_f)), (2, .int (II a_p)), (3, .int (II a_m)), (4, .int (II a_o))] → ((-2147483648 : Int) ≤ s57_0 ∧ s57_0 ≤ 2147483647) → W p l e ({ frames := 2, cells := 0, slots := 0, locals := 48 }) s m args below meth c H locs 0 0 (MQ below (mQv D dA h0 ad (f, g, A, L) s.heap.size PST) args s 0 0 (mF dA h0 ad (f, g, A, L) s.heap.size)) (F0 m 57 ls [.int (II s57_0)]) := by
    intro s57_0 H locs ls hM hl hJJ57_0
    refine lv_istore (lv' := [(5, .int (II s57_0)), (0, .ref h0), (1, .int (II a_f)), (2, .int (II a_p)), (3, .int (II a_m)), (4, .int (II a_o))]) B.1 B.2.1 dX12_say_57 hl (by decide) rfl (fun ls hl => ?_)
    refine lv_aload_n B.1 B.2.1 dX12_say_59 rfl (lv_at hl 1 rfl) ?_
    refine m_geta (k := 65) B hM (by decide) rfl fl266 dX12_say_60 ?_
    refine lv_iload B.1 B.2.1 dX12_say_63 (lv_at hl 5 rfl) ?_
    refine m_ild (k := 65) (i := 45) (n := 12960) (z := a_o) (v := (A 65) a_o.toNat) B hM rfl rfl rfl (by decide) dX12_say_65 (by omega) (by omega) rfl ?_
    have r66 : (0 : Int) ≤ (A 65) a_o.toNat ∧ (A 65) a_o.toNat ≤ 115 := hM.2.2.2.2 65 a_o.toNat
    refine q_bip B dX12_say_66 (by decide) ?_
    refine q_ceq (tgt := 87) B dX12_say_68 (by decide) (by unfold inr; omega) (by unfold inr; omega) (fun c67 => ?_) (fun c67 => ?_)
    · refine q_con B dX12_say_87 ?_
      have hv68 : ((-2147483648 : Int) ≤ s57_0 ∧ (s57_0 : Int) ≤ 2147483647) ∧ ((-2147483648 : Int) ≤ 0 ∧ (0 : Int) ≤ 2147483647) ∧ (0 ≤ (0 : Int)) ∧ ((0 : Int) ≤ 1) := by first | omega | (simp only [wr_at] <;> omega) | exact ⟨by first | omega | (simp only [wr_at] <;> omega) | assumption | (intro _; exact wr_at _ _ _), by first | omega | (simp only [wr_at] <;> omega) | assumption | (intro _; exact wr_at _ _ _), by first | omega | (simp only [wr_at] <;> omega) | assumption | (intro _; exact wr_at _ _ _), by first | omega | (simp only [wr_at] <;> omega) | assumption | (intro _; exact wr_at _ _ _)⟩
      exact JJ88 s57_0 0 _ _ ls hM (lv_sub hl [1, 2, 3, 4, 5, 0] rfl) hv68.1 hv68.2.1 hv68.2.2.1 hv68.2.2.2
    · refine lv_aload_n B.1 B.2.1 dX12_say_71 rfl (lv_at hl 1 rfl) ?_
      refine m_geta (k := 65) B hM (by decide) rfl fl266 dX12_say_72 ?_
      refine lv_iload B.1 B.2.1 dX12_say_75 (lv_at hl 5 rfl) ?_
      refine m_ild (k := 65) (i := 45) (n := 12960) (z := a_o) (v := (A 65) a_o.toNat) B hM rfl rfl rfl (by decide) dX12_say_77 (by omega) (by omega) rfl ?_
      refine q_bip B dX12_say_78 (by decide) ?_
      refine q_ceq (tgt := 87) B dX12_say_80 (by decide) (by unfold inr; omega) (by unfold inr; omega) (fun c69 => ?_) (fun c69 => ?_)
      · refine q_con B dX12_say_87 ?_
        have hv70 : ((-2147483648 : Int) ≤ s57_0 ∧ (s57_0 : Int) ≤ 2147483647) ∧ ((-2147483648 : Int) ≤ 0 ∧ (0 : Int) ≤ 2147483647) ∧ (0 ≤ (0 : Int)) ∧ ((0 : Int) ≤ 1) := by first | omega | (simp only [wr_at] <;> omega) | exact ⟨by first | omega | (simp only [wr_at] <;> omega) | assumption | (intro _; exact wr_at _ _ _), by first | omega | (simp only [wr_at] <;> omega) | assumption | (intro _; exact wr_at _ _ _), by first | omega | (simp only [wr_at] <;> omega) | assumption | (intro _; exact wr_at _ _ _), by first | omega | (simp only [wr_at] <;> omega) | assumption | (intro _; exact wr_at _ _ _)⟩
        exact JJ88 s57_0 0 _ _ ls hM (lv_sub hl [1, 2, 3, 4, 5, 0] rfl) hv70.1 hv70.2.1 hv70.2.2.1 hv70.2.2.2
      · refine q_con B dX12_say_83 ?_
        refine lv_goto (tgt := 88) B.1 B.2.1 dX12_say_84 (by decide) ?_
        have hv71 : ((-2147483648 : Int) ≤ s57_0 ∧ (s57_0 : Int) ≤ 2147483647) ∧ ((-2147483648 : Int) ≤ 1 ∧ (1 : Int) ≤ 2147483647) ∧ (0 ≤ (1 : Int)) ∧ ((1 : Int) ≤ 1) := by first | omega | (simp only [wr_at] <;> omega) | exact ⟨by first | omega | (simp only [wr_at] <;> omega) | assumption | (intro _; exact wr_at _ _ _), by first | omega | (simp only [wr_at] <;> omega) | assumption | (intro _; exact wr_at _ _ _), by first | omega | (simp only [wr_at] <;> omega) | assumption | (intro _; exact wr_at _ _ _), by first | omega | (simp only [wr_at] <;> omega) | assumption | (intro _; exact wr_at _ _ _)⟩
        exact JJ88 s57_0 1 _ _ ls hM (lv_sub hl [1, 2, 3, 4, 5, 0] rfl) hv71.1 hv71.2.1 hv71.2.2.1 hv71.2.2.2
  refine lv_aload_n B.1 B.2.1 dX12_say_0 rfl (lv_at hl 0 rfl) ?_
  refine q_con B dX12_say_1 ?_
  refine m_put (k := 128) B hM (by decide) rfl fl692 rfl dX12_say_2 rfl rfl (show (0 : Int) ≤ 0 from by first | omega | (simp only [wr_at] <;> omega)) (show 0 ≤ (1000 : Int) from by first | omega | (simp only [wr_at] <;> omega)) (u1_up f [(128, f 128)] 128 0) (fun H locs hM => ?_)
  replace hM : MWd D dA h0 ad (mF dA h0 ad (f, g, A, L) s.heap.size) s.heap ((up f [(128, 0)]), g, (up A [(117, (A 117)), (113, (A 113))]), L) H locs := hM
  refine lv_iload_n B.1 B.2.1 dX12_say_5 rfl (lv_at hl 3 rfl) ?_
  refine q_ige (tgt := 13) B dX12_say_6 (by decide) (by unfold inr; omega) (fun c72 => ?_) (fun c72 => ?_)
  · refine lv_aload_n B.1 B.2.1 dX12_say_13 rfl (lv_at hl 0 rfl) ?_
    refine lv_aload_n B.1 B.2.1 dX12_say_14 rfl (lv_at hl 0 rfl) ?_
    refine m_geta (k := 83) B hM (by decide) rfl fl315 dX12_say_15 ?_
    refine lv_iload_n B.1 B.2.1 dX12_say_18 rfl (lv_at hl 2 rfl) ?_
    refine m_ild (k := 83) (i := 61) (n := 200) (z := a_p) (v := (A 83) a_p.toNat) B hM rfl rfl rfl (by decide) dX12_say_19 (by omega) (by omega) rfl ?_
    have r73 : (0 : Int) ≤ (A 83) a_p.toNat ∧ (A 83) a_p.toNat ≤ 15 := hM.2.2.2.2 83 a_p.toNat
    refine lv_iload_n B.1 B.2.1 dX12_say_20 rfl (lv_at hl 3 rfl) ?_
    have hv74 : ((-2147483648 : Int) ≤ (A 83) a_p.toNat ∧ ((A 83) a_p.toNat : Int) ≤ 2147483647) ∧ ((-2147483648 : Int) ≤ a_m ∧ (a_m : Int) ≤ 2147483647) ∧ (0 ≤ ((A 83) a_p.toNat)) ∧ (((A 83) a_p.toNat) ≤ 15) ∧ ((a_m) ≤ 11) := by first | omega | (simp only [wr_at] <;> omega) | exact ⟨by first | omega | (simp only [wr_at] <;> omega) | assumption | (intro _; exact wr_at _ _ _), by first | omega | (simp only [wr_at] <;> omega) | assumption | (intro _; exact wr_at _ _ _), by first | omega | (simp only [wr_at] <;> omega) | assumption | (intro _; exact wr_at _ _ _), by first | omega | (simp only [wr_at] <;> omega) | assumption | (intro _; exact wr_at _ _ _), by first | omega | (simp only [wr_at] <;> omega) | assumption | (intro _; exact wr_at _ _ _)⟩
    refine m_calli (n := 2) (rest := []) B hM hA hl.1 (k_typeOf l D dA h0 ad (up f [(128, 0)]) g (up A [(117, (A 117)), (113, (A 113))]) L ((A 83) a_p.toNat) a_m hv74.1 hv74.2.1 hv74.2.2.1 hv74.2.2.2.1 hv74.2.2.2.2) rfl ok_typeOf nm_typeOf ⟨rfl, rfl⟩ ⟨Nat.le_of_ble_eq_true rfl, Nat.le_of_ble_eq_true rfl⟩ dX12_say_21 rfl rfl (Nat.le_of_ble_eq_true rfl) ⟨Nat.zero_le _, Nat.zero_le _⟩ (fun r75 σr75 H locs ir75 hp76 hM => ?_)
    obtain ⟨rfl, hp76⟩ := hp76
    unfold inr at ir75
    replace hp76 : ((a_m) < 0 → r75 = -1) ∧ (0 ≤ (a_m) → r75 = (A 42) ((A 38) (12 * (16 * (f 3) + ((A 83) a_p.toNat)) + (a_m)).toNat).toNat) ∧ -1 ≤ r75 ∧ r75 ≤ 3 ∧ (0 ≤ (a_m) → 0 ≤ r75) := hp76
    obtain ⟨hp76_0, hp76_1, hp76_2, hp76_3, hp76_4⟩ := hp76
    refine q_con B dX12_say_24 ?_
    refine q_cne (tgt := 50) B dX12_say_25 (by decide) (by unfold inr; omega) (by unfold inr; omega) (fun c77 => ?_) (fun c77 => ?_)
    · refine lv_aload_n B.1 B.2.1 dX12_say_50 rfl (lv_at hl 0 rfl) ?_
      refine lv_iload_n B.1 B.2.1 dX12_say_51 rfl (lv_at hl 2 rfl) ?_
      refine lv_iload_n B.1 B.2.1 dX12_say_52 rfl (lv_at hl 3 rfl) ?_
      refine q_con B dX12_say_53 ?_
      have hv78 : ((-2147483648 : Int) ≤ a_p ∧ (a_p : Int) ≤ 2147483647) ∧ ((-2147483648 : Int) ≤ a_m ∧ (a_m : Int) ≤ 2147483647) ∧ ((-2147483648 : Int) ≤ 1 ∧ (1 : Int) ≤ 2147483647) := by first | omega | (simp only [wr_at] <;> omega) | exact ⟨by first | omega | (simp only [wr_at] <;> omega) | assumption | (intro _; exact wr_at _ _ _), by first | omega | (simp only [wr_at] <;> omega) | assumption | (intro _; exact wr_at _ _ _), by first | omega | (simp only [wr_at] <;> omega) | assumption | (intro _; exact wr_at _ _ _)⟩
      refine m_calli (n := 3) (rest := []) B hM hA hl.1 (k_value l D dA h0 ad (up f [(128, 0)]) g (up A [(117, (A 117)), (113, (A 113))]) L a_p a_m 1 hv78.1 hv78.2.1 hv78.2.2 ) rfl ok_value nm_value ⟨rfl, rfl⟩ ⟨Nat.le_of_ble_eq_true rfl, Nat.le_of_ble_eq_true rfl⟩ dX12_say_54 rfl rfl (Nat.le_of_ble_eq_true rfl) ⟨Nat.zero_le _, Nat.zero_le _⟩ (fun r79 σr79 H locs ir79 hp80 hM => ?_)
      obtain ⟨rfl, hp80⟩ := hp80
      unfold inr at ir79
      replace hp80 : True := hp80
      exact JJ57 r79 _ _ ls hM (lv_sub hl [0, 1, 2, 3, 4] rfl) (by first | omega | (simp only [wr_at] <;> omega) | assumption | (intro _; exact wr_at _ _ _))
    · refine lv_aload_n B.1 B.2.1 dX12_say_28 rfl (lv_at hl 0 rfl) ?_
      refine m_geta (k := 89) B hM (by decide) rfl fl334 dX12_say_29 ?_
      refine q_bip B dX12_say_32 (by decide) ?_
      refine lv_iload_n B.1 B.2.1 dX12_say_34 rfl (lv_at hl 2 rfl) ?_
      refine q_mul B dX12_say_35 ?_
      refine lv_iload_n B.1 B.2.1 dX12_say_36 rfl (lv_at hl 3 rfl) ?_
      refine q_add B dX12_say_37 ?_
      refine m_zld (k := 89) (i := 67) (n := 2400) (z := (12 * a_p) + a_m) (v := (A 89) ((12 * a_p) + a_m).toNat) B hM rfl rfl rfl (by decide) dX12_say_38 (by omega) (by omega) rfl ?_
      have r81 : (0 : Int) ≤ (A 89) ((12 * a_p) + a_m).toNat ∧ (A 89) ((12 * a_p) + a_m).toNat ≤ 1 := hM.2.2.2.2 89 ((12 * a_p) + a_m).toNat
      refine q_ieq (tgt := 46) B dX12_say_39 (by decide) (by unfold inr; omega) (fun c82 => ?_) (fun c82 => ?_)
      · refine q_con B dX12_say_46 ?_
        refine lv_goto (tgt := 57) B.1 B.2.1 dX12_say_47 (by decide) ?_
        exact JJ57 0 _ _ ls hM (lv_sub hl [0, 1, 2, 3, 4] rfl) (by first | omega | (simp only [wr_at] <;> omega) | assumption | (intro _; exact wr_at _ _ _))
      · refine q_con B dX12_say_42 ?_
        refine lv_goto (tgt := 57) B.1 B.2.1 dX12_say_43 (by decide) ?_
        exact JJ57 1 _ _ ls hM (lv_sub hl [0, 1, 2, 3, 4] rfl) (by first | omega | (simp only [wr_at] <;> omega) | assumption | (intro _; exact wr_at _ _ _))
  · refine q_con B dX12_say_9 ?_
    refine lv_goto (tgt := 57) B.1 B.2.1 dX12_say_10 (by decide) ?_
    exact JJ57 0 _ _ ls hM (lv_sub hl [0, 1, 2, 3, 4] rfl) (by first | omega | (simp only [wr_at] <;> omega) | assumption | (intro _; exact wr_at _ _ _))
