theorem can_rng {op p d : Int} (hc : canOp op p) (hd : d = dl op) (h0 : 0 ≤ p) (h1 : p ≤ 16) : 0 ≤ p + d ∧ p + d ≤ 16 := by
  obtain ⟨c1, c2, c3⟩ := hc
  by_cases e : op = 110 ∨ op = 118 ∨ op = 97 ∨ op = 98
  · rw [hd, dl_push e]; have := c1 e; omega
  · by_cases e2 : op = 126
    · rw [hd, dl_not e2]; have := c2 e2; omega
    · rw [hd, dl_bin e e2]; have := c3 e e2; omega
set_option maxHeartbeats 4000000 in
set_option maxRecDepth 20000 in
theorem k_readGroup (l : Launch) (D : va_G) (dA : Nat → ClassId) (h0 : Nat) (ad : Nat → Nat) (f : Nat → Int) (g : Nat → Int64) (A : Nat → Nat → Int) (L : Nat → Nat → Int64) (p_0 : (0 ≤ (f 8) ∧ (f 8) ≤ (f 4) ∧ (f 8) ≤ (f 9) ∧ (f 9) ≤ (f 4) + 1 ∧ ((f 7) = 0 ↔ (f 8) = (f 4)) ∧ (2 ≤ (f 7) → (f 8) < (f 9) ∧ (f 9) ≤ (f 4)) ∧ ((f 7) = 5 → (f 8) + 2 ≤ (f 9) ∧ (f 9) ≤ (f 8) + 32))) (p_1 : (f 56) ≤ 6) (p_2 : (f 15) ≤ 62) (p_3 : 2 * (f 22) ≤ (f 8)) (p_4 : NIp (f 5) (f 15) (f 3) (f 58) (f 59) (A 13) (A 14)) (p_5 : AIp (f 22) (A 18) (A 20) (A 21)) : MCv l yX12_readGroup cX12_readGroup 4 ({ frames := 4, cells := 0, slots := 0, locals := 89 }) D dA h0 ad (f, g, A, L) [] (fun (σ : MS) => ∃ n8 : Int, ∃ n9 : Int, ∃ n7 : Int, ∃ n10 : Int, ∃ n5 : Int, ∃ n6 : Int, ∃ n15 : Int, ∃ n22 : Int, ∃ n56 : Int, ∃ n11 : Int64, ∃ b13 : Nat → Int, ∃ b14 : Nat → Int, ∃ b17 : Nat → Int, ∃ b18 : Nat → Int, ∃ b19 : Nat → Int, ∃ b20 : Nat → Int, ∃ b21 : Nat → Int, ∃ b23 : Nat → Int, ∃ b12 : Nat → Int64, ∃ b16 : Nat → Int64, σ = ((up f [(8, n8), (9, n9), (7, n7), (10, n10), (5, n5), (6, n6), (15, n15), (22, n22), (56, n56)]), (up g [(11, n11)]), (up A [(13, b13), (14, b14), (17, b17), (18, b18), (19, b19), (20, b20), (21, b21), (23, b23)]), (up L [(12, b12), (16, b16)])) ∧ (((0 ≤ (n8) ∧ (n8) ≤ (f 4) ∧ (n8) ≤ (n9) ∧ (n9) ≤ (f 4) + 1 ∧ ((n7) = 0 ↔ (n8) = (f 4)) ∧ (2 ≤ (n7) → (n8) < (n9) ∧ (n9) ≤ (f 4)) ∧ ((n7) = 5 → (n8) + 2 ≤ (n9) ∧ (n9) ≤ (n8) + 32))) ∧ (f 8) ≤ (n8) ∧ ((n5) = 0 → (f 5) = 0 ∧ (f 8) + 1 ≤ (n8) ∧ (n15) = (f 15) + 1 ∧ (n56) = (f 56) + 1 ∧ 2 * (n22) ≤ (n8)) ∧ (f 15) ≤ (n15) ∧ (n15) ≤ (f 15) + 1 ∧ 2 * (n22) ≤ (n8) + 1 ∧ (f 22) ≤ (n22) ∧ NIp (n5) (n15) (f 3) (f 58) (f 59) b13 b14 ∧ AIp (n22) b18 b20 b21 ∧ APe (f 22) (A 20) (A 21) b20 b21)) := by
  generalize hPST : (fun (σ : MS) => ∃ n8 : Int, ∃ n9 : Int, ∃ n7 : Int, ∃ n10 : Int, ∃ n5 : Int, ∃ n6 : Int, ∃ n15 : Int, ∃ n22 : Int, ∃ n56 : Int, ∃ n11 : Int64, ∃ b13 : Nat → Int, ∃ b14 : Nat → Int, ∃ b17 : Nat → Int, ∃ b18 : Nat → Int, ∃ b19 : Nat → Int, ∃ b20 : Nat → Int, ∃ b21 : Nat → Int, ∃ b23 : Nat → Int, ∃ b12 : Nat → Int64, ∃ b16 : Nat → Int64, σ = ((up f [(8, n8), (9, n9), (7, n7), (10, n10), (5, n5), (6, n6), (15, n15), (22, n22), (56, n56)]), (up g [(11, n11)]), (up A [(13, b13), (14, b14), (17, b17), (18, b18), (19, b19), (20, b20), (21, b21), (23, b23)]), (up L [(12, b12), (16, b16)])) ∧ (((0 ≤ (n8) ∧ (n8) ≤ (f 4) ∧ (n8) ≤ (n9) ∧ (n9) ≤ (f 4) + 1 ∧ ((n7) = 0 ↔ (n8) = (f 4)) ∧ (2 ≤ (n7) → (n8) < (n9) ∧ (n9) ≤ (f 4)) ∧ ((n7) = 5 → (n8) + 2 ≤ (n9) ∧ (n9) ≤ (n8) + 32))) ∧ (f 8) ≤ (n8) ∧ ((n5) = 0 → (f 5) = 0 ∧ (f 8) + 1 ≤ (n8) ∧ (n15) = (f 15) + 1 ∧ (n56) = (f 56) + 1 ∧ 2 * (n22) ≤ (n8)) ∧ (f 15) ≤ (n15) ∧ (n15) ≤ (f 15) + 1 ∧ 2 * (n22) ≤ (n8) + 1 ∧ (f 22) ≤ (n22) ∧ NIp (n5) (n15) (f 3) (f 58) (f 59) b13 b14 ∧ AIp (n22) b18 b20 b21 ∧ APe (f 22) (A 20) (A 21) b20 b21)) = PST
  refine m_enterv (by decide) rfl (Nat.le_of_ble_eq_true rfl) (fun p e s m args below meth c ls B hM hl => ?_)
  have hA : ∀ q, s.heap.size ≤ q → mF dA h0 ad (f, g, A, L) s.heap.size q := fun q h => Or.inr h
  have hM : MWd D dA h0 ad (mF dA h0 ad (f, g, A, L) s.heap.size) s.heap ((up f [(8, f 8), (9, f 9), (7, f 7), (10, f 10), (5, f 5), (6, f 6), (15, f 15), (22, f 22), (56, f 56)]), (up g [(11, g 11)]), (up A [(13, (A 13)), (14, (A 14)), (17, (A 17)), (18, (A 18)), (19, (A 19)), (20, (A 20)), (21, (A 21)), (23, (A 23))]), (up L [(12, (L 12)), (16, (L 16))])) s.heap [] := MW_pad hM (up_self f [8, 9, 7, 10, 5, 6, 15, 22, 56]) (up_self g [11]) (up_self A [13, 14, 17, 18, 19, 20, 21, 23]) (up_self L [12, 16])
  have hl : lv_has ls 4 [(0, .ref h0)] := hl
  have r1 : (0 : Int) ≤ f 3 ∧ f 3 ≤ 1 := hM.2.2.2.1 3
  have r2 : (0 : Int) ≤ f 4 ∧ f 4 ≤ 3000 := hM.2.2.2.1 4
  have r3 : (0 : Int) ≤ f 7 ∧ f 7 ≤ 6 := hM.2.2.2.1 7
  have r4 : (0 : Int) ≤ f 8 ∧ f 8 ≤ 3001 := hM.2.2.2.1 8
  have r5 : (0 : Int) ≤ f 9 ∧ f 9 ≤ 3002 := hM.2.2.2.1 9
  have r6 : (0 : Int) ≤ f 15 ∧ f 15 ≤ 64 := hM.2.2.2.1 15
  have r7 : (0 : Int) ≤ f 22 ∧ f 22 ≤ 1600 := hM.2.2.2.1 22
  have r8 : (0 : Int) ≤ f 56 ∧ f 56 ≤ 7 := hM.2.2.2.1 56
  have r9 : (0 : Int) ≤ f 58 ∧ f 58 ≤ 16 := hM.2.2.2.1 58
  have r10 : (0 : Int) ≤ f 59 ∧ f 59 ≤ 16 := hM.2.2.2.1 59
  have LL61 : ∀ N : Nat, ∀ (v61_1 : Int) (v61_2 : Int) (v61_3 : Int) (y61_8 : Int) (y61_9 : Int) (y61_7 : Int) (y61_10 : Int) (y61_5 : Int) (y61_6 : Int) (y61_15 : Int) (y61_22 : Int) (y61_56 : Int) (y61_11 : Int64) (y61_13 : Nat → Int) (y61_14 : Nat → Int) (y61_17 : Nat → Int) (y61_18 : Nat → Int) (y61_19 : Nat → Int) (y61_20 : Nat → Int) (y61_21 : Nat → Int) (y61_23 : Nat → Int) (y61_12 : Nat → Int64) (y61_16 : Nat → Int64) (H : Heap) (locs : List Loc) (ls : Array Slot), (MWd D dA h0 ad (mF dA h0 ad (f, g, A, L) s.heap.size) s.heap ((up f [(8, y61_8), (9, y61_9), (7, y61_7), (10, y61_10), (5, y61_5), (6, y61_6), (15, y61_15), (22, y61_22), (56, y61_56)]), (up g [(11, y61_11)]), (up A [(13, y61_13), (14, y61_14), (17, y61_17), (18, y61_18), (19, y61_19), (20, y61_20), (21, y61_21), (23, y61_23)]), (up L [(12, y61_12), (16, y61_16)])) H locs) → lv_has ls 4 [(0, .ref h0), (1, .int (II v61_1)), (2, .int (II v61_2)), (3, .int (II v61_3))] → ((-2147483648 : Int) ≤ v61_1 ∧ v61_1 ≤ 2147483647) → ((-2147483648 : Int) ≤ v61_2 ∧ v61_2 ≤ 2147483647) → ((-2147483648 : Int) ≤ v61_3 ∧ v61_3 ≤ 2147483647) → ((0 ≤ (y61_8) ∧ (y61_8) ≤ (f 4) ∧ (y61_8) ≤ (y61_9) ∧ (y61_9) ≤ (f 4) + 1 ∧ ((y61_7) = 0 ↔ (y61_8) = (f 4)) ∧ (2 ≤ (y61_7) → (y61_8) < (y61_9) ∧ (y61_9) ≤ (f 4)) ∧ ((y61_7) = 5 → (y61_8) + 2 ≤ (y61_9) ∧ (y61_9) ≤ (y61_8) + 32))) → ((f 8) ≤ (y61_8)) → ((v61_1) = (f 56) + 1) → (0 ≤ (v61_2)) → ((v61_2) ≤ 9) → (((v61_2) = 9 → (y61_5) ≠ 0)) → (0 ≤ (v61_3)) → ((v61_3) ≤ 1) → (((v61_3) = 1 → (y61_7) = 6 ∧ 2 * (y61_22) ≤ (y61_8) + 1)) → (((y61_5) = 0 → (f 5) = 0 ∧ (f 8) + 1 ≤ (y61_8) ∧ (y61_15) = (f 15) + 1 ∧ (y61_56) = (f 56) + 1)) → ((f 15) ≤ (y61_15)) → ((y61_15) ≤ (f 15) + 1) → (2 * (y61_22) ≤ (y61_8) + 1) → ((f 22) ≤ (y61_22)) → (NIp (y61_5) (y61_15) (f 3) (f 58) (f 59) y61_13 y61_14) → (AIp (y61_22) y61_18 y61_20 y61_21) → (APe (f 22) (A 20) (A 21) y61_20 y61_21) → (0 ≤ 10 - (v61_2)) → (10 - (v61_2) < (N : Int)) → W p l e ({ frames := 4, cells := 0, slots := 0, locals := 89 }) s m args below meth c H locs 0 0 (MQ below (mQv D dA h0 ad (f, g, A, L) s.heap.size PST) args s 0 0 (mF dA h0 ad (f, g, A, L) s.heap.size)) (F0 m 61 ls []) := by
    intro N
    induction N with
    | zero => intro v61_1 v61_2 v61_3 y61_8 y61_9 y61_7 y61_10 y61_5 y61_6 y61_15 y61_22 y61_56 y61_11 y61_13 y61_14 y61_17 y61_18 y61_19 y61_20 y61_21 y61_23 y61_12 y61_16 H locs ls hM hl hLL61_0 hLL61_1 hLL61_2 hLL61_3 hLL61_4 hLL61_5 hLL61_6 hLL61_7 hLL61_8 hLL61_9 hLL61_10 hLL61_11 hLL61_12 hLL61_13 hLL61_14 hLL61_15 hLL61_16 hLL61_17 hLL61_18 hLL61_19 hLL61_20 hN; exfalso; omega
    | succ N IH61 =>
      intro v61_1 v61_2 v61_3 y61_8 y61_9 y61_7 y61_10 y61_5 y61_6 y61_15 y61_22 y61_56 y61_11 y61_13 y61_14 y61_17 y61_18 y61_19 y61_20 y61_21 y61_23 y61_12 y61_16 H locs ls hM hl hLL61_0 hLL61_1 hLL61_2 hLL61_3 hLL61_4 hLL61_5 hLL61_6 hLL61_7 hLL61_8 hLL61_9 hLL61_10 hLL61_11 hLL61_12 hLL61_13 hLL61_14 hLL61_15 hLL61_16 hLL61_17 hLL61_18 hLL61_19 hLL61_20 hN
      have JJ94 : ∀ (v94_1 : Int) (v94_2 : Int) (y94_8 : Int) (y94_9 : Int) (y94_7 : Int) (y94_10 : Int) (y94_5 : Int) (y94_6 : Int) (y94_15 : Int) (y94_22 : Int) (y94_56 : Int) (y94_11 : Int64) (y94_13 : Nat → Int) (y94_14 : Nat → Int) (y94_17 : Nat → Int) (y94_18 : Nat → Int) (y94_19 : Nat → Int) (y94_20 : Nat → Int) (y94_21 : Nat → Int) (y94_23 : Nat → Int) (y94_12 : Nat → Int64) (y94_16 : Nat → Int64) (H : Heap) (locs : List Loc) (ls : Array Slot), (MWd D dA h0 ad (mF dA h0 ad (f, g, A, L) s.heap.size) s.heap ((up f [(8, y94_8), (9, y94_9), (7, y94_7), (10, y94_10), (5, y94_5), (6, y94_6), (15, y94_15), (22, y94_22), (56, y94_56)]), (up g [(11, y94_11)]), (up A [(13, y94_13), (14, y94_14), (17, y94_17), (18, y94_18), (19, y94_19), (20, y94_20), (21, y94_21), (23, y94_23)]), (up L [(12, y94_12), (16, y94_16)])) H locs) → lv_has ls 4 [(0, .ref h0), (1, .int (II v94_1)), (2, .int (II v94_2))] → ((-2147483648 : Int) ≤ v94_1 ∧ v94_1 ≤ 2147483647) → ((-2147483648 : Int) ≤ v94_2 ∧ v94_2 ≤ 2147483647) → ((0 ≤ (y94_8) ∧ (y94_8) ≤ (f 4) ∧ (y94_8) ≤ (y94_9) ∧ (y94_9) ≤ (f 4) + 1 ∧ ((y94_7) = 0 ↔ (y94_8) = (f 4)) ∧ (2 ≤ (y94_7) → (y94_8) < (y94_9) ∧ (y94_9) ≤ (f 4)) ∧ ((y94_7) = 5 → (y94_8) + 2 ≤ (y94_9) ∧ (y94_9) ≤ (y94_8) + 32))) → ((y61_8) + 1 ≤ (y94_8)) → ((f 8) ≤ (y94_8)) → ((v94_1) = (f 56) + 1) → ((v94_2) = (v61_2)) → (0 ≤ (v94_2)) → ((v94_2) ≤ 8) → (((v94_2) = 8 → (y94_7) = 2 → (y94_5) ≠ 0)) → (((y94_5) = 0 → (f 5) = 0 ∧ (f 8) + 1 ≤ (y94_8) ∧ (y94_15) = (f 15) + 1 ∧ (y94_56) = (f 56) + 1)) → ((f 15) ≤ (y94_15)) → ((y94_15) ≤ (f 15) + 1) → (2 * (y94_22) ≤ (y94_8)) → ((f 22) ≤ (y94_22)) → (NIp (y94_5) (y94_15) (f 3) (f 58) (f 59) y94_13 y94_14) → (AIp (y94_22) y94_18 y94_20 y94_21) → (APe (f 22) (A 20) (A 21) y94_20 y94_21) → W p l e ({ frames := 4, cells := 0, slots := 0, locals := 89 }) s m args below meth c H locs 0 0 (MQ below (mQv D dA h0 ad (f, g, A, L) s.heap.size PST) args s 0 0 (mF dA h0 ad (f, g, A, L) s.heap.size)) (F0 m 94 ls []) := by
        intro v94_1 v94_2 y94_8 y94_9 y94_7 y94_10 y94_5 y94_6 y94_15 y94_22 y94_56 y94_11 y94_13 y94_14 y94_17 y94_18 y94_19 y94_20 y94_21 y94_23 y94_12 y94_16 H locs ls hM hl hJJ94_0 hJJ94_1 hJJ94_2 hJJ94_3 hJJ94_4 hJJ94_5 hJJ94_6 hJJ94_7 hJJ94_8 hJJ94_9 hJJ94_10 hJJ94_11 hJJ94_12 hJJ94_13 hJJ94_14 hJJ94_15 hJJ94_16 hJJ94_17
        have r11 : (0 : Int) ≤ y94_8 ∧ y94_8 ≤ 3001 := hM.2.2.2.1 8
        have r12 : (0 : Int) ≤ y94_9 ∧ y94_9 ≤ 3002 := hM.2.2.2.1 9
        have r13 : (0 : Int) ≤ y94_7 ∧ y94_7 ≤ 6 := hM.2.2.2.1 7
        have r14 : (-2147483648 : Int) ≤ y94_10 ∧ y94_10 ≤ 2147483647 := hM.2.2.2.1 10
        have r15 : (-2147483648 : Int) ≤ y94_5 ∧ y94_5 ≤ 2147483647 := hM.2.2.2.1 5
        have r16 : (-2147483648 : Int) ≤ y94_6 ∧ y94_6 ≤ 2147483647 := hM.2.2.2.1 6
        have r17 : (0 : Int) ≤ y94_15 ∧ y94_15 ≤ 64 := hM.2.2.2.1 15
        have r18 : (0 : Int) ≤ y94_22 ∧ y94_22 ≤ 1600 := hM.2.2.2.1 22
        have r19 : (0 : Int) ≤ y94_56 ∧ y94_56 ≤ 7 := hM.2.2.2.1 56
        refine lv_aload_n B.1 B.2.1 dX12_readGroup_94 rfl (lv_at hl 0 rfl) ?_
        refine m_calli (n := 0) (rest := []) B hM hA hl.1 (k_isGood l D dA h0 ad (up f [(8, y94_8), (9, y94_9), (7, y94_7), (10, y94_10), (5, y94_5), (6, y94_6), (15, y94_15), (22, y94_22), (56, y94_56)]) (up g [(11, y94_11)]) (up A [(13, y94_13), (14, y94_14), (17, y94_17), (18, y94_18), (19, y94_19), (20, y94_20), (21, y94_21), (23, y94_23)]) (up L [(12, y94_12), (16, y94_16)])   ) rfl ok_isGood nm_isGood ⟨rfl, rfl⟩ ⟨Nat.le_of_ble_eq_true rfl, Nat.le_of_ble_eq_true rfl⟩ dX12_readGroup_95 rfl rfl (Nat.le_of_ble_eq_true rfl) ⟨Nat.zero_le _, Nat.zero_le _⟩ (fun r20 σr20 H locs ir20 hp21 hM => ?_)
        obtain ⟨rfl, hp21⟩ := hp21
        unfold inr at ir20
        replace hp21 : 0 ≤ r20 ∧ r20 ≤ 1 ∧ (r20 = 1 ↔ (y94_5) = 0) := hp21
        obtain ⟨hp21_0, hp21_1, hp21_2⟩ := hp21
        refine q_ieq (tgt := 117) B dX12_readGroup_98 (by decide) (by unfold inr; omega) (fun c22 => ?_) (fun c22 => ?_)
        · refine q_inc (k := 2) (x := v94_2) (lv' := [(2, .int (II (v94_2 + 1))), (0, .ref h0), (1, .int (II v94_1))]) B dX12_readGroup_117 hl rfl (by decide) rfl (fun ls hl => ?_)
          refine lv_aload_n B.1 B.2.1 dX12_readGroup_120 rfl (lv_at hl 1 rfl) ?_
          refine m_calli (n := 0) (rest := []) B hM hA hl.1 (k_isGood l D dA h0 ad (up f [(8, y94_8), (9, y94_9), (7, y94_7), (10, y94_10), (5, y94_5), (6, y94_6), (15, y94_15), (22, y94_22), (56, y94_56)]) (up g [(11, y94_11)]) (up A [(13, y94_13), (14, y94_14), (17, y94_17), (18, y94_18), (19, y94_19), (20, y94_20), (21, y94_21), (23, y94_23)]) (up L [(12, y94_12), (16, y94_16)])   ) rfl ok_isGood nm_isGood ⟨rfl, rfl⟩ ⟨Nat.le_of_ble_eq_true rfl, Nat.le_of_ble_eq_true rfl⟩ dX12_readGroup_121 rfl rfl (Nat.le_of_ble_eq_true rfl) ⟨Nat.zero_le _, Nat.zero_le _⟩ (fun r23 σr23 H locs ir23 hp24 hM => ?_)
          obtain ⟨rfl, hp24⟩ := hp24
          unfold inr at ir23
          replace hp24 : 0 ≤ r23 ∧ r23 ≤ 1 ∧ (r23 = 1 ↔ (y94_5) = 0) := hp24
          obtain ⟨hp24_0, hp24_1, hp24_2⟩ := hp24
          refine q_ieq (tgt := 140) B dX12_readGroup_124 (by decide) (by unfold inr; omega) (fun c25 => ?_) (fun c25 => ?_)
          · refine q_con B dX12_readGroup_140 ?_
            refine lv_istore_n (lv' := [(3, .int (II 0)), (2, .int (II (v94_2 + 1))), (0, .ref h0), (1, .int (II v94_1))]) B.1 B.2.1 dX12_readGroup_141 rfl hl (by decide) rfl (fun ls hl => ?_)
            refine lv_goto (tgt := 61) B.1 B.2.1 dX12_readGroup_142 (by decide) ?_
            exact IH61 v94_1 (v94_2 + 1) 0 y94_8 y94_9 y94_7 y94_10 y94_5 y94_6 y94_15 y94_22 y94_56 y94_11 y94_13 y94_14 y94_17 y94_18 y94_19 y94_20 y94_21 y94_23 y94_12 y94_16 _ _ ls hM (lv_sub hl [2, 3, 1, 0] rfl) (by omega) (by omega) (by omega) (by first | omega | (simp only [wr_at]; omega) | assumption) (by first | omega | (simp only [wr_at]; omega) | assumption) (by first | omega | (simp only [wr_at]; omega) | assumption) (by first | omega | (simp only [wr_at]; omega) | assumption) (by first | omega | (simp only [wr_at]; omega) | assumption) (by first | omega | (simp only [wr_at]; omega) | assumption) (by first | omega | (simp only [wr_at]; omega) | assumption) (by first | omega | (simp only [wr_at]; omega) | assumption) (by first | omega | (simp only [wr_at]; omega) | assumption) (by first | omega | (simp only [wr_at]; omega) | assumption) (by first | omega | (simp only [wr_at]; omega) | assumption) (by first | omega | (simp only [wr_at]; omega) | assumption) (by first | omega | (simp only [wr_at]; omega) | assumption) (by first | omega | (simp only [wr_at]; omega) | assumption) (by first | assumption | exact NIp_same (by assumption) (by omega) (by omega) (by omega) (by omega) | exact NIp_t (by assumption) (by omega) (by omega) (by omega) (by omega) (by omega) | exact NIp_bad (by omega)) (by first | assumption) (by first | assumption | exact APe_rfl | exact APe_tr (by assumption) (by assumption) (by omega)) (by first | omega | (simp only [wr_at]; omega) | assumption) (by first | omega | (simp only [wr_at]; omega) | assumption)
          · refine lv_aload_n B.1 B.2.1 dX12_readGroup_127 rfl (lv_at hl 1 rfl) ?_
            refine q_bip B dX12_readGroup_128 (by decide) ?_
            refine m_calli (n := 1) (rest := []) B hM hA hl.1 (k_isSign l D dA h0 ad (up f [(8, y94_8), (9, y94_9), (7, y94_7), (10, y94_10), (5, y94_5), (6, y94_6), (15, y94_15), (22, y94_22), (56, y94_56)]) (up g [(11, y94_11)]) (up A [(13, y94_13), (14, y94_14), (17, y94_17), (18, y94_18), (19, y94_19), (20, y94_20), (21, y94_21), (23, y94_23)]) (up L [(12, y94_12), (16, y94_16)]) 44 (by omega) (show (0 ≤ (y94_8) ∧ (y94_8) ≤ (f 4) ∧ (y94_8) ≤ (y94_9) ∧ (y94_9) ≤ (f 4) + 1 ∧ ((y94_7) = 0 ↔ (y94_8) = (f 4)) ∧ (2 ≤ (y94_7) → (y94_8) < (y94_9) ∧ (y94_9) ≤ (f 4)) ∧ ((y94_7) = 5 → (y94_8) + 2 ≤ (y94_9) ∧ (y94_9) ≤ (y94_8) + 32)) from by first | omega | (simp only [wr_at]; omega) | assumption)) rfl ok_isSign nm_isSign ⟨rfl, rfl⟩ ⟨Nat.le_of_ble_eq_true rfl, Nat.le_of_ble_eq_true rfl⟩ dX12_readGroup_130 rfl rfl (Nat.le_of_ble_eq_true rfl) ⟨Nat.zero_le _, Nat.zero_le _⟩ (fun r26 σr26 H locs ir26 hp27 hM => ?_)
            obtain ⟨rfl, hp27⟩ := hp27
            unfold inr at ir26
            replace hp27 : 0 ≤ r26 ∧ r26 ≤ 1 ∧ (r26 = 1 ↔ (y94_7) = 6 ∧ sgn ((A 2)) (f 3) (f 4) (y94_8) = (44)) := hp27
            obtain ⟨hp27_0, hp27_1, hp27_2⟩ := hp27
            refine q_ieq (tgt := 140) B dX12_readGroup_133 (by decide) (by unfold inr; omega) (fun c28 => ?_) (fun c28 => ?_)
            · refine q_con B dX12_readGroup_140 ?_
              refine lv_istore_n (lv' := [(3, .int (II 0)), (2, .int (II (v94_2 + 1))), (0, .ref h0), (1, .int (II v94_1))]) B.1 B.2.1 dX12_readGroup_141 rfl hl (by decide) rfl (fun ls hl => ?_)
              refine lv_goto (tgt := 61) B.1 B.2.1 dX12_readGroup_142 (by decide) ?_
              exact IH61 v94_1 (v94_2 + 1) 0 y94_8 y94_9 y94_7 y94_10 y94_5 y94_6 y94_15 y94_22 y94_56 y94_11 y94_13 y94_14 y94_17 y94_18 y94_19 y94_20 y94_21 y94_23 y94_12 y94_16 _ _ ls hM (lv_sub hl [2, 3, 1, 0] rfl) (by omega) (by omega) (by omega) (by first | omega | (simp only [wr_at]; omega) | assumption) (by first | omega | (simp only [wr_at]; omega) | assumption) (by first | omega | (simp only [wr_at]; omega) | assumption) (by first | omega | (simp only [wr_at]; omega) | assumption) (by first | omega | (simp only [wr_at]; omega) | assumption) (by first | omega | (simp only [wr_at]; omega) | assumption) (by first | omega | (simp only [wr_at]; omega) | assumption) (by first | omega | (simp only [wr_at]; omega) | assumption) (by first | omega | (simp only [wr_at]; omega) | assumption) (by first | omega | (simp only [wr_at]; omega) | assumption) (by first | omega | (simp only [wr_at]; omega) | assumption) (by first | omega | (simp only [wr_at]; omega) | assumption) (by first | omega | (simp only [wr_at]; omega) | assumption) (by first | omega | (simp only [wr_at]; omega) | assumption) (by first | assumption | exact NIp_same (by assumption) (by omega) (by omega) (by omega) (by omega) | exact NIp_t (by assumption) (by omega) (by omega) (by omega) (by omega) (by omega) | exact NIp_bad (by omega)) (by first | assumption) (by first | assumption | exact APe_rfl | exact APe_tr (by assumption) (by assumption) (by omega)) (by first | omega | (simp only [wr_at]; omega) | assumption) (by first | omega | (simp only [wr_at]; omega) | assumption)
            · refine q_con B dX12_readGroup_136 ?_
              refine lv_goto (tgt := 141) B.1 B.2.1 dX12_readGroup_137 (by decide) ?_
              refine lv_istore_n (lv' := [(3, .int (II 1)), (2, .int (II (v94_2 + 1))), (0, .ref h0), (1, .int (II v94_1))]) B.1 B.2.1 dX12_readGroup_141 rfl hl (by decide) rfl (fun ls hl => ?_)
              refine lv_goto (tgt := 61) B.1 B.2.1 dX12_readGroup_142 (by decide) ?_
              exact IH61 v94_1 (v94_2 + 1) 1 y94_8 y94_9 y94_7 y94_10 y94_5 y94_6 y94_15 y94_22 y94_56 y94_11 y94_13 y94_14 y94_17 y94_18 y94_19 y94_20 y94_21 y94_23 y94_12 y94_16 _ _ ls hM (lv_sub hl [2, 3, 1, 0] rfl) (by omega) (by omega) (by omega) (by first | omega | (simp only [wr_at]; omega) | assumption) (by first | omega | (simp only [wr_at]; omega) | assumption) (by first | omega | (simp only [wr_at]; omega) | assumption) (by first | omega | (simp only [wr_at]; omega) | assumption) (by first | omega | (simp only [wr_at]; omega) | assumption) (by first | omega | (simp only [wr_at]; omega) | assumption) (by first | omega | (simp only [wr_at]; omega) | assumption) (by first | omega | (simp only [wr_at]; omega) | assumption) (by first | omega | (simp only [wr_at]; omega) | assumption) (by first | omega | (simp only [wr_at]; omega) | assumption) (by first | omega | (simp only [wr_at]; omega) | assumption) (by first | omega | (simp only [wr_at]; omega) | assumption) (by first | omega | (simp only [wr_at]; omega) | assumption) (by first | omega | (simp only [wr_at]; omega) | assumption) (by first | assumption | exact NIp_same (by assumption) (by omega) (by omega) (by omega) (by omega) | exact NIp_t (by assumption) (by omega) (by omega) (by omega) (by omega) (by omega) | exact NIp_bad (by omega)) (by first | assumption) (by first | assumption | exact APe_rfl | exact APe_tr (by assumption) (by assumption) (by omega)) (by first | omega | (simp only [wr_at]; omega) | assumption) (by first | omega | (simp only [wr_at]; omega) | assumption)
        · refine lv_aload_n B.1 B.2.1 dX12_readGroup_101 rfl (lv_at hl 0 rfl) ?_
          refine q_con B dX12_readGroup_102 ?_
          refine lv_iload_n B.1 B.2.1 dX12_readGroup_103 rfl (lv_at hl 1 rfl) ?_
          refine q_con B dX12_readGroup_104 ?_
          refine q_bip B dX12_readGroup_105 (by decide) ?_
          refine lv_aload_n B.1 B.2.1 dX12_readGroup_107 rfl (lv_at hl 0 rfl) ?_
          refine m_get (k := 3) (v := f 3) B hM (by decide) rfl fl11 dX12_readGroup_108 rfl ?_
          refine q_mul B dX12_readGroup_111 ?_
          refine lv_iload_n B.1 B.2.1 dX12_readGroup_112 rfl (lv_at hl 1 rfl) ?_
          refine q_add B dX12_readGroup_113 ?_
          refine m_callv (n := 4) (rest := []) B hM hA hl.1 (k_ask l D dA h0 ad (up f [(8, y94_8), (9, y94_9), (7, y94_7), (10, y94_10), (5, y94_5), (6, y94_6), (15, y94_15), (22, y94_22), (56, y94_56)]) (up g [(11, y94_11)]) (up A [(13, y94_13), (14, y94_14), (17, y94_17), (18, y94_18), (19, y94_19), (20, y94_20), (21, y94_21), (23, y94_23)]) (up L [(12, y94_12), (16, y94_16)]) 1 v94_1 0 ((9 * (f 3)) + v94_1) (by omega) (by omega) (by omega) (by omega) (show (0 ≤ (y94_8) ∧ (y94_8) ≤ (f 4) ∧ (y94_8) ≤ (y94_9) ∧ (y94_9) ≤ (f 4) + 1 ∧ ((y94_7) = 0 ↔ (y94_8) = (f 4)) ∧ (2 ≤ (y94_7) → (y94_8) < (y94_9) ∧ (y94_9) ≤ (f 4)) ∧ ((y94_7) = 5 → (y94_8) + 2 ≤ (y94_9) ∧ (y94_9) ≤ (y94_8) + 32)) from by first | omega | (simp only [wr_at]; omega) | assumption) (show 2 * (y94_22) ≤ (y94_8) from by first | omega | (simp only [wr_at]; omega) | assumption) (show 0 ≤ (1) from by first | omega | (simp only [wr_at]; omega) | assumption) (show (1) ≤ 5 from by first | omega | (simp only [wr_at]; omega) | assumption) (show -1 ≤ (v94_1) from by first | omega | (simp only [wr_at]; omega) | assumption) (show (v94_1) ≤ 16 from by first | omega | (simp only [wr_at]; omega) | assumption) (show 0 ≤ (0) from by first | omega | (simp only [wr_at]; omega) | assumption) (show (0) ≤ 5 from by first | omega | (simp only [wr_at]; omega) | assumption) (show 0 ≤ ((9 * (f 3)) + v94_1) from by first | omega | (simp only [wr_at]; omega) | assumption) (show ((9 * (f 3)) + v94_1) ≤ 3199 from by first | omega | (simp only [wr_at]; omega) | assumption) (show ((y94_7) = 2 → ((0) = 0 → ((9 * (f 3)) + v94_1) < 18 ∧ (1) = 1) ∧ ((0) = 1 → ((9 * (f 3)) + v94_1) < 96 ∧ (1) = 1) ∧ ((0) = 3 → ((9 * (f 3)) + v94_1) < 400) ∧ ((0) = 4 → (1) = 1)) from by first | omega | (simp only [wr_at]; omega) | assumption) (show AIp (y94_22) y94_18 y94_20 y94_21 from by first | assumption)) rfl ok_ask nm_ask ⟨rfl, rfl⟩ ⟨Nat.le_of_ble_eq_true rfl, Nat.le_of_ble_eq_true rfl⟩ dX12_readGroup_114 rfl rfl (Nat.le_of_ble_eq_true rfl) ⟨Nat.zero_le _, Nat.zero_le _⟩ (fun σr29 H locs hp30 hM => ?_)
          obtain ⟨x31, x32, x33, x34, x35, x36, x37, w38, b39, b40, b41, b42, b43, b44, rfl, hp30⟩ := hp30
          replace hp30 : ((0 ≤ (x31) ∧ (x31) ≤ (f 4) ∧ (x31) ≤ (x32) ∧ (x32) ≤ (f 4) + 1 ∧ ((x33) = 0 ↔ (x31) = (f 4)) ∧ (2 ≤ (x33) → (x31) < (x32) ∧ (x32) ≤ (f 4)) ∧ ((x33) = 5 → (x31) + 2 ≤ (x32) ∧ (x32) ≤ (x31) + 32))) ∧ (y94_8) ≤ (x31) ∧ ((x35) = 0 → (y94_5) = 0 ∧ (y94_8) + 1 ≤ (x31) ∧ (y94_7) = 2 ∧ (x37) = (y94_22) + 1 ∧ b42 ((y94_22)).toNat = (0) ∧ b43 ((y94_22)).toNat = ((9 * (f 3)) + v94_1)) ∧ 2 * (x37) ≤ (x31) + 1 ∧ (y94_22) ≤ (x37) ∧ AIp (x37) b40 b42 b43 ∧ APe (y94_22) y94_20 y94_21 b42 b43 := hp30
          obtain ⟨hp30_0, hp30_1, hp30_2, hp30_3, hp30_4, hp30_5, hp30_6⟩ := hp30
          simp only [up_up] at hM
          replace hM : MWd D dA h0 ad (mF dA h0 ad (f, g, A, L) s.heap.size) s.heap ((up f [(8, x31), (9, x32), (7, x33), (10, x34), (5, x35), (6, x36), (15, y94_15), (22, x37), (56, y94_56)]), (up g [(11, w38)]), (up A [(13, y94_13), (14, y94_14), (17, b39), (18, b40), (19, b41), (20, b42), (21, b43), (23, y94_23)]), (up L [(12, y94_12), (16, b44)])) H locs := hM
          have r45 : (0 : Int) ≤ x31 ∧ x31 ≤ 3001 := hM.2.2.2.1 8
          have r46 : (0 : Int) ≤ x32 ∧ x32 ≤ 3002 := hM.2.2.2.1 9
          have r47 : (0 : Int) ≤ x33 ∧ x33 ≤ 6 := hM.2.2.2.1 7
          have r48 : (-2147483648 : Int) ≤ x34 ∧ x34 ≤ 2147483647 := hM.2.2.2.1 10
          have r49 : (-2147483648 : Int) ≤ x35 ∧ x35 ≤ 2147483647 := hM.2.2.2.1 5
          have r50 : (-2147483648 : Int) ≤ x36 ∧ x36 ≤ 2147483647 := hM.2.2.2.1 6
          have r51 : (0 : Int) ≤ x37 ∧ x37 ≤ 1600 := hM.2.2.2.1 22
          refine q_inc (k := 2) (x := v94_2) (lv' := [(2, .int (II (v94_2 + 1))), (0, .ref h0), (1, .int (II v94_1))]) B dX12_readGroup_117 hl rfl (by decide) rfl (fun ls hl => ?_)
          refine lv_aload_n B.1 B.2.1 dX12_readGroup_120 rfl (lv_at hl 1 rfl) ?_
          refine m_calli (n := 0) (rest := []) B hM hA hl.1 (k_isGood l D dA h0 ad (up f [(8, x31), (9, x32), (7, x33), (10, x34), (5, x35), (6, x36), (15, y94_15), (22, x37), (56, y94_56)]) (up g [(11, w38)]) (up A [(13, y94_13), (14, y94_14), (17, b39), (18, b40), (19, b41), (20, b42), (21, b43), (23, y94_23)]) (up L [(12, y94_12), (16, b44)])   ) rfl ok_isGood nm_isGood ⟨rfl, rfl⟩ ⟨Nat.le_of_ble_eq_true rfl, Nat.le_of_ble_eq_true rfl⟩ dX12_readGroup_121 rfl rfl (Nat.le_of_ble_eq_true rfl) ⟨Nat.zero_le _, Nat.zero_le _⟩ (fun r52 σr52 H locs ir52 hp53 hM => ?_)
          obtain ⟨rfl, hp53⟩ := hp53
          unfold inr at ir52
          replace hp53 : 0 ≤ r52 ∧ r52 ≤ 1 ∧ (r52 = 1 ↔ (x35) = 0) := hp53
          obtain ⟨hp53_0, hp53_1, hp53_2⟩ := hp53
          refine q_ieq (tgt := 140) B dX12_readGroup_124 (by decide) (by unfold inr; omega) (fun c54 => ?_) (fun c54 => ?_)
          · refine q_con B dX12_readGroup_140 ?_
            refine lv_istore_n (lv' := [(3, .int (II 0)), (2, .int (II (v94_2 + 1))), (0, .ref h0), (1, .int (II v94_1))]) B.1 B.2.1 dX12_readGroup_141 rfl hl (by decide) rfl (fun ls hl => ?_)
            refine lv_goto (tgt := 61) B.1 B.2.1 dX12_readGroup_142 (by decide) ?_
            exact IH61 v94_1 (v94_2 + 1) 0 x31 x32 x33 x34 x35 x36 y94_15 x37 y94_56 w38 y94_13 y94_14 b39 b40 b41 b42 b43 y94_23 y94_12 b44 _ _ ls hM (lv_sub hl [2, 3, 1, 0] rfl) (by omega) (by omega) (by omega) (by first | omega | (simp only [wr_at]; omega) | assumption) (by first | omega | (simp only [wr_at]; omega) | assumption) (by first | omega | (simp only [wr_at]; omega) | assumption) (by first | omega | (simp only [wr_at]; omega) | assumption) (by first | omega | (simp only [wr_at]; omega) | assumption) (by first | omega | (simp only [wr_at]; omega) | assumption) (by first | omega | (simp only [wr_at]; omega) | assumption) (by first | omega | (simp only [wr_at]; omega) | assumption) (by first | omega | (simp only [wr_at]; omega) | assumption) (by first | omega | (simp only [wr_at]; omega) | assumption) (by first | omega | (simp only [wr_at]; omega) | assumption) (by first | omega | (simp only [wr_at]; omega) | assumption) (by first | omega | (simp only [wr_at]; omega) | assumption) (by first | omega | (simp only [wr_at]; omega) | assumption) (by first | assumption | exact NIp_same (by assumption) (by omega) (by omega) (by omega) (by omega) | exact NIp_t (by assumption) (by omega) (by omega) (by omega) (by omega) (by omega) | exact NIp_bad (by omega)) (by first | assumption) (by first | assumption | exact APe_rfl | exact APe_tr (by assumption) (by assumption) (by omega)) (by first | omega | (simp only [wr_at]; omega) | assumption) (by first | omega | (simp only [wr_at]; omega) | assumption)
          · refine lv_aload_n B.1 B.2.1 dX12_readGroup_127 rfl (lv_at hl 1 rfl) ?_
            refine q_bip B dX12_readGroup_128 (by decide) ?_
            refine m_calli (n := 1) (rest := []) B hM hA hl.1 (k_isSign l D dA h0 ad (up f [(8, x31), (9, x32), (7, x33), (10, x34), (5, x35), (6, x36), (15, y94_15), (22, x37), (56, y94_56)]) (up g [(11, w38)]) (up A [(13, y94_13), (14, y94_14), (17, b39), (18, b40), (19, b41), (20, b42), (21, b43), (23, y94_23)]) (up L [(12, y94_12), (16, b44)]) 44 (by omega) (show (0 ≤ (x31) ∧ (x31) ≤ (f 4) ∧ (x31) ≤ (x32) ∧ (x32) ≤ (f 4) + 1 ∧ ((x33) = 0 ↔ (x31) = (f 4)) ∧ (2 ≤ (x33) → (x31) < (x32) ∧ (x32) ≤ (f 4)) ∧ ((x33) = 5 → (x31) + 2 ≤ (x32) ∧ (x32) ≤ (x31) + 32)) from by first | omega | (simp only [wr_at]; omega) | assumption)) rfl ok_isSign nm_isSign ⟨rfl, rfl⟩ ⟨Nat.le_of_ble_eq_true rfl, Nat.le_of_ble_eq_true rfl⟩ dX12_readGroup_130 rfl rfl (Nat.le_of_ble_eq_true rfl) ⟨Nat.zero_le _, Nat.zero_le _⟩ (fun r55 σr55 H locs ir55 hp56 hM => ?_)
            obtain ⟨rfl, hp56⟩ := hp56
            unfold inr at ir55
            replace hp56 : 0 ≤ r55 ∧ r55 ≤ 1 ∧ (r55 = 1 ↔ (x33) = 6 ∧ sgn ((A 2)) (f 3) (f 4) (x31) = (44)) := hp56
            obtain ⟨hp56_0, hp56_1, hp56_2⟩ := hp56
            refine q_ieq (tgt := 140) B dX12_readGroup_133 (by decide) (by unfold inr; omega) (fun c57 => ?_) (fun c57 => ?_)
            · refine q_con B dX12_readGroup_140 ?_
              refine lv_istore_n (lv' := [(3, .int (II 0)), (2, .int (II (v94_2 + 1))), (0, .ref h0), (1, .int (II v94_1))]) B.1 B.2.1 dX12_readGroup_141 rfl hl (by decide) rfl (fun ls hl => ?_)
              refine lv_goto (tgt := 61) B.1 B.2.1 dX12_readGroup_142 (by decide) ?_
              exact IH61 v94_1 (v94_2 + 1) 0 x31 x32 x33 x34 x35 x36 y94_15 x37 y94_56 w38 y94_13 y94_14 b39 b40 b41 b42 b43 y94_23 y94_12 b44 _ _ ls hM (lv_sub hl [2, 3, 1, 0] rfl) (by omega) (by omega) (by omega) (by first | omega | (simp only [wr_at]; omega) | assumption) (by first | omega | (simp only [wr_at]; omega) | assumption) (by first | omega | (simp only [wr_at]; omega) | assumption) (by first | omega | (simp only [wr_at]; omega) | assumption) (by first | omega | (simp only [wr_at]; omega) | assumption) (by first | omega | (simp only [wr_at]; omega) | assumption) (by first | omega | (simp only [wr_at]; omega) | assumption) (by first | omega | (simp only [wr_at]; omega) | assumption) (by first | omega | (simp only [wr_at]; omega) | assumption) (by first | omega | (simp only [wr_at]; omega) | assumption) (by first | omega | (simp only [wr_at]; omega) | assumption) (by first | omega | (simp only [wr_at]; omega) | assumption) (by first | omega | (simp only [wr_at]; omega) | assumption) (by first | omega | (simp only [wr_at]; omega) | assumption) (by first | assumption | exact NIp_same (by assumption) (by omega) (by omega) (by omega) (by omega) | exact NIp_t (by assumption) (by omega) (by omega) (by omega) (by omega) (by omega) | exact NIp_bad (by omega)) (by first | assumption) (by first | assumption | exact APe_rfl | exact APe_tr (by assumption) (by assumption) (by omega)) (by first | omega | (simp only [wr_at]; omega) | assumption) (by first | omega | (simp only [wr_at]; omega) | assumption)
            · refine q_con B dX12_readGroup_136 ?_
              refine lv_goto (tgt := 141) B.1 B.2.1 dX12_readGroup_137 (by decide) ?_
              refine lv_istore_n (lv' := [(3, .int (II 1)), (2, .int (II (v94_2 + 1))), (0, .ref h0), (1, .int (II v94_1))]) B.1 B.2.1 dX12_readGroup_141 rfl hl (by decide) rfl (fun ls hl => ?_)
              refine lv_goto (tgt := 61) B.1 B.2.1 dX12_readGroup_142 (by decide) ?_
              exact IH61 v94_1 (v94_2 + 1) 1 x31 x32 x33 x34 x35 x36 y94_15 x37 y94_56 w38 y94_13 y94_14 b39 b40 b41 b42 b43 y94_23 y94_12 b44 _ _ ls hM (lv_sub hl [2, 3, 1, 0] rfl) (by omega) (by omega) (by omega) (by first | omega | (simp only [wr_at]; omega) | assumption) (by first | omega | (simp only [wr_at]; omega) | assumption) (by first | omega | (simp only [wr_at]; omega) | assumption) (by first | omega | (simp only [wr_at]; omega) | assumption) (by first | omega | (simp only [wr_at]; omega) | assumption) (by first | omega | (simp only [wr_at]; omega) | assumption) (by first | omega | (simp only [wr_at]; omega) | assumption) (by first | omega | (simp only [wr_at]; omega) | assumption) (by first | omega | (simp only [wr_at]; omega) | assumption) (by first | omega | (simp only [wr_at]; omega) | assumption) (by first | omega | (simp only [wr_at]; omega) | assumption) (by first | omega | (simp only [wr_at]; omega) | assumption) (by first | omega | (simp only [wr_at]; omega) | assumption) (by first | omega | (simp only [wr_at]; omega) | assumption) (by first | assumption | exact NIp_same (by assumption) (by omega) (by omega) (by omega) (by omega) | exact NIp_t (by assumption) (by omega) (by omega) (by omega) (by omega) (by omega) | exact NIp_bad (by omega)) (by first | assumption) (by first | assumption | exact APe_rfl | exact APe_tr (by assumption) (by assumption) (by omega)) (by first | omega | (simp only [wr_at]; omega) | assumption) (by first | omega | (simp only [wr_at]; omega) | assumption)
      have r58 : (0 : Int) ≤ y61_8 ∧ y61_8 ≤ 3001 := hM.2.2.2.1 8
      have r59 : (0 : Int) ≤ y61_9 ∧ y61_9 ≤ 3002 := hM.2.2.2.1 9
      have r60 : (0 : Int) ≤ y61_7 ∧ y61_7 ≤ 6 := hM.2.2.2.1 7
      have r61 : (-2147483648 : Int) ≤ y61_10 ∧ y61_10 ≤ 2147483647 := hM.2.2.2.1 10
      have r62 : (-2147483648 : Int) ≤ y61_5 ∧ y61_5 ≤ 2147483647 := hM.2.2.2.1 5
      have r63 : (-2147483648 : Int) ≤ y61_6 ∧ y61_6 ≤ 2147483647 := hM.2.2.2.1 6
      have r64 : (0 : Int) ≤ y61_15 ∧ y61_15 ≤ 64 := hM.2.2.2.1 15
      have r65 : (0 : Int) ≤ y61_22 ∧ y61_22 ≤ 1600 := hM.2.2.2.1 22
      have r66 : (0 : Int) ≤ y61_56 ∧ y61_56 ≤ 7 := hM.2.2.2.1 56
      refine lv_iload_n B.1 B.2.1 dX12_readGroup_61 rfl (lv_at hl 3 rfl) ?_
      refine q_ieq (tgt := 145) B dX12_readGroup_62 (by decide) (by unfold inr; omega) (fun c67 => ?_) (fun c67 => ?_)
      · refine lv_aload_n B.1 B.2.1 dX12_readGroup_145 rfl (lv_at hl 0 rfl) ?_
        refine m_calli (n := 0) (rest := []) B hM hA hl.1 (k_isGood l D dA h0 ad (up f [(8, y61_8), (9, y61_9), (7, y61_7), (10, y61_10), (5, y61_5), (6, y61_6), (15, y61_15), (22, y61_22), (56, y61_56)]) (up g [(11, y61_11)]) (up A [(13, y61_13), (14, y61_14), (17, y61_17), (18, y61_18), (19, y61_19), (20, y61_20), (21, y61_21), (23, y61_23)]) (up L [(12, y61_12), (16, y61_16)])   ) rfl ok_isGood nm_isGood ⟨rfl, rfl⟩ ⟨Nat.le_of_ble_eq_true rfl, Nat.le_of_ble_eq_true rfl⟩ dX12_readGroup_146 rfl rfl (Nat.le_of_ble_eq_true rfl) ⟨Nat.zero_le _, Nat.zero_le _⟩ (fun r68 σr68 H locs ir68 hp69 hM => ?_)
        obtain ⟨rfl, hp69⟩ := hp69
        unfold inr at ir68
        replace hp69 : 0 ≤ r68 ∧ r68 ≤ 1 ∧ (r68 = 1 ↔ (y61_5) = 0) := hp69
        obtain ⟨hp69_0, hp69_1, hp69_2⟩ := hp69
        refine q_ieq (tgt := 158) B dX12_readGroup_149 (by decide) (by unfold inr; omega) (fun c70 => ?_) (fun c70 => ?_)
        · subst hPST
          exact m_vret B hM dX12_readGroup_158 ⟨y61_8, y61_9, y61_7, y61_10, y61_5, y61_6, y61_15, y61_22, y61_56, y61_11, y61_13, y61_14, y61_17, y61_18, y61_19, y61_20, y61_21, y61_23, y61_12, y61_16, rfl, by (exact ⟨by first | omega | (simp only [wr_at]; omega) | assumption, by first | omega | (simp only [wr_at]; omega) | assumption, by first | omega | (simp only [wr_at]; omega) | assumption, by first | omega | (simp only [wr_at]; omega) | assumption, by first | omega | (simp only [wr_at]; omega) | assumption, by first | omega | (simp only [wr_at]; omega) | assumption, by first | omega | (simp only [wr_at]; omega) | assumption, by first | assumption | exact NIp_same (by assumption) (by omega) (by omega) (by omega) (by omega) | exact NIp_t (by assumption) (by omega) (by omega) (by omega) (by omega) (by omega) | exact NIp_bad (by omega), by first | assumption, by first | assumption | exact APe_rfl | exact APe_tr (by assumption) (by assumption) (by omega)⟩)⟩
        · refine lv_aload_n B.1 B.2.1 dX12_readGroup_152 rfl (lv_at hl 0 rfl) ?_
          refine q_bip B dX12_readGroup_153 (by decide) ?_
          refine m_callv (n := 1) (rest := []) B hM hA hl.1 (k_must l D dA h0 ad (up f [(8, y61_8), (9, y61_9), (7, y61_7), (10, y61_10), (5, y61_5), (6, y61_6), (15, y61_15), (22, y61_22), (56, y61_56)]) (up g [(11, y61_11)]) (up A [(13, y61_13), (14, y61_14), (17, y61_17), (18, y61_18), (19, y61_19), (20, y61_20), (21, y61_21), (23, y61_23)]) (up L [(12, y61_12), (16, y61_16)]) 59 (by omega) (show (0 ≤ (y61_8) ∧ (y61_8) ≤ (f 4) ∧ (y61_8) ≤ (y61_9) ∧ (y61_9) ≤ (f 4) + 1 ∧ ((y61_7) = 0 ↔ (y61_8) = (f 4)) ∧ (2 ≤ (y61_7) → (y61_8) < (y61_9) ∧ (y61_9) ≤ (f 4)) ∧ ((y61_7) = 5 → (y61_8) + 2 ≤ (y61_9) ∧ (y61_9) ≤ (y61_8) + 32)) from by first | omega | (simp only [wr_at]; omega) | assumption)) rfl ok_must nm_must ⟨rfl, rfl⟩ ⟨Nat.le_of_ble_eq_true rfl, Nat.le_of_ble_eq_true rfl⟩ dX12_readGroup_155 rfl rfl (Nat.le_of_ble_eq_true rfl) ⟨Nat.zero_le _, Nat.zero_le _⟩ (fun σr71 H locs hp72 hM => ?_)
          obtain ⟨x73, x74, x75, x76, x77, x78, w79, rfl, hp72⟩ := hp72
          replace hp72 : ((0 ≤ (x73) ∧ (x73) ≤ (f 4) ∧ (x73) ≤ (x74) ∧ (x74) ≤ (f 4) + 1 ∧ ((x75) = 0 ↔ (x73) = (f 4)) ∧ (2 ≤ (x75) → (x73) < (x74) ∧ (x74) ≤ (f 4)) ∧ ((x75) = 5 → (x73) + 2 ≤ (x74) ∧ (x74) ≤ (x73) + 32))) ∧ (y61_8) ≤ (x73) ∧ ((x77) = 0 → (y61_5) = 0 ∧ (y61_8) + 1 ≤ (x73) ∧ (y61_9) ≤ (x73)) := hp72
          obtain ⟨hp72_0, hp72_1, hp72_2⟩ := hp72
          simp only [up_up] at hM
          replace hM : MWd D dA h0 ad (mF dA h0 ad (f, g, A, L) s.heap.size) s.heap ((up f [(8, x73), (9, x74), (7, x75), (10, x76), (5, x77), (6, x78), (15, y61_15), (22, y61_22), (56, y61_56)]), (up g [(11, w79)]), (up A [(13, y61_13), (14, y61_14), (17, y61_17), (18, y61_18), (19, y61_19), (20, y61_20), (21, y61_21), (23, y61_23)]), (up L [(12, y61_12), (16, y61_16)])) H locs := hM
          have r80 : (0 : Int) ≤ x73 ∧ x73 ≤ 3001 := hM.2.2.2.1 8
          have r81 : (0 : Int) ≤ x74 ∧ x74 ≤ 3002 := hM.2.2.2.1 9
          have r82 : (0 : Int) ≤ x75 ∧ x75 ≤ 6 := hM.2.2.2.1 7
          have r83 : (-2147483648 : Int) ≤ x76 ∧ x76 ≤ 2147483647 := hM.2.2.2.1 10
          have r84 : (-2147483648 : Int) ≤ x77 ∧ x77 ≤ 2147483647 := hM.2.2.2.1 5
          have r85 : (-2147483648 : Int) ≤ x78 ∧ x78 ≤ 2147483647 := hM.2.2.2.1 6
          subst hPST
          exact m_vret B hM dX12_readGroup_158 ⟨x73, x74, x75, x76, x77, x78, y61_15, y61_22, y61_56, w79, y61_13, y61_14, y61_17, y61_18, y61_19, y61_20, y61_21, y61_23, y61_12, y61_16, rfl, by (exact ⟨by first | omega | (simp only [wr_at]; omega) | assumption, by first | omega | (simp only [wr_at]; omega) | assumption, by first | omega | (simp only [wr_at]; omega) | assumption, by first | omega | (simp only [wr_at]; omega) | assumption, by first | omega | (simp only [wr_at]; omega) | assumption, by first | omega | (simp only [wr_at]; omega) | assumption, by first | omega | (simp only [wr_at]; omega) | assumption, by first | assumption | exact NIp_same (by assumption) (by omega) (by omega) (by omega) (by omega) | exact NIp_t (by assumption) (by omega) (by omega) (by omega) (by omega) (by omega) | exact NIp_bad (by omega), by first | assumption, by first | assumption | exact APe_rfl | exact APe_tr (by assumption) (by assumption) (by omega)⟩)⟩
      · refine lv_aload_n B.1 B.2.1 dX12_readGroup_65 rfl (lv_at hl 0 rfl) ?_
        refine m_calli (n := 0) (rest := []) B hM hA hl.1 (k_isGood l D dA h0 ad (up f [(8, y61_8), (9, y61_9), (7, y61_7), (10, y61_10), (5, y61_5), (6, y61_6), (15, y61_15), (22, y61_22), (56, y61_56)]) (up g [(11, y61_11)]) (up A [(13, y61_13), (14, y61_14), (17, y61_17), (18, y61_18), (19, y61_19), (20, y61_20), (21, y61_21), (23, y61_23)]) (up L [(12, y61_12), (16, y61_16)])   ) rfl ok_isGood nm_isGood ⟨rfl, rfl⟩ ⟨Nat.le_of_ble_eq_true rfl, Nat.le_of_ble_eq_true rfl⟩ dX12_readGroup_66 rfl rfl (Nat.le_of_ble_eq_true rfl) ⟨Nat.zero_le _, Nat.zero_le _⟩ (fun r86 σr86 H locs ir86 hp87 hM => ?_)
        obtain ⟨rfl, hp87⟩ := hp87
        unfold inr at ir86
        replace hp87 : 0 ≤ r86 ∧ r86 ≤ 1 ∧ (r86 = 1 ↔ (y61_5) = 0) := hp87
        obtain ⟨hp87_0, hp87_1, hp87_2⟩ := hp87
        refine q_ieq (tgt := 145) B dX12_readGroup_69 (by decide) (by unfold inr; omega) (fun c88 => ?_) (fun c88 => ?_)
        · refine lv_aload_n B.1 B.2.1 dX12_readGroup_145 rfl (lv_at hl 0 rfl) ?_
          refine m_calli (n := 0) (rest := []) B hM hA hl.1 (k_isGood l D dA h0 ad (up f [(8, y61_8), (9, y61_9), (7, y61_7), (10, y61_10), (5, y61_5), (6, y61_6), (15, y61_15), (22, y61_22), (56, y61_56)]) (up g [(11, y61_11)]) (up A [(13, y61_13), (14, y61_14), (17, y61_17), (18, y61_18), (19, y61_19), (20, y61_20), (21, y61_21), (23, y61_23)]) (up L [(12, y61_12), (16, y61_16)])   ) rfl ok_isGood nm_isGood ⟨rfl, rfl⟩ ⟨Nat.le_of_ble_eq_true rfl, Nat.le_of_ble_eq_true rfl⟩ dX12_readGroup_146 rfl rfl (Nat.le_of_ble_eq_true rfl) ⟨Nat.zero_le _, Nat.zero_le _⟩ (fun r89 σr89 H locs ir89 hp90 hM => ?_)
          obtain ⟨rfl, hp90⟩ := hp90
          unfold inr at ir89
          replace hp90 : 0 ≤ r89 ∧ r89 ≤ 1 ∧ (r89 = 1 ↔ (y61_5) = 0) := hp90
          obtain ⟨hp90_0, hp90_1, hp90_2⟩ := hp90
          refine q_ieq (tgt := 158) B dX12_readGroup_149 (by decide) (by unfold inr; omega) (fun c91 => ?_) (fun c91 => ?_)
          · subst hPST
            exact m_vret B hM dX12_readGroup_158 ⟨y61_8, y61_9, y61_7, y61_10, y61_5, y61_6, y61_15, y61_22, y61_56, y61_11, y61_13, y61_14, y61_17, y61_18, y61_19, y61_20, y61_21, y61_23, y61_12, y61_16, rfl, by (exact ⟨by first | omega | (simp only [wr_at]; omega) | assumption, by first | omega | (simp only [wr_at]; omega) | assumption, by first | omega | (simp only [wr_at]; omega) | assumption, by first | omega | (simp only [wr_at]; omega) | assumption, by first | omega | (simp only [wr_at]; omega) | assumption, by first | omega | (simp only [wr_at]; omega) | assumption, by first | omega | (simp only [wr_at]; omega) | assumption, by first | assumption | exact NIp_same (by assumption) (by omega) (by omega) (by omega) (by omega) | exact NIp_t (by assumption) (by omega) (by omega) (by omega) (by omega) (by omega) | exact NIp_bad (by omega), by first | assumption, by first | assumption | exact APe_rfl | exact APe_tr (by assumption) (by assumption) (by omega)⟩)⟩
          · refine lv_aload_n B.1 B.2.1 dX12_readGroup_152 rfl (lv_at hl 0 rfl) ?_
            refine q_bip B dX12_readGroup_153 (by decide) ?_
            refine m_callv (n := 1) (rest := []) B hM hA hl.1 (k_must l D dA h0 ad (up f [(8, y61_8), (9, y61_9), (7, y61_7), (10, y61_10), (5, y61_5), (6, y61_6), (15, y61_15), (22, y61_22), (56, y61_56)]) (up g [(11, y61_11)]) (up A [(13, y61_13), (14, y61_14), (17, y61_17), (18, y61_18), (19, y61_19), (20, y61_20), (21, y61_21), (23, y61_23)]) (up L [(12, y61_12), (16, y61_16)]) 59 (by omega) (show (0 ≤ (y61_8) ∧ (y61_8) ≤ (f 4) ∧ (y61_8) ≤ (y61_9) ∧ (y61_9) ≤ (f 4) + 1 ∧ ((y61_7) = 0 ↔ (y61_8) = (f 4)) ∧ (2 ≤ (y61_7) → (y61_8) < (y61_9) ∧ (y61_9) ≤ (f 4)) ∧ ((y61_7) = 5 → (y61_8) + 2 ≤ (y61_9) ∧ (y61_9) ≤ (y61_8) + 32)) from by first | omega | (simp only [wr_at]; omega) | assumption)) rfl ok_must nm_must ⟨rfl, rfl⟩ ⟨Nat.le_of_ble_eq_true rfl, Nat.le_of_ble_eq_true rfl⟩ dX12_readGroup_155 rfl rfl (Nat.le_of_ble_eq_true rfl) ⟨Nat.zero_le _, Nat.zero_le _⟩ (fun σr92 H locs hp93 hM => ?_)
            obtain ⟨x94, x95, x96, x97, x98, x99, w100, rfl, hp93⟩ := hp93
            replace hp93 : ((0 ≤ (x94) ∧ (x94) ≤ (f 4) ∧ (x94) ≤ (x95) ∧ (x95) ≤ (f 4) + 1 ∧ ((x96) = 0 ↔ (x94) = (f 4)) ∧ (2 ≤ (x96) → (x94) < (x95) ∧ (x95) ≤ (f 4)) ∧ ((x96) = 5 → (x94) + 2 ≤ (x95) ∧ (x95) ≤ (x94) + 32))) ∧ (y61_8) ≤ (x94) ∧ ((x98) = 0 → (y61_5) = 0 ∧ (y61_8) + 1 ≤ (x94) ∧ (y61_9) ≤ (x94)) := hp93
            obtain ⟨hp93_0, hp93_1, hp93_2⟩ := hp93
            simp only [up_up] at hM
            replace hM : MWd D dA h0 ad (mF dA h0 ad (f, g, A, L) s.heap.size) s.heap ((up f [(8, x94), (9, x95), (7, x96), (10, x97), (5, x98), (6, x99), (15, y61_15), (22, y61_22), (56, y61_56)]), (up g [(11, w100)]), (up A [(13, y61_13), (14, y61_14), (17, y61_17), (18, y61_18), (19, y61_19), (20, y61_20), (21, y61_21), (23, y61_23)]), (up L [(12, y61_12), (16, y61_16)])) H locs := hM
            have r101 : (0 : Int) ≤ x94 ∧ x94 ≤ 3001 := hM.2.2.2.1 8
            have r102 : (0 : Int) ≤ x95 ∧ x95 ≤ 3002 := hM.2.2.2.1 9
            have r103 : (0 : Int) ≤ x96 ∧ x96 ≤ 6 := hM.2.2.2.1 7
            have r104 : (-2147483648 : Int) ≤ x97 ∧ x97 ≤ 2147483647 := hM.2.2.2.1 10
            have r105 : (-2147483648 : Int) ≤ x98 ∧ x98 ≤ 2147483647 := hM.2.2.2.1 5
            have r106 : (-2147483648 : Int) ≤ x99 ∧ x99 ≤ 2147483647 := hM.2.2.2.1 6
            subst hPST
            exact m_vret B hM dX12_readGroup_158 ⟨x94, x95, x96, x97, x98, x99, y61_15, y61_22, y61_56, w100, y61_13, y61_14, y61_17, y61_18, y61_19, y61_20, y61_21, y61_23, y61_12, y61_16, rfl, by (exact ⟨by first | omega | (simp only [wr_at]; omega) | assumption, by first | omega | (simp only [wr_at]; omega) | assumption, by first | omega | (simp only [wr_at]; omega) | assumption, by first | omega | (simp only [wr_at]; omega) | assumption, by first | omega | (simp only [wr_at]; omega) | assumption, by first | omega | (simp only [wr_at]; omega) | assumption, by first | omega | (simp only [wr_at]; omega) | assumption, by first | assumption | exact NIp_same (by assumption) (by omega) (by omega) (by omega) (by omega) | exact NIp_t (by assumption) (by omega) (by omega) (by omega) (by omega) (by omega) | exact NIp_bad (by omega), by first | assumption, by first | assumption | exact APe_rfl | exact APe_tr (by assumption) (by assumption) (by omega)⟩)⟩
        · refine lv_aload_n B.1 B.2.1 dX12_readGroup_72 rfl (lv_at hl 0 rfl) ?_
          refine m_callv (n := 0) (rest := []) B hM hA hl.1 (k_next l D dA h0 ad (up f [(8, y61_8), (9, y61_9), (7, y61_7), (10, y61_10), (5, y61_5), (6, y61_6), (15, y61_15), (22, y61_22), (56, y61_56)]) (up g [(11, y61_11)]) (up A [(13, y61_13), (14, y61_14), (17, y61_17), (18, y61_18), (19, y61_19), (20, y61_20), (21, y61_21), (23, y61_23)]) (up L [(12, y61_12), (16, y61_16)])   (show (y61_9) ≤ 3001 from by first | omega | (simp only [wr_at]; omega) | assumption)) rfl ok_next nm_next ⟨rfl, rfl⟩ ⟨Nat.le_of_ble_eq_true rfl, Nat.le_of_ble_eq_true rfl⟩ dX12_readGroup_73 rfl rfl (Nat.le_of_ble_eq_true rfl) ⟨Nat.zero_le _, Nat.zero_le _⟩ (fun σr107 H locs hp108 hM => ?_)
          obtain ⟨x109, x110, x111, x112, w113, rfl, hp108⟩ := hp108
          replace hp108 : ((y61_9) ≤ (x109) ∨ (x109) = (f 4)) ∧ (0 ≤ (x109) ∧ (x109) ≤ (f 4) ∧ (x109) ≤ (x110) ∧ (x110) ≤ (f 4) + 1 ∧ ((x111) = 0 ↔ (x109) = (f 4)) ∧ (2 ≤ (x111) → (x109) < (x110) ∧ (x110) ≤ (f 4)) ∧ ((x111) = 5 → (x109) + 2 ≤ (x110) ∧ (x110) ≤ (x109) + 32)) := hp108
          obtain ⟨hp108_0, hp108_1⟩ := hp108
          simp only [up_up] at hM
          replace hM : MWd D dA h0 ad (mF dA h0 ad (f, g, A, L) s.heap.size) s.heap ((up f [(8, x109), (9, x110), (7, x111), (10, x112), (5, y61_5), (6, y61_6), (15, y61_15), (22, y61_22), (56, y61_56)]), (up g [(11, w113)]), (up A [(13, y61_13), (14, y61_14), (17, y61_17), (18, y61_18), (19, y61_19), (20, y61_20), (21, y61_21), (23, y61_23)]), (up L [(12, y61_12), (16, y61_16)])) H locs := hM
          have r114 : (0 : Int) ≤ x109 ∧ x109 ≤ 3001 := hM.2.2.2.1 8
          have r115 : (0 : Int) ≤ x110 ∧ x110 ≤ 3002 := hM.2.2.2.1 9
          have r116 : (0 : Int) ≤ x111 ∧ x111 ≤ 6 := hM.2.2.2.1 7
          have r117 : (-2147483648 : Int) ≤ x112 ∧ x112 ≤ 2147483647 := hM.2.2.2.1 10
          refine lv_iload_n B.1 B.2.1 dX12_readGroup_76 rfl (lv_at hl 2 rfl) ?_
          refine q_bip B dX12_readGroup_77 (by decide) ?_
          refine q_cne (tgt := 94) B dX12_readGroup_79 (by decide) (by unfold inr; omega) (by unfold inr; omega) (fun c118 => ?_) (fun c118 => ?_)
          · exact JJ94 v61_1 v61_2 x109 x110 x111 x112 y61_5 y61_6 y61_15 y61_22 y61_56 w113 y61_13 y61_14 y61_17 y61_18 y61_19 y61_20 y61_21 y61_23 y61_12 y61_16 _ _ ls hM (lv_sub hl [0, 1, 2] rfl) (by omega) (by omega) (by first | omega | (simp only [wr_at]; omega) | assumption) (by first | omega | (simp only [wr_at]; omega) | assumption) (by first | omega | (simp only [wr_at]; omega) | assumption) (by first | omega | (simp only [wr_at]; omega) | assumption) (by first | omega | (simp only [wr_at]; omega) | assumption) (by first | omega | (simp only [wr_at]; omega) | assumption) (by first | omega | (simp only [wr_at]; omega) | assumption) (by first | omega | (simp only [wr_at]; omega) | assumption) (by first | omega | (simp only [wr_at]; omega) | assumption) (by first | omega | (simp only [wr_at]; omega) | assumption) (by first | omega | (simp only [wr_at]; omega) | assumption) (by first | omega | (simp only [wr_at]; omega) | assumption) (by first | omega | (simp only [wr_at]; omega) | assumption) (by first | assumption | exact NIp_same (by assumption) (by omega) (by omega) (by omega) (by omega) | exact NIp_t (by assumption) (by omega) (by omega) (by omega) (by omega) (by omega) | exact NIp_bad (by omega)) (by first | assumption) (by first | assumption | exact APe_rfl | exact APe_tr (by assumption) (by assumption) (by omega))
          · refine lv_aload_n B.1 B.2.1 dX12_readGroup_82 rfl (lv_at hl 0 rfl) ?_
            refine m_get (k := 7) (v := x111) B hM (by decide) rfl fl66 dX12_readGroup_83 rfl ?_
            refine q_con B dX12_readGroup_86 ?_
            refine q_cne (tgt := 94) B dX12_readGroup_87 (by decide) (by unfold inr; omega) (by unfold inr; omega) (fun c119 => ?_) (fun c119 => ?_)
            · exact JJ94 v61_1 v61_2 x109 x110 x111 x112 y61_5 y61_6 y61_15 y61_22 y61_56 w113 y61_13 y61_14 y61_17 y61_18 y61_19 y61_20 y61_21 y61_23 y61_12 y61_16 _ _ ls hM (lv_sub hl [0, 1, 2] rfl) (by omega) (by omega) (by first | omega | (simp only [wr_at]; omega) | assumption) (by first | omega | (simp only [wr_at]; omega) | assumption) (by first | omega | (simp only [wr_at]; omega) | assumption) (by first | omega | (simp only [wr_at]; omega) | assumption) (by first | omega | (simp only [wr_at]; omega) | assumption) (by first | omega | (simp only [wr_at]; omega) | assumption) (by first | omega | (simp only [wr_at]; omega) | assumption) (by first | omega | (simp only [wr_at]; omega) | assumption) (by first | omega | (simp only [wr_at]; omega) | assumption) (by first | omega | (simp only [wr_at]; omega) | assumption) (by first | omega | (simp only [wr_at]; omega) | assumption) (by first | omega | (simp only [wr_at]; omega) | assumption) (by first | omega | (simp only [wr_at]; omega) | assumption) (by first | assumption | exact NIp_same (by assumption) (by omega) (by omega) (by omega) (by omega) | exact NIp_t (by assumption) (by omega) (by omega) (by omega) (by omega) (by omega) | exact NIp_bad (by omega)) (by first | assumption) (by first | assumption | exact APe_rfl | exact APe_tr (by assumption) (by assumption) (by omega))
            · refine lv_aload_n B.1 B.2.1 dX12_readGroup_90 rfl (lv_at hl 0 rfl) ?_
              refine m_callv (n := 0) (rest := []) B hM hA hl.1 (k_wrong2 l D dA h0 ad (up f [(8, x109), (9, x110), (7, x111), (10, x112), (5, y61_5), (6, y61_6), (15, y61_15), (22, y61_22), (56, y61_56)]) (up g [(11, w113)]) (up A [(13, y61_13), (14, y61_14), (17, y61_17), (18, y61_18), (19, y61_19), (20, y61_20), (21, y61_21), (23, y61_23)]) (up L [(12, y61_12), (16, y61_16)])   ) rfl ok_wrong2 nm_wrong2 ⟨rfl, rfl⟩ ⟨Nat.le_of_ble_eq_true rfl, Nat.le_of_ble_eq_true rfl⟩ dX12_readGroup_91 rfl rfl (Nat.le_of_ble_eq_true rfl) ⟨Nat.zero_le _, Nat.zero_le _⟩ (fun σr120 H locs hp121 hM => ?_)
              obtain ⟨x122, x123, rfl, hp121⟩ := hp121
              replace hp121 : (x122) ≠ 0 := hp121
              simp only [up_up] at hM
              replace hM : MWd D dA h0 ad (mF dA h0 ad (f, g, A, L) s.heap.size) s.heap ((up f [(8, x109), (9, x110), (7, x111), (10, x112), (5, x122), (6, x123), (15, y61_15), (22, y61_22), (56, y61_56)]), (up g [(11, w113)]), (up A [(13, y61_13), (14, y61_14), (17, y61_17), (18, y61_18), (19, y61_19), (20, y61_20), (21, y61_21), (23, y61_23)]), (up L [(12, y61_12), (16, y61_16)])) H locs := hM
              have r124 : (-2147483648 : Int) ≤ x122 ∧ x122 ≤ 2147483647 := hM.2.2.2.1 5
              have r125 : (-2147483648 : Int) ≤ x123 ∧ x123 ≤ 2147483647 := hM.2.2.2.1 6
              exact JJ94 v61_1 v61_2 x109 x110 x111 x112 x122 x123 y61_15 y61_22 y61_56 w113 y61_13 y61_14 y61_17 y61_18 y61_19 y61_20 y61_21 y61_23 y61_12 y61_16 _ _ ls hM (lv_sub hl [0, 1, 2] rfl) (by omega) (by omega) (by first | omega | (simp only [wr_at]; omega) | assumption) (by first | omega | (simp only [wr_at]; omega) | assumption) (by first | omega | (simp only [wr_at]; omega) | assumption) (by first | omega | (simp only [wr_at]; omega) | assumption) (by first | omega | (simp only [wr_at]; omega) | assumption) (by first | omega | (simp only [wr_at]; omega) | assumption) (by first | omega | (simp only [wr_at]; omega) | assumption) (by first | omega | (simp only [wr_at]; omega) | assumption) (by first | omega | (simp only [wr_at]; omega) | assumption) (by first | omega | (simp only [wr_at]; omega) | assumption) (by first | omega | (simp only [wr_at]; omega) | assumption) (by first | omega | (simp only [wr_at]; omega) | assumption) (by first | omega | (simp only [wr_at]; omega) | assumption) (by first | assumption | exact NIp_same (by assumption) (by omega) (by omega) (by omega) (by omega) | exact NIp_t (by assumption) (by omega) (by omega) (by omega) (by omega) (by omega) | exact NIp_bad (by omega)) (by first | assumption) (by first | assumption | exact APe_rfl | exact APe_tr (by assumption) (by assumption) (by omega))
  refine lv_aload_n B.1 B.2.1 dX12_readGroup_0 rfl (lv_at hl 0 rfl) ?_
  refine m_get (k := 56) (v := f 56) B hM (by decide) rfl fl439 dX12_readGroup_1 rfl ?_
  refine q_con B dX12_readGroup_4 ?_
  refine q_add B dX12_readGroup_5 ?_
  refine lv_istore_n (lv' := [(1, .int (II ((f 56) + 1))), (0, .ref h0)]) B.1 B.2.1 dX12_readGroup_6 rfl hl (by decide) rfl (fun ls hl => ?_)
  refine lv_aload_n B.1 B.2.1 dX12_readGroup_7 rfl (lv_at hl 1 rfl) ?_
  refine q_con B dX12_readGroup_8 ?_
  refine lv_iload_n B.1 B.2.1 dX12_readGroup_9 rfl (lv_at hl 0 rfl) ?_
  refine m_callv (n := 2) (rest := []) B hM hA hl.1 (k_tell l D dA h0 ad (up f [(8, f 8), (9, f 9), (7, f 7), (10, f 10), (5, f 5), (6, f 6), (15, f 15), (22, f 22), (56, f 56)]) (up g [(11, g 11)]) (up A [(13, (A 13)), (14, (A 14)), (17, (A 17)), (18, (A 18)), (19, (A 19)), (20, (A 20)), (21, (A 21)), (23, (A 23))]) (up L [(12, (L 12)), (16, (L 16))]) 1 ((f 56) + 1) (by omega) (by omega) (show (0 ≤ (f 8) ∧ (f 8) ≤ (f 4) ∧ (f 8) ≤ (f 9) ∧ (f 9) ≤ (f 4) + 1 ∧ ((f 7) = 0 ↔ (f 8) = (f 4)) ∧ (2 ≤ (f 7) → (f 8) < (f 9) ∧ (f 9) ≤ (f 4)) ∧ ((f 7) = 5 → (f 8) + 2 ≤ (f 9) ∧ (f 9) ≤ (f 8) + 32)) from by first | omega | (simp only [wr_at]; omega) | assumption) (show (f 15) ≤ 62 from by first | omega | (simp only [wr_at]; omega) | assumption) (show 1 ≤ (1) from by first | omega | (simp only [wr_at]; omega) | assumption) (show (1) ≤ 5 from by first | omega | (simp only [wr_at]; omega) | assumption) (show 0 ≤ ((f 56) + 1) from by first | omega | (simp only [wr_at]; omega) | assumption) (show ((f 56) + 1) ≤ 15 from by first | omega | (simp only [wr_at]; omega) | assumption) (show ((1) = 1 → ((f 56) + 1) ≤ 7) from by first | omega | (simp only [wr_at]; omega) | assumption) (show ((1) = 3 → ((f 56) + 1) = (f 58)) from by first | omega | (simp only [wr_at]; omega) | assumption) (show ((1) = 4 → ((f 56) + 1) = (f 59)) from by first | omega | (simp only [wr_at]; omega) | assumption) (show NIp (f 5) (f 15) (f 3) (f 58) (f 59) (A 13) (A 14) from by first | assumption | exact NIp_same (by assumption) (by omega) (by omega) (by omega) (by omega) | exact NIp_t (by assumption) (by omega) (by omega) (by omega) (by omega) (by omega) | exact NIp_bad (by omega))) rfl ok_tell nm_tell ⟨rfl, rfl⟩ ⟨Nat.le_of_ble_eq_true rfl, Nat.le_of_ble_eq_true rfl⟩ dX12_readGroup_10 rfl rfl (Nat.le_of_ble_eq_true rfl) ⟨Nat.zero_le _, Nat.zero_le _⟩ (fun σr126 H locs hp127 hM => ?_)
  obtain ⟨x128, x129, x130, x131, x132, x133, x134, w135, b136, b137, b138, rfl, hp127⟩ := hp127
  replace hp127 : ((0 ≤ (x128) ∧ (x128) ≤ (f 4) ∧ (x128) ≤ (x129) ∧ (x129) ≤ (f 4) + 1 ∧ ((x130) = 0 ↔ (x128) = (f 4)) ∧ (2 ≤ (x130) → (x128) < (x129) ∧ (x129) ≤ (f 4)) ∧ ((x130) = 5 → (x128) + 2 ≤ (x129) ∧ (x129) ≤ (x128) + 32))) ∧ (f 8) ≤ (x128) ∧ ((x132) = 0 → (f 5) = 0 ∧ (f 8) + 1 ≤ (x128) ∧ (x134) = (f 15) + 1) ∧ (f 15) ≤ (x134) ∧ (x134) ≤ (f 15) + 1 ∧ NIp (x132) (x134) (f 3) (u3 3 (1) (f 58)) (u3 4 (1) (f 59)) b136 b137 := hp127
  obtain ⟨hp127_0, hp127_1, hp127_2, hp127_3, hp127_4, hp127_5⟩ := hp127
  simp only [up_up] at hM
  replace hM : MWd D dA h0 ad (mF dA h0 ad (f, g, A, L) s.heap.size) s.heap ((up f [(8, x128), (9, x129), (7, x130), (10, x131), (5, x132), (6, x133), (15, x134), (22, f 22), (56, f 56)]), (up g [(11, w135)]), (up A [(13, b136), (14, b137), (17, (A 17)), (18, (A 18)), (19, (A 19)), (20, (A 20)), (21, (A 21)), (23, (A 23))]), (up L [(12, b138), (16, (L 16))])) H locs := hM
  have r139 : (0 : Int) ≤ x128 ∧ x128 ≤ 3001 := hM.2.2.2.1 8
  have r140 : (0 : Int) ≤ x129 ∧ x129 ≤ 3002 := hM.2.2.2.1 9
  have r141 : (0 : Int) ≤ x130 ∧ x130 ≤ 6 := hM.2.2.2.1 7
  have r142 : (-2147483648 : Int) ≤ x131 ∧ x131 ≤ 2147483647 := hM.2.2.2.1 10
  have r143 : (-2147483648 : Int) ≤ x132 ∧ x132 ≤ 2147483647 := hM.2.2.2.1 5
  have r144 : (-2147483648 : Int) ≤ x133 ∧ x133 ≤ 2147483647 := hM.2.2.2.1 6
  have r145 : (0 : Int) ≤ x134 ∧ x134 ≤ 64 := hM.2.2.2.1 15
  refine lv_aload_n B.1 B.2.1 dX12_readGroup_13 rfl (lv_at hl 1 rfl) ?_
  refine m_calli (n := 0) (rest := []) B hM hA hl.1 (k_isGood l D dA h0 ad (up f [(8, x128), (9, x129), (7, x130), (10, x131), (5, x132), (6, x133), (15, x134), (22, f 22), (56, f 56)]) (up g [(11, w135)]) (up A [(13, b136), (14, b137), (17, (A 17)), (18, (A 18)), (19, (A 19)), (20, (A 20)), (21, (A 21)), (23, (A 23))]) (up L [(12, b138), (16, (L 16))])   ) rfl ok_isGood nm_isGood ⟨rfl, rfl⟩ ⟨Nat.le_of_ble_eq_true rfl, Nat.le_of_ble_eq_true rfl⟩ dX12_readGroup_14 rfl rfl (Nat.le_of_ble_eq_true rfl) ⟨Nat.zero_le _, Nat.zero_le _⟩ (fun r146 σr146 H locs ir146 hp147 hM => ?_)
  obtain ⟨rfl, hp147⟩ := hp147
  unfold inr at ir146
  replace hp147 : 0 ≤ r146 ∧ r146 ≤ 1 ∧ (r146 = 1 ↔ (x132) = 0) := hp147
  obtain ⟨hp147_0, hp147_1, hp147_2⟩ := hp147
  refine q_ine (tgt := 21) B dX12_readGroup_17 (by decide) (by unfold inr; omega) (fun c148 => ?_) (fun c148 => ?_)
  · refine lv_aload_n B.1 B.2.1 dX12_readGroup_21 rfl (lv_at hl 1 rfl) ?_
    refine lv_dup B.1 B.2.1 dX12_readGroup_22 rfl ?_
    refine m_get (k := 56) (v := f 56) B hM (by decide) rfl fl439 dX12_readGroup_23 rfl ?_
    refine q_con B dX12_readGroup_26 ?_
    refine q_add B dX12_readGroup_27 ?_
    refine m_put (k := 56) B hM (by decide) rfl fl439 rfl dX12_readGroup_28 rfl rfl (show (0 : Int) ≤ (f 56) + 1 from by first | omega | (simp only [wr_at]; omega)) (show (f 56) + 1 ≤ (7 : Int) from by first | omega | (simp only [wr_at]; omega)) (u1_up f [(8, x128), (9, x129), (7, x130), (10, x131), (5, x132), (6, x133), (15, x134), (22, f 22), (56, f 56)] 56 ((f 56) + 1)) (fun H locs hM => ?_)
    replace hM : MWd D dA h0 ad (mF dA h0 ad (f, g, A, L) s.heap.size) s.heap ((up f [(8, x128), (9, x129), (7, x130), (10, x131), (5, x132), (6, x133), (15, x134), (22, f 22), (56, (f 56) + 1)]), (up g [(11, w135)]), (up A [(13, b136), (14, b137), (17, (A 17)), (18, (A 18)), (19, (A 19)), (20, (A 20)), (21, (A 21)), (23, (A 23))]), (up L [(12, b138), (16, (L 16))])) H locs := hM
    refine lv_aload_n B.1 B.2.1 dX12_readGroup_31 rfl (lv_at hl 1 rfl) ?_
    refine m_geta (k := 23) B hM (by decide) rfl fl163 dX12_readGroup_32 ?_
    refine q_bip B dX12_readGroup_35 (by decide) ?_
    refine lv_aload_n B.1 B.2.1 dX12_readGroup_37 rfl (lv_at hl 1 rfl) ?_
    refine m_get (k := 3) (v := f 3) B hM (by decide) rfl fl11 dX12_readGroup_38 rfl ?_
    refine q_mul B dX12_readGroup_41 ?_
    refine lv_iload_n B.1 B.2.1 dX12_readGroup_42 rfl (lv_at hl 0 rfl) ?_
    refine q_add B dX12_readGroup_43 ?_
    refine q_con B dX12_readGroup_44 ?_
    refine lv_iload_n B.1 B.2.1 dX12_readGroup_45 rfl (lv_at hl 0 rfl) ?_
    refine q_shl B dX12_readGroup_46 (fun x149 ix149 => ?_)
    unfold inr at ix149
    refine m_ist (k := 23) (i := 11) (n := 18) B hM rfl rfl rfl (by decide) dX12_readGroup_47 (by omega) (by omega) (show (-2147483648 : Int) ≤ x149 from by first | omega | (simp only [wr_at]; omega)) (show x149 ≤ (2147483647 : Int) from by first | omega | (simp only [wr_at]; omega)) (u1_up A [(13, b136), (14, b137), (17, (A 17)), (18, (A 18)), (19, (A 19)), (20, (A 20)), (21, (A 21)), (23, (A 23))] 23 (wr (A 23) ((9 * (f 3)) + ((f 56) + 1)) x149)) (fun H locs hM => ?_)
    replace hM : MWd D dA h0 ad (mF dA h0 ad (f, g, A, L) s.heap.size) s.heap ((up f [(8, x128), (9, x129), (7, x130), (10, x131), (5, x132), (6, x133), (15, x134), (22, f 22), (56, (f 56) + 1)]), (up g [(11, w135)]), (up A [(13, b136), (14, b137), (17, (A 17)), (18, (A 18)), (19, (A 19)), (20, (A 20)), (21, (A 21)), (23, (wr (A 23) ((9 * (f 3)) + ((f 56) + 1)) x149))]), (up L [(12, b138), (16, (L 16))])) H locs := hM
    refine lv_aload_n B.1 B.2.1 dX12_readGroup_48 rfl (lv_at hl 1 rfl) ?_
    refine q_bip B dX12_readGroup_49 (by decide) ?_
    refine m_calli (n := 1) (rest := []) B hM hA hl.1 (k_isSign l D dA h0 ad (up f [(8, x128), (9, x129), (7, x130), (10, x131), (5, x132), (6, x133), (15, x134), (22, f 22), (56, (f 56) + 1)]) (up g [(11, w135)]) (up A [(13, b136), (14, b137), (17, (A 17)), (18, (A 18)), (19, (A 19)), (20, (A 20)), (21, (A 21)), (23, (wr (A 23) ((9 * (f 3)) + ((f 56) + 1)) x149))]) (up L [(12, b138), (16, (L 16))]) 58 (by omega) (show (0 ≤ (x128) ∧ (x128) ≤ (f 4) ∧ (x128) ≤ (x129) ∧ (x129) ≤ (f 4) + 1 ∧ ((x130) = 0 ↔ (x128) = (f 4)) ∧ (2 ≤ (x130) → (x128) < (x129) ∧ (x129) ≤ (f 4)) ∧ ((x130) = 5 → (x128) + 2 ≤ (x129) ∧ (x129) ≤ (x128) + 32)) from by first | omega | (simp only [wr_at]; omega) | assumption)) rfl ok_isSign nm_isSign ⟨rfl, rfl⟩ ⟨Nat.le_of_ble_eq_true rfl, Nat.le_of_ble_eq_true rfl⟩ dX12_readGroup_51 rfl rfl (Nat.le_of_ble_eq_true rfl) ⟨Nat.zero_le _, Nat.zero_le _⟩ (fun r150 σr150 H locs ir150 hp151 hM => ?_)
    obtain ⟨rfl, hp151⟩ := hp151
    unfold inr at ir150
    replace hp151 : 0 ≤ r150 ∧ r150 ≤ 1 ∧ (r150 = 1 ↔ (x130) = 6 ∧ sgn ((A 2)) (f 3) (f 4) (x128) = (58)) := hp151
    obtain ⟨hp151_0, hp151_1, hp151_2⟩ := hp151
    refine q_ieq (tgt := 145) B dX12_readGroup_54 (by decide) (by unfold inr; omega) (fun c152 => ?_) (fun c152 => ?_)
    · refine lv_aload_n B.1 B.2.1 dX12_readGroup_145 rfl (lv_at hl 1 rfl) ?_
      refine m_calli (n := 0) (rest := []) B hM hA hl.1 (k_isGood l D dA h0 ad (up f [(8, x128), (9, x129), (7, x130), (10, x131), (5, x132), (6, x133), (15, x134), (22, f 22), (56, (f 56) + 1)]) (up g [(11, w135)]) (up A [(13, b136), (14, b137), (17, (A 17)), (18, (A 18)), (19, (A 19)), (20, (A 20)), (21, (A 21)), (23, (wr (A 23) ((9 * (f 3)) + ((f 56) + 1)) x149))]) (up L [(12, b138), (16, (L 16))])   ) rfl ok_isGood nm_isGood ⟨rfl, rfl⟩ ⟨Nat.le_of_ble_eq_true rfl, Nat.le_of_ble_eq_true rfl⟩ dX12_readGroup_146 rfl rfl (Nat.le_of_ble_eq_true rfl) ⟨Nat.zero_le _, Nat.zero_le _⟩ (fun r153 σr153 H locs ir153 hp154 hM => ?_)
      obtain ⟨rfl, hp154⟩ := hp154
      unfold inr at ir153
      replace hp154 : 0 ≤ r153 ∧ r153 ≤ 1 ∧ (r153 = 1 ↔ (x132) = 0) := hp154
      obtain ⟨hp154_0, hp154_1, hp154_2⟩ := hp154
      refine q_ieq (tgt := 158) B dX12_readGroup_149 (by decide) (by unfold inr; omega) (fun c155 => ?_) (fun c155 => ?_)
      · subst hPST
        exact m_vret B hM dX12_readGroup_158 ⟨x128, x129, x130, x131, x132, x133, x134, (f 22), ((f 56) + 1), w135, b136, b137, ((A 17)), ((A 18)), ((A 19)), ((A 20)), ((A 21)), ((wr (A 23) ((9 * (f 3)) + ((f 56) + 1)) x149)), b138, ((L 16)), rfl, by (exact ⟨by first | omega | (simp only [wr_at]; omega) | assumption, by first | omega | (simp only [wr_at]; omega) | assumption, by first | omega | (simp only [wr_at]; omega) | assumption, by first | omega | (simp only [wr_at]; omega) | assumption, by first | omega | (simp only [wr_at]; omega) | assumption, by first | omega | (simp only [wr_at]; omega) | assumption, by first | omega | (simp only [wr_at]; omega) | assumption, by first | assumption | exact NIp_same (by assumption) (by omega) (by omega) (by omega) (by omega) | exact NIp_t (by assumption) (by omega) (by omega) (by omega) (by omega) (by omega) | exact NIp_bad (by omega), by first | assumption, by first | assumption | exact APe_rfl | exact APe_tr (by assumption) (by assumption) (by omega)⟩)⟩
      · refine lv_aload_n B.1 B.2.1 dX12_readGroup_152 rfl (lv_at hl 1 rfl) ?_
        refine q_bip B dX12_readGroup_153 (by decide) ?_
        refine m_callv (n := 1) (rest := []) B hM hA hl.1 (k_must l D dA h0 ad (up f [(8, x128), (9, x129), (7, x130), (10, x131), (5, x132), (6, x133), (15, x134), (22, f 22), (56, (f 56) + 1)]) (up g [(11, w135)]) (up A [(13, b136), (14, b137), (17, (A 17)), (18, (A 18)), (19, (A 19)), (20, (A 20)), (21, (A 21)), (23, (wr (A 23) ((9 * (f 3)) + ((f 56) + 1)) x149))]) (up L [(12, b138), (16, (L 16))]) 59 (by omega) (show (0 ≤ (x128) ∧ (x128) ≤ (f 4) ∧ (x128) ≤ (x129) ∧ (x129) ≤ (f 4) + 1 ∧ ((x130) = 0 ↔ (x128) = (f 4)) ∧ (2 ≤ (x130) → (x128) < (x129) ∧ (x129) ≤ (f 4)) ∧ ((x130) = 5 → (x128) + 2 ≤ (x129) ∧ (x129) ≤ (x128) + 32)) from by first | omega | (simp only [wr_at]; omega) | assumption)) rfl ok_must nm_must ⟨rfl, rfl⟩ ⟨Nat.le_of_ble_eq_true rfl, Nat.le_of_ble_eq_true rfl⟩ dX12_readGroup_155 rfl rfl (Nat.le_of_ble_eq_true rfl) ⟨Nat.zero_le _, Nat.zero_le _⟩ (fun σr156 H locs hp157 hM => ?_)
        obtain ⟨x158, x159, x160, x161, x162, x163, w164, rfl, hp157⟩ := hp157
        replace hp157 : ((0 ≤ (x158) ∧ (x158) ≤ (f 4) ∧ (x158) ≤ (x159) ∧ (x159) ≤ (f 4) + 1 ∧ ((x160) = 0 ↔ (x158) = (f 4)) ∧ (2 ≤ (x160) → (x158) < (x159) ∧ (x159) ≤ (f 4)) ∧ ((x160) = 5 → (x158) + 2 ≤ (x159) ∧ (x159) ≤ (x158) + 32))) ∧ (x128) ≤ (x158) ∧ ((x162) = 0 → (x132) = 0 ∧ (x128) + 1 ≤ (x158) ∧ (x129) ≤ (x158)) := hp157
        obtain ⟨hp157_0, hp157_1, hp157_2⟩ := hp157
        simp only [up_up] at hM
        replace hM : MWd D dA h0 ad (mF dA h0 ad (f, g, A, L) s.heap.size) s.heap ((up f [(8, x158), (9, x159), (7, x160), (10, x161), (5, x162), (6, x163), (15, x134), (22, f 22), (56, (f 56) + 1)]), (up g [(11, w164)]), (up A [(13, b136), (14, b137), (17, (A 17)), (18, (A 18)), (19, (A 19)), (20, (A 20)), (21, (A 21)), (23, (wr (A 23) ((9 * (f 3)) + ((f 56) + 1)) x149))]), (up L [(12, b138), (16, (L 16))])) H locs := hM
        have r165 : (0 : Int) ≤ x158 ∧ x158 ≤ 3001 := hM.2.2.2.1 8
        have r166 : (0 : Int) ≤ x159 ∧ x159 ≤ 3002 := hM.2.2.2.1 9
        have r167 : (0 : Int) ≤ x160 ∧ x160 ≤ 6 := hM.2.2.2.1 7
        have r168 : (-2147483648 : Int) ≤ x161 ∧ x161 ≤ 2147483647 := hM.2.2.2.1 10
        have r169 : (-2147483648 : Int) ≤ x162 ∧ x162 ≤ 2147483647 := hM.2.2.2.1 5
        have r170 : (-2147483648 : Int) ≤ x163 ∧ x163 ≤ 2147483647 := hM.2.2.2.1 6
        subst hPST
        exact m_vret B hM dX12_readGroup_158 ⟨x158, x159, x160, x161, x162, x163, x134, (f 22), ((f 56) + 1), w164, b136, b137, ((A 17)), ((A 18)), ((A 19)), ((A 20)), ((A 21)), ((wr (A 23) ((9 * (f 3)) + ((f 56) + 1)) x149)), b138, ((L 16)), rfl, by (exact ⟨by first | omega | (simp only [wr_at]; omega) | assumption, by first | omega | (simp only [wr_at]; omega) | assumption, by first | omega | (simp only [wr_at]; omega) | assumption, by first | omega | (simp only [wr_at]; omega) | assumption, by first | omega | (simp only [wr_at]; omega) | assumption, by first | omega | (simp only [wr_at]; omega) | assumption, by first | omega | (simp only [wr_at]; omega) | assumption, by first | assumption | exact NIp_same (by assumption) (by omega) (by omega) (by omega) (by omega) | exact NIp_t (by assumption) (by omega) (by omega) (by omega) (by omega) (by omega) | exact NIp_bad (by omega), by first | assumption, by first | assumption | exact APe_rfl | exact APe_tr (by assumption) (by assumption) (by omega)⟩)⟩
    · refine q_con B dX12_readGroup_57 ?_
      refine lv_istore_n (lv' := [(2, .int (II 0)), (1, .int (II ((f 56) + 1))), (0, .ref h0)]) B.1 B.2.1 dX12_readGroup_58 rfl hl (by decide) rfl (fun ls hl => ?_)
      refine q_con B dX12_readGroup_59 ?_
      refine lv_istore_n (lv' := [(3, .int (II 1)), (2, .int (II 0)), (1, .int (II ((f 56) + 1))), (0, .ref h0)]) B.1 B.2.1 dX12_readGroup_60 rfl hl (by decide) rfl (fun ls hl => ?_)
      exact LL61 (Int.toNat (10 - (0) + 1)) ((f 56) + 1) 0 1 x128 x129 x130 x131 x132 x133 x134 (f 22) ((f 56) + 1) w135 b136 b137 ((A 17)) ((A 18)) ((A 19)) ((A 20)) ((A 21)) ((wr (A 23) ((9 * (f 3)) + ((f 56) + 1)) x149)) b138 ((L 16)) _ _ ls hM (lv_sub hl [3, 2, 1, 0] rfl) (by omega) (by omega) (by omega) (by first | omega | (simp only [wr_at]; omega) | assumption) (by first | omega | (simp only [wr_at]; omega) | assumption) (by first | omega | (simp only [wr_at]; omega) | assumption) (by first | omega | (simp only [wr_at]; omega) | assumption) (by first | omega | (simp only [wr_at]; omega) | assumption) (by first | omega | (simp only [wr_at]; omega) | assumption) (by first | omega | (simp only [wr_at]; omega) | assumption) (by first | omega | (simp only [wr_at]; omega) | assumption) (by first | omega | (simp only [wr_at]; omega) | assumption) (by first | omega | (simp only [wr_at]; omega) | assumption) (by first | omega | (simp only [wr_at]; omega) | assumption) (by first | omega | (simp only [wr_at]; omega) | assumption) (by first | omega | (simp only [wr_at]; omega) | assumption) (by first | omega | (simp only [wr_at]; omega) | assumption) (by first | assumption | exact NIp_same (by assumption) (by omega) (by omega) (by omega) (by omega) | exact NIp_t (by assumption) (by omega) (by omega) (by omega) (by omega) (by omega) | exact NIp_bad (by omega)) (by first | assumption) (by first | assumption | exact APe_rfl | exact APe_tr (by assumption) (by assumption) (by omega)) (by first | omega | (simp only [wr_at]; omega) | assumption) (by first | omega | (simp only [wr_at]; omega) | assumption)
  · subst hPST
    exact m_vret B hM dX12_readGroup_20 ⟨x128, x129, x130, x131, x132, x133, x134, (f 22), (f 56), w135, b136, b137, ((A 17)), ((A 18)), ((A 19)), ((A 20)), ((A 21)), ((A 23)), b138, ((L 16)), rfl, by (exact ⟨by first | omega | (simp only [wr_at]; omega) | assumption, by first | omega | (simp only [wr_at]; omega) | assumption, by first | omega | (simp only [wr_at]; omega) | assumption, by first | omega | (simp only [wr_at]; omega) | assumption, by first | omega | (simp only [wr_at]; omega) | assumption, by first | omega | (simp only [wr_at]; omega) | assumption, by first | omega | (simp only [wr_at]; omega) | assumption, by first | assumption | exact NIp_same (by assumption) (by omega) (by omega) (by omega) (by omega) | exact NIp_t (by assumption) (by omega) (by omega) (by omega) (by omega) (by omega) | exact NIp_bad (by omega), by first | assumption, by first | assumption | exact APe_rfl | exact APe_tr (by assumption) (by assumption) (by omega)⟩)⟩
set_option maxHeartbeats 4000000 in
set_option maxRecDepth 20000 in
theorem k_readChain (l : Launch) (D : va_G) (dA : Nat → ClassId) (h0 : Nat) (ad : Nat → Nat) (f : Nat → Int) (g : Nat → Int64) (A : Nat → Nat → Int) (L : Nat → Nat → Int64) (p_0 : (0 ≤ (f 8) ∧ (f 8) ≤ (f 4) ∧ (f 8) ≤ (f 9) ∧ (f 9) ≤ (f 4) + 1 ∧ ((f 7) = 0 ↔ (f 8) = (f 4)) ∧ (2 ≤ (f 7) → (f 8) < (f 9) ∧ (f 9) ≤ (f 4)) ∧ ((f 7) = 5 → (f 8) + 2 ≤ (f 9) ∧ (f 9) ≤ (f 8) + 32))) (p_1 : (f 57) ≤ 5) (p_2 : (f 15) ≤ 62) (p_3 : 2 * (f 22) ≤ (f 8)) (p_4 : NIp (f 5) (f 15) (f 3) (f 58) (f 59) (A 13) (A 14)) (p_5 : AIp (f 22) (A 18) (A 20) (A 21)) : MCv l yX12_readChain cX12_readChain 4 ({ frames := 4, cells := 0, slots := 0, locals := 89 }) D dA h0 ad (f, g, A, L) [] (fun (σ : MS) => ∃ n8 : Int, ∃ n9 : Int, ∃ n7 : Int, ∃ n10 : Int, ∃ n5 : Int, ∃ n6 : Int, ∃ n15 : Int, ∃ n22 : Int, ∃ n57 : Int, ∃ n11 : Int64, ∃ b13 : Nat → Int, ∃ b14 : Nat → Int, ∃ b17 : Nat → Int, ∃ b18 : Nat → Int, ∃ b19 : Nat → Int, ∃ b20 : Nat → Int, ∃ b21 : Nat → Int, ∃ b25 : Nat → Int, ∃ b12 : Nat → Int64, ∃ b16 : Nat → Int64, σ = ((up f [(8, n8), (9, n9), (7, n7), (10, n10), (5, n5), (6, n6), (15, n15), (22, n22), (57, n57)]), (up g [(11, n11)]), (up A [(13, b13), (14, b14), (17, b17), (18, b18), (19, b19), (20, b20), (21, b21), (25, b25)]), (up L [(12, b12), (16, b16)])) ∧ (((0 ≤ (n8) ∧ (n8) ≤ (f 4) ∧ (n8) ≤ (n9) ∧ (n9) ≤ (f 4) + 1 ∧ ((n7) = 0 ↔ (n8) = (f 4)) ∧ (2 ≤ (n7) → (n8) < (n9) ∧ (n9) ≤ (f 4)) ∧ ((n7) = 5 → (n8) + 2 ≤ (n9) ∧ (n9) ≤ (n8) + 32))) ∧ (f 8) ≤ (n8) ∧ ((n5) = 0 → (f 5) = 0 ∧ (f 8) + 1 ≤ (n8) ∧ (n15) = (f 15) + 1 ∧ (n57) = (f 57) + 1 ∧ 2 * (n22) ≤ (n8) ∧ b25 (6 * (f 3) + (f 57)).toNat ≤ 8) ∧ (f 15) ≤ (n15) ∧ (n15) ≤ (f 15) + 1 ∧ 2 * (n22) ≤ (n8) + 1 ∧ (f 22) ≤ (n22) ∧ Fr1 (A 25) b25 (6 * (f 3) + (f 57)) ∧ NIp (n5) (n15) (f 3) (f 58) (f 59) b13 b14 ∧ AIp (n22) b18 b20 b21 ∧ APe (f 22) (A 20) (A 21) b20 b21)) := by
  generalize hPST : (fun (σ : MS) => ∃ n8 : Int, ∃ n9 : Int, ∃ n7 : Int, ∃ n10 : Int, ∃ n5 : Int, ∃ n6 : Int, ∃ n15 : Int, ∃ n22 : Int, ∃ n57 : Int, ∃ n11 : Int64, ∃ b13 : Nat → Int, ∃ b14 : Nat → Int, ∃ b17 : Nat → Int, ∃ b18 : Nat → Int, ∃ b19 : Nat → Int, ∃ b20 : Nat → Int, ∃ b21 : Nat → Int, ∃ b25 : Nat → Int, ∃ b12 : Nat → Int64, ∃ b16 : Nat → Int64, σ = ((up f [(8, n8), (9, n9), (7, n7), (10, n10), (5, n5), (6, n6), (15, n15), (22, n22), (57, n57)]), (up g [(11, n11)]), (up A [(13, b13), (14, b14), (17, b17), (18, b18), (19, b19), (20, b20), (21, b21), (25, b25)]), (up L [(12, b12), (16, b16)])) ∧ (((0 ≤ (n8) ∧ (n8) ≤ (f 4) ∧ (n8) ≤ (n9) ∧ (n9) ≤ (f 4) + 1 ∧ ((n7) = 0 ↔ (n8) = (f 4)) ∧ (2 ≤ (n7) → (n8) < (n9) ∧ (n9) ≤ (f 4)) ∧ ((n7) = 5 → (n8) + 2 ≤ (n9) ∧ (n9) ≤ (n8) + 32))) ∧ (f 8) ≤ (n8) ∧ ((n5) = 0 → (f 5) = 0 ∧ (f 8) + 1 ≤ (n8) ∧ (n15) = (f 15) + 1 ∧ (n57) = (f 57) + 1 ∧ 2 * (n22) ≤ (n8) ∧ b25 (6 * (f 3) + (f 57)).toNat ≤ 8) ∧ (f 15) ≤ (n15) ∧ (n15) ≤ (f 15) + 1 ∧ 2 * (n22) ≤ (n8) + 1 ∧ (f 22) ≤ (n22) ∧ Fr1 (A 25) b25 (6 * (f 3) + (f 57)) ∧ NIp (n5) (n15) (f 3) (f 58) (f 59) b13 b14 ∧ AIp (n22) b18 b20 b21 ∧ APe (f 22) (A 20) (A 21) b20 b21)) = PST
  refine m_enterv (by decide) rfl (Nat.le_of_ble_eq_true rfl) (fun p e s m args below meth c ls B hM hl => ?_)
  have hA : ∀ q, s.heap.size ≤ q → mF dA h0 ad (f, g, A, L) s.heap.size q := fun q h => Or.inr h
  have hM : MWd D dA h0 ad (mF dA h0 ad (f, g, A, L) s.heap.size) s.heap ((up f [(8, f 8), (9, f 9), (7, f 7), (10, f 10), (5, f 5), (6, f 6), (15, f 15), (22, f 22), (57, f 57)]), (up g [(11, g 11)]), (up A [(13, (A 13)), (14, (A 14)), (17, (A 17)), (18, (A 18)), (19, (A 19)), (20, (A 20)), (21, (A 21)), (25, (A 25))]), (up L [(12, (L 12)), (16, (L 16))])) s.heap [] := MW_pad hM (up_self f [8, 9, 7, 10, 5, 6, 15, 22, 57]) (up_self g [11]) (up_self A [13, 14, 17, 18, 19, 20, 21, 25]) (up_self L [12, 16])
  have hl : lv_has ls 4 [(0, .ref h0)] := hl
  have r1 : (0 : Int) ≤ f 3 ∧ f 3 ≤ 1 := hM.2.2.2.1 3
  have r2 : (0 : Int) ≤ f 4 ∧ f 4 ≤ 3000 := hM.2.2.2.1 4
  have r3 : (0 : Int) ≤ f 7 ∧ f 7 ≤ 6 := hM.2.2.2.1 7
  have r4 : (0 : Int) ≤ f 8 ∧ f 8 ≤ 3001 := hM.2.2.2.1 8
  have r5 : (0 : Int) ≤ f 9 ∧ f 9 ≤ 3002 := hM.2.2.2.1 9
  have r6 : (0 : Int) ≤ f 15 ∧ f 15 ≤ 64 := hM.2.2.2.1 15
  have r7 : (0 : Int) ≤ f 22 ∧ f 22 ≤ 1600 := hM.2.2.2.1 22
  have r8 : (0 : Int) ≤ f 57 ∧ f 57 ≤ 6 := hM.2.2.2.1 57
  have r9 : (0 : Int) ≤ f 58 ∧ f 58 ≤ 16 := hM.2.2.2.1 58
  have r10 : (0 : Int) ≤ f 59 ∧ f 59 ≤ 16 := hM.2.2.2.1 59
  have LL59 : ∀ N : Nat, ∀ (v59_2 : Int) (y59_8 : Int) (y59_9 : Int) (y59_7 : Int) (y59_10 : Int) (y59_5 : Int) (y59_6 : Int) (y59_15 : Int) (y59_22 : Int) (y59_57 : Int) (y59_11 : Int64) (y59_13 : Nat → Int) (y59_14 : Nat → Int) (y59_17 : Nat → Int) (y59_18 : Nat → Int) (y59_19 : Nat → Int) (y59_20 : Nat → Int) (y59_21 : Nat → Int) (y59_25 : Nat → Int) (y59_12 : Nat → Int64) (y59_16 : Nat → Int64) (H : Heap) (locs : List Loc) (ls : Array Slot), (MWd D dA h0 ad (mF dA h0 ad (f, g, A, L) s.heap.size) s.heap ((up f [(8, y59_8), (9, y59_9), (7, y59_7), (10, y59_10), (5, y59_5), (6, y59_6), (15, y59_15), (22, y59_22), (57, y59_57)]), (up g [(11, y59_11)]), (up A [(13, y59_13), (14, y59_14), (17, y59_17), (18, y59_18), (19, y59_19), (20, y59_20), (21, y59_21), (25, y59_25)]), (up L [(12, y59_12), (16, y59_16)])) H locs) → lv_has ls 4 [(0, .ref h0), (2, .int (II v59_2)), (1, .int (II ((f 57))))] → ((-2147483648 : Int) ≤ v59_2 ∧ v59_2 ≤ 2147483647) → ((0 ≤ (y59_8) ∧ (y59_8) ≤ (f 4) ∧ (y59_8) ≤ (y59_9) ∧ (y59_9) ≤ (f 4) + 1 ∧ ((y59_7) = 0 ↔ (y59_8) = (f 4)) ∧ (2 ≤ (y59_7) → (y59_8) < (y59_9) ∧ (y59_9) ≤ (f 4)) ∧ ((y59_7) = 5 → (y59_8) + 2 ≤ (y59_9) ∧ (y59_9) ≤ (y59_8) + 32))) → ((f 8) ≤ (y59_8)) → (0 ≤ y59_25 (6 * (f 3) + (f 57)).toNat) → (y59_25 (6 * (f 3) + (f 57)).toNat ≤ 9) → ((y59_25 (6 * (f 3) + (f 57)).toNat = 9 → (y59_5) ≠ 0)) → (0 ≤ (v59_2)) → ((v59_2) ≤ 1) → (((v59_2) = 1 → (y59_5) = 0 → (y59_7) = 6)) → (((y59_5) = 0 → (f 5) = 0 ∧ (f 8) + 1 ≤ (y59_8) ∧ (y59_15) = (f 15) + 1 ∧ (y59_57) = (f 57) + 1)) → ((f 15) ≤ (y59_15)) → ((y59_15) ≤ (f 15) + 1) → (2 * (y59_22) ≤ (y59_8) + 1) → ((f 22) ≤ (y59_22)) → (Fr1 (A 25) y59_25 (6 * (f 3) + (f 57))) → (NIp (y59_5) (y59_15) (f 3) (f 58) (f 59) y59_13 y59_14) → (AIp (y59_22) y59_18 y59_20 y59_21) → (APe (f 22) (A 20) (A 21) y59_20 y59_21) → (0 ≤ 10 - y59_25 (6 * (f 3) + (f 57)).toNat) → (10 - y59_25 (6 * (f 3) + (f 57)).toNat < (N : Int)) → W p l e ({ frames := 4, cells := 0, slots := 0, locals := 89 }) s m args below meth c H locs 0 0 (MQ below (mQv D dA h0 ad (f, g, A, L) s.heap.size PST) args s 0 0 (mF dA h0 ad (f, g, A, L) s.heap.size)) (F0 m 59 ls []) := by
    intro N
    induction N with
    | zero => intro v59_2 y59_8 y59_9 y59_7 y59_10 y59_5 y59_6 y59_15 y59_22 y59_57 y59_11 y59_13 y59_14 y59_17 y59_18 y59_19 y59_20 y59_21 y59_25 y59_12 y59_16 H locs ls hM hl hLL59_0 hLL59_1 hLL59_2 hLL59_3 hLL59_4 hLL59_5 hLL59_6 hLL59_7 hLL59_8 hLL59_9 hLL59_10 hLL59_11 hLL59_12 hLL59_13 hLL59_14 hLL59_15 hLL59_16 hLL59_17 hLL59_18 hN; exfalso; omega
    | succ N IH59 =>
      intro v59_2 y59_8 y59_9 y59_7 y59_10 y59_5 y59_6 y59_15 y59_22 y59_57 y59_11 y59_13 y59_14 y59_17 y59_18 y59_19 y59_20 y59_21 y59_25 y59_12 y59_16 H locs ls hM hl hLL59_0 hLL59_1 hLL59_2 hLL59_3 hLL59_4 hLL59_5 hLL59_6 hLL59_7 hLL59_8 hLL59_9 hLL59_10 hLL59_11 hLL59_12 hLL59_13 hLL59_14 hLL59_15 hLL59_16 hLL59_17 hLL59_18 hN
      have JJ107 : ∀ (y107_8 : Int) (y107_9 : Int) (y107_7 : Int) (y107_10 : Int) (y107_5 : Int) (y107_6 : Int) (y107_15 : Int) (y107_22 : Int) (y107_57 : Int) (y107_11 : Int64) (y107_13 : Nat → Int) (y107_14 : Nat → Int) (y107_17 : Nat → Int) (y107_18 : Nat → Int) (y107_19 : Nat → Int) (y107_20 : Nat → Int) (y107_21 : Nat → Int) (y107_25 : Nat → Int) (y107_12 : Nat → Int64) (y107_16 : Nat → Int64) (H : Heap) (locs : List Loc) (ls : Array Slot), (MWd D dA h0 ad (mF dA h0 ad (f, g, A, L) s.heap.size) s.heap ((up f [(8, y107_8), (9, y107_9), (7, y107_7), (10, y107_10), (5, y107_5), (6, y107_6), (15, y107_15), (22, y107_22), (57, y107_57)]), (up g [(11, y107_11)]), (up A [(13, y107_13), (14, y107_14), (17, y107_17), (18, y107_18), (19, y107_19), (20, y107_20), (21, y107_21), (25, y107_25)]), (up L [(12, y107_12), (16, y107_16)])) H locs) → lv_has ls 4 [(0, .ref h0), (1, .int (II ((f 57)))), (3, .int (II (6 * (f 3) + (f 57))))] → ((0 ≤ (y107_8) ∧ (y107_8) ≤ (f 4) ∧ (y107_8) ≤ (y107_9) ∧ (y107_9) ≤ (f 4) + 1 ∧ ((y107_7) = 0 ↔ (y107_8) = (f 4)) ∧ (2 ≤ (y107_7) → (y107_8) < (y107_9) ∧ (y107_9) ≤ (f 4)) ∧ ((y107_7) = 5 → (y107_8) + 2 ≤ (y107_9) ∧ (y107_9) ≤ (y107_8) + 32))) → ((y59_8) + 1 ≤ (y107_8)) → ((f 8) ≤ (y107_8)) → (0 ≤ y107_25 (6 * (f 3) + (f 57)).toNat) → (y107_25 (6 * (f 3) + (f 57)).toNat = (y59_25) (6 * (f 3) + (f 57)).toNat) → (y107_25 (6 * (f 3) + (f 57)).toNat ≤ 8) → ((y107_25 (6 * (f 3) + (f 57)).toNat = 8 → (y107_7) = 2 → (y107_5) ≠ 0)) → (((y107_5) = 0 → (f 5) = 0 ∧ (f 8) + 1 ≤ (y107_8) ∧ (y107_15) = (f 15) + 1 ∧ (y107_57) = (f 57) + 1)) → ((f 15) ≤ (y107_15)) → ((y107_15) ≤ (f 15) + 1) → (2 * (y107_22) ≤ (y107_8)) → ((f 22) ≤ (y107_22)) → (Fr1 (A 25) y107_25 (6 * (f 3) + (f 57))) → (NIp (y107_5) (y107_15) (f 3) (f 58) (f 59) y107_13 y107_14) → (AIp (y107_22) y107_18 y107_20 y107_21) → (APe (f 22) (A 20) (A 21) y107_20 y107_21) → W p l e ({ frames := 4, cells := 0, slots := 0, locals := 89 }) s m args below meth c H locs 0 0 (MQ below (mQv D dA h0 ad (f, g, A, L) s.heap.size PST) args s 0 0 (mF dA h0 ad (f, g, A, L) s.heap.size)) (F0 m 107 ls []) := by
        intro y107_8 y107_9 y107_7 y107_10 y107_5 y107_6 y107_15 y107_22 y107_57 y107_11 y107_13 y107_14 y107_17 y107_18 y107_19 y107_20 y107_21 y107_25 y107_12 y107_16 H locs ls hM hl hJJ107_0 hJJ107_1 hJJ107_2 hJJ107_3 hJJ107_4 hJJ107_5 hJJ107_6 hJJ107_7 hJJ107_8 hJJ107_9 hJJ107_10 hJJ107_11 hJJ107_12 hJJ107_13 hJJ107_14 hJJ107_15
        have r11 : (0 : Int) ≤ y107_8 ∧ y107_8 ≤ 3001 := hM.2.2.2.1 8
        have r12 : (0 : Int) ≤ y107_9 ∧ y107_9 ≤ 3002 := hM.2.2.2.1 9
        have r13 : (0 : Int) ≤ y107_7 ∧ y107_7 ≤ 6 := hM.2.2.2.1 7
        have r14 : (-2147483648 : Int) ≤ y107_10 ∧ y107_10 ≤ 2147483647 := hM.2.2.2.1 10
        have r15 : (-2147483648 : Int) ≤ y107_5 ∧ y107_5 ≤ 2147483647 := hM.2.2.2.1 5
        have r16 : (-2147483648 : Int) ≤ y107_6 ∧ y107_6 ≤ 2147483647 := hM.2.2.2.1 6
        have r17 : (0 : Int) ≤ y107_15 ∧ y107_15 ≤ 64 := hM.2.2.2.1 15
        have r18 : (0 : Int) ≤ y107_22 ∧ y107_22 ≤ 1600 := hM.2.2.2.1 22
        have r19 : (0 : Int) ≤ y107_57 ∧ y107_57 ≤ 6 := hM.2.2.2.1 57
        refine lv_aload_n B.1 B.2.1 dX12_readChain_107 rfl (lv_at hl 0 rfl) ?_
        refine m_calli (n := 0) (rest := []) B hM hA hl.1 (k_isGood l D dA h0 ad (up f [(8, y107_8), (9, y107_9), (7, y107_7), (10, y107_10), (5, y107_5), (6, y107_6), (15, y107_15), (22, y107_22), (57, y107_57)]) (up g [(11, y107_11)]) (up A [(13, y107_13), (14, y107_14), (17, y107_17), (18, y107_18), (19, y107_19), (20, y107_20), (21, y107_21), (25, y107_25)]) (up L [(12, y107_12), (16, y107_16)])   ) rfl ok_isGood nm_isGood ⟨rfl, rfl⟩ ⟨Nat.le_of_ble_eq_true rfl, Nat.le_of_ble_eq_true rfl⟩ dX12_readChain_108 rfl rfl (Nat.le_of_ble_eq_true rfl) ⟨Nat.zero_le _, Nat.zero_le _⟩ (fun r20 σr20 H locs ir20 hp21 hM => ?_)
        obtain ⟨rfl, hp21⟩ := hp21
        unfold inr at ir20
        replace hp21 : 0 ≤ r20 ∧ r20 ≤ 1 ∧ (r20 = 1 ↔ (y107_5) = 0) := hp21
        obtain ⟨hp21_0, hp21_1, hp21_2⟩ := hp21
        refine q_ieq (tgt := 132) B dX12_readChain_111 (by decide) (by unfold inr; omega) (fun c22 => ?_) (fun c22 => ?_)
        · refine lv_aload_n B.1 B.2.1 dX12_readChain_132 rfl (lv_at hl 0 rfl) ?_
          refine m_geta (k := 25) B hM (by decide) rfl fl169 dX12_readChain_133 ?_
          refine lv_iload_n B.1 B.2.1 dX12_readChain_136 rfl (lv_at hl 2 rfl) ?_
          refine lv_dup2_11 B.1 B.2.1 dX12_readChain_137 rfl rfl ?_
          refine m_ild (k := 25) (i := 13) (n := 12) (z := 6 * (f 3) + (f 57)) (v := y107_25 (6 * (f 3) + (f 57)).toNat) B hM rfl rfl rfl (by decide) dX12_readChain_138 (by omega) (by omega) rfl ?_
          have r23 : (0 : Int) ≤ y107_25 (6 * (f 3) + (f 57)).toNat ∧ y107_25 (6 * (f 3) + (f 57)).toNat ≤ 9 := hM.2.2.2.2 25 (6 * (f 3) + (f 57)).toNat
          refine q_con B dX12_readChain_139 ?_
          refine q_add B dX12_readChain_140 ?_
          refine m_ist (k := 25) (i := 13) (n := 12) B hM rfl rfl rfl (by decide) dX12_readChain_141 (by omega) (by omega) (show (0 : Int) ≤ (y107_25 (6 * (f 3) + (f 57)).toNat) + 1 from by first | omega | (simp only [wr_at]; omega)) (show (y107_25 (6 * (f 3) + (f 57)).toNat) + 1 ≤ (9 : Int) from by first | omega | (simp only [wr_at]; omega)) (u1_up A [(13, y107_13), (14, y107_14), (17, y107_17), (18, y107_18), (19, y107_19), (20, y107_20), (21, y107_21), (25, y107_25)] 25 (wr y107_25 (6 * (f 3) + (f 57)) ((y107_25 (6 * (f 3) + (f 57)).toNat) + 1))) (fun H locs hM => ?_)
          replace hM : MWd D dA h0 ad (mF dA h0 ad (f, g, A, L) s.heap.size) s.heap ((up f [(8, y107_8), (9, y107_9), (7, y107_7), (10, y107_10), (5, y107_5), (6, y107_6), (15, y107_15), (22, y107_22), (57, y107_57)]), (up g [(11, y107_11)]), (up A [(13, y107_13), (14, y107_14), (17, y107_17), (18, y107_18), (19, y107_19), (20, y107_20), (21, y107_21), (25, (wr y107_25 (6 * (f 3) + (f 57)) ((y107_25 (6 * (f 3) + (f 57)).toNat) + 1)))]), (up L [(12, y107_12), (16, y107_16)])) H locs := hM
          refine lv_aload_n B.1 B.2.1 dX12_readChain_142 rfl (lv_at hl 0 rfl) ?_
          refine m_calli (n := 0) (rest := []) B hM hA hl.1 (k_isGood l D dA h0 ad (up f [(8, y107_8), (9, y107_9), (7, y107_7), (10, y107_10), (5, y107_5), (6, y107_6), (15, y107_15), (22, y107_22), (57, y107_57)]) (up g [(11, y107_11)]) (up A [(13, y107_13), (14, y107_14), (17, y107_17), (18, y107_18), (19, y107_19), (20, y107_20), (21, y107_21), (25, (wr y107_25 (6 * (f 3) + (f 57)) ((y107_25 (6 * (f 3) + (f 57)).toNat) + 1)))]) (up L [(12, y107_12), (16, y107_16)])   ) rfl ok_isGood nm_isGood ⟨rfl, rfl⟩ ⟨Nat.le_of_ble_eq_true rfl, Nat.le_of_ble_eq_true rfl⟩ dX12_readChain_143 rfl rfl (Nat.le_of_ble_eq_true rfl) ⟨Nat.zero_le _, Nat.zero_le _⟩ (fun r24 σr24 H locs ir24 hp25 hM => ?_)
          obtain ⟨rfl, hp25⟩ := hp25
          unfold inr at ir24
          replace hp25 : 0 ≤ r24 ∧ r24 ≤ 1 ∧ (r24 = 1 ↔ (y107_5) = 0) := hp25
          obtain ⟨hp25_0, hp25_1, hp25_2⟩ := hp25
          refine q_ieq (tgt := 162) B dX12_readChain_146 (by decide) (by unfold inr; omega) (fun c26 => ?_) (fun c26 => ?_)
          · refine q_con B dX12_readChain_162 ?_
            refine lv_istore_n (lv' := [(2, .int (II 0)), (0, .ref h0), (1, .int (II ((f 57)))), (3, .int (II (6 * (f 3) + (f 57))))]) B.1 B.2.1 dX12_readChain_163 rfl hl (by decide) rfl (fun ls hl => ?_)
            refine lv_goto (tgt := 59) B.1 B.2.1 dX12_readChain_164 (by decide) ?_
            exact IH59 0 y107_8 y107_9 y107_7 y107_10 y107_5 y107_6 y107_15 y107_22 y107_57 y107_11 y107_13 y107_14 y107_17 y107_18 y107_19 y107_20 y107_21 ((wr y107_25 (6 * (f 3) + (f 57)) ((y107_25 (6 * (f 3) + (f 57)).toNat) + 1))) y107_12 y107_16 _ _ ls hM (lv_sub hl [1, 0, 2] rfl) (by omega) (by first | omega | (simp only [wr_at]; omega) | assumption) (by first | omega | (simp only [wr_at]; omega) | assumption) (by first | omega | (simp only [wr_at]; omega) | assumption) (by first | omega | (simp only [wr_at]; omega) | assumption) (by first | omega | (simp only [wr_at]; omega) | assumption) (by first | omega | (simp only [wr_at]; omega) | assumption) (by first | omega | (simp only [wr_at]; omega) | assumption) (by first | omega | (simp only [wr_at]; omega) | assumption) (by first | omega | (simp only [wr_at]; omega) | assumption) (by first | omega | (simp only [wr_at]; omega) | assumption) (by first | omega | (simp only [wr_at]; omega) | assumption) (by first | omega | (simp only [wr_at]; omega) | assumption) (by first | omega | (simp only [wr_at]; omega) | assumption) (by first | assumption | exact Fr1_rfl | exact Fr1_wr Fr1_rfl (by omega) | exact Fr1_wr (by assumption) (by omega) | exact Fr1_wr (Fr1_wr Fr1_rfl (by omega)) (by omega) | exact Fr1_tr (by assumption) (by assumption) | exact Fr1_eq (by assumption) (by omega) | exact Fr1_tr (by assumption) (Fr1_wr Fr1_rfl (by omega)) | exact Fr1_wr (Fr1_wr (Fr1_wr Fr1_rfl (by omega)) (by omega)) (by omega)) (by first | assumption | exact NIp_same (by assumption) (by omega) (by omega) (by omega) (by omega) | exact NIp_t (by assumption) (by omega) (by omega) (by omega) (by omega) (by omega) | exact NIp_bad (by omega)) (by first | assumption) (by first | assumption | exact APe_rfl | exact APe_tr (by assumption) (by assumption) (by omega)) (by first | omega | (simp only [wr_at]; omega) | assumption) (by first | omega | (simp only [wr_at]; omega) | assumption)
          · refine lv_aload_n B.1 B.2.1 dX12_readChain_149 rfl (lv_at hl 0 rfl) ?_
            refine q_bip B dX12_readChain_150 (by decide) ?_
            refine m_calli (n := 1) (rest := []) B hM hA hl.1 (k_isSign l D dA h0 ad (up f [(8, y107_8), (9, y107_9), (7, y107_7), (10, y107_10), (5, y107_5), (6, y107_6), (15, y107_15), (22, y107_22), (57, y107_57)]) (up g [(11, y107_11)]) (up A [(13, y107_13), (14, y107_14), (17, y107_17), (18, y107_18), (19, y107_19), (20, y107_20), (21, y107_21), (25, (wr y107_25 (6 * (f 3) + (f 57)) ((y107_25 (6 * (f 3) + (f 57)).toNat) + 1)))]) (up L [(12, y107_12), (16, y107_16)]) 44 (by omega) (show (0 ≤ (y107_8) ∧ (y107_8) ≤ (f 4) ∧ (y107_8) ≤ (y107_9) ∧ (y107_9) ≤ (f 4) + 1 ∧ ((y107_7) = 0 ↔ (y107_8) = (f 4)) ∧ (2 ≤ (y107_7) → (y107_8) < (y107_9) ∧ (y107_9) ≤ (f 4)) ∧ ((y107_7) = 5 → (y107_8) + 2 ≤ (y107_9) ∧ (y107_9) ≤ (y107_8) + 32)) from by first | omega | (simp only [wr_at]; omega) | assumption)) rfl ok_isSign nm_isSign ⟨rfl, rfl⟩ ⟨Nat.le_of_ble_eq_true rfl, Nat.le_of_ble_eq_true rfl⟩ dX12_readChain_152 rfl rfl (Nat.le_of_ble_eq_true rfl) ⟨Nat.zero_le _, Nat.zero_le _⟩ (fun r27 σr27 H locs ir27 hp28 hM => ?_)
            obtain ⟨rfl, hp28⟩ := hp28
            unfold inr at ir27
            replace hp28 : 0 ≤ r27 ∧ r27 ≤ 1 ∧ (r27 = 1 ↔ (y107_7) = 6 ∧ sgn ((A 2)) (f 3) (f 4) (y107_8) = (44)) := hp28
            obtain ⟨hp28_0, hp28_1, hp28_2⟩ := hp28
            refine q_ieq (tgt := 162) B dX12_readChain_155 (by decide) (by unfold inr; omega) (fun c29 => ?_) (fun c29 => ?_)
            · refine q_con B dX12_readChain_162 ?_
              refine lv_istore_n (lv' := [(2, .int (II 0)), (0, .ref h0), (1, .int (II ((f 57)))), (3, .int (II (6 * (f 3) + (f 57))))]) B.1 B.2.1 dX12_readChain_163 rfl hl (by decide) rfl (fun ls hl => ?_)
              refine lv_goto (tgt := 59) B.1 B.2.1 dX12_readChain_164 (by decide) ?_
              exact IH59 0 y107_8 y107_9 y107_7 y107_10 y107_5 y107_6 y107_15 y107_22 y107_57 y107_11 y107_13 y107_14 y107_17 y107_18 y107_19 y107_20 y107_21 ((wr y107_25 (6 * (f 3) + (f 57)) ((y107_25 (6 * (f 3) + (f 57)).toNat) + 1))) y107_12 y107_16 _ _ ls hM (lv_sub hl [1, 0, 2] rfl) (by omega) (by first | omega | (simp only [wr_at]; omega) | assumption) (by first | omega | (simp only [wr_at]; omega) | assumption) (by first | omega | (simp only [wr_at]; omega) | assumption) (by first | omega | (simp only [wr_at]; omega) | assumption) (by first | omega | (simp only [wr_at]; omega) | assumption) (by first | omega | (simp only [wr_at]; omega) | assumption) (by first | omega | (simp only [wr_at]; omega) | assumption) (by first | omega | (simp only [wr_at]; omega) | assumption) (by first | omega | (simp only [wr_at]; omega) | assumption) (by first | omega | (simp only [wr_at]; omega) | assumption) (by first | omega | (simp only [wr_at]; omega) | assumption) (by first | omega | (simp only [wr_at]; omega) | assumption) (by first | omega | (simp only [wr_at]; omega) | assumption) (by first | assumption | exact Fr1_rfl | exact Fr1_wr Fr1_rfl (by omega) | exact Fr1_wr (by assumption) (by omega) | exact Fr1_wr (Fr1_wr Fr1_rfl (by omega)) (by omega) | exact Fr1_tr (by assumption) (by assumption) | exact Fr1_eq (by assumption) (by omega) | exact Fr1_tr (by assumption) (Fr1_wr Fr1_rfl (by omega)) | exact Fr1_wr (Fr1_wr (Fr1_wr Fr1_rfl (by omega)) (by omega)) (by omega)) (by first | assumption | exact NIp_same (by assumption) (by omega) (by omega) (by omega) (by omega) | exact NIp_t (by assumption) (by omega) (by omega) (by omega) (by omega) (by omega) | exact NIp_bad (by omega)) (by first | assumption) (by first | assumption | exact APe_rfl | exact APe_tr (by assumption) (by assumption) (by omega)) (by first | omega | (simp only [wr_at]; omega) | assumption) (by first | omega | (simp only [wr_at]; omega) | assumption)
            · refine q_con B dX12_readChain_158 ?_
              refine lv_goto (tgt := 163) B.1 B.2.1 dX12_readChain_159 (by decide) ?_
              refine lv_istore_n (lv' := [(2, .int (II 1)), (0, .ref h0), (1, .int (II ((f 57)))), (3, .int (II (6 * (f 3) + (f 57))))]) B.1 B.2.1 dX12_readChain_163 rfl hl (by decide) rfl (fun ls hl => ?_)
              refine lv_goto (tgt := 59) B.1 B.2.1 dX12_readChain_164 (by decide) ?_
              exact IH59 1 y107_8 y107_9 y107_7 y107_10 y107_5 y107_6 y107_15 y107_22 y107_57 y107_11 y107_13 y107_14 y107_17 y107_18 y107_19 y107_20 y107_21 ((wr y107_25 (6 * (f 3) + (f 57)) ((y107_25 (6 * (f 3) + (f 57)).toNat) + 1))) y107_12 y107_16 _ _ ls hM (lv_sub hl [1, 0, 2] rfl) (by omega) (by first | omega | (simp only [wr_at]; omega) | assumption) (by first | omega | (simp only [wr_at]; omega) | assumption) (by first | omega | (simp only [wr_at]; omega) | assumption) (by first | omega | (simp only [wr_at]; omega) | assumption) (by first | omega | (simp only [wr_at]; omega) | assumption) (by first | omega | (simp only [wr_at]; omega) | assumption) (by first | omega | (simp only [wr_at]; omega) | assumption) (by first | omega | (simp only [wr_at]; omega) | assumption) (by first | omega | (simp only [wr_at]; omega) | assumption) (by first | omega | (simp only [wr_at]; omega) | assumption) (by first | omega | (simp only [wr_at]; omega) | assumption) (by first | omega | (simp only [wr_at]; omega) | assumption) (by first | omega | (simp only [wr_at]; omega) | assumption) (by first | assumption | exact Fr1_rfl | exact Fr1_wr Fr1_rfl (by omega) | exact Fr1_wr (by assumption) (by omega) | exact Fr1_wr (Fr1_wr Fr1_rfl (by omega)) (by omega) | exact Fr1_tr (by assumption) (by assumption) | exact Fr1_eq (by assumption) (by omega) | exact Fr1_tr (by assumption) (Fr1_wr Fr1_rfl (by omega)) | exact Fr1_wr (Fr1_wr (Fr1_wr Fr1_rfl (by omega)) (by omega)) (by omega)) (by first | assumption | exact NIp_same (by assumption) (by omega) (by omega) (by omega) (by omega) | exact NIp_t (by assumption) (by omega) (by omega) (by omega) (by omega) (by omega) | exact NIp_bad (by omega)) (by first | assumption) (by first | assumption | exact APe_rfl | exact APe_tr (by assumption) (by assumption) (by omega)) (by first | omega | (simp only [wr_at]; omega) | assumption) (by first | omega | (simp only [wr_at]; omega) | assumption)
        · refine lv_aload_n B.1 B.2.1 dX12_readChain_114 rfl (lv_at hl 0 rfl) ?_
          refine q_con B dX12_readChain_115 ?_
          refine q_con B dX12_readChain_116 ?_
          refine q_con B dX12_readChain_117 ?_
          refine q_bip B dX12_readChain_118 (by decide) ?_
          refine lv_iload_n B.1 B.2.1 dX12_readChain_120 rfl (lv_at hl 2 rfl) ?_
          refine q_mul B dX12_readChain_121 ?_
          refine lv_aload_n B.1 B.2.1 dX12_readChain_122 rfl (lv_at hl 0 rfl) ?_
          refine m_geta (k := 25) B hM (by decide) rfl fl169 dX12_readChain_123 ?_
          refine lv_iload_n B.1 B.2.1 dX12_readChain_126 rfl (lv_at hl 2 rfl) ?_
          refine m_ild (k := 25) (i := 13) (n := 12) (z := 6 * (f 3) + (f 57)) (v := y107_25 (6 * (f 3) + (f 57)).toNat) B hM rfl rfl rfl (by decide) dX12_readChain_127 (by omega) (by omega) rfl ?_
          have r30 : (0 : Int) ≤ y107_25 (6 * (f 3) + (f 57)).toNat ∧ y107_25 (6 * (f 3) + (f 57)).toNat ≤ 9 := hM.2.2.2.2 25 (6 * (f 3) + (f 57)).toNat
          refine q_add B dX12_readChain_128 ?_
          refine m_callv (n := 4) (rest := []) B hM hA hl.1 (k_ask l D dA h0 ad (up f [(8, y107_8), (9, y107_9), (7, y107_7), (10, y107_10), (5, y107_5), (6, y107_6), (15, y107_15), (22, y107_22), (57, y107_57)]) (up g [(11, y107_11)]) (up A [(13, y107_13), (14, y107_14), (17, y107_17), (18, y107_18), (19, y107_19), (20, y107_20), (21, y107_21), (25, y107_25)]) (up L [(12, y107_12), (16, y107_16)]) 1 (-1) 1 ((8 * (6 * (f 3) + (f 57))) + (y107_25 (6 * (f 3) + (f 57)).toNat)) (by omega) (by omega) (by omega) (by omega) (show (0 ≤ (y107_8) ∧ (y107_8) ≤ (f 4) ∧ (y107_8) ≤ (y107_9) ∧ (y107_9) ≤ (f 4) + 1 ∧ ((y107_7) = 0 ↔ (y107_8) = (f 4)) ∧ (2 ≤ (y107_7) → (y107_8) < (y107_9) ∧ (y107_9) ≤ (f 4)) ∧ ((y107_7) = 5 → (y107_8) + 2 ≤ (y107_9) ∧ (y107_9) ≤ (y107_8) + 32)) from by first | omega | (simp only [wr_at]; omega) | assumption) (show 2 * (y107_22) ≤ (y107_8) from by first | omega | (simp only [wr_at]; omega) | assumption) (show 0 ≤ (1) from by first | omega | (simp only [wr_at]; omega) | assumption) (show (1) ≤ 5 from by first | omega | (simp only [wr_at]; omega) | assumption) (show -1 ≤ (-1) from by first | omega | (simp only [wr_at]; omega) | assumption) (show (-1) ≤ 16 from by first | omega | (simp only [wr_at]; omega) | assumption) (show 0 ≤ (1) from by first | omega | (simp only [wr_at]; omega) | assumption) (show (1) ≤ 5 from by first | omega | (simp only [wr_at]; omega) | assumption) (show 0 ≤ ((8 * (6 * (f 3) + (f 57))) + (y107_25 (6 * (f 3) + (f 57)).toNat)) from by first | omega | (simp only [wr_at]; omega) | assumption) (show ((8 * (6 * (f 3) + (f 57))) + (y107_25 (6 * (f 3) + (f 57)).toNat)) ≤ 3199 from by first | omega | (simp only [wr_at]; omega) | assumption) (show ((y107_7) = 2 → ((1) = 0 → ((8 * (6 * (f 3) + (f 57))) + (y107_25 (6 * (f 3) + (f 57)).toNat)) < 18 ∧ (1) = 1) ∧ ((1) = 1 → ((8 * (6 * (f 3) + (f 57))) + (y107_25 (6 * (f 3) + (f 57)).toNat)) < 96 ∧ (1) = 1) ∧ ((1) = 3 → ((8 * (6 * (f 3) + (f 57))) + (y107_25 (6 * (f 3) + (f 57)).toNat)) < 400) ∧ ((1) = 4 → (1) = 1)) from by first | omega | (simp only [wr_at]; omega) | assumption) (show AIp (y107_22) y107_18 y107_20 y107_21 from by first | assumption)) rfl ok_ask nm_ask ⟨rfl, rfl⟩ ⟨Nat.le_of_ble_eq_true rfl, Nat.le_of_ble_eq_true rfl⟩ dX12_readChain_129 rfl rfl (Nat.le_of_ble_eq_true rfl) ⟨Nat.zero_le _, Nat.zero_le _⟩ (fun σr31 H locs hp32 hM => ?_)
          obtain ⟨x33, x34, x35, x36, x37, x38, x39, w40, b41, b42, b43, b44, b45, b46, rfl, hp32⟩ := hp32
          replace hp32 : ((0 ≤ (x33) ∧ (x33) ≤ (f 4) ∧ (x33) ≤ (x34) ∧ (x34) ≤ (f 4) + 1 ∧ ((x35) = 0 ↔ (x33) = (f 4)) ∧ (2 ≤ (x35) → (x33) < (x34) ∧ (x34) ≤ (f 4)) ∧ ((x35) = 5 → (x33) + 2 ≤ (x34) ∧ (x34) ≤ (x33) + 32))) ∧ (y107_8) ≤ (x33) ∧ ((x37) = 0 → (y107_5) = 0 ∧ (y107_8) + 1 ≤ (x33) ∧ (y107_7) = 2 ∧ (x39) = (y107_22) + 1 ∧ b44 ((y107_22)).toNat = (1) ∧ b45 ((y107_22)).toNat = ((8 * (6 * (f 3) + (f 57))) + (y107_25 (6 * (f 3) + (f 57)).toNat))) ∧ 2 * (x39) ≤ (x33) + 1 ∧ (y107_22) ≤ (x39) ∧ AIp (x39) b42 b44 b45 ∧ APe (y107_22) y107_20 y107_21 b44 b45 := hp32
          obtain ⟨hp32_0, hp32_1, hp32_2, hp32_3, hp32_4, hp32_5, hp32_6⟩ := hp32
          simp only [up_up] at hM
          replace hM : MWd D dA h0 ad (mF dA h0 ad (f, g, A, L) s.heap.size) s.heap ((up f [(8, x33), (9, x34), (7, x35), (10, x36), (5, x37), (6, x38), (15, y107_15), (22, x39), (57, y107_57)]), (up g [(11, w40)]), (up A [(13, y107_13), (14, y107_14), (17, b41), (18, b42), (19, b43), (20, b44), (21, b45), (25, y107_25)]), (up L [(12, y107_12), (16, b46)])) H locs := hM
          have r47 : (0 : Int) ≤ x33 ∧ x33 ≤ 3001 := hM.2.2.2.1 8
          have r48 : (0 : Int) ≤ x34 ∧ x34 ≤ 3002 := hM.2.2.2.1 9
          have r49 : (0 : Int) ≤ x35 ∧ x35 ≤ 6 := hM.2.2.2.1 7
          have r50 : (-2147483648 : Int) ≤ x36 ∧ x36 ≤ 2147483647 := hM.2.2.2.1 10
          have r51 : (-2147483648 : Int) ≤ x37 ∧ x37 ≤ 2147483647 := hM.2.2.2.1 5
          have r52 : (-2147483648 : Int) ≤ x38 ∧ x38 ≤ 2147483647 := hM.2.2.2.1 6
          have r53 : (0 : Int) ≤ x39 ∧ x39 ≤ 1600 := hM.2.2.2.1 22
          refine lv_aload_n B.1 B.2.1 dX12_readChain_132 rfl (lv_at hl 0 rfl) ?_
          refine m_geta (k := 25) B hM (by decide) rfl fl169 dX12_readChain_133 ?_
          refine lv_iload_n B.1 B.2.1 dX12_readChain_136 rfl (lv_at hl 2 rfl) ?_
          refine lv_dup2_11 B.1 B.2.1 dX12_readChain_137 rfl rfl ?_
          refine m_ild (k := 25) (i := 13) (n := 12) (z := 6 * (f 3) + (f 57)) (v := y107_25 (6 * (f 3) + (f 57)).toNat) B hM rfl rfl rfl (by decide) dX12_readChain_138 (by omega) (by omega) rfl ?_
          refine q_con B dX12_readChain_139 ?_
          refine q_add B dX12_readChain_140 ?_
          refine m_ist (k := 25) (i := 13) (n := 12) B hM rfl rfl rfl (by decide) dX12_readChain_141 (by omega) (by omega) (show (0 : Int) ≤ (y107_25 (6 * (f 3) + (f 57)).toNat) + 1 from by first | omega | (simp only [wr_at]; omega)) (show (y107_25 (6 * (f 3) + (f 57)).toNat) + 1 ≤ (9 : Int) from by first | omega | (simp only [wr_at]; omega)) (u1_up A [(13, y107_13), (14, y107_14), (17, b41), (18, b42), (19, b43), (20, b44), (21, b45), (25, y107_25)] 25 (wr y107_25 (6 * (f 3) + (f 57)) ((y107_25 (6 * (f 3) + (f 57)).toNat) + 1))) (fun H locs hM => ?_)
          replace hM : MWd D dA h0 ad (mF dA h0 ad (f, g, A, L) s.heap.size) s.heap ((up f [(8, x33), (9, x34), (7, x35), (10, x36), (5, x37), (6, x38), (15, y107_15), (22, x39), (57, y107_57)]), (up g [(11, w40)]), (up A [(13, y107_13), (14, y107_14), (17, b41), (18, b42), (19, b43), (20, b44), (21, b45), (25, (wr y107_25 (6 * (f 3) + (f 57)) ((y107_25 (6 * (f 3) + (f 57)).toNat) + 1)))]), (up L [(12, y107_12), (16, b46)])) H locs := hM
          refine lv_aload_n B.1 B.2.1 dX12_readChain_142 rfl (lv_at hl 0 rfl) ?_
          refine m_calli (n := 0) (rest := []) B hM hA hl.1 (k_isGood l D dA h0 ad (up f [(8, x33), (9, x34), (7, x35), (10, x36), (5, x37), (6, x38), (15, y107_15), (22, x39), (57, y107_57)]) (up g [(11, w40)]) (up A [(13, y107_13), (14, y107_14), (17, b41), (18, b42), (19, b43), (20, b44), (21, b45), (25, (wr y107_25 (6 * (f 3) + (f 57)) ((y107_25 (6 * (f 3) + (f 57)).toNat) + 1)))]) (up L [(12, y107_12), (16, b46)])   ) rfl ok_isGood nm_isGood ⟨rfl, rfl⟩ ⟨Nat.le_of_ble_eq_true rfl, Nat.le_of_ble_eq_true rfl⟩ dX12_readChain_143 rfl rfl (Nat.le_of_ble_eq_true rfl) ⟨Nat.zero_le _, Nat.zero_le _⟩ (fun r54 σr54 H locs ir54 hp55 hM => ?_)
          obtain ⟨rfl, hp55⟩ := hp55
          unfold inr at ir54
          replace hp55 : 0 ≤ r54 ∧ r54 ≤ 1 ∧ (r54 = 1 ↔ (x37) = 0) := hp55
          obtain ⟨hp55_0, hp55_1, hp55_2⟩ := hp55
          refine q_ieq (tgt := 162) B dX12_readChain_146 (by decide) (by unfold inr; omega) (fun c56 => ?_) (fun c56 => ?_)
          · refine q_con B dX12_readChain_162 ?_
            refine lv_istore_n (lv' := [(2, .int (II 0)), (0, .ref h0), (1, .int (II ((f 57)))), (3, .int (II (6 * (f 3) + (f 57))))]) B.1 B.2.1 dX12_readChain_163 rfl hl (by decide) rfl (fun ls hl => ?_)
            refine lv_goto (tgt := 59) B.1 B.2.1 dX12_readChain_164 (by decide) ?_
            exact IH59 0 x33 x34 x35 x36 x37 x38 y107_15 x39 y107_57 w40 y107_13 y107_14 b41 b42 b43 b44 b45 ((wr y107_25 (6 * (f 3) + (f 57)) ((y107_25 (6 * (f 3) + (f 57)).toNat) + 1))) y107_12 b46 _ _ ls hM (lv_sub hl [1, 0, 2] rfl) (by omega) (by first | omega | (simp only [wr_at]; omega) | assumption) (by first | omega | (simp only [wr_at]; omega) | assumption) (by first | omega | (simp only [wr_at]; omega) | assumption) (by first | omega | (simp only [wr_at]; omega) | assumption) (by first | omega | (simp only [wr_at]; omega) | assumption) (by first | omega | (simp only [wr_at]; omega) | assumption) (by first | omega | (simp only [wr_at]; omega) | assumption) (by first | omega | (simp only [wr_at]; omega) | assumption) (by first | omega | (simp only [wr_at]; omega) | assumption) (by first | omega | (simp only [wr_at]; omega) | assumption) (by first | omega | (simp only [wr_at]; omega) | assumption) (by first | omega | (simp only [wr_at]; omega) | assumption) (by first | omega | (simp only [wr_at]; omega) | assumption) (by first | assumption | exact Fr1_rfl | exact Fr1_wr Fr1_rfl (by omega) | exact Fr1_wr (by assumption) (by omega) | exact Fr1_wr (Fr1_wr Fr1_rfl (by omega)) (by omega) | exact Fr1_tr (by assumption) (by assumption) | exact Fr1_eq (by assumption) (by omega) | exact Fr1_tr (by assumption) (Fr1_wr Fr1_rfl (by omega)) | exact Fr1_wr (Fr1_wr (Fr1_wr Fr1_rfl (by omega)) (by omega)) (by omega)) (by first | assumption | exact NIp_same (by assumption) (by omega) (by omega) (by omega) (by omega) | exact NIp_t (by assumption) (by omega) (by omega) (by omega) (by omega) (by omega) | exact NIp_bad (by omega)) (by first | assumption) (by first | assumption | exact APe_rfl | exact APe_tr (by assumption) (by assumption) (by omega)) (by first | omega | (simp only [wr_at]; omega) | assumption) (by first | omega | (simp only [wr_at]; omega) | assumption)
          · refine lv_aload_n B.1 B.2.1 dX12_readChain_149 rfl (lv_at hl 0 rfl) ?_
            refine q_bip B dX12_readChain_150 (by decide) ?_
            refine m_calli (n := 1) (rest := []) B hM hA hl.1 (k_isSign l D dA h0 ad (up f [(8, x33), (9, x34), (7, x35), (10, x36), (5, x37), (6, x38), (15, y107_15), (22, x39), (57, y107_57)]) (up g [(11, w40)]) (up A [(13, y107_13), (14, y107_14), (17, b41), (18, b42), (19, b43), (20, b44), (21, b45), (25, (wr y107_25 (6 * (f 3) + (f 57)) ((y107_25 (6 * (f 3) + (f 57)).toNat) + 1)))]) (up L [(12, y107_12), (16, b46)]) 44 (by omega) (show (0 ≤ (x33) ∧ (x33) ≤ (f 4) ∧ (x33) ≤ (x34) ∧ (x34) ≤ (f 4) + 1 ∧ ((x35) = 0 ↔ (x33) = (f 4)) ∧ (2 ≤ (x35) → (x33) < (x34) ∧ (x34) ≤ (f 4)) ∧ ((x35) = 5 → (x33) + 2 ≤ (x34) ∧ (x34) ≤ (x33) + 32)) from by first | omega | (simp only [wr_at]; omega) | assumption)) rfl ok_isSign nm_isSign ⟨rfl, rfl⟩ ⟨Nat.le_of_ble_eq_true rfl, Nat.le_of_ble_eq_true rfl⟩ dX12_readChain_152 rfl rfl (Nat.le_of_ble_eq_true rfl) ⟨Nat.zero_le _, Nat.zero_le _⟩ (fun r57 σr57 H locs ir57 hp58 hM => ?_)
            obtain ⟨rfl, hp58⟩ := hp58
            unfold inr at ir57
            replace hp58 : 0 ≤ r57 ∧ r57 ≤ 1 ∧ (r57 = 1 ↔ (x35) = 6 ∧ sgn ((A 2)) (f 3) (f 4) (x33) = (44)) := hp58
            obtain ⟨hp58_0, hp58_1, hp58_2⟩ := hp58
            refine q_ieq (tgt := 162) B dX12_readChain_155 (by decide) (by unfold inr; omega) (fun c59 => ?_) (fun c59 => ?_)
            · refine q_con B dX12_readChain_162 ?_
              refine lv_istore_n (lv' := [(2, .int (II 0)), (0, .ref h0), (1, .int (II ((f 57)))), (3, .int (II (6 * (f 3) + (f 57))))]) B.1 B.2.1 dX12_readChain_163 rfl hl (by decide) rfl (fun ls hl => ?_)
              refine lv_goto (tgt := 59) B.1 B.2.1 dX12_readChain_164 (by decide) ?_
              exact IH59 0 x33 x34 x35 x36 x37 x38 y107_15 x39 y107_57 w40 y107_13 y107_14 b41 b42 b43 b44 b45 ((wr y107_25 (6 * (f 3) + (f 57)) ((y107_25 (6 * (f 3) + (f 57)).toNat) + 1))) y107_12 b46 _ _ ls hM (lv_sub hl [1, 0, 2] rfl) (by omega) (by first | omega | (simp only [wr_at]; omega) | assumption) (by first | omega | (simp only [wr_at]; omega) | assumption) (by first | omega | (simp only [wr_at]; omega) | assumption) (by first | omega | (simp only [wr_at]; omega) | assumption) (by first | omega | (simp only [wr_at]; omega) | assumption) (by first | omega | (simp only [wr_at]; omega) | assumption) (by first | omega | (simp only [wr_at]; omega) | assumption) (by first | omega | (simp only [wr_at]; omega) | assumption) (by first | omega | (simp only [wr_at]; omega) | assumption) (by first | omega | (simp only [wr_at]; omega) | assumption) (by first | omega | (simp only [wr_at]; omega) | assumption) (by first | omega | (simp only [wr_at]; omega) | assumption) (by first | omega | (simp only [wr_at]; omega) | assumption) (by first | assumption | exact Fr1_rfl | exact Fr1_wr Fr1_rfl (by omega) | exact Fr1_wr (by assumption) (by omega) | exact Fr1_wr (Fr1_wr Fr1_rfl (by omega)) (by omega) | exact Fr1_tr (by assumption) (by assumption) | exact Fr1_eq (by assumption) (by omega) | exact Fr1_tr (by assumption) (Fr1_wr Fr1_rfl (by omega)) | exact Fr1_wr (Fr1_wr (Fr1_wr Fr1_rfl (by omega)) (by omega)) (by omega)) (by first | assumption | exact NIp_same (by assumption) (by omega) (by omega) (by omega) (by omega) | exact NIp_t (by assumption) (by omega) (by omega) (by omega) (by omega) (by omega) | exact NIp_bad (by omega)) (by first | assumption) (by first | assumption | exact APe_rfl | exact APe_tr (by assumption) (by assumption) (by omega)) (by first | omega | (simp only [wr_at]; omega) | assumption) (by first | omega | (simp only [wr_at]; omega) | assumption)
            · refine q_con B dX12_readChain_158 ?_
              refine lv_goto (tgt := 163) B.1 B.2.1 dX12_readChain_159 (by decide) ?_
              refine lv_istore_n (lv' := [(2, .int (II 1)), (0, .ref h0), (1, .int (II ((f 57)))), (3, .int (II (6 * (f 3) + (f 57))))]) B.1 B.2.1 dX12_readChain_163 rfl hl (by decide) rfl (fun ls hl => ?_)
              refine lv_goto (tgt := 59) B.1 B.2.1 dX12_readChain_164 (by decide) ?_
              exact IH59 1 x33 x34 x35 x36 x37 x38 y107_15 x39 y107_57 w40 y107_13 y107_14 b41 b42 b43 b44 b45 ((wr y107_25 (6 * (f 3) + (f 57)) ((y107_25 (6 * (f 3) + (f 57)).toNat) + 1))) y107_12 b46 _ _ ls hM (lv_sub hl [1, 0, 2] rfl) (by omega) (by first | omega | (simp only [wr_at]; omega) | assumption) (by first | omega | (simp only [wr_at]; omega) | assumption) (by first | omega | (simp only [wr_at]; omega) | assumption) (by first | omega | (simp only [wr_at]; omega) | assumption) (by first | omega | (simp only [wr_at]; omega) | assumption) (by first | omega | (simp only [wr_at]; omega) | assumption) (by first | omega | (simp only [wr_at]; omega) | assumption) (by first | omega | (simp only [wr_at]; omega) | assumption) (by first | omega | (simp only [wr_at]; omega) | assumption) (by first | omega | (simp only [wr_at]; omega) | assumption) (by first | omega | (simp only [wr_at]; omega) | assumption) (by first | omega | (simp only [wr_at]; omega) | assumption) (by first | omega | (simp only [wr_at]; omega) | assumption) (by first | assumption | exact Fr1_rfl | exact Fr1_wr Fr1_rfl (by omega) | exact Fr1_wr (by assumption) (by omega) | exact Fr1_wr (Fr1_wr Fr1_rfl (by omega)) (by omega) | exact Fr1_tr (by assumption) (by assumption) | exact Fr1_eq (by assumption) (by omega) | exact Fr1_tr (by assumption) (Fr1_wr Fr1_rfl (by omega)) | exact Fr1_wr (Fr1_wr (Fr1_wr Fr1_rfl (by omega)) (by omega)) (by omega)) (by first | assumption | exact NIp_same (by assumption) (by omega) (by omega) (by omega) (by omega) | exact NIp_t (by assumption) (by omega) (by omega) (by omega) (by omega) (by omega) | exact NIp_bad (by omega)) (by first | assumption) (by first | assumption | exact APe_rfl | exact APe_tr (by assumption) (by assumption) (by omega)) (by first | omega | (simp only [wr_at]; omega) | assumption) (by first | omega | (simp only [wr_at]; omega) | assumption)
      have r60 : (0 : Int) ≤ y59_8 ∧ y59_8 ≤ 3001 := hM.2.2.2.1 8
      have r61 : (0 : Int) ≤ y59_9 ∧ y59_9 ≤ 3002 := hM.2.2.2.1 9
      have r62 : (0 : Int) ≤ y59_7 ∧ y59_7 ≤ 6 := hM.2.2.2.1 7
      have r63 : (-2147483648 : Int) ≤ y59_10 ∧ y59_10 ≤ 2147483647 := hM.2.2.2.1 10
      have r64 : (-2147483648 : Int) ≤ y59_5 ∧ y59_5 ≤ 2147483647 := hM.2.2.2.1 5
      have r65 : (-2147483648 : Int) ≤ y59_6 ∧ y59_6 ≤ 2147483647 := hM.2.2.2.1 6
      have r66 : (0 : Int) ≤ y59_15 ∧ y59_15 ≤ 64 := hM.2.2.2.1 15
      have r67 : (0 : Int) ≤ y59_22 ∧ y59_22 ≤ 1600 := hM.2.2.2.1 22
      have r68 : (0 : Int) ≤ y59_57 ∧ y59_57 ≤ 6 := hM.2.2.2.1 57
      refine lv_iload_n B.1 B.2.1 dX12_readChain_59 rfl (lv_at hl 1 rfl) ?_
      refine q_ieq (tgt := 167) B dX12_readChain_60 (by decide) (by unfold inr; omega) (fun c69 => ?_) (fun c69 => ?_)
      · refine lv_aload_n B.1 B.2.1 dX12_readChain_167 rfl (lv_at hl 0 rfl) ?_
        refine m_calli (n := 0) (rest := []) B hM hA hl.1 (k_isGood l D dA h0 ad (up f [(8, y59_8), (9, y59_9), (7, y59_7), (10, y59_10), (5, y59_5), (6, y59_6), (15, y59_15), (22, y59_22), (57, y59_57)]) (up g [(11, y59_11)]) (up A [(13, y59_13), (14, y59_14), (17, y59_17), (18, y59_18), (19, y59_19), (20, y59_20), (21, y59_21), (25, y59_25)]) (up L [(12, y59_12), (16, y59_16)])   ) rfl ok_isGood nm_isGood ⟨rfl, rfl⟩ ⟨Nat.le_of_ble_eq_true rfl, Nat.le_of_ble_eq_true rfl⟩ dX12_readChain_168 rfl rfl (Nat.le_of_ble_eq_true rfl) ⟨Nat.zero_le _, Nat.zero_le _⟩ (fun r70 σr70 H locs ir70 hp71 hM => ?_)
        obtain ⟨rfl, hp71⟩ := hp71
        unfold inr at ir70
        replace hp71 : 0 ≤ r70 ∧ r70 ≤ 1 ∧ (r70 = 1 ↔ (y59_5) = 0) := hp71
        obtain ⟨hp71_0, hp71_1, hp71_2⟩ := hp71
        refine q_ieq (tgt := 180) B dX12_readChain_171 (by decide) (by unfold inr; omega) (fun c72 => ?_) (fun c72 => ?_)
        · subst hPST
          exact m_vret B hM dX12_readChain_180 ⟨y59_8, y59_9, y59_7, y59_10, y59_5, y59_6, y59_15, y59_22, y59_57, y59_11, y59_13, y59_14, y59_17, y59_18, y59_19, y59_20, y59_21, y59_25, y59_12, y59_16, rfl, by (exact ⟨by first | omega | (simp only [wr_at]; omega) | assumption, by first | omega | (simp only [wr_at]; omega) | assumption, by first | omega | (simp only [wr_at]; omega) | assumption, by first | omega | (simp only [wr_at]; omega) | assumption, by first | omega | (simp only [wr_at]; omega) | assumption, by first | omega | (simp only [wr_at]; omega) | assumption, by first | omega | (simp only [wr_at]; omega) | assumption, by first | assumption | exact Fr1_rfl | exact Fr1_wr Fr1_rfl (by omega) | exact Fr1_wr (by assumption) (by omega) | exact Fr1_wr (Fr1_wr Fr1_rfl (by omega)) (by omega) | exact Fr1_tr (by assumption) (by assumption) | exact Fr1_eq (by assumption) (by omega) | exact Fr1_tr (by assumption) (Fr1_wr Fr1_rfl (by omega)) | exact Fr1_wr (Fr1_wr (Fr1_wr Fr1_rfl (by omega)) (by omega)) (by omega), by first | assumption | exact NIp_same (by assumption) (by omega) (by omega) (by omega) (by omega) | exact NIp_t (by assumption) (by omega) (by omega) (by omega) (by omega) (by omega) | exact NIp_bad (by omega), by first | assumption, by first | assumption | exact APe_rfl | exact APe_tr (by assumption) (by assumption) (by omega)⟩)⟩
        · refine lv_aload_n B.1 B.2.1 dX12_readChain_174 rfl (lv_at hl 0 rfl) ?_
          refine q_bip B dX12_readChain_175 (by decide) ?_
          refine m_callv (n := 1) (rest := []) B hM hA hl.1 (k_must l D dA h0 ad (up f [(8, y59_8), (9, y59_9), (7, y59_7), (10, y59_10), (5, y59_5), (6, y59_6), (15, y59_15), (22, y59_22), (57, y59_57)]) (up g [(11, y59_11)]) (up A [(13, y59_13), (14, y59_14), (17, y59_17), (18, y59_18), (19, y59_19), (20, y59_20), (21, y59_21), (25, y59_25)]) (up L [(12, y59_12), (16, y59_16)]) 59 (by omega) (show (0 ≤ (y59_8) ∧ (y59_8) ≤ (f 4) ∧ (y59_8) ≤ (y59_9) ∧ (y59_9) ≤ (f 4) + 1 ∧ ((y59_7) = 0 ↔ (y59_8) = (f 4)) ∧ (2 ≤ (y59_7) → (y59_8) < (y59_9) ∧ (y59_9) ≤ (f 4)) ∧ ((y59_7) = 5 → (y59_8) + 2 ≤ (y59_9) ∧ (y59_9) ≤ (y59_8) + 32)) from by first | omega | (simp only [wr_at]; omega) | assumption)) rfl ok_must nm_must ⟨rfl, rfl⟩ ⟨Nat.le_of_ble_eq_true rfl, Nat.le_of_ble_eq_true rfl⟩ dX12_readChain_177 rfl rfl (Nat.le_of_ble_eq_true rfl) ⟨Nat.zero_le _, Nat.zero_le _⟩ (fun σr73 H locs hp74 hM => ?_)
          obtain ⟨x75, x76, x77, x78, x79, x80, w81, rfl, hp74⟩ := hp74
          replace hp74 : ((0 ≤ (x75) ∧ (x75) ≤ (f 4) ∧ (x75) ≤ (x76) ∧ (x76) ≤ (f 4) + 1 ∧ ((x77) = 0 ↔ (x75) = (f 4)) ∧ (2 ≤ (x77) → (x75) < (x76) ∧ (x76) ≤ (f 4)) ∧ ((x77) = 5 → (x75) + 2 ≤ (x76) ∧ (x76) ≤ (x75) + 32))) ∧ (y59_8) ≤ (x75) ∧ ((x79) = 0 → (y59_5) = 0 ∧ (y59_8) + 1 ≤ (x75) ∧ (y59_9) ≤ (x75)) := hp74
          obtain ⟨hp74_0, hp74_1, hp74_2⟩ := hp74
          simp only [up_up] at hM
          replace hM : MWd D dA h0 ad (mF dA h0 ad (f, g, A, L) s.heap.size) s.heap ((up f [(8, x75), (9, x76), (7, x77), (10, x78), (5, x79), (6, x80), (15, y59_15), (22, y59_22), (57, y59_57)]), (up g [(11, w81)]), (up A [(13, y59_13), (14, y59_14), (17, y59_17), (18, y59_18), (19, y59_19), (20, y59_20), (21, y59_21), (25, y59_25)]), (up L [(12, y59_12), (16, y59_16)])) H locs := hM
          have r82 : (0 : Int) ≤ x75 ∧ x75 ≤ 3001 := hM.2.2.2.1 8
          have r83 : (0 : Int) ≤ x76 ∧ x76 ≤ 3002 := hM.2.2.2.1 9
          have r84 : (0 : Int) ≤ x77 ∧ x77 ≤ 6 := hM.2.2.2.1 7
          have r85 : (-2147483648 : Int) ≤ x78 ∧ x78 ≤ 2147483647 := hM.2.2.2.1 10
          have r86 : (-2147483648 : Int) ≤ x79 ∧ x79 ≤ 2147483647 := hM.2.2.2.1 5
          have r87 : (-2147483648 : Int) ≤ x80 ∧ x80 ≤ 2147483647 := hM.2.2.2.1 6
          subst hPST
          exact m_vret B hM dX12_readChain_180 ⟨x75, x76, x77, x78, x79, x80, y59_15, y59_22, y59_57, w81, y59_13, y59_14, y59_17, y59_18, y59_19, y59_20, y59_21, y59_25, y59_12, y59_16, rfl, by (exact ⟨by first | omega | (simp only [wr_at]; omega) | assumption, by first | omega | (simp only [wr_at]; omega) | assumption, by first | omega | (simp only [wr_at]; omega) | assumption, by first | omega | (simp only [wr_at]; omega) | assumption, by first | omega | (simp only [wr_at]; omega) | assumption, by first | omega | (simp only [wr_at]; omega) | assumption, by first | omega | (simp only [wr_at]; omega) | assumption, by first | assumption | exact Fr1_rfl | exact Fr1_wr Fr1_rfl (by omega) | exact Fr1_wr (by assumption) (by omega) | exact Fr1_wr (Fr1_wr Fr1_rfl (by omega)) (by omega) | exact Fr1_tr (by assumption) (by assumption) | exact Fr1_eq (by assumption) (by omega) | exact Fr1_tr (by assumption) (Fr1_wr Fr1_rfl (by omega)) | exact Fr1_wr (Fr1_wr (Fr1_wr Fr1_rfl (by omega)) (by omega)) (by omega), by first | assumption | exact NIp_same (by assumption) (by omega) (by omega) (by omega) (by omega) | exact NIp_t (by assumption) (by omega) (by omega) (by omega) (by omega) (by omega) | exact NIp_bad (by omega), by first | assumption, by first | assumption | exact APe_rfl | exact APe_tr (by assumption) (by assumption) (by omega)⟩)⟩
      · refine lv_aload_n B.1 B.2.1 dX12_readChain_63 rfl (lv_at hl 0 rfl) ?_
        refine m_calli (n := 0) (rest := []) B hM hA hl.1 (k_isGood l D dA h0 ad (up f [(8, y59_8), (9, y59_9), (7, y59_7), (10, y59_10), (5, y59_5), (6, y59_6), (15, y59_15), (22, y59_22), (57, y59_57)]) (up g [(11, y59_11)]) (up A [(13, y59_13), (14, y59_14), (17, y59_17), (18, y59_18), (19, y59_19), (20, y59_20), (21, y59_21), (25, y59_25)]) (up L [(12, y59_12), (16, y59_16)])   ) rfl ok_isGood nm_isGood ⟨rfl, rfl⟩ ⟨Nat.le_of_ble_eq_true rfl, Nat.le_of_ble_eq_true rfl⟩ dX12_readChain_64 rfl rfl (Nat.le_of_ble_eq_true rfl) ⟨Nat.zero_le _, Nat.zero_le _⟩ (fun r88 σr88 H locs ir88 hp89 hM => ?_)
        obtain ⟨rfl, hp89⟩ := hp89
        unfold inr at ir88
        replace hp89 : 0 ≤ r88 ∧ r88 ≤ 1 ∧ (r88 = 1 ↔ (y59_5) = 0) := hp89
        obtain ⟨hp89_0, hp89_1, hp89_2⟩ := hp89
        refine q_ieq (tgt := 167) B dX12_readChain_67 (by decide) (by unfold inr; omega) (fun c90 => ?_) (fun c90 => ?_)
        · refine lv_aload_n B.1 B.2.1 dX12_readChain_167 rfl (lv_at hl 0 rfl) ?_
          refine m_calli (n := 0) (rest := []) B hM hA hl.1 (k_isGood l D dA h0 ad (up f [(8, y59_8), (9, y59_9), (7, y59_7), (10, y59_10), (5, y59_5), (6, y59_6), (15, y59_15), (22, y59_22), (57, y59_57)]) (up g [(11, y59_11)]) (up A [(13, y59_13), (14, y59_14), (17, y59_17), (18, y59_18), (19, y59_19), (20, y59_20), (21, y59_21), (25, y59_25)]) (up L [(12, y59_12), (16, y59_16)])   ) rfl ok_isGood nm_isGood ⟨rfl, rfl⟩ ⟨Nat.le_of_ble_eq_true rfl, Nat.le_of_ble_eq_true rfl⟩ dX12_readChain_168 rfl rfl (Nat.le_of_ble_eq_true rfl) ⟨Nat.zero_le _, Nat.zero_le _⟩ (fun r91 σr91 H locs ir91 hp92 hM => ?_)
          obtain ⟨rfl, hp92⟩ := hp92
          unfold inr at ir91
          replace hp92 : 0 ≤ r91 ∧ r91 ≤ 1 ∧ (r91 = 1 ↔ (y59_5) = 0) := hp92
          obtain ⟨hp92_0, hp92_1, hp92_2⟩ := hp92
          refine q_ieq (tgt := 180) B dX12_readChain_171 (by decide) (by unfold inr; omega) (fun c93 => ?_) (fun c93 => ?_)
          · subst hPST
            exact m_vret B hM dX12_readChain_180 ⟨y59_8, y59_9, y59_7, y59_10, y59_5, y59_6, y59_15, y59_22, y59_57, y59_11, y59_13, y59_14, y59_17, y59_18, y59_19, y59_20, y59_21, y59_25, y59_12, y59_16, rfl, by (exact ⟨by first | omega | (simp only [wr_at]; omega) | assumption, by first | omega | (simp only [wr_at]; omega) | assumption, by first | omega | (simp only [wr_at]; omega) | assumption, by first | omega | (simp only [wr_at]; omega) | assumption, by first | omega | (simp only [wr_at]; omega) | assumption, by first | omega | (simp only [wr_at]; omega) | assumption, by first | omega | (simp only [wr_at]; omega) | assumption, by first | assumption | exact Fr1_rfl | exact Fr1_wr Fr1_rfl (by omega) | exact Fr1_wr (by assumption) (by omega) | exact Fr1_wr (Fr1_wr Fr1_rfl (by omega)) (by omega) | exact Fr1_tr (by assumption) (by assumption) | exact Fr1_eq (by assumption) (by omega) | exact Fr1_tr (by assumption) (Fr1_wr Fr1_rfl (by omega)) | exact Fr1_wr (Fr1_wr (Fr1_wr Fr1_rfl (by omega)) (by omega)) (by omega), by first | assumption | exact NIp_same (by assumption) (by omega) (by omega) (by omega) (by omega) | exact NIp_t (by assumption) (by omega) (by omega) (by omega) (by omega) (by omega) | exact NIp_bad (by omega), by first | assumption, by first | assumption | exact APe_rfl | exact APe_tr (by assumption) (by assumption) (by omega)⟩)⟩
          · refine lv_aload_n B.1 B.2.1 dX12_readChain_174 rfl (lv_at hl 0 rfl) ?_
            refine q_bip B dX12_readChain_175 (by decide) ?_
            refine m_callv (n := 1) (rest := []) B hM hA hl.1 (k_must l D dA h0 ad (up f [(8, y59_8), (9, y59_9), (7, y59_7), (10, y59_10), (5, y59_5), (6, y59_6), (15, y59_15), (22, y59_22), (57, y59_57)]) (up g [(11, y59_11)]) (up A [(13, y59_13), (14, y59_14), (17, y59_17), (18, y59_18), (19, y59_19), (20, y59_20), (21, y59_21), (25, y59_25)]) (up L [(12, y59_12), (16, y59_16)]) 59 (by omega) (show (0 ≤ (y59_8) ∧ (y59_8) ≤ (f 4) ∧ (y59_8) ≤ (y59_9) ∧ (y59_9) ≤ (f 4) + 1 ∧ ((y59_7) = 0 ↔ (y59_8) = (f 4)) ∧ (2 ≤ (y59_7) → (y59_8) < (y59_9) ∧ (y59_9) ≤ (f 4)) ∧ ((y59_7) = 5 → (y59_8) + 2 ≤ (y59_9) ∧ (y59_9) ≤ (y59_8) + 32)) from by first | omega | (simp only [wr_at]; omega) | assumption)) rfl ok_must nm_must ⟨rfl, rfl⟩ ⟨Nat.le_of_ble_eq_true rfl, Nat.le_of_ble_eq_true rfl⟩ dX12_readChain_177 rfl rfl (Nat.le_of_ble_eq_true rfl) ⟨Nat.zero_le _, Nat.zero_le _⟩ (fun σr94 H locs hp95 hM => ?_)
            obtain ⟨x96, x97, x98, x99, x100, x101, w102, rfl, hp95⟩ := hp95
            replace hp95 : ((0 ≤ (x96) ∧ (x96) ≤ (f 4) ∧ (x96) ≤ (x97) ∧ (x97) ≤ (f 4) + 1 ∧ ((x98) = 0 ↔ (x96) = (f 4)) ∧ (2 ≤ (x98) → (x96) < (x97) ∧ (x97) ≤ (f 4)) ∧ ((x98) = 5 → (x96) + 2 ≤ (x97) ∧ (x97) ≤ (x96) + 32))) ∧ (y59_8) ≤ (x96) ∧ ((x100) = 0 → (y59_5) = 0 ∧ (y59_8) + 1 ≤ (x96) ∧ (y59_9) ≤ (x96)) := hp95
            obtain ⟨hp95_0, hp95_1, hp95_2⟩ := hp95
            simp only [up_up] at hM
            replace hM : MWd D dA h0 ad (mF dA h0 ad (f, g, A, L) s.heap.size) s.heap ((up f [(8, x96), (9, x97), (7, x98), (10, x99), (5, x100), (6, x101), (15, y59_15), (22, y59_22), (57, y59_57)]), (up g [(11, w102)]), (up A [(13, y59_13), (14, y59_14), (17, y59_17), (18, y59_18), (19, y59_19), (20, y59_20), (21, y59_21), (25, y59_25)]), (up L [(12, y59_12), (16, y59_16)])) H locs := hM
            have r103 : (0 : Int) ≤ x96 ∧ x96 ≤ 3001 := hM.2.2.2.1 8
            have r104 : (0 : Int) ≤ x97 ∧ x97 ≤ 3002 := hM.2.2.2.1 9
            have r105 : (0 : Int) ≤ x98 ∧ x98 ≤ 6 := hM.2.2.2.1 7
            have r106 : (-2147483648 : Int) ≤ x99 ∧ x99 ≤ 2147483647 := hM.2.2.2.1 10
            have r107 : (-2147483648 : Int) ≤ x100 ∧ x100 ≤ 2147483647 := hM.2.2.2.1 5
            have r108 : (-2147483648 : Int) ≤ x101 ∧ x101 ≤ 2147483647 := hM.2.2.2.1 6
            subst hPST
            exact m_vret B hM dX12_readChain_180 ⟨x96, x97, x98, x99, x100, x101, y59_15, y59_22, y59_57, w102, y59_13, y59_14, y59_17, y59_18, y59_19, y59_20, y59_21, y59_25, y59_12, y59_16, rfl, by (exact ⟨by first | omega | (simp only [wr_at]; omega) | assumption, by first | omega | (simp only [wr_at]; omega) | assumption, by first | omega | (simp only [wr_at]; omega) | assumption, by first | omega | (simp only [wr_at]; omega) | assumption, by first | omega | (simp only [wr_at]; omega) | assumption, by first | omega | (simp only [wr_at]; omega) | assumption, by first | omega | (simp only [wr_at]; omega) | assumption, by first | assumption | exact Fr1_rfl | exact Fr1_wr Fr1_rfl (by omega) | exact Fr1_wr (by assumption) (by omega) | exact Fr1_wr (Fr1_wr Fr1_rfl (by omega)) (by omega) | exact Fr1_tr (by assumption) (by assumption) | exact Fr1_eq (by assumption) (by omega) | exact Fr1_tr (by assumption) (Fr1_wr Fr1_rfl (by omega)) | exact Fr1_wr (Fr1_wr (Fr1_wr Fr1_rfl (by omega)) (by omega)) (by omega), by first | assumption | exact NIp_same (by assumption) (by omega) (by omega) (by omega) (by omega) | exact NIp_t (by assumption) (by omega) (by omega) (by omega) (by omega) (by omega) | exact NIp_bad (by omega), by first | assumption, by first | assumption | exact APe_rfl | exact APe_tr (by assumption) (by assumption) (by omega)⟩)⟩
        · refine lv_aload_n B.1 B.2.1 dX12_readChain_70 rfl (lv_at hl 0 rfl) ?_
          refine m_callv (n := 0) (rest := []) B hM hA hl.1 (k_next l D dA h0 ad (up f [(8, y59_8), (9, y59_9), (7, y59_7), (10, y59_10), (5, y59_5), (6, y59_6), (15, y59_15), (22, y59_22), (57, y59_57)]) (up g [(11, y59_11)]) (up A [(13, y59_13), (14, y59_14), (17, y59_17), (18, y59_18), (19, y59_19), (20, y59_20), (21, y59_21), (25, y59_25)]) (up L [(12, y59_12), (16, y59_16)])   (show (y59_9) ≤ 3001 from by first | omega | (simp only [wr_at]; omega) | assumption)) rfl ok_next nm_next ⟨rfl, rfl⟩ ⟨Nat.le_of_ble_eq_true rfl, Nat.le_of_ble_eq_true rfl⟩ dX12_readChain_71 rfl rfl (Nat.le_of_ble_eq_true rfl) ⟨Nat.zero_le _, Nat.zero_le _⟩ (fun σr109 H locs hp110 hM => ?_)
          obtain ⟨x111, x112, x113, x114, w115, rfl, hp110⟩ := hp110
          replace hp110 : ((y59_9) ≤ (x111) ∨ (x111) = (f 4)) ∧ (0 ≤ (x111) ∧ (x111) ≤ (f 4) ∧ (x111) ≤ (x112) ∧ (x112) ≤ (f 4) + 1 ∧ ((x113) = 0 ↔ (x111) = (f 4)) ∧ (2 ≤ (x113) → (x111) < (x112) ∧ (x112) ≤ (f 4)) ∧ ((x113) = 5 → (x111) + 2 ≤ (x112) ∧ (x112) ≤ (x111) + 32)) := hp110
          obtain ⟨hp110_0, hp110_1⟩ := hp110
          simp only [up_up] at hM
          replace hM : MWd D dA h0 ad (mF dA h0 ad (f, g, A, L) s.heap.size) s.heap ((up f [(8, x111), (9, x112), (7, x113), (10, x114), (5, y59_5), (6, y59_6), (15, y59_15), (22, y59_22), (57, y59_57)]), (up g [(11, w115)]), (up A [(13, y59_13), (14, y59_14), (17, y59_17), (18, y59_18), (19, y59_19), (20, y59_20), (21, y59_21), (25, y59_25)]), (up L [(12, y59_12), (16, y59_16)])) H locs := hM
          have r116 : (0 : Int) ≤ x111 ∧ x111 ≤ 3001 := hM.2.2.2.1 8
          have r117 : (0 : Int) ≤ x112 ∧ x112 ≤ 3002 := hM.2.2.2.1 9
          have r118 : (0 : Int) ≤ x113 ∧ x113 ≤ 6 := hM.2.2.2.1 7
          have r119 : (-2147483648 : Int) ≤ x114 ∧ x114 ≤ 2147483647 := hM.2.2.2.1 10
          refine q_bip B dX12_readChain_74 (by decide) ?_
          refine lv_aload_n B.1 B.2.1 dX12_readChain_76 rfl (lv_at hl 0 rfl) ?_
          refine m_get (k := 3) (v := f 3) B hM (by decide) rfl fl11 dX12_readChain_77 rfl ?_
          refine q_mul B dX12_readChain_80 ?_
          refine lv_iload_n B.1 B.2.1 dX12_readChain_81 rfl (lv_at hl 2 rfl) ?_
          refine q_add B dX12_readChain_82 ?_
          refine lv_istore_n (lv' := [(3, .int (II ((6 * (f 3)) + ((f 57))))), (0, .ref h0), (2, .int (II v59_2)), (1, .int (II ((f 57))))]) B.1 B.2.1 dX12_readChain_83 rfl hl (by decide) rfl (fun ls hl => ?_)
          refine lv_aload_n B.1 B.2.1 dX12_readChain_84 rfl (lv_at hl 1 rfl) ?_
          refine m_geta (k := 25) B hM (by decide) rfl fl169 dX12_readChain_85 ?_
          refine lv_iload_n B.1 B.2.1 dX12_readChain_88 rfl (lv_at hl 0 rfl) ?_
          refine m_ild (k := 25) (i := 13) (n := 12) (z := (6 * (f 3)) + ((f 57))) (v := y59_25 ((6 * (f 3)) + ((f 57))).toNat) B hM rfl rfl rfl (by decide) dX12_readChain_89 (by omega) (by omega) rfl ?_
          have r120 : (0 : Int) ≤ y59_25 ((6 * (f 3)) + ((f 57))).toNat ∧ y59_25 ((6 * (f 3)) + ((f 57))).toNat ≤ 9 := hM.2.2.2.2 25 ((6 * (f 3)) + ((f 57))).toNat
          refine q_bip B dX12_readChain_90 (by decide) ?_
          refine q_cne (tgt := 107) B dX12_readChain_92 (by decide) (by unfold inr; omega) (by unfold inr; omega) (fun c121 => ?_) (fun c121 => ?_)
          · exact JJ107 x111 x112 x113 x114 y59_5 y59_6 y59_15 y59_22 y59_57 w115 y59_13 y59_14 y59_17 y59_18 y59_19 y59_20 y59_21 y59_25 y59_12 y59_16 _ _ ls hM (lv_sub hl [1, 3, 0] rfl) (by first | omega | (simp only [wr_at]; omega) | assumption) (by first | omega | (simp only [wr_at]; omega) | assumption) (by first | omega | (simp only [wr_at]; omega) | assumption) (by first | omega | (simp only [wr_at]; omega) | assumption) (by first | omega | (simp only [wr_at]; omega) | assumption) (by first | omega | (simp only [wr_at]; omega) | assumption) (by first | omega | (simp only [wr_at]; omega) | assumption) (by first | omega | (simp only [wr_at]; omega) | assumption) (by first | omega | (simp only [wr_at]; omega) | assumption) (by first | omega | (simp only [wr_at]; omega) | assumption) (by first | omega | (simp only [wr_at]; omega) | assumption) (by first | omega | (simp only [wr_at]; omega) | assumption) (by first | assumption | exact Fr1_rfl | exact Fr1_wr Fr1_rfl (by omega) | exact Fr1_wr (by assumption) (by omega) | exact Fr1_wr (Fr1_wr Fr1_rfl (by omega)) (by omega) | exact Fr1_tr (by assumption) (by assumption) | exact Fr1_eq (by assumption) (by omega) | exact Fr1_tr (by assumption) (Fr1_wr Fr1_rfl (by omega)) | exact Fr1_wr (Fr1_wr (Fr1_wr Fr1_rfl (by omega)) (by omega)) (by omega)) (by first | assumption | exact NIp_same (by assumption) (by omega) (by omega) (by omega) (by omega) | exact NIp_t (by assumption) (by omega) (by omega) (by omega) (by omega) (by omega) | exact NIp_bad (by omega)) (by first | assumption) (by first | assumption | exact APe_rfl | exact APe_tr (by assumption) (by assumption) (by omega))
          · refine lv_aload_n B.1 B.2.1 dX12_readChain_95 rfl (lv_at hl 1 rfl) ?_
            refine m_get (k := 7) (v := x113) B hM (by decide) rfl fl66 dX12_readChain_96 rfl ?_
            refine q_con B dX12_readChain_99 ?_
            refine q_cne (tgt := 107) B dX12_readChain_100 (by decide) (by unfold inr; omega) (by unfold inr; omega) (fun c122 => ?_) (fun c122 => ?_)
            · exact JJ107 x111 x112 x113 x114 y59_5 y59_6 y59_15 y59_22 y59_57 w115 y59_13 y59_14 y59_17 y59_18 y59_19 y59_20 y59_21 y59_25 y59_12 y59_16 _ _ ls hM (lv_sub hl [1, 3, 0] rfl) (by first | omega | (simp only [wr_at]; omega) | assumption) (by first | omega | (simp only [wr_at]; omega) | assumption) (by first | omega | (simp only [wr_at]; omega) | assumption) (by first | omega | (simp only [wr_at]; omega) | assumption) (by first | omega | (simp only [wr_at]; omega) | assumption) (by first | omega | (simp only [wr_at]; omega) | assumption) (by first | omega | (simp only [wr_at]; omega) | assumption) (by first | omega | (simp only [wr_at]; omega) | assumption) (by first | omega | (simp only [wr_at]; omega) | assumption) (by first | omega | (simp only [wr_at]; omega) | assumption) (by first | omega | (simp only [wr_at]; omega) | assumption) (by first | omega | (simp only [wr_at]; omega) | assumption) (by first | assumption | exact Fr1_rfl | exact Fr1_wr Fr1_rfl (by omega) | exact Fr1_wr (by assumption) (by omega) | exact Fr1_wr (Fr1_wr Fr1_rfl (by omega)) (by omega) | exact Fr1_tr (by assumption) (by assumption) | exact Fr1_eq (by assumption) (by omega) | exact Fr1_tr (by assumption) (Fr1_wr Fr1_rfl (by omega)) | exact Fr1_wr (Fr1_wr (Fr1_wr Fr1_rfl (by omega)) (by omega)) (by omega)) (by first | assumption | exact NIp_same (by assumption) (by omega) (by omega) (by omega) (by omega) | exact NIp_t (by assumption) (by omega) (by omega) (by omega) (by omega) (by omega) | exact NIp_bad (by omega)) (by first | assumption) (by first | assumption | exact APe_rfl | exact APe_tr (by assumption) (by assumption) (by omega))
            · refine lv_aload_n B.1 B.2.1 dX12_readChain_103 rfl (lv_at hl 1 rfl) ?_
              refine m_callv (n := 0) (rest := []) B hM hA hl.1 (k_wrong2 l D dA h0 ad (up f [(8, x111), (9, x112), (7, x113), (10, x114), (5, y59_5), (6, y59_6), (15, y59_15), (22, y59_22), (57, y59_57)]) (up g [(11, w115)]) (up A [(13, y59_13), (14, y59_14), (17, y59_17), (18, y59_18), (19, y59_19), (20, y59_20), (21, y59_21), (25, y59_25)]) (up L [(12, y59_12), (16, y59_16)])   ) rfl ok_wrong2 nm_wrong2 ⟨rfl, rfl⟩ ⟨Nat.le_of_ble_eq_true rfl, Nat.le_of_ble_eq_true rfl⟩ dX12_readChain_104 rfl rfl (Nat.le_of_ble_eq_true rfl) ⟨Nat.zero_le _, Nat.zero_le _⟩ (fun σr123 H locs hp124 hM => ?_)
              obtain ⟨x125, x126, rfl, hp124⟩ := hp124
              replace hp124 : (x125) ≠ 0 := hp124
              simp only [up_up] at hM
              replace hM : MWd D dA h0 ad (mF dA h0 ad (f, g, A, L) s.heap.size) s.heap ((up f [(8, x111), (9, x112), (7, x113), (10, x114), (5, x125), (6, x126), (15, y59_15), (22, y59_22), (57, y59_57)]), (up g [(11, w115)]), (up A [(13, y59_13), (14, y59_14), (17, y59_17), (18, y59_18), (19, y59_19), (20, y59_20), (21, y59_21), (25, y59_25)]), (up L [(12, y59_12), (16, y59_16)])) H locs := hM
              have r127 : (-2147483648 : Int) ≤ x125 ∧ x125 ≤ 2147483647 := hM.2.2.2.1 5
              have r128 : (-2147483648 : Int) ≤ x126 ∧ x126 ≤ 2147483647 := hM.2.2.2.1 6
              exact JJ107 x111 x112 x113 x114 x125 x126 y59_15 y59_22 y59_57 w115 y59_13 y59_14 y59_17 y59_18 y59_19 y59_20 y59_21 y59_25 y59_12 y59_16 _ _ ls hM (lv_sub hl [1, 3, 0] rfl) (by first | omega | (simp only [wr_at]; omega) | assumption) (by first | omega | (simp only [wr_at]; omega) | assumption) (by first | omega | (simp only [wr_at]; omega) | assumption) (by first | omega | (simp only [wr_at]; omega) | assumption) (by first | omega | (simp only [wr_at]; omega) | assumption) (by first | omega | (simp only [wr_at]; omega) | assumption) (by first | omega | (simp only [wr_at]; omega) | assumption) (by first | omega | (simp only [wr_at]; omega) | assumption) (by first | omega | (simp only [wr_at]; omega) | assumption) (by first | omega | (simp only [wr_at]; omega) | assumption) (by first | omega | (simp only [wr_at]; omega) | assumption) (by first | omega | (simp only [wr_at]; omega) | assumption) (by first | assumption | exact Fr1_rfl | exact Fr1_wr Fr1_rfl (by omega) | exact Fr1_wr (by assumption) (by omega) | exact Fr1_wr (Fr1_wr Fr1_rfl (by omega)) (by omega) | exact Fr1_tr (by assumption) (by assumption) | exact Fr1_eq (by assumption) (by omega) | exact Fr1_tr (by assumption) (Fr1_wr Fr1_rfl (by omega)) | exact Fr1_wr (Fr1_wr (Fr1_wr Fr1_rfl (by omega)) (by omega)) (by omega)) (by first | assumption | exact NIp_same (by assumption) (by omega) (by omega) (by omega) (by omega) | exact NIp_t (by assumption) (by omega) (by omega) (by omega) (by omega) (by omega) | exact NIp_bad (by omega)) (by first | assumption) (by first | assumption | exact APe_rfl | exact APe_tr (by assumption) (by assumption) (by omega))
  refine lv_aload_n B.1 B.2.1 dX12_readChain_0 rfl (lv_at hl 0 rfl) ?_
  refine m_get (k := 57) (v := f 57) B hM (by decide) rfl fl446 dX12_readChain_1 rfl ?_
  refine lv_istore_n (lv' := [(1, .int (II (f 57))), (0, .ref h0)]) B.1 B.2.1 dX12_readChain_4 rfl hl (by decide) rfl (fun ls hl => ?_)
  refine lv_aload_n B.1 B.2.1 dX12_readChain_5 rfl (lv_at hl 1 rfl) ?_
  refine q_con B dX12_readChain_6 ?_
  refine lv_iload_n B.1 B.2.1 dX12_readChain_7 rfl (lv_at hl 0 rfl) ?_
  refine m_callv (n := 2) (rest := []) B hM hA hl.1 (k_tell l D dA h0 ad (up f [(8, f 8), (9, f 9), (7, f 7), (10, f 10), (5, f 5), (6, f 6), (15, f 15), (22, f 22), (57, f 57)]) (up g [(11, g 11)]) (up A [(13, (A 13)), (14, (A 14)), (17, (A 17)), (18, (A 18)), (19, (A 19)), (20, (A 20)), (21, (A 21)), (25, (A 25))]) (up L [(12, (L 12)), (16, (L 16))]) 2 (f 57) (by omega) (by omega) (show (0 ≤ (f 8) ∧ (f 8) ≤ (f 4) ∧ (f 8) ≤ (f 9) ∧ (f 9) ≤ (f 4) + 1 ∧ ((f 7) = 0 ↔ (f 8) = (f 4)) ∧ (2 ≤ (f 7) → (f 8) < (f 9) ∧ (f 9) ≤ (f 4)) ∧ ((f 7) = 5 → (f 8) + 2 ≤ (f 9) ∧ (f 9) ≤ (f 8) + 32)) from by first | omega | (simp only [wr_at]; omega) | assumption) (show (f 15) ≤ 62 from by first | omega | (simp only [wr_at]; omega) | assumption) (show 1 ≤ (2) from by first | omega | (simp only [wr_at]; omega) | assumption) (show (2) ≤ 5 from by first | omega | (simp only [wr_at]; omega) | assumption) (show 0 ≤ (f 57) from by first | omega | (simp only [wr_at]; omega) | assumption) (show (f 57) ≤ 15 from by first | omega | (simp only [wr_at]; omega) | assumption) (show ((2) = 1 → (f 57) ≤ 7) from by first | omega | (simp only [wr_at]; omega) | assumption) (show ((2) = 3 → (f 57) = (f 58)) from by first | omega | (simp only [wr_at]; omega) | assumption) (show ((2) = 4 → (f 57) = (f 59)) from by first | omega | (simp only [wr_at]; omega) | assumption) (show NIp (f 5) (f 15) (f 3) (f 58) (f 59) (A 13) (A 14) from by first | assumption | exact NIp_same (by assumption) (by omega) (by omega) (by omega) (by omega) | exact NIp_t (by assumption) (by omega) (by omega) (by omega) (by omega) (by omega) | exact NIp_bad (by omega))) rfl ok_tell nm_tell ⟨rfl, rfl⟩ ⟨Nat.le_of_ble_eq_true rfl, Nat.le_of_ble_eq_true rfl⟩ dX12_readChain_8 rfl rfl (Nat.le_of_ble_eq_true rfl) ⟨Nat.zero_le _, Nat.zero_le _⟩ (fun σr129 H locs hp130 hM => ?_)
  obtain ⟨x131, x132, x133, x134, x135, x136, x137, w138, b139, b140, b141, rfl, hp130⟩ := hp130
  replace hp130 : ((0 ≤ (x131) ∧ (x131) ≤ (f 4) ∧ (x131) ≤ (x132) ∧ (x132) ≤ (f 4) + 1 ∧ ((x133) = 0 ↔ (x131) = (f 4)) ∧ (2 ≤ (x133) → (x131) < (x132) ∧ (x132) ≤ (f 4)) ∧ ((x133) = 5 → (x131) + 2 ≤ (x132) ∧ (x132) ≤ (x131) + 32))) ∧ (f 8) ≤ (x131) ∧ ((x135) = 0 → (f 5) = 0 ∧ (f 8) + 1 ≤ (x131) ∧ (x137) = (f 15) + 1) ∧ (f 15) ≤ (x137) ∧ (x137) ≤ (f 15) + 1 ∧ NIp (x135) (x137) (f 3) (u3 3 (2) (f 58)) (u3 4 (2) (f 59)) b139 b140 := hp130
  obtain ⟨hp130_0, hp130_1, hp130_2, hp130_3, hp130_4, hp130_5⟩ := hp130
  simp only [up_up] at hM
  replace hM : MWd D dA h0 ad (mF dA h0 ad (f, g, A, L) s.heap.size) s.heap ((up f [(8, x131), (9, x132), (7, x133), (10, x134), (5, x135), (6, x136), (15, x137), (22, f 22), (57, f 57)]), (up g [(11, w138)]), (up A [(13, b139), (14, b140), (17, (A 17)), (18, (A 18)), (19, (A 19)), (20, (A 20)), (21, (A 21)), (25, (A 25))]), (up L [(12, b141), (16, (L 16))])) H locs := hM
  have r142 : (0 : Int) ≤ x131 ∧ x131 ≤ 3001 := hM.2.2.2.1 8
  have r143 : (0 : Int) ≤ x132 ∧ x132 ≤ 3002 := hM.2.2.2.1 9
  have r144 : (0 : Int) ≤ x133 ∧ x133 ≤ 6 := hM.2.2.2.1 7
  have r145 : (-2147483648 : Int) ≤ x134 ∧ x134 ≤ 2147483647 := hM.2.2.2.1 10
  have r146 : (-2147483648 : Int) ≤ x135 ∧ x135 ≤ 2147483647 := hM.2.2.2.1 5
  have r147 : (-2147483648 : Int) ≤ x136 ∧ x136 ≤ 2147483647 := hM.2.2.2.1 6
  have r148 : (0 : Int) ≤ x137 ∧ x137 ≤ 64 := hM.2.2.2.1 15
  refine lv_aload_n B.1 B.2.1 dX12_readChain_11 rfl (lv_at hl 1 rfl) ?_
  refine m_calli (n := 0) (rest := []) B hM hA hl.1 (k_isGood l D dA h0 ad (up f [(8, x131), (9, x132), (7, x133), (10, x134), (5, x135), (6, x136), (15, x137), (22, f 22), (57, f 57)]) (up g [(11, w138)]) (up A [(13, b139), (14, b140), (17, (A 17)), (18, (A 18)), (19, (A 19)), (20, (A 20)), (21, (A 21)), (25, (A 25))]) (up L [(12, b141), (16, (L 16))])   ) rfl ok_isGood nm_isGood ⟨rfl, rfl⟩ ⟨Nat.le_of_ble_eq_true rfl, Nat.le_of_ble_eq_true rfl⟩ dX12_readChain_12 rfl rfl (Nat.le_of_ble_eq_true rfl) ⟨Nat.zero_le _, Nat.zero_le _⟩ (fun r149 σr149 H locs ir149 hp150 hM => ?_)
  obtain ⟨rfl, hp150⟩ := hp150
  unfold inr at ir149
  replace hp150 : 0 ≤ r149 ∧ r149 ≤ 1 ∧ (r149 = 1 ↔ (x135) = 0) := hp150
  obtain ⟨hp150_0, hp150_1, hp150_2⟩ := hp150
  refine q_ine (tgt := 19) B dX12_readChain_15 (by decide) (by unfold inr; omega) (fun c151 => ?_) (fun c151 => ?_)
  · refine lv_aload_n B.1 B.2.1 dX12_readChain_19 rfl (lv_at hl 1 rfl) ?_
    refine lv_dup B.1 B.2.1 dX12_readChain_20 rfl ?_
    refine m_get (k := 57) (v := f 57) B hM (by decide) rfl fl446 dX12_readChain_21 rfl ?_
    refine q_con B dX12_readChain_24 ?_
    refine q_add B dX12_readChain_25 ?_
    refine m_put (k := 57) B hM (by decide) rfl fl446 rfl dX12_readChain_26 rfl rfl (show (0 : Int) ≤ (f 57) + 1 from by first | omega | (simp only [wr_at]; omega)) (show (f 57) + 1 ≤ (6 : Int) from by first | omega | (simp only [wr_at]; omega)) (u1_up f [(8, x131), (9, x132), (7, x133), (10, x134), (5, x135), (6, x136), (15, x137), (22, f 22), (57, f 57)] 57 ((f 57) + 1)) (fun H locs hM => ?_)
    replace hM : MWd D dA h0 ad (mF dA h0 ad (f, g, A, L) s.heap.size) s.heap ((up f [(8, x131), (9, x132), (7, x133), (10, x134), (5, x135), (6, x136), (15, x137), (22, f 22), (57, (f 57) + 1)]), (up g [(11, w138)]), (up A [(13, b139), (14, b140), (17, (A 17)), (18, (A 18)), (19, (A 19)), (20, (A 20)), (21, (A 21)), (25, (A 25))]), (up L [(12, b141), (16, (L 16))])) H locs := hM
    refine lv_aload_n B.1 B.2.1 dX12_readChain_29 rfl (lv_at hl 1 rfl) ?_
    refine m_geta (k := 25) B hM (by decide) rfl fl169 dX12_readChain_30 ?_
    refine q_bip B dX12_readChain_33 (by decide) ?_
    refine lv_aload_n B.1 B.2.1 dX12_readChain_35 rfl (lv_at hl 1 rfl) ?_
    refine m_get (k := 3) (v := f 3) B hM (by decide) rfl fl11 dX12_readChain_36 rfl ?_
    refine q_mul B dX12_readChain_39 ?_
    refine lv_iload_n B.1 B.2.1 dX12_readChain_40 rfl (lv_at hl 0 rfl) ?_
    refine q_add B dX12_readChain_41 ?_
    refine q_con B dX12_readChain_42 ?_
    refine m_ist (k := 25) (i := 13) (n := 12) B hM rfl rfl rfl (by decide) dX12_readChain_43 (by omega) (by omega) (show (0 : Int) ≤ 0 from by first | omega | (simp only [wr_at]; omega)) (show 0 ≤ (9 : Int) from by first | omega | (simp only [wr_at]; omega)) (u1_up A [(13, b139), (14, b140), (17, (A 17)), (18, (A 18)), (19, (A 19)), (20, (A 20)), (21, (A 21)), (25, (A 25))] 25 (wr (A 25) ((6 * (f 3)) + (f 57)) 0)) (fun H locs hM => ?_)
    replace hM : MWd D dA h0 ad (mF dA h0 ad (f, g, A, L) s.heap.size) s.heap ((up f [(8, x131), (9, x132), (7, x133), (10, x134), (5, x135), (6, x136), (15, x137), (22, f 22), (57, (f 57) + 1)]), (up g [(11, w138)]), (up A [(13, b139), (14, b140), (17, (A 17)), (18, (A 18)), (19, (A 19)), (20, (A 20)), (21, (A 21)), (25, (wr (A 25) ((6 * (f 3)) + (f 57)) 0))]), (up L [(12, b141), (16, (L 16))])) H locs := hM
    refine lv_aload_n B.1 B.2.1 dX12_readChain_44 rfl (lv_at hl 1 rfl) ?_
    refine q_bip B dX12_readChain_45 (by decide) ?_
    refine m_calli (n := 1) (rest := []) B hM hA hl.1 (k_isSign l D dA h0 ad (up f [(8, x131), (9, x132), (7, x133), (10, x134), (5, x135), (6, x136), (15, x137), (22, f 22), (57, (f 57) + 1)]) (up g [(11, w138)]) (up A [(13, b139), (14, b140), (17, (A 17)), (18, (A 18)), (19, (A 19)), (20, (A 20)), (21, (A 21)), (25, (wr (A 25) ((6 * (f 3)) + (f 57)) 0))]) (up L [(12, b141), (16, (L 16))]) 58 (by omega) (show (0 ≤ (x131) ∧ (x131) ≤ (f 4) ∧ (x131) ≤ (x132) ∧ (x132) ≤ (f 4) + 1 ∧ ((x133) = 0 ↔ (x131) = (f 4)) ∧ (2 ≤ (x133) → (x131) < (x132) ∧ (x132) ≤ (f 4)) ∧ ((x133) = 5 → (x131) + 2 ≤ (x132) ∧ (x132) ≤ (x131) + 32)) from by first | omega | (simp only [wr_at]; omega) | assumption)) rfl ok_isSign nm_isSign ⟨rfl, rfl⟩ ⟨Nat.le_of_ble_eq_true rfl, Nat.le_of_ble_eq_true rfl⟩ dX12_readChain_47 rfl rfl (Nat.le_of_ble_eq_true rfl) ⟨Nat.zero_le _, Nat.zero_le _⟩ (fun r152 σr152 H locs ir152 hp153 hM => ?_)
    obtain ⟨rfl, hp153⟩ := hp153
    unfold inr at ir152
    replace hp153 : 0 ≤ r152 ∧ r152 ≤ 1 ∧ (r152 = 1 ↔ (x133) = 6 ∧ sgn ((A 2)) (f 3) (f 4) (x131) = (58)) := hp153
    obtain ⟨hp153_0, hp153_1, hp153_2⟩ := hp153
    refine q_ine (tgt := 57) B dX12_readChain_50 (by decide) (by unfold inr; omega) (fun c154 => ?_) (fun c154 => ?_)
    · refine q_con B dX12_readChain_57 ?_
      refine lv_istore_n (lv' := [(2, .int (II 1)), (1, .int (II (f 57))), (0, .ref h0)]) B.1 B.2.1 dX12_readChain_58 rfl hl (by decide) rfl (fun ls hl => ?_)
      exact LL59 (Int.toNat (10 - (wr (A 25) ((6 * (f 3)) + (f 57)) 0) (6 * (f 3) + (f 57)).toNat + 1)) 1 x131 x132 x133 x134 x135 x136 x137 (f 22) ((f 57) + 1) w138 b139 b140 ((A 17)) ((A 18)) ((A 19)) ((A 20)) ((A 21)) ((wr (A 25) ((6 * (f 3)) + (f 57)) 0)) b141 ((L 16)) _ _ ls hM (lv_sub hl [2, 0, 1] rfl) (by omega) (by first | omega | (simp only [wr_at]; omega) | assumption) (by first | omega | (simp only [wr_at]; omega) | assumption) (by first | omega | (simp only [wr_at]; omega) | assumption) (by first | omega | (simp only [wr_at]; omega) | assumption) (by first | omega | (simp only [wr_at]; omega) | assumption) (by first | omega | (simp only [wr_at]; omega) | assumption) (by first | omega | (simp only [wr_at]; omega) | assumption) (by first | omega | (simp only [wr_at]; omega) | assumption) (by first | omega | (simp only [wr_at]; omega) | assumption) (by first | omega | (simp only [wr_at]; omega) | assumption) (by first | omega | (simp only [wr_at]; omega) | assumption) (by first | omega | (simp only [wr_at]; omega) | assumption) (by first | omega | (simp only [wr_at]; omega) | assumption) (by first | assumption | exact Fr1_rfl | exact Fr1_wr Fr1_rfl (by omega) | exact Fr1_wr (by assumption) (by omega) | exact Fr1_wr (Fr1_wr Fr1_rfl (by omega)) (by omega) | exact Fr1_tr (by assumption) (by assumption) | exact Fr1_eq (by assumption) (by omega) | exact Fr1_tr (by assumption) (Fr1_wr Fr1_rfl (by omega)) | exact Fr1_wr (Fr1_wr (Fr1_wr Fr1_rfl (by omega)) (by omega)) (by omega)) (by first | assumption | exact NIp_same (by assumption) (by omega) (by omega) (by omega) (by omega) | exact NIp_t (by assumption) (by omega) (by omega) (by omega) (by omega) (by omega) | exact NIp_bad (by omega)) (by first | assumption) (by first | assumption | exact APe_rfl | exact APe_tr (by assumption) (by assumption) (by omega)) (by first | omega | (simp only [wr_at]; omega) | assumption) (by first | omega | (simp only [wr_at]; omega) | assumption)
    · refine lv_aload_n B.1 B.2.1 dX12_readChain_53 rfl (lv_at hl 1 rfl) ?_
      refine m_callv (n := 0) (rest := []) B hM hA hl.1 (k_wrong l D dA h0 ad (up f [(8, x131), (9, x132), (7, x133), (10, x134), (5, x135), (6, x136), (15, x137), (22, f 22), (57, (f 57) + 1)]) (up g [(11, w138)]) (up A [(13, b139), (14, b140), (17, (A 17)), (18, (A 18)), (19, (A 19)), (20, (A 20)), (21, (A 21)), (25, (wr (A 25) ((6 * (f 3)) + (f 57)) 0))]) (up L [(12, b141), (16, (L 16))])   ) rfl ok_wrong nm_wrong ⟨rfl, rfl⟩ ⟨Nat.le_of_ble_eq_true rfl, Nat.le_of_ble_eq_true rfl⟩ dX12_readChain_54 rfl rfl (Nat.le_of_ble_eq_true rfl) ⟨Nat.zero_le _, Nat.zero_le _⟩ (fun σr155 H locs hp156 hM => ?_)
      obtain ⟨x157, x158, rfl, hp156⟩ := hp156
      replace hp156 : (x157) ≠ 0 := hp156
      simp only [up_up] at hM
      replace hM : MWd D dA h0 ad (mF dA h0 ad (f, g, A, L) s.heap.size) s.heap ((up f [(8, x131), (9, x132), (7, x133), (10, x134), (5, x157), (6, x158), (15, x137), (22, f 22), (57, (f 57) + 1)]), (up g [(11, w138)]), (up A [(13, b139), (14, b140), (17, (A 17)), (18, (A 18)), (19, (A 19)), (20, (A 20)), (21, (A 21)), (25, (wr (A 25) ((6 * (f 3)) + (f 57)) 0))]), (up L [(12, b141), (16, (L 16))])) H locs := hM
      have r159 : (-2147483648 : Int) ≤ x157 ∧ x157 ≤ 2147483647 := hM.2.2.2.1 5
      have r160 : (-2147483648 : Int) ≤ x158 ∧ x158 ≤ 2147483647 := hM.2.2.2.1 6
      refine q_con B dX12_readChain_57 ?_
      refine lv_istore_n (lv' := [(2, .int (II 1)), (1, .int (II (f 57))), (0, .ref h0)]) B.1 B.2.1 dX12_readChain_58 rfl hl (by decide) rfl (fun ls hl => ?_)
      exact LL59 (Int.toNat (10 - (wr (A 25) ((6 * (f 3)) + (f 57)) 0) (6 * (f 3) + (f 57)).toNat + 1)) 1 x131 x132 x133 x134 x157 x158 x137 (f 22) ((f 57) + 1) w138 b139 b140 ((A 17)) ((A 18)) ((A 19)) ((A 20)) ((A 21)) ((wr (A 25) ((6 * (f 3)) + (f 57)) 0)) b141 ((L 16)) _ _ ls hM (lv_sub hl [2, 0, 1] rfl) (by omega) (by first | omega | (simp only [wr_at]; omega) | assumption) (by first | omega | (simp only [wr_at]; omega) | assumption) (by first | omega | (simp only [wr_at]; omega) | assumption) (by first | omega | (simp only [wr_at]; omega) | assumption) (by first | omega | (simp only [wr_at]; omega) | assumption) (by first | omega | (simp only [wr_at]; omega) | assumption) (by first | omega | (simp only [wr_at]; omega) | assumption) (by first | omega | (simp only [wr_at]; omega) | assumption) (by first | omega | (simp only [wr_at]; omega) | assumption) (by first | omega | (simp only [wr_at]; omega) | assumption) (by first | omega | (simp only [wr_at]; omega) | assumption) (by first | omega | (simp only [wr_at]; omega) | assumption) (by first | omega | (simp only [wr_at]; omega) | assumption) (by first | assumption | exact Fr1_rfl | exact Fr1_wr Fr1_rfl (by omega) | exact Fr1_wr (by assumption) (by omega) | exact Fr1_wr (Fr1_wr Fr1_rfl (by omega)) (by omega) | exact Fr1_tr (by assumption) (by assumption) | exact Fr1_eq (by assumption) (by omega) | exact Fr1_tr (by assumption) (Fr1_wr Fr1_rfl (by omega)) | exact Fr1_wr (Fr1_wr (Fr1_wr Fr1_rfl (by omega)) (by omega)) (by omega)) (by first | assumption | exact NIp_same (by assumption) (by omega) (by omega) (by omega) (by omega) | exact NIp_t (by assumption) (by omega) (by omega) (by omega) (by omega) (by omega) | exact NIp_bad (by omega)) (by first | assumption) (by first | assumption | exact APe_rfl | exact APe_tr (by assumption) (by assumption) (by omega)) (by first | omega | (simp only [wr_at]; omega) | assumption) (by first | omega | (simp only [wr_at]; omega) | assumption)
  · subst hPST
    exact m_vret B hM dX12_readChain_18 ⟨x131, x132, x133, x134, x135, x136, x137, (f 22), (f 57), w138, b139, b140, ((A 17)), ((A 18)), ((A 19)), ((A 20)), ((A 21)), ((A 25)), b141, ((L 16)), rfl, by (exact ⟨by first | omega | (simp only [wr_at]; omega) | assumption, by first | omega | (simp only [wr_at]; omega) | assumption, by first | omega | (simp only [wr_at]; omega) | assumption, by first | omega | (simp only [wr_at]; omega) | assumption, by first | omega | (simp only [wr_at]; omega) | assumption, by first | omega | (simp only [wr_at]; omega) | assumption, by first | omega | (simp only [wr_at]; omega) | assumption, by first | assumption | exact Fr1_rfl | exact Fr1_wr Fr1_rfl (by omega) | exact Fr1_wr (by assumption) (by omega) | exact Fr1_wr (Fr1_wr Fr1_rfl (by omega)) (by omega) | exact Fr1_tr (by assumption) (by assumption) | exact Fr1_eq (by assumption) (by omega) | exact Fr1_tr (by assumption) (Fr1_wr Fr1_rfl (by omega)) | exact Fr1_wr (Fr1_wr (Fr1_wr Fr1_rfl (by omega)) (by omega)) (by omega), by first | assumption | exact NIp_same (by assumption) (by omega) (by omega) (by omega) (by omega) | exact NIp_t (by assumption) (by omega) (by omega) (by omega) (by omega) (by omega) | exact NIp_bad (by omega), by first | assumption, by first | assumption | exact APe_rfl | exact APe_tr (by assumption) (by assumption) (by omega)⟩)⟩
set_option maxHeartbeats 4000000 in
set_option maxRecDepth 20000 in
theorem k_isStep (l : Launch) (D : va_G) (dA : Nat → ClassId) (h0 : Nat) (ad : Nat → Nat) (f : Nat → Int) (g : Nat → Int64) (A : Nat → Nat → Int) (L : Nat → Nat → Int64) (a_starts : Int) (i_starts : (0 : Int) ≤ a_starts ∧ a_starts ≤ 1) (p_0 : (0 ≤ (f 8) ∧ (f 8) ≤ (f 4) ∧ (f 8) ≤ (f 9) ∧ (f 9) ≤ (f 4) + 1 ∧ ((f 7) = 0 ↔ (f 8) = (f 4)) ∧ (2 ≤ (f 7) → (f 8) < (f 9) ∧ (f 9) ≤ (f 4)) ∧ ((f 7) = 5 → (f 8) + 2 ≤ (f 9) ∧ (f 9) ≤ (f 8) + 32))) : MCi l yX12_isStep cX12_isStep 4 (some .boolean) ({ frames := 1, cells := 0, slots := 0, locals := 21 }) D dA h0 ad (f, g, A, L) [.int (II a_starts)] (fun (r : Int) (σ : MS) => σ = (f, g, A, L) ∧ (0 ≤ r ∧ r ≤ 1 ∧ (r = 1 → 2 ≤ (f 7)))) := by
  generalize hPST : (fun (r : Int) (σ : MS) => σ = (f, g, A, L) ∧ (0 ≤ r ∧ r ≤ 1 ∧ (r = 1 → 2 ≤ (f 7)))) = PST
  refine m_enter (by decide) rfl (Nat.le_of_ble_eq_true rfl) (fun p e s m args below meth c ls B hM hl => ?_)
  have hA : ∀ q, s.heap.size ≤ q → mF dA h0 ad (f, g, A, L) s.heap.size q := fun q h => Or.inr h
  have hl : lv_has ls 4 [(0, .ref h0), (1, .int (II a_starts))] := hl
  have r1 : (0 : Int) ≤ f 4 ∧ f 4 ≤ 3000 := hM.2.2.2.1 4
  have r2 : (0 : Int) ≤ f 7 ∧ f 7 ≤ 6 := hM.2.2.2.1 7
  have r3 : (0 : Int) ≤ f 8 ∧ f 8 ≤ 3001 := hM.2.2.2.1 8
  have r4 : (0 : Int) ≤ f 9 ∧ f 9 ≤ 3002 := hM.2.2.2.1 9
  have LL88 : ∀ N : Nat, ∀ (v88_3 : Int) (v88_2 : Int) (H : Heap) (locs : List Loc) (ls : Array Slot), (MWd D dA h0 ad (mF dA h0 ad (f, g, A, L) s.heap.size) s.heap (f, g, A, L) H locs) → lv_has ls 4 [(0, .ref h0), (1, .int (II a_starts)), (3, .int (II v88_3)), (2, .int (II v88_2))] → ((-2147483648 : Int) ≤ v88_3 ∧ v88_3 ≤ 2147483647) → ((-2147483648 : Int) ≤ v88_2 ∧ v88_2 ≤ 2147483647) → (0 ≤ (v88_3)) → ((v88_3) ≤ (f 4) + 1) → (2 ≤ (f 7)) → (0 ≤ (f 4) + 1 - (v88_3)) → ((f 4) + 1 - (v88_3) < (N : Int)) → W p l e ({ frames := 1, cells := 0, slots := 0, locals := 21 }) s m args below meth c H locs 0 0 (MQ below (mQi D dA h0 ad (f, g, A, L) s.heap.size PST) args s 0 0 (mF dA h0 ad (f, g, A, L) s.heap.size)) (F0 m 88 ls []) := by
    intro N
    induction N with
    | zero => intro v88_3 v88_2 H locs ls hM hl hLL88_0 hLL88_1 hLL88_2 hLL88_3 hLL88_4 hLL88_5 hN; exfalso; omega
    | succ N IH88 =>
      intro v88_3 v88_2 H locs ls hM hl hLL88_0 hLL88_1 hLL88_2 hLL88_3 hLL88_4 hLL88_5 hN
      refine lv_aload_n B.1 B.2.1 dX12_isStep_88 rfl (lv_at hl 0 rfl) ?_
      refine lv_iload_n B.1 B.2.1 dX12_isStep_89 rfl (lv_at hl 2 rfl) ?_
      refine m_calli (n := 1) (rest := []) B hM hA hl.1 (k_sign l D dA h0 ad f g A L v88_3 (by omega) (show 0 ≤ (v88_3) from by first | omega | (simp only [wr_at]; omega) | assumption) (show (v88_3) ≤ 100000 from by first | omega | (simp only [wr_at]; omega) | assumption)) rfl ok_sign nm_sign ⟨rfl, rfl⟩ ⟨Nat.le_of_ble_eq_true rfl, Nat.le_of_ble_eq_true rfl⟩ dX12_isStep_90 rfl rfl (Nat.le_of_ble_eq_true rfl) ⟨Nat.zero_le _, Nat.zero_le _⟩ (fun r5 σr5 H locs ir5 hp6 hM => ?_)
      obtain ⟨rfl, hp6⟩ := hp6
      unfold inr at ir5
      replace hp6 : r5 = sgn ((A 2)) (f 3) (f 4) (v88_3) ∧ 0 ≤ r5 ∧ r5 ≤ 255 ∧ (r5 ≠ 0 → (v88_3) < (f 4)) := hp6
      obtain ⟨hp6_0, hp6_1, hp6_2, hp6_3⟩ := hp6
      refine q_bip B dX12_isStep_93 (by decide) ?_
      refine q_ceq (tgt := 108) B dX12_isStep_95 (by decide) (by unfold inr; omega) (by unfold inr; omega) (fun c7 => ?_) (fun c7 => ?_)
      · refine q_inc (k := 2) (x := v88_3) (lv' := [(3, .int (II (v88_3 + 1))), (0, .ref h0), (1, .int (II a_starts)), (2, .int (II v88_2))]) B dX12_isStep_108 hl rfl (by decide) rfl (fun ls hl => ?_)
        refine lv_goto (tgt := 88) B.1 B.2.1 dX12_isStep_111 (by decide) ?_
        exact IH88 (v88_3 + 1) v88_2 _ _ ls hM (lv_sub hl [1, 2, 0, 3] rfl) (by omega) (by omega) (by first | omega | (simp only [wr_at]; omega) | assumption) (by first | omega | (simp only [wr_at]; omega) | assumption) (by first | omega | (simp only [wr_at]; omega) | assumption) (by first | omega | (simp only [wr_at]; omega) | assumption) (by first | omega | (simp only [wr_at]; omega) | assumption)
      · refine lv_aload_n B.1 B.2.1 dX12_isStep_98 rfl (lv_at hl 0 rfl) ?_
        refine lv_iload_n B.1 B.2.1 dX12_isStep_99 rfl (lv_at hl 2 rfl) ?_
        refine m_calli (n := 1) (rest := []) B hM hA hl.1 (k_sign l D dA h0 ad f g A L v88_3 (by omega) (show 0 ≤ (v88_3) from by first | omega | (simp only [wr_at]; omega) | assumption) (show (v88_3) ≤ 100000 from by first | omega | (simp only [wr_at]; omega) | assumption)) rfl ok_sign nm_sign ⟨rfl, rfl⟩ ⟨Nat.le_of_ble_eq_true rfl, Nat.le_of_ble_eq_true rfl⟩ dX12_isStep_100 rfl rfl (Nat.le_of_ble_eq_true rfl) ⟨Nat.zero_le _, Nat.zero_le _⟩ (fun r8 σr8 H locs ir8 hp9 hM => ?_)
        obtain ⟨rfl, hp9⟩ := hp9
        unfold inr at ir8
        replace hp9 : r8 = sgn ((A 2)) (f 3) (f 4) (v88_3) ∧ 0 ≤ r8 ∧ r8 ≤ 255 ∧ (r8 ≠ 0 → (v88_3) < (f 4)) := hp9
        obtain ⟨hp9_0, hp9_1, hp9_2, hp9_3⟩ := hp9
        refine q_bip B dX12_isStep_103 (by decide) ?_
        refine q_cne (tgt := 114) B dX12_isStep_105 (by decide) (by unfold inr; omega) (by unfold inr; omega) (fun c10 => ?_) (fun c10 => ?_)
        · refine lv_iload_n B.1 B.2.1 dX12_isStep_114 rfl (lv_at hl 1 rfl) ?_
          refine q_ieq (tgt := 128) B dX12_isStep_115 (by decide) (by unfold inr; omega) (fun c11 => ?_) (fun c11 => ?_)
          · refine q_con B dX12_isStep_128 ?_
            refine lv_goto (tgt := 133) B.1 B.2.1 dX12_isStep_129 (by decide) ?_
            subst hPST
            exact m_zret B hM dX12_isStep_133 (by omega) ⟨rfl, by omega⟩
          · refine lv_aload_n B.1 B.2.1 dX12_isStep_118 rfl (lv_at hl 0 rfl) ?_
            refine lv_iload_n B.1 B.2.1 dX12_isStep_119 rfl (lv_at hl 2 rfl) ?_
            refine m_calli (n := 1) (rest := []) B hM hA hl.1 (k_sign l D dA h0 ad f g A L v88_3 (by omega) (show 0 ≤ (v88_3) from by first | omega | (simp only [wr_at]; omega) | assumption) (show (v88_3) ≤ 100000 from by first | omega | (simp only [wr_at]; omega) | assumption)) rfl ok_sign nm_sign ⟨rfl, rfl⟩ ⟨Nat.le_of_ble_eq_true rfl, Nat.le_of_ble_eq_true rfl⟩ dX12_isStep_120 rfl rfl (Nat.le_of_ble_eq_true rfl) ⟨Nat.zero_le _, Nat.zero_le _⟩ (fun r12 σr12 H locs ir12 hp13 hM => ?_)
            obtain ⟨rfl, hp13⟩ := hp13
            unfold inr at ir12
            replace hp13 : r12 = sgn ((A 2)) (f 3) (f 4) (v88_3) ∧ 0 ≤ r12 ∧ r12 ≤ 255 ∧ (r12 ≠ 0 → (v88_3) < (f 4)) := hp13
            obtain ⟨hp13_0, hp13_1, hp13_2, hp13_3⟩ := hp13
            refine q_bip B dX12_isStep_123 (by decide) ?_
            refine q_cne (tgt := 132) B dX12_isStep_125 (by decide) (by unfold inr; omega) (by unfold inr; omega) (fun c14 => ?_) (fun c14 => ?_)
            · refine q_con B dX12_isStep_132 ?_
              subst hPST
              exact m_zret B hM dX12_isStep_133 (by omega) ⟨rfl, by omega⟩
            · refine q_con B dX12_isStep_128 ?_
              refine lv_goto (tgt := 133) B.1 B.2.1 dX12_isStep_129 (by decide) ?_
              subst hPST
              exact m_zret B hM dX12_isStep_133 (by omega) ⟨rfl, by omega⟩
        · refine q_inc (k := 2) (x := v88_3) (lv' := [(3, .int (II (v88_3 + 1))), (0, .ref h0), (1, .int (II a_starts)), (2, .int (II v88_2))]) B dX12_isStep_108 hl rfl (by decide) rfl (fun ls hl => ?_)
          refine lv_goto (tgt := 88) B.1 B.2.1 dX12_isStep_111 (by decide) ?_
          exact IH88 (v88_3 + 1) v88_2 _ _ ls hM (lv_sub hl [1, 2, 0, 3] rfl) (by omega) (by omega) (by first | omega | (simp only [wr_at]; omega) | assumption) (by first | omega | (simp only [wr_at]; omega) | assumption) (by first | omega | (simp only [wr_at]; omega) | assumption) (by first | omega | (simp only [wr_at]; omega) | assumption) (by first | omega | (simp only [wr_at]; omega) | assumption)
  refine lv_aload_n B.1 B.2.1 dX12_isStep_0 rfl (lv_at hl 0 rfl) ?_
  refine m_get (k := 7) (v := f 7) B hM (by decide) rfl fl66 dX12_isStep_1 rfl ?_
  refine q_con B dX12_isStep_4 ?_
  refine q_cne (tgt := 10) B dX12_isStep_5 (by decide) (by unfold inr; omega) (by unfold inr; omega) (fun c15 => ?_) (fun c15 => ?_)
  · refine lv_aload_n B.1 B.2.1 dX12_isStep_10 rfl (lv_at hl 0 rfl) ?_
    refine m_get (k := 7) (v := f 7) B hM (by decide) rfl fl66 dX12_isStep_11 rfl ?_
    refine q_con B dX12_isStep_14 ?_
    refine q_cne (tgt := 57) B dX12_isStep_15 (by decide) (by unfold inr; omega) (by unfold inr; omega) (fun c16 => ?_) (fun c16 => ?_)
    · refine lv_aload_n B.1 B.2.1 dX12_isStep_57 rfl (lv_at hl 0 rfl) ?_
      refine m_get (k := 7) (v := f 7) B hM (by decide) rfl fl66 dX12_isStep_58 rfl ?_
      refine q_bip B dX12_isStep_61 (by decide) ?_
      refine q_ceq (tgt := 68) B dX12_isStep_63 (by decide) (by unfold inr; omega) (by unfold inr; omega) (fun c17 => ?_) (fun c17 => ?_)
      · refine lv_aload_n B.1 B.2.1 dX12_isStep_68 rfl (lv_at hl 0 rfl) ?_
        refine lv_aload_n B.1 B.2.1 dX12_isStep_69 rfl (lv_at hl 0 rfl) ?_
        refine m_get (k := 8) (v := f 8) B hM (by decide) rfl fl59 dX12_isStep_70 rfl ?_
        refine m_calli (n := 1) (rest := []) B hM hA hl.1 (k_sign l D dA h0 ad f g A L (f 8) (by omega) (show 0 ≤ (f 8) from by first | omega | (simp only [wr_at]; omega) | assumption) (show (f 8) ≤ 100000 from by first | omega | (simp only [wr_at]; omega) | assumption)) rfl ok_sign nm_sign ⟨rfl, rfl⟩ ⟨Nat.le_of_ble_eq_true rfl, Nat.le_of_ble_eq_true rfl⟩ dX12_isStep_73 rfl rfl (Nat.le_of_ble_eq_true rfl) ⟨Nat.zero_le _, Nat.zero_le _⟩ (fun r18 σr18 H locs ir18 hp19 hM => ?_)
        obtain ⟨rfl, hp19⟩ := hp19
        unfold inr at ir18
        replace hp19 : r18 = sgn ((A 2)) (f 3) (f 4) (f 8) ∧ 0 ≤ r18 ∧ r18 ≤ 255 ∧ (r18 ≠ 0 → (f 8) < (f 4)) := hp19
        obtain ⟨hp19_0, hp19_1, hp19_2, hp19_3⟩ := hp19
        refine lv_istore_n (lv' := [(2, .int (II r18)), (0, .ref h0), (1, .int (II a_starts))]) B.1 B.2.1 dX12_isStep_76 rfl hl (by decide) rfl (fun ls hl => ?_)
        refine lv_iload_n B.1 B.2.1 dX12_isStep_77 rfl (lv_at hl 0 rfl) ?_
        refine q_bip B dX12_isStep_78 (by decide) ?_
        refine q_cne (tgt := 134) B dX12_isStep_80 (by decide) (by unfold inr; omega) (by unfold inr; omega) (fun c20 => ?_) (fun c20 => ?_)
        · refine lv_iload_n B.1 B.2.1 dX12_isStep_134 rfl (lv_at hl 0 rfl) ?_
          refine q_bip B dX12_isStep_135 (by decide) ?_
          refine q_ceq (tgt := 194) B dX12_isStep_137 (by decide) (by unfold inr; omega) (by unfold inr; omega) (fun c21 => ?_) (fun c21 => ?_)
          · refine q_con B dX12_isStep_194 ?_
            refine lv_goto (tgt := 199) B.1 B.2.1 dX12_isStep_195 (by decide) ?_
            subst hPST
            exact m_zret B hM dX12_isStep_199 (by omega) ⟨rfl, by omega⟩
          · refine lv_iload_n B.1 B.2.1 dX12_isStep_140 rfl (lv_at hl 0 rfl) ?_
            refine q_bip B dX12_isStep_141 (by decide) ?_
            refine q_ceq (tgt := 194) B dX12_isStep_143 (by decide) (by unfold inr; omega) (by unfold inr; omega) (fun c22 => ?_) (fun c22 => ?_)
            · refine q_con B dX12_isStep_194 ?_
              refine lv_goto (tgt := 199) B.1 B.2.1 dX12_isStep_195 (by decide) ?_
              subst hPST
              exact m_zret B hM dX12_isStep_199 (by omega) ⟨rfl, by omega⟩
            · refine lv_iload_n B.1 B.2.1 dX12_isStep_146 rfl (lv_at hl 0 rfl) ?_
              refine q_bip B dX12_isStep_147 (by decide) ?_
              refine q_ceq (tgt := 194) B dX12_isStep_149 (by decide) (by unfold inr; omega) (by unfold inr; omega) (fun c23 => ?_) (fun c23 => ?_)
              · refine q_con B dX12_isStep_194 ?_
                refine lv_goto (tgt := 199) B.1 B.2.1 dX12_isStep_195 (by decide) ?_
                subst hPST
                exact m_zret B hM dX12_isStep_199 (by omega) ⟨rfl, by omega⟩
              · refine lv_iload_n B.1 B.2.1 dX12_isStep_152 rfl (lv_at hl 0 rfl) ?_
                refine q_bip B dX12_isStep_153 (by decide) ?_
                refine q_ceq (tgt := 194) B dX12_isStep_155 (by decide) (by unfold inr; omega) (by unfold inr; omega) (fun c24 => ?_) (fun c24 => ?_)
                · refine q_con B dX12_isStep_194 ?_
                  refine lv_goto (tgt := 199) B.1 B.2.1 dX12_isStep_195 (by decide) ?_
                  subst hPST
                  exact m_zret B hM dX12_isStep_199 (by omega) ⟨rfl, by omega⟩
                · refine lv_iload_n B.1 B.2.1 dX12_isStep_158 rfl (lv_at hl 0 rfl) ?_
                  refine q_bip B dX12_isStep_159 (by decide) ?_
                  refine q_ceq (tgt := 194) B dX12_isStep_161 (by decide) (by unfold inr; omega) (by unfold inr; omega) (fun c25 => ?_) (fun c25 => ?_)
                  · refine q_con B dX12_isStep_194 ?_
                    refine lv_goto (tgt := 199) B.1 B.2.1 dX12_isStep_195 (by decide) ?_
                    subst hPST
                    exact m_zret B hM dX12_isStep_199 (by omega) ⟨rfl, by omega⟩
                  · refine lv_iload_n B.1 B.2.1 dX12_isStep_164 rfl (lv_at hl 0 rfl) ?_
                    refine q_bip B dX12_isStep_165 (by decide) ?_
                    refine q_ceq (tgt := 194) B dX12_isStep_167 (by decide) (by unfold inr; omega) (by unfold inr; omega) (fun c26 => ?_) (fun c26 => ?_)
                    · refine q_con B dX12_isStep_194 ?_
                      refine lv_goto (tgt := 199) B.1 B.2.1 dX12_isStep_195 (by decide) ?_
                      subst hPST
                      exact m_zret B hM dX12_isStep_199 (by omega) ⟨rfl, by omega⟩
                    · refine lv_iload_n B.1 B.2.1 dX12_isStep_170 rfl (lv_at hl 0 rfl) ?_
                      refine q_bip B dX12_isStep_171 (by decide) ?_
                      refine q_ceq (tgt := 194) B dX12_isStep_173 (by decide) (by unfold inr; omega) (by unfold inr; omega) (fun c27 => ?_) (fun c27 => ?_)
                      · refine q_con B dX12_isStep_194 ?_
                        refine lv_goto (tgt := 199) B.1 B.2.1 dX12_isStep_195 (by decide) ?_
                        subst hPST
                        exact m_zret B hM dX12_isStep_199 (by omega) ⟨rfl, by omega⟩
                      · refine lv_iload_n B.1 B.2.1 dX12_isStep_176 rfl (lv_at hl 0 rfl) ?_
                        refine q_bip B dX12_isStep_177 (by decide) ?_
                        refine q_ceq (tgt := 194) B dX12_isStep_179 (by decide) (by unfold inr; omega) (by unfold inr; omega) (fun c28 => ?_) (fun c28 => ?_)
                        · refine q_con B dX12_isStep_194 ?_
                          refine lv_goto (tgt := 199) B.1 B.2.1 dX12_isStep_195 (by decide) ?_
                          subst hPST
                          exact m_zret B hM dX12_isStep_199 (by omega) ⟨rfl, by omega⟩
                        · refine lv_iload_n B.1 B.2.1 dX12_isStep_182 rfl (lv_at hl 0 rfl) ?_
                          refine q_bip B dX12_isStep_183 (by decide) ?_
                          refine q_ceq (tgt := 194) B dX12_isStep_185 (by decide) (by unfold inr; omega) (by unfold inr; omega) (fun c29 => ?_) (fun c29 => ?_)
                          · refine q_con B dX12_isStep_194 ?_
                            refine lv_goto (tgt := 199) B.1 B.2.1 dX12_isStep_195 (by decide) ?_
                            subst hPST
                            exact m_zret B hM dX12_isStep_199 (by omega) ⟨rfl, by omega⟩
                          · refine lv_iload_n B.1 B.2.1 dX12_isStep_188 rfl (lv_at hl 0 rfl) ?_
                            refine q_bip B dX12_isStep_189 (by decide) ?_
                            refine q_cne (tgt := 198) B dX12_isStep_191 (by decide) (by unfold inr; omega) (by unfold inr; omega) (fun c30 => ?_) (fun c30 => ?_)
                            · refine q_con B dX12_isStep_198 ?_
                              subst hPST
                              exact m_zret B hM dX12_isStep_199 (by omega) ⟨rfl, by omega⟩
                            · refine q_con B dX12_isStep_194 ?_
                              refine lv_goto (tgt := 199) B.1 B.2.1 dX12_isStep_195 (by decide) ?_
                              subst hPST
                              exact m_zret B hM dX12_isStep_199 (by omega) ⟨rfl, by omega⟩
        · refine lv_aload_n B.1 B.2.1 dX12_isStep_83 rfl (lv_at hl 1 rfl) ?_
          refine m_get (k := 9) (v := f 9) B hM (by decide) rfl fl56 dX12_isStep_84 rfl ?_
          refine lv_istore_n (lv' := [(3, .int (II (f 9))), (2, .int (II r18)), (0, .ref h0), (1, .int (II a_starts))]) B.1 B.2.1 dX12_isStep_87 rfl hl (by decide) rfl (fun ls hl => ?_)
          exact LL88 (Int.toNat ((f 4) + 1 - (f 9) + 1)) (f 9) r18 _ _ ls hM (lv_sub hl [2, 3, 0, 1] rfl) (by omega) (by omega) (by first | omega | (simp only [wr_at]; omega) | assumption) (by first | omega | (simp only [wr_at]; omega) | assumption) (by first | omega | (simp only [wr_at]; omega) | assumption) (by first | omega | (simp only [wr_at]; omega) | assumption) (by first | omega | (simp only [wr_at]; omega) | assumption)
      · refine q_con B dX12_isStep_66 ?_
        subst hPST
        exact m_zret B hM dX12_isStep_67 (by omega) ⟨rfl, by omega⟩
    · refine lv_aload_n B.1 B.2.1 dX12_isStep_18 rfl (lv_at hl 0 rfl) ?_
      refine m_getl (k := 11) B hM (by decide) rfl fl76 dX12_isStep_19 rfl ?_
      refine lv_ldc2 B.1 B.2.1 B.2.2.2.1 (B.2.2.2.2.1 _ lc456) dX12_isStep_22 ?_
      refine q_lcmp B dX12_isStep_25 (fun x31 lx31 ux31 ex31 => ?_)
      refine q_ieq (tgt := 51) B dX12_isStep_26 (by decide) (by unfold inr; omega) (fun c32 => ?_) (fun c32 => ?_)
      · refine q_con B dX12_isStep_51 ?_
        refine lv_goto (tgt := 56) B.1 B.2.1 dX12_isStep_52 (by decide) ?_
        subst hPST
        exact m_zret B hM dX12_isStep_56 (by omega) ⟨rfl, by omega⟩
      · refine lv_aload_n B.1 B.2.1 dX12_isStep_29 rfl (lv_at hl 0 rfl) ?_
        refine m_getl (k := 11) B hM (by decide) rfl fl76 dX12_isStep_30 rfl ?_
        refine lv_ldc2 B.1 B.2.1 B.2.2.2.1 (B.2.2.2.2.1 _ lc458) dX12_isStep_33 ?_
        refine q_lcmp B dX12_isStep_36 (fun x33 lx33 ux33 ex33 => ?_)
        refine q_ieq (tgt := 51) B dX12_isStep_37 (by decide) (by unfold inr; omega) (fun c34 => ?_) (fun c34 => ?_)
        · refine q_con B dX12_isStep_51 ?_
          refine lv_goto (tgt := 56) B.1 B.2.1 dX12_isStep_52 (by decide) ?_
          subst hPST
          exact m_zret B hM dX12_isStep_56 (by omega) ⟨rfl, by omega⟩
        · refine lv_aload_n B.1 B.2.1 dX12_isStep_40 rfl (lv_at hl 0 rfl) ?_
          refine m_getl (k := 11) B hM (by decide) rfl fl76 dX12_isStep_41 rfl ?_
          refine lv_ldc2 B.1 B.2.1 B.2.2.2.1 (B.2.2.2.2.1 _ lc460) dX12_isStep_44 ?_
          refine q_lcmp B dX12_isStep_47 (fun x35 lx35 ux35 ex35 => ?_)
          refine q_ine (tgt := 55) B dX12_isStep_48 (by decide) (by unfold inr; omega) (fun c36 => ?_) (fun c36 => ?_)
          · refine q_con B dX12_isStep_55 ?_
            subst hPST
            exact m_zret B hM dX12_isStep_56 (by omega) ⟨rfl, by omega⟩
          · refine q_con B dX12_isStep_51 ?_
            refine lv_goto (tgt := 56) B.1 B.2.1 dX12_isStep_52 (by decide) ?_
            subst hPST
            exact m_zret B hM dX12_isStep_56 (by omega) ⟨rfl, by omega⟩
  · refine q_con B dX12_isStep_8 ?_
    subst hPST
    exact m_zret B hM dX12_isStep_9 (by omega) ⟨rfl, by omega⟩
set_option maxHeartbeats 4000000 in
set_option maxRecDepth 20000 in
theorem k_readSteps (l : Launch) (D : va_G) (dA : Nat → ClassId) (h0 : Nat) (ad : Nat → Nat) (f : Nat → Int) (g : Nat → Int64) (A : Nat → Nat → Int) (L : Nat → Nat → Int64) (a_starts : Int) (i_starts : (0 : Int) ≤ a_starts ∧ a_starts ≤ 1) (p_0 : (0 ≤ (f 8) ∧ (f 8) ≤ (f 4) ∧ (f 8) ≤ (f 9) ∧ (f 9) ≤ (f 4) + 1 ∧ ((f 7) = 0 ↔ (f 8) = (f 4)) ∧ (2 ≤ (f 7) → (f 8) < (f 9) ∧ (f 9) ≤ (f 4)) ∧ ((f 7) = 5 → (f 8) + 2 ≤ (f 9) ∧ (f 9) ≤ (f 8) + 32))) (p_1 : (f 63) ≤ 1450) : MCi l yX12_readSteps cX12_readSteps 8 (some .int) ({ frames := 4, cells := 0, slots := 0, locals := 86 }) D dA h0 ad (f, g, A, L) [.int (II a_starts)] (fun (r : Int) (σ : MS) => ∃ n8 : Int, ∃ n9 : Int, ∃ n7 : Int, ∃ n10 : Int, ∃ n5 : Int, ∃ n6 : Int, ∃ n63 : Int, ∃ n11 : Int64, ∃ b30 : Nat → Int, ∃ b31 : Nat → Int, σ = ((up f [(8, n8), (9, n9), (7, n7), (10, n10), (5, n5), (6, n6), (63, n63)]), (up g [(11, n11)]), (up A [(30, b30), (31, b31)]), L) ∧ (r = (f 63) ∧ ((0 ≤ (n8) ∧ (n8) ≤ (f 4) ∧ (n8) ≤ (n9) ∧ (n9) ≤ (f 4) + 1 ∧ ((n7) = 0 ↔ (n8) = (f 4)) ∧ (2 ≤ (n7) → (n8) < (n9) ∧ (n9) ≤ (f 4)) ∧ ((n7) = 5 → (n8) + 2 ≤ (n9) ∧ (n9) ≤ (n8) + 32))) ∧ (f 8) ≤ (n8) ∧ (f 63) ≤ (n63) ∧ (n63) ≤ (f 63) + 40 ∧ ((n5) = 0 → (f 5) = 0) ∧ SegP (n5) (f 3) (n63) b30 (f 63) ((n63) - (f 63)) ∧ FrS (f 3) (f 63) (A 30) b30)) := by
  generalize hPST : (fun (r : Int) (σ : MS) => ∃ n8 : Int, ∃ n9 : Int, ∃ n7 : Int, ∃ n10 : Int, ∃ n5 : Int, ∃ n6 : Int, ∃ n63 : Int, ∃ n11 : Int64, ∃ b30 : Nat → Int, ∃ b31 : Nat → Int, σ = ((up f [(8, n8), (9, n9), (7, n7), (10, n10), (5, n5), (6, n6), (63, n63)]), (up g [(11, n11)]), (up A [(30, b30), (31, b31)]), L) ∧ (r = (f 63) ∧ ((0 ≤ (n8) ∧ (n8) ≤ (f 4) ∧ (n8) ≤ (n9) ∧ (n9) ≤ (f 4) + 1 ∧ ((n7) = 0 ↔ (n8) = (f 4)) ∧ (2 ≤ (n7) → (n8) < (n9) ∧ (n9) ≤ (f 4)) ∧ ((n7) = 5 → (n8) + 2 ≤ (n9) ∧ (n9) ≤ (n8) + 32))) ∧ (f 8) ≤ (n8) ∧ (f 63) ≤ (n63) ∧ (n63) ≤ (f 63) + 40 ∧ ((n5) = 0 → (f 5) = 0) ∧ SegP (n5) (f 3) (n63) b30 (f 63) ((n63) - (f 63)) ∧ FrS (f 3) (f 63) (A 30) b30)) = PST
  refine m_enter (by decide) rfl (Nat.le_of_ble_eq_true rfl) (fun p e s m args below meth c ls B hM hl => ?_)
  have hA : ∀ q, s.heap.size ≤ q → mF dA h0 ad (f, g, A, L) s.heap.size q := fun q h => Or.inr h
  have hM : MWd D dA h0 ad (mF dA h0 ad (f, g, A, L) s.heap.size) s.heap ((up f [(8, f 8), (9, f 9), (7, f 7), (10, f 10), (5, f 5), (6, f 6), (63, f 63)]), (up g [(11, g 11)]), (up A [(30, (A 30)), (31, (A 31))]), L) s.heap [] := MW_pad hM (up_self f [8, 9, 7, 10, 5, 6, 63]) (up_self g [11]) (up_self A [30, 31]) rfl
  have hl : lv_has ls 8 [(0, .ref h0), (1, .int (II a_starts))] := hl
  have r1 : (0 : Int) ≤ f 3 ∧ f 3 ≤ 1 := hM.2.2.2.1 3
  have r2 : (0 : Int) ≤ f 4 ∧ f 4 ≤ 3000 := hM.2.2.2.1 4
  have r3 : (0 : Int) ≤ f 7 ∧ f 7 ≤ 6 := hM.2.2.2.1 7
  have r4 : (0 : Int) ≤ f 8 ∧ f 8 ≤ 3001 := hM.2.2.2.1 8
  have r5 : (0 : Int) ≤ f 9 ∧ f 9 ≤ 3002 := hM.2.2.2.1 9
  have r6 : (0 : Int) ≤ f 63 ∧ f 63 ≤ 1500 := hM.2.2.2.1 63
  have LL10 : ∀ N : Nat, ∀ (v10_2 : Int) (v10_3 : Int) (v10_4 : Int) (y10_8 : Int) (y10_9 : Int) (y10_7 : Int) (y10_10 : Int) (y10_5 : Int) (y10_6 : Int) (y10_63 : Int) (y10_11 : Int64) (y10_30 : Nat → Int) (y10_31 : Nat → Int) (H : Heap) (locs : List Loc) (ls : Array Slot), (MWd D dA h0 ad (mF dA h0 ad (f, g, A, L) s.heap.size) s.heap ((up f [(8, y10_8), (9, y10_9), (7, y10_7), (10, y10_10), (5, y10_5), (6, y10_6), (63, y10_63)]), (up g [(11, y10_11)]), (up A [(30, y10_30), (31, y10_31)]), L) H locs) → lv_has ls 8 [(0, .ref h0), (1, .int (II a_starts)), (2, .int (II v10_2)), (3, .int (II v10_3)), (4, .int (II v10_4))] → ((-2147483648 : Int) ≤ v10_2 ∧ v10_2 ≤ 2147483647) → ((-2147483648 : Int) ≤ v10_3 ∧ v10_3 ≤ 2147483647) → ((-2147483648 : Int) ≤ v10_4 ∧ v10_4 ≤ 2147483647) → ((0 ≤ (y10_8) ∧ (y10_8) ≤ (f 4) ∧ (y10_8) ≤ (y10_9) ∧ (y10_9) ≤ (f 4) + 1 ∧ ((y10_7) = 0 ↔ (y10_8) = (f 4)) ∧ (2 ≤ (y10_7) → (y10_8) < (y10_9) ∧ (y10_9) ≤ (f 4)) ∧ ((y10_7) = 5 → (y10_8) + 2 ≤ (y10_9) ∧ (y10_9) ≤ (y10_8) + 32))) → ((f 8) ≤ (y10_8)) → ((v10_2) = (f 63)) → ((f 63) ≤ (y10_63)) → ((y10_63) ≤ (f 63) + 40) → (0 ≤ (v10_4)) → ((v10_4) ≤ 1) → (-1 ≤ (v10_3)) → ((v10_3) ≤ 17) → (((y10_5) = 0 → (f 5) = 0 ∧ SpI y10_30 (f 3) (f 63) (y10_63) (v10_3) ∧ 0 ≤ (v10_3) ∧ (v10_3) ≤ 16)) → (FrS (f 3) (f 63) (A 30) y10_30) → (0 ≤ 2 * ((f 4) - (y10_8)) + (v10_4)) → (2 * ((f 4) - (y10_8)) + (v10_4) < (N : Int)) → W p l e ({ frames := 4, cells := 0, slots := 0, locals := 86 }) s m args below meth c H locs 0 0 (MQ below (mQi D dA h0 ad (f, g, A, L) s.heap.size PST) args s 0 0 (mF dA h0 ad (f, g, A, L) s.heap.size)) (F0 m 10 ls []) := by
    intro N
    induction N with
    | zero => intro v10_2 v10_3 v10_4 y10_8 y10_9 y10_7 y10_10 y10_5 y10_6 y10_63 y10_11 y10_30 y10_31 H locs ls hM hl hLL10_0 hLL10_1 hLL10_2 hLL10_3 hLL10_4 hLL10_5 hLL10_6 hLL10_7 hLL10_8 hLL10_9 hLL10_10 hLL10_11 hLL10_12 hLL10_13 hLL10_14 hN; exfalso; omega
    | succ N IH10 =>
      intro v10_2 v10_3 v10_4 y10_8 y10_9 y10_7 y10_10 y10_5 y10_6 y10_63 y10_11 y10_30 y10_31 H locs ls hM hl hLL10_0 hLL10_1 hLL10_2 hLL10_3 hLL10_4 hLL10_5 hLL10_6 hLL10_7 hLL10_8 hLL10_9 hLL10_10 hLL10_11 hLL10_12 hLL10_13 hLL10_14 hN
      have JJ326 : ∀ (v326_2 : Int) (v326_5 : Int) (v326_6 : Int) (v326_3 : Int) (v326_4 : Int) (s326_0 : Int) (s326_1 : Int) (y326_8 : Int) (y326_9 : Int) (y326_7 : Int) (y326_10 : Int) (y326_5 : Int) (y326_6 : Int) (y326_11 : Int64) (y326_31 : Nat → Int) (H : Heap) (locs : List Loc) (ls : Array Slot), (MWd D dA h0 ad (mF dA h0 ad (f, g, A, L) s.heap.size) s.heap ((up f [(8, y326_8), (9, y326_9), (7, y326_7), (10, y326_10), (5, y326_5), (6, y326_6), (63, (y10_63) + 1)]), (up g [(11, y326_11)]), (up A [(30, (wr (y10_30) (1500 * (f 3) + (y10_63)) (v326_6))), (31, y326_31)]), L) H locs) → lv_has ls 8 [(0, .ref h0), (1, .int (II a_starts)), (2, .int (II v326_2)), (5, .int (II v326_5)), (6, .int (II v326_6)), (3, .int (II v326_3)), (4, .int (II v326_4))] → ((-2147483648 : Int) ≤ v326_2 ∧ v326_2 ≤ 2147483647) → ((-2147483648 : Int) ≤ v326_5 ∧ v326_5 ≤ 2147483647) → ((-2147483648 : Int) ≤ v326_6 ∧ v326_6 ≤ 2147483647) → ((-2147483648 : Int) ≤ v326_3 ∧ v326_3 ≤ 2147483647) → ((-2147483648 : Int) ≤ v326_4 ∧ v326_4 ≤ 2147483647) → ((-2147483648 : Int) ≤ s326_0 ∧ s326_0 ≤ 2147483647) → ((-2147483648 : Int) ≤ s326_1 ∧ s326_1 ≤ 2147483647) → ((0 ≤ (y326_8) ∧ (y326_8) ≤ (f 4) ∧ (y326_8) ≤ (y326_9) ∧ (y326_9) ≤ (f 4) + 1 ∧ ((y326_7) = 0 ↔ (y326_8) = (f 4)) ∧ (2 ≤ (y326_7) → (y326_8) < (y326_9) ∧ (y326_9) ≤ (f 4)) ∧ ((y326_7) = 5 → (y326_8) + 2 ≤ (y326_9) ∧ (y326_9) ≤ (y326_8) + 32))) → ((y10_8) + 1 ≤ (y326_8)) → ((v326_2) = (f 63)) → ((s326_1) = (v10_3)) → ((y10_5) = 0) → ((y10_63) < (f 63) + 40) → (((y326_5) = 0 → canOp (v326_6) ((v10_3)))) → ((s326_0) = dl (v326_6)) → (-1 ≤ (s326_0)) → ((s326_0) ≤ 1) → (0 ≤ (v326_4)) → ((v326_4) ≤ 1) → W p l e ({ frames := 4, cells := 0, slots := 0, locals := 86 }) s m args below meth c H locs 0 0 (MQ below (mQi D dA h0 ad (f, g, A, L) s.heap.size PST) args s 0 0 (mF dA h0 ad (f, g, A, L) s.heap.size)) (F0 m 326 ls [.int (II s326_0), .int (II s326_1)]) := by
        intro v326_2 v326_5 v326_6 v326_3 v326_4 s326_0 s326_1 y326_8 y326_9 y326_7 y326_10 y326_5 y326_6 y326_11 y326_31 H locs ls hM hl hJJ326_0 hJJ326_1 hJJ326_2 hJJ326_3 hJJ326_4 hJJ326_5 hJJ326_6 hJJ326_7 hJJ326_8 hJJ326_9 hJJ326_10 hJJ326_11 hJJ326_12 hJJ326_13 hJJ326_14 hJJ326_15 hJJ326_16 hJJ326_17 hJJ326_18
        have r7 : (0 : Int) ≤ y326_8 ∧ y326_8 ≤ 3001 := hM.2.2.2.1 8
        have r8 : (0 : Int) ≤ y326_9 ∧ y326_9 ≤ 3002 := hM.2.2.2.1 9
        have r9 : (0 : Int) ≤ y326_7 ∧ y326_7 ≤ 6 := hM.2.2.2.1 7
        have r10 : (-2147483648 : Int) ≤ y326_10 ∧ y326_10 ≤ 2147483647 := hM.2.2.2.1 10
        have r11 : (-2147483648 : Int) ≤ y326_5 ∧ y326_5 ≤ 2147483647 := hM.2.2.2.1 5
        have r12 : (-2147483648 : Int) ≤ y326_6 ∧ y326_6 ≤ 2147483647 := hM.2.2.2.1 6
        have r13 : (0 : Int) ≤ (y10_63) + 1 ∧ (y10_63) + 1 ≤ 1500 := hM.2.2.2.1 63
        refine q_add B dX12_readSteps_326 ?_
        refine lv_istore_n (lv' := [(3, .int (II (s326_1 + s326_0))), (0, .ref h0), (1, .int (II a_starts)), (2, .int (II v326_2)), (5, .int (II v326_5)), (6, .int (II v326_6)), (4, .int (II v326_4))]) B.1 B.2.1 dX12_readSteps_327 rfl hl (by decide) rfl (fun ls hl => ?_)
        refine lv_goto (tgt := 10) B.1 B.2.1 dX12_readSteps_328 (by decide) ?_
        exact IH10 v326_2 (s326_1 + s326_0) v326_4 y326_8 y326_9 y326_7 y326_10 y326_5 y326_6 ((y10_63) + 1) y326_11 ((wr (y10_30) (1500 * (f 3) + (y10_63)) (v326_6))) y326_31 _ _ ls hM (lv_sub hl [1, 2, 3, 0, 6] rfl) (by omega) (by omega) (by omega) (by first | omega | (simp only [wr_at]; omega) | assumption) (by first | omega | (simp only [wr_at]; omega) | assumption) (by first | omega | (simp only [wr_at]; omega) | assumption) (by first | omega | (simp only [wr_at]; omega) | assumption) (by first | omega | (simp only [wr_at]; omega) | assumption) (by first | omega | (simp only [wr_at]; omega) | assumption) (by first | omega | (simp only [wr_at]; omega) | assumption) (by first | omega | (simp only [wr_at]; omega) | assumption) (by first | omega | (simp only [wr_at]; omega) | assumption) (by first | exact (fun _ => ⟨by omega, SpI_0, by omega, by omega⟩) | assumption | (intro hq; exfalso; omega) | (intro hq; have e1 := hJJ326_10; have hs := hLL10_12 (by omega); have hs1 := hs.2.2.1; have hs2 := hs.2.2.2; have hr := can_rng (hJJ326_13 hq) hJJ326_14 hs1 hs2; refine ⟨by omega, ?_, by omega, by omega⟩; rw [e1]; exact SpI_push hs.2.1 (by omega) (by omega) (by omega) (hJJ326_13 hq) hJJ326_14)) (by first | exact FrS_rfl | assumption | exact FrS_wr (by assumption) (by omega) (by omega) (by omega)) (by first | omega | (simp only [wr_at]; omega) | assumption) (by first | omega | (simp only [wr_at]; omega) | assumption)
      have JJ281 : ∀ (v281_2 : Int) (v281_3 : Int) (v281_4 : Int) (v281_5 : Int) (v281_6 : Int) (y281_8 : Int) (y281_9 : Int) (y281_7 : Int) (y281_10 : Int) (y281_5 : Int) (y281_6 : Int) (y281_11 : Int64) (y281_31 : Nat → Int) (H : Heap) (locs : List Loc) (ls : Array Slot), (MWd D dA h0 ad (mF dA h0 ad (f, g, A, L) s.heap.size) s.heap ((up f [(8, y281_8), (9, y281_9), (7, y281_7), (10, y281_10), (5, y281_5), (6, y281_6), (63, (y10_63) + 1)]), (up g [(11, y281_11)]), (up A [(30, (wr (y10_30) (1500 * (f 3) + (y10_63)) (v281_6))), (31, y281_31)]), L) H locs) → lv_has ls 8 [(0, .ref h0), (1, .int (II a_starts)), (2, .int (II v281_2)), (3, .int (II v281_3)), (4, .int (II v281_4)), (5, .int (II v281_5)), (6, .int (II v281_6))] → ((-2147483648 : Int) ≤ v281_2 ∧ v281_2 ≤ 2147483647) → ((-2147483648 : Int) ≤ v281_3 ∧ v281_3 ≤ 2147483647) → ((-2147483648 : Int) ≤ v281_4 ∧ v281_4 ≤ 2147483647) → ((-2147483648 : Int) ≤ v281_5 ∧ v281_5 ≤ 2147483647) → ((-2147483648 : Int) ≤ v281_6 ∧ v281_6 ≤ 2147483647) → ((0 ≤ (y281_8) ∧ (y281_8) ≤ (f 4) ∧ (y281_8) ≤ (y281_9) ∧ (y281_9) ≤ (f 4) + 1 ∧ ((y281_7) = 0 ↔ (y281_8) = (f 4)) ∧ (2 ≤ (y281_7) → (y281_8) < (y281_9) ∧ (y281_9) ≤ (f 4)) ∧ ((y281_7) = 5 → (y281_8) + 2 ≤ (y281_9) ∧ (y281_9) ≤ (y281_8) + 32))) → ((y10_8) + 1 ≤ (y281_8)) → ((v281_2) = (f 63)) → ((v281_3) = (v10_3)) → ((y10_5) = 0) → ((y10_63) < (f 63) + 40) → (((y281_5) = 0 → canOp (v281_6) (v281_3))) → (0 ≤ (v281_4)) → ((v281_4) ≤ 1) → W p l e ({ frames := 4, cells := 0, slots := 0, locals := 86 }) s m args below meth c H locs 0 0 (MQ below (mQi D dA h0 ad (f, g, A, L) s.heap.size PST) args s 0 0 (mF dA h0 ad (f, g, A, L) s.heap.size)) (F0 m 281 ls []) := by
        intro v281_2 v281_3 v281_4 v281_5 v281_6 y281_8 y281_9 y281_7 y281_10 y281_5 y281_6 y281_11 y281_31 H locs ls hM hl hJJ281_0 hJJ281_1 hJJ281_2 hJJ281_3 hJJ281_4 hJJ281_5 hJJ281_6 hJJ281_7 hJJ281_8 hJJ281_9 hJJ281_10 hJJ281_11 hJJ281_12 hJJ281_13
        have r14 : (0 : Int) ≤ y281_8 ∧ y281_8 ≤ 3001 := hM.2.2.2.1 8
        have r15 : (0 : Int) ≤ y281_9 ∧ y281_9 ≤ 3002 := hM.2.2.2.1 9
        have r16 : (0 : Int) ≤ y281_7 ∧ y281_7 ≤ 6 := hM.2.2.2.1 7
        have r17 : (-2147483648 : Int) ≤ y281_10 ∧ y281_10 ≤ 2147483647 := hM.2.2.2.1 10
        have r18 : (-2147483648 : Int) ≤ y281_5 ∧ y281_5 ≤ 2147483647 := hM.2.2.2.1 5
        have r19 : (-2147483648 : Int) ≤ y281_6 ∧ y281_6 ≤ 2147483647 := hM.2.2.2.1 6
        have r20 : (0 : Int) ≤ (y10_63) + 1 ∧ (y10_63) + 1 ≤ 1500 := hM.2.2.2.1 63
        refine lv_iload_n B.1 B.2.1 dX12_readSteps_281 rfl (lv_at hl 3 rfl) ?_
        refine lv_iload B.1 B.2.1 dX12_readSteps_282 (lv_at hl 6 rfl) ?_
        refine q_bip B dX12_readSteps_284 (by decide) ?_
        refine q_ceq (tgt := 310) B dX12_readSteps_286 (by decide) (by unfold inr; omega) (by unfold inr; omega) (fun c21 => ?_) (fun c21 => ?_)
        · refine q_con B dX12_readSteps_310 ?_
          refine lv_goto (tgt := 326) B.1 B.2.1 dX12_readSteps_311 (by decide) ?_
          exact JJ326 v281_2 v281_5 v281_6 v281_3 v281_4 1 v281_3 y281_8 y281_9 y281_7 y281_10 y281_5 y281_6 y281_11 y281_31 _ _ ls hM (lv_sub hl [0, 1, 2, 5, 6, 3, 4] rfl) (by omega) (by omega) (by omega) (by omega) (by omega) (by omega) (by omega) (by first | omega | (simp only [wr_at]; omega) | assumption) (by first | omega | (simp only [wr_at]; omega) | assumption) (by first | omega | (simp only [wr_at]; omega) | assumption) (by first | omega | (simp only [wr_at]; omega) | assumption) (by first | omega | (simp only [wr_at]; omega) | assumption) (by first | omega | (simp only [wr_at]; omega) | assumption) (by exact (fun hq => by have hc := hJJ281_11 hq; rw [hJJ281_8] at hc; exact hc)) (by first | exact (dl_push (by omega)).symm | exact (dl_not (by omega)).symm | exact (dl_bin (by omega) (by omega)).symm) (by first | omega | (simp only [wr_at]; omega) | assumption) (by first | omega | (simp only [wr_at]; omega) | assumption) (by first | omega | (simp only [wr_at]; omega) | assumption) (by first | omega | (simp only [wr_at]; omega) | assumption)
        · refine lv_iload B.1 B.2.1 dX12_readSteps_289 (lv_at hl 6 rfl) ?_
          refine q_bip B dX12_readSteps_291 (by decide) ?_
          refine q_ceq (tgt := 310) B dX12_readSteps_293 (by decide) (by unfold inr; omega) (by unfold inr; omega) (fun c22 => ?_) (fun c22 => ?_)
          · refine q_con B dX12_readSteps_310 ?_
            refine lv_goto (tgt := 326) B.1 B.2.1 dX12_readSteps_311 (by decide) ?_
            exact JJ326 v281_2 v281_5 v281_6 v281_3 v281_4 1 v281_3 y281_8 y281_9 y281_7 y281_10 y281_5 y281_6 y281_11 y281_31 _ _ ls hM (lv_sub hl [0, 1, 2, 5, 6, 3, 4] rfl) (by omega) (by omega) (by omega) (by omega) (by omega) (by omega) (by omega) (by first | omega | (simp only [wr_at]; omega) | assumption) (by first | omega | (simp only [wr_at]; omega) | assumption) (by first | omega | (simp only [wr_at]; omega) | assumption) (by first | omega | (simp only [wr_at]; omega) | assumption) (by first | omega | (simp only [wr_at]; omega) | assumption) (by first | omega | (simp only [wr_at]; omega) | assumption) (by exact (fun hq => by have hc := hJJ281_11 hq; rw [hJJ281_8] at hc; exact hc)) (by first | exact (dl_push (by omega)).symm | exact (dl_not (by omega)).symm | exact (dl_bin (by omega) (by omega)).symm) (by first | omega | (simp only [wr_at]; omega) | assumption) (by first | omega | (simp only [wr_at]; omega) | assumption) (by first | omega | (simp only [wr_at]; omega) | assumption) (by first | omega | (simp only [wr_at]; omega) | assumption)
          · refine lv_iload B.1 B.2.1 dX12_readSteps_296 (lv_at hl 6 rfl) ?_
            refine q_bip B dX12_readSteps_298 (by decide) ?_
            refine q_ceq (tgt := 310) B dX12_readSteps_300 (by decide) (by unfold inr; omega) (by unfold inr; omega) (fun c23 => ?_) (fun c23 => ?_)
            · refine q_con B dX12_readSteps_310 ?_
              refine lv_goto (tgt := 326) B.1 B.2.1 dX12_readSteps_311 (by decide) ?_
              exact JJ326 v281_2 v281_5 v281_6 v281_3 v281_4 1 v281_3 y281_8 y281_9 y281_7 y281_10 y281_5 y281_6 y281_11 y281_31 _ _ ls hM (lv_sub hl [0, 1, 2, 5, 6, 3, 4] rfl) (by omega) (by omega) (by omega) (by omega) (by omega) (by omega) (by omega) (by first | omega | (simp only [wr_at]; omega) | assumption) (by first | omega | (simp only [wr_at]; omega) | assumption) (by first | omega | (simp only [wr_at]; omega) | assumption) (by first | omega | (simp only [wr_at]; omega) | assumption) (by first | omega | (simp only [wr_at]; omega) | assumption) (by first | omega | (simp only [wr_at]; omega) | assumption) (by exact (fun hq => by have hc := hJJ281_11 hq; rw [hJJ281_8] at hc; exact hc)) (by first | exact (dl_push (by omega)).symm | exact (dl_not (by omega)).symm | exact (dl_bin (by omega) (by omega)).symm) (by first | omega | (simp only [wr_at]; omega) | assumption) (by first | omega | (simp only [wr_at]; omega) | assumption) (by first | omega | (simp only [wr_at]; omega) | assumption) (by first | omega | (simp only [wr_at]; omega) | assumption)
            · refine lv_iload B.1 B.2.1 dX12_readSteps_303 (lv_at hl 6 rfl) ?_
              refine q_bip B dX12_readSteps_305 (by decide) ?_
              refine q_cne (tgt := 314) B dX12_readSteps_307 (by decide) (by unfold inr; omega) (by unfold inr; omega) (fun c24 => ?_) (fun c24 => ?_)
              · refine lv_iload B.1 B.2.1 dX12_readSteps_314 (lv_at hl 6 rfl) ?_
                refine q_bip B dX12_readSteps_316 (by decide) ?_
                refine q_cne (tgt := 325) B dX12_readSteps_318 (by decide) (by unfold inr; omega) (by unfold inr; omega) (fun c25 => ?_) (fun c25 => ?_)
                · refine q_con B dX12_readSteps_325 ?_
                  exact JJ326 v281_2 v281_5 v281_6 v281_3 v281_4 (-1) v281_3 y281_8 y281_9 y281_7 y281_10 y281_5 y281_6 y281_11 y281_31 _ _ ls hM (lv_sub hl [0, 1, 2, 5, 6, 3, 4] rfl) (by omega) (by omega) (by omega) (by omega) (by omega) (by omega) (by omega) (by first | omega | (simp only [wr_at]; omega) | assumption) (by first | omega | (simp only [wr_at]; omega) | assumption) (by first | omega | (simp only [wr_at]; omega) | assumption) (by first | omega | (simp only [wr_at]; omega) | assumption) (by first | omega | (simp only [wr_at]; omega) | assumption) (by first | omega | (simp only [wr_at]; omega) | assumption) (by exact (fun hq => by have hc := hJJ281_11 hq; rw [hJJ281_8] at hc; exact hc)) (by first | exact (dl_push (by omega)).symm | exact (dl_not (by omega)).symm | exact (dl_bin (by omega) (by omega)).symm) (by first | omega | (simp only [wr_at]; omega) | assumption) (by first | omega | (simp only [wr_at]; omega) | assumption) (by first | omega | (simp only [wr_at]; omega) | assumption) (by first | omega | (simp only [wr_at]; omega) | assumption)
                · refine q_con B dX12_readSteps_321 ?_
                  refine lv_goto (tgt := 326) B.1 B.2.1 dX12_readSteps_322 (by decide) ?_
                  exact JJ326 v281_2 v281_5 v281_6 v281_3 v281_4 0 v281_3 y281_8 y281_9 y281_7 y281_10 y281_5 y281_6 y281_11 y281_31 _ _ ls hM (lv_sub hl [0, 1, 2, 5, 6, 3, 4] rfl) (by omega) (by omega) (by omega) (by omega) (by omega) (by omega) (by omega) (by first | omega | (simp only [wr_at]; omega) | assumption) (by first | omega | (simp only [wr_at]; omega) | assumption) (by first | omega | (simp only [wr_at]; omega) | assumption) (by first | omega | (simp only [wr_at]; omega) | assumption) (by first | omega | (simp only [wr_at]; omega) | assumption) (by first | omega | (simp only [wr_at]; omega) | assumption) (by exact (fun hq => by have hc := hJJ281_11 hq; rw [hJJ281_8] at hc; exact hc)) (by first | exact (dl_push (by omega)).symm | exact (dl_not (by omega)).symm | exact (dl_bin (by omega) (by omega)).symm) (by first | omega | (simp only [wr_at]; omega) | assumption) (by first | omega | (simp only [wr_at]; omega) | assumption) (by first | omega | (simp only [wr_at]; omega) | assumption) (by first | omega | (simp only [wr_at]; omega) | assumption)
              · refine q_con B dX12_readSteps_310 ?_
                refine lv_goto (tgt := 326) B.1 B.2.1 dX12_readSteps_311 (by decide) ?_
                exact JJ326 v281_2 v281_5 v281_6 v281_3 v281_4 1 v281_3 y281_8 y281_9 y281_7 y281_10 y281_5 y281_6 y281_11 y281_31 _ _ ls hM (lv_sub hl [0, 1, 2, 5, 6, 3, 4] rfl) (by omega) (by omega) (by omega) (by omega) (by omega) (by omega) (by omega) (by first | omega | (simp only [wr_at]; omega) | assumption) (by first | omega | (simp only [wr_at]; omega) | assumption) (by first | omega | (simp only [wr_at]; omega) | assumption) (by first | omega | (simp only [wr_at]; omega) | assumption) (by first | omega | (simp only [wr_at]; omega) | assumption) (by first | omega | (simp only [wr_at]; omega) | assumption) (by exact (fun hq => by have hc := hJJ281_11 hq; rw [hJJ281_8] at hc; exact hc)) (by first | exact (dl_push (by omega)).symm | exact (dl_not (by omega)).symm | exact (dl_bin (by omega) (by omega)).symm) (by first | omega | (simp only [wr_at]; omega) | assumption) (by first | omega | (simp only [wr_at]; omega) | assumption) (by first | omega | (simp only [wr_at]; omega) | assumption) (by first | omega | (simp only [wr_at]; omega) | assumption)
      have JJ266 : ∀ (v266_2 : Int) (v266_3 : Int) (v266_4 : Int) (v266_5 : Int) (v266_6 : Int) (s266_0 : Int) (y266_8 : Int) (y266_9 : Int) (y266_7 : Int) (y266_10 : Int) (y266_5 : Int) (y266_6 : Int) (y266_11 : Int64) (y266_31 : Nat → Int) (H : Heap) (locs : List Loc) (ls : Array Slot), (MWd D dA h0 ad (mF dA h0 ad (f, g, A, L) s.heap.size) s.heap ((up f [(8, y266_8), (9, y266_9), (7, y266_7), (10, y266_10), (5, y266_5), (6, y266_6), (63, (y10_63) + 1)]), (up g [(11, y266_11)]), (up A [(30, (wr (y10_30) (1500 * (f 3) + (y10_63)) (v266_6))), (31, y266_31)]), L) H locs) → lv_has ls 8 [(0, .ref h0), (1, .int (II a_starts)), (2, .int (II v266_2)), (3, .int (II v266_3)), (4, .int (II v266_4)), (5, .int (II v266_5)), (6, .int (II v266_6))] → ((-2147483648 : Int) ≤ v266_2 ∧ v266_2 ≤ 2147483647) → ((-2147483648 : Int) ≤ v266_3 ∧ v266_3 ≤ 2147483647) → ((-2147483648 : Int) ≤ v266_4 ∧ v266_4 ≤ 2147483647) → ((-2147483648 : Int) ≤ v266_5 ∧ v266_5 ≤ 2147483647) → ((-2147483648 : Int) ≤ v266_6 ∧ v266_6 ≤ 2147483647) → ((-2147483648 : Int) ≤ s266_0 ∧ s266_0 ≤ 2147483647) → ((0 ≤ (y266_8) ∧ (y266_8) ≤ (f 4) ∧ (y266_8) ≤ (y266_9) ∧ (y266_9) ≤ (f 4) + 1 ∧ ((y266_7) = 0 ↔ (y266_8) = (f 4)) ∧ (2 ≤ (y266_7) → (y266_8) < (y266_9) ∧ (y266_9) ≤ (f 4)) ∧ ((y266_7) = 5 → (y266_8) + 2 ≤ (y266_9) ∧ (y266_9) ≤ (y266_8) + 32))) → ((y10_8) + 1 ≤ (y266_8)) → ((v266_2) = (f 63)) → ((v266_3) = (v10_3)) → ((y10_5) = 0) → ((y10_63) < (f 63) + 40) → ((y266_5) = 0) → (0 ≤ (s266_0)) → ((s266_0) ≤ 1) → (((s266_0) = 1 → canOp (v266_6) (v266_3))) → (0 ≤ (v266_4)) → ((v266_4) ≤ 1) → W p l e ({ frames := 4, cells := 0, slots := 0, locals := 86 }) s m args below meth c H locs 0 0 (MQ below (mQi D dA h0 ad (f, g, A, L) s.heap.size PST) args s 0 0 (mF dA h0 ad (f, g, A, L) s.heap.size)) (F0 m 266 ls [.int (II s266_0)]) := by
        intro v266_2 v266_3 v266_4 v266_5 v266_6 s266_0 y266_8 y266_9 y266_7 y266_10 y266_5 y266_6 y266_11 y266_31 H locs ls hM hl hJJ266_0 hJJ266_1 hJJ266_2 hJJ266_3 hJJ266_4 hJJ266_5 hJJ266_6 hJJ266_7 hJJ266_8 hJJ266_9 hJJ266_10 hJJ266_11 hJJ266_12 hJJ266_13 hJJ266_14 hJJ266_15 hJJ266_16 hJJ266_17
        have r26 : (0 : Int) ≤ y266_8 ∧ y266_8 ≤ 3001 := hM.2.2.2.1 8
        have r27 : (0 : Int) ≤ y266_9 ∧ y266_9 ≤ 3002 := hM.2.2.2.1 9
        have r28 : (0 : Int) ≤ y266_7 ∧ y266_7 ≤ 6 := hM.2.2.2.1 7
        have r29 : (-2147483648 : Int) ≤ y266_10 ∧ y266_10 ≤ 2147483647 := hM.2.2.2.1 10
        have r30 : (-2147483648 : Int) ≤ y266_5 ∧ y266_5 ≤ 2147483647 := hM.2.2.2.1 5
        have r31 : (-2147483648 : Int) ≤ y266_6 ∧ y266_6 ≤ 2147483647 := hM.2.2.2.1 6
        have r32 : (0 : Int) ≤ (y10_63) + 1 ∧ (y10_63) + 1 ≤ 1500 := hM.2.2.2.1 63
        refine lv_istore (lv' := [(7, .int (II s266_0)), (0, .ref h0), (1, .int (II a_starts)), (2, .int (II v266_2)), (3, .int (II v266_3)), (4, .int (II v266_4)), (5, .int (II v266_5)), (6, .int (II v266_6))]) B.1 B.2.1 dX12_readSteps_266 hl (by decide) rfl (fun ls hl => ?_)
        refine lv_iload B.1 B.2.1 dX12_readSteps_268 (lv_at hl 0 rfl) ?_
        refine q_ine (tgt := 281) B dX12_readSteps_270 (by decide) (by unfold inr; omega) (fun c33 => ?_) (fun c33 => ?_)
        · exact JJ281 v266_2 v266_3 v266_4 v266_5 v266_6 y266_8 y266_9 y266_7 y266_10 y266_5 y266_6 y266_11 y266_31 _ _ ls hM (lv_sub hl [1, 2, 3, 4, 5, 6, 7] rfl) (by omega) (by omega) (by omega) (by omega) (by omega) (by first | omega | (simp only [wr_at]; omega) | assumption) (by first | omega | (simp only [wr_at]; omega) | assumption) (by first | omega | (simp only [wr_at]; omega) | assumption) (by first | omega | (simp only [wr_at]; omega) | assumption) (by first | omega | (simp only [wr_at]; omega) | assumption) (by first | omega | (simp only [wr_at]; omega) | assumption) (by first | (intro hq; exfalso; omega) | (intro hq; exact hJJ266_15 (by omega))) (by first | omega | (simp only [wr_at]; omega) | assumption) (by first | omega | (simp only [wr_at]; omega) | assumption)
        · refine lv_aload_n B.1 B.2.1 dX12_readSteps_273 rfl (lv_at hl 1 rfl) ?_
          refine q_con B dX12_readSteps_274 ?_
          refine lv_iload B.1 B.2.1 dX12_readSteps_275 (lv_at hl 6 rfl) ?_
          refine m_calli (n := 2) (rest := []) B hM hA hl.1 (k_fails l D dA h0 ad (up f [(8, y266_8), (9, y266_9), (7, y266_7), (10, y266_10), (5, y266_5), (6, y266_6), (63, (y10_63) + 1)]) (up g [(11, y266_11)]) (up A [(30, (wr (y10_30) (1500 * (f 3) + (y10_63)) (v266_6))), (31, y266_31)]) L 4 v266_5 (by omega) (by omega) ) rfl ok_fails nm_fails ⟨rfl, rfl⟩ ⟨Nat.le_of_ble_eq_true rfl, Nat.le_of_ble_eq_true rfl⟩ dX12_readSteps_277 rfl rfl (Nat.le_of_ble_eq_true rfl) ⟨Nat.zero_le _, Nat.zero_le _⟩ (fun r34 σr34 H locs ir34 hp35 hM => ?_)
          obtain ⟨x36, x37, rfl, hp35⟩ := hp35
          unfold inr at ir34
          replace hp35 : r34 = 0 ∧ ((y266_5) ≠ 0 → (x36) = (y266_5)) ∧ ((y266_5) = 0 → (x36) = (4)) := hp35
          obtain ⟨hp35_0, hp35_1, hp35_2⟩ := hp35
          simp only [up_up] at hM
          replace hM : MWd D dA h0 ad (mF dA h0 ad (f, g, A, L) s.heap.size) s.heap ((up f [(8, y266_8), (9, y266_9), (7, y266_7), (10, y266_10), (5, x36), (6, x37), (63, (y10_63) + 1)]), (up g [(11, y266_11)]), (up A [(30, (wr (y10_30) (1500 * (f 3) + (y10_63)) (v266_6))), (31, y266_31)]), L) H locs := hM
          have r38 : (-2147483648 : Int) ≤ x36 ∧ x36 ≤ 2147483647 := hM.2.2.2.1 5
          have r39 : (-2147483648 : Int) ≤ x37 ∧ x37 ≤ 2147483647 := hM.2.2.2.1 6
          refine lv_pop B.1 B.2.1 dX12_readSteps_280 rfl ?_
          exact JJ281 v266_2 v266_3 v266_4 v266_5 v266_6 y266_8 y266_9 y266_7 y266_10 x36 x37 y266_11 y266_31 _ _ ls hM (lv_sub hl [1, 2, 3, 4, 5, 6, 7] rfl) (by omega) (by omega) (by omega) (by omega) (by omega) (by first | omega | (simp only [wr_at]; omega) | assumption) (by first | omega | (simp only [wr_at]; omega) | assumption) (by first | omega | (simp only [wr_at]; omega) | assumption) (by first | omega | (simp only [wr_at]; omega) | assumption) (by first | omega | (simp only [wr_at]; omega) | assumption) (by first | omega | (simp only [wr_at]; omega) | assumption) (by first | (intro hq; exfalso; omega) | (intro hq; exact hJJ266_15 (by omega))) (by first | omega | (simp only [wr_at]; omega) | assumption) (by first | omega | (simp only [wr_at]; omega) | assumption)
      have JJ175 : ∀ (v175_2 : Int) (v175_3 : Int) (v175_4 : Int) (v175_5 : Int) (v175_6 : Int) (y175_8 : Int) (y175_9 : Int) (y175_7 : Int) (y175_10 : Int) (y175_5 : Int) (y175_6 : Int) (y175_11 : Int64) (y175_31 : Nat → Int) (H : Heap) (locs : List Loc) (ls : Array Slot), (MWd D dA h0 ad (mF dA h0 ad (f, g, A, L) s.heap.size) s.heap ((up f [(8, y175_8), (9, y175_9), (7, y175_7), (10, y175_10), (5, y175_5), (6, y175_6), (63, (y10_63) + 1)]), (up g [(11, y175_11)]), (up A [(30, (wr (y10_30) (1500 * (f 3) + (y10_63)) (v175_6))), (31, y175_31)]), L) H locs) → lv_has ls 8 [(0, .ref h0), (1, .int (II a_starts)), (2, .int (II v175_2)), (3, .int (II v175_3)), (4, .int (II v175_4)), (5, .int (II v175_5)), (6, .int (II v175_6))] → ((-2147483648 : Int) ≤ v175_2 ∧ v175_2 ≤ 2147483647) → ((-2147483648 : Int) ≤ v175_3 ∧ v175_3 ≤ 2147483647) → ((-2147483648 : Int) ≤ v175_4 ∧ v175_4 ≤ 2147483647) → ((-2147483648 : Int) ≤ v175_5 ∧ v175_5 ≤ 2147483647) → ((-2147483648 : Int) ≤ v175_6 ∧ v175_6 ≤ 2147483647) → ((0 ≤ (y175_8) ∧ (y175_8) ≤ (f 4) ∧ (y175_8) ≤ (y175_9) ∧ (y175_9) ≤ (f 4) + 1 ∧ ((y175_7) = 0 ↔ (y175_8) = (f 4)) ∧ (2 ≤ (y175_7) → (y175_8) < (y175_9) ∧ (y175_9) ≤ (f 4)) ∧ ((y175_7) = 5 → (y175_8) + 2 ≤ (y175_9) ∧ (y175_9) ≤ (y175_8) + 32))) → ((y10_8) + 1 ≤ (y175_8)) → ((v175_2) = (f 63)) → ((v175_3) = (v10_3)) → ((y10_5) = 0) → ((y10_63) < (f 63) + 40) → (0 ≤ (v175_4)) → ((v175_4) ≤ 1) → W p l e ({ frames := 4, cells := 0, slots := 0, locals := 86 }) s m args below meth c H locs 0 0 (MQ below (mQi D dA h0 ad (f, g, A, L) s.heap.size PST) args s 0 0 (mF dA h0 ad (f, g, A, L) s.heap.size)) (F0 m 175 ls []) := by
        intro v175_2 v175_3 v175_4 v175_5 v175_6 y175_8 y175_9 y175_7 y175_10 y175_5 y175_6 y175_11 y175_31 H locs ls hM hl hJJ175_0 hJJ175_1 hJJ175_2 hJJ175_3 hJJ175_4 hJJ175_5 hJJ175_6 hJJ175_7 hJJ175_8 hJJ175_9 hJJ175_10 hJJ175_11 hJJ175_12
        have r40 : (0 : Int) ≤ y175_8 ∧ y175_8 ≤ 3001 := hM.2.2.2.1 8
        have r41 : (0 : Int) ≤ y175_9 ∧ y175_9 ≤ 3002 := hM.2.2.2.1 9
        have r42 : (0 : Int) ≤ y175_7 ∧ y175_7 ≤ 6 := hM.2.2.2.1 7
        have r43 : (-2147483648 : Int) ≤ y175_10 ∧ y175_10 ≤ 2147483647 := hM.2.2.2.1 10
        have r44 : (-2147483648 : Int) ≤ y175_5 ∧ y175_5 ≤ 2147483647 := hM.2.2.2.1 5
        have r45 : (-2147483648 : Int) ≤ y175_6 ∧ y175_6 ≤ 2147483647 := hM.2.2.2.1 6
        have r46 : (0 : Int) ≤ (y10_63) + 1 ∧ (y10_63) + 1 ≤ 1500 := hM.2.2.2.1 63
        refine lv_aload_n B.1 B.2.1 dX12_readSteps_175 rfl (lv_at hl 0 rfl) ?_
        refine m_calli (n := 0) (rest := []) B hM hA hl.1 (k_isGood l D dA h0 ad (up f [(8, y175_8), (9, y175_9), (7, y175_7), (10, y175_10), (5, y175_5), (6, y175_6), (63, (y10_63) + 1)]) (up g [(11, y175_11)]) (up A [(30, (wr (y10_30) (1500 * (f 3) + (y10_63)) (v175_6))), (31, y175_31)]) L   ) rfl ok_isGood nm_isGood ⟨rfl, rfl⟩ ⟨Nat.le_of_ble_eq_true rfl, Nat.le_of_ble_eq_true rfl⟩ dX12_readSteps_176 rfl rfl (Nat.le_of_ble_eq_true rfl) ⟨Nat.zero_le _, Nat.zero_le _⟩ (fun r47 σr47 H locs ir47 hp48 hM => ?_)
        obtain ⟨rfl, hp48⟩ := hp48
        unfold inr at ir47
        replace hp48 : 0 ≤ r47 ∧ r47 ≤ 1 ∧ (r47 = 1 ↔ (y175_5) = 0) := hp48
        obtain ⟨hp48_0, hp48_1, hp48_2⟩ := hp48
        refine q_ine (tgt := 184) B dX12_readSteps_179 (by decide) (by unfold inr; omega) (fun c49 => ?_) (fun c49 => ?_)
        · refine lv_iload B.1 B.2.1 dX12_readSteps_184 (lv_at hl 6 rfl) ?_
          refine q_bip B dX12_readSteps_186 (by decide) ?_
          refine q_ceq (tgt := 212) B dX12_readSteps_188 (by decide) (by unfold inr; omega) (by unfold inr; omega) (fun c50 => ?_) (fun c50 => ?_)
          · refine lv_iload_n B.1 B.2.1 dX12_readSteps_212 rfl (lv_at hl 3 rfl) ?_
            refine q_bip B dX12_readSteps_213 (by decide) ?_
            refine q_cge (tgt := 233) B dX12_readSteps_215 (by decide) (by unfold inr; omega) (by unfold inr; omega) (fun c51 => ?_) (fun c51 => ?_)
            · refine q_con B dX12_readSteps_233 ?_
              refine lv_goto (tgt := 266) B.1 B.2.1 dX12_readSteps_234 (by decide) ?_
              exact JJ266 v175_2 v175_3 v175_4 v175_5 v175_6 0 y175_8 y175_9 y175_7 y175_10 y175_5 y175_6 y175_11 y175_31 _ _ ls hM (lv_sub hl [0, 1, 2, 3, 4, 5, 6] rfl) (by omega) (by omega) (by omega) (by omega) (by omega) (by omega) (by first | omega | (simp only [wr_at]; omega) | assumption) (by first | omega | (simp only [wr_at]; omega) | assumption) (by first | omega | (simp only [wr_at]; omega) | assumption) (by first | omega | (simp only [wr_at]; omega) | assumption) (by first | omega | (simp only [wr_at]; omega) | assumption) (by first | omega | (simp only [wr_at]; omega) | assumption) (by first | omega | (simp only [wr_at]; omega) | assumption) (by first | omega | (simp only [wr_at]; omega) | assumption) (by first | omega | (simp only [wr_at]; omega) | assumption) (by first | (intro hq; exfalso; omega) | (intro _; exact ⟨by omega, by omega, by omega⟩)) (by first | omega | (simp only [wr_at]; omega) | assumption) (by first | omega | (simp only [wr_at]; omega) | assumption)
            · refine lv_iload B.1 B.2.1 dX12_readSteps_218 (lv_at hl 6 rfl) ?_
              refine q_bip B dX12_readSteps_220 (by decide) ?_
              refine q_ceq (tgt := 229) B dX12_readSteps_222 (by decide) (by unfold inr; omega) (by unfold inr; omega) (fun c52 => ?_) (fun c52 => ?_)
              · refine q_con B dX12_readSteps_229 ?_
                refine lv_goto (tgt := 266) B.1 B.2.1 dX12_readSteps_230 (by decide) ?_
                exact JJ266 v175_2 v175_3 v175_4 v175_5 v175_6 1 y175_8 y175_9 y175_7 y175_10 y175_5 y175_6 y175_11 y175_31 _ _ ls hM (lv_sub hl [0, 1, 2, 3, 4, 5, 6] rfl) (by omega) (by omega) (by omega) (by omega) (by omega) (by omega) (by first | omega | (simp only [wr_at]; omega) | assumption) (by first | omega | (simp only [wr_at]; omega) | assumption) (by first | omega | (simp only [wr_at]; omega) | assumption) (by first | omega | (simp only [wr_at]; omega) | assumption) (by first | omega | (simp only [wr_at]; omega) | assumption) (by first | omega | (simp only [wr_at]; omega) | assumption) (by first | omega | (simp only [wr_at]; omega) | assumption) (by first | omega | (simp only [wr_at]; omega) | assumption) (by first | omega | (simp only [wr_at]; omega) | assumption) (by first | (intro hq; exfalso; omega) | (intro _; exact ⟨by omega, by omega, by omega⟩)) (by first | omega | (simp only [wr_at]; omega) | assumption) (by first | omega | (simp only [wr_at]; omega) | assumption)
              · refine lv_iload_n B.1 B.2.1 dX12_readSteps_225 rfl (lv_at hl 1 rfl) ?_
                refine q_ine (tgt := 233) B dX12_readSteps_226 (by decide) (by unfold inr; omega) (fun c53 => ?_) (fun c53 => ?_)
                · refine q_con B dX12_readSteps_233 ?_
                  refine lv_goto (tgt := 266) B.1 B.2.1 dX12_readSteps_234 (by decide) ?_
                  exact JJ266 v175_2 v175_3 v175_4 v175_5 v175_6 0 y175_8 y175_9 y175_7 y175_10 y175_5 y175_6 y175_11 y175_31 _ _ ls hM (lv_sub hl [0, 1, 2, 3, 4, 5, 6] rfl) (by omega) (by omega) (by omega) (by omega) (by omega) (by omega) (by first | omega | (simp only [wr_at]; omega) | assumption) (by first | omega | (simp only [wr_at]; omega) | assumption) (by first | omega | (simp only [wr_at]; omega) | assumption) (by first | omega | (simp only [wr_at]; omega) | assumption) (by first | omega | (simp only [wr_at]; omega) | assumption) (by first | omega | (simp only [wr_at]; omega) | assumption) (by first | omega | (simp only [wr_at]; omega) | assumption) (by first | omega | (simp only [wr_at]; omega) | assumption) (by first | omega | (simp only [wr_at]; omega) | assumption) (by first | (intro hq; exfalso; omega) | (intro _; exact ⟨by omega, by omega, by omega⟩)) (by first | omega | (simp only [wr_at]; omega) | assumption) (by first | omega | (simp only [wr_at]; omega) | assumption)
                · refine q_con B dX12_readSteps_229 ?_
                  refine lv_goto (tgt := 266) B.1 B.2.1 dX12_readSteps_230 (by decide) ?_
                  exact JJ266 v175_2 v175_3 v175_4 v175_5 v175_6 1 y175_8 y175_9 y175_7 y175_10 y175_5 y175_6 y175_11 y175_31 _ _ ls hM (lv_sub hl [0, 1, 2, 3, 4, 5, 6] rfl) (by omega) (by omega) (by omega) (by omega) (by omega) (by omega) (by first | omega | (simp only [wr_at]; omega) | assumption) (by first | omega | (simp only [wr_at]; omega) | assumption) (by first | omega | (simp only [wr_at]; omega) | assumption) (by first | omega | (simp only [wr_at]; omega) | assumption) (by first | omega | (simp only [wr_at]; omega) | assumption) (by first | omega | (simp only [wr_at]; omega) | assumption) (by first | omega | (simp only [wr_at]; omega) | assumption) (by first | omega | (simp only [wr_at]; omega) | assumption) (by first | omega | (simp only [wr_at]; omega) | assumption) (by first | (intro hq; exfalso; omega) | (intro _; exact ⟨by omega, by omega, by omega⟩)) (by first | omega | (simp only [wr_at]; omega) | assumption) (by first | omega | (simp only [wr_at]; omega) | assumption)
          · refine lv_iload B.1 B.2.1 dX12_readSteps_191 (lv_at hl 6 rfl) ?_
            refine q_bip B dX12_readSteps_193 (by decide) ?_
            refine q_ceq (tgt := 212) B dX12_readSteps_195 (by decide) (by unfold inr; omega) (by unfold inr; omega) (fun c54 => ?_) (fun c54 => ?_)
            · refine lv_iload_n B.1 B.2.1 dX12_readSteps_212 rfl (lv_at hl 3 rfl) ?_
              refine q_bip B dX12_readSteps_213 (by decide) ?_
              refine q_cge (tgt := 233) B dX12_readSteps_215 (by decide) (by unfold inr; omega) (by unfold inr; omega) (fun c55 => ?_) (fun c55 => ?_)
              · refine q_con B dX12_readSteps_233 ?_
                refine lv_goto (tgt := 266) B.1 B.2.1 dX12_readSteps_234 (by decide) ?_
                exact JJ266 v175_2 v175_3 v175_4 v175_5 v175_6 0 y175_8 y175_9 y175_7 y175_10 y175_5 y175_6 y175_11 y175_31 _ _ ls hM (lv_sub hl [0, 1, 2, 3, 4, 5, 6] rfl) (by omega) (by omega) (by omega) (by omega) (by omega) (by omega) (by first | omega | (simp only [wr_at]; omega) | assumption) (by first | omega | (simp only [wr_at]; omega) | assumption) (by first | omega | (simp only [wr_at]; omega) | assumption) (by first | omega | (simp only [wr_at]; omega) | assumption) (by first | omega | (simp only [wr_at]; omega) | assumption) (by first | omega | (simp only [wr_at]; omega) | assumption) (by first | omega | (simp only [wr_at]; omega) | assumption) (by first | omega | (simp only [wr_at]; omega) | assumption) (by first | omega | (simp only [wr_at]; omega) | assumption) (by first | (intro hq; exfalso; omega) | (intro _; exact ⟨by omega, by omega, by omega⟩)) (by first | omega | (simp only [wr_at]; omega) | assumption) (by first | omega | (simp only [wr_at]; omega) | assumption)
              · refine lv_iload B.1 B.2.1 dX12_readSteps_218 (lv_at hl 6 rfl) ?_
                refine q_bip B dX12_readSteps_220 (by decide) ?_
                refine q_ceq (tgt := 229) B dX12_readSteps_222 (by decide) (by unfold inr; omega) (by unfold inr; omega) (fun c56 => ?_) (fun c56 => ?_)
                · refine q_con B dX12_readSteps_229 ?_
                  refine lv_goto (tgt := 266) B.1 B.2.1 dX12_readSteps_230 (by decide) ?_
                  exact JJ266 v175_2 v175_3 v175_4 v175_5 v175_6 1 y175_8 y175_9 y175_7 y175_10 y175_5 y175_6 y175_11 y175_31 _ _ ls hM (lv_sub hl [0, 1, 2, 3, 4, 5, 6] rfl) (by omega) (by omega) (by omega) (by omega) (by omega) (by omega) (by first | omega | (simp only [wr_at]; omega) | assumption) (by first | omega | (simp only [wr_at]; omega) | assumption) (by first | omega | (simp only [wr_at]; omega) | assumption) (by first | omega | (simp only [wr_at]; omega) | assumption) (by first | omega | (simp only [wr_at]; omega) | assumption) (by first | omega | (simp only [wr_at]; omega) | assumption) (by first | omega | (simp only [wr_at]; omega) | assumption) (by first | omega | (simp only [wr_at]; omega) | assumption) (by first | omega | (simp only [wr_at]; omega) | assumption) (by first | (intro hq; exfalso; omega) | (intro _; exact ⟨by omega, by omega, by omega⟩)) (by first | omega | (simp only [wr_at]; omega) | assumption) (by first | omega | (simp only [wr_at]; omega) | assumption)
                · refine lv_iload_n B.1 B.2.1 dX12_readSteps_225 rfl (lv_at hl 1 rfl) ?_
                  refine q_ine (tgt := 233) B dX12_readSteps_226 (by decide) (by unfold inr; omega) (fun c57 => ?_) (fun c57 => ?_)
                  · refine q_con B dX12_readSteps_233 ?_
                    refine lv_goto (tgt := 266) B.1 B.2.1 dX12_readSteps_234 (by decide) ?_
                    exact JJ266 v175_2 v175_3 v175_4 v175_5 v175_6 0 y175_8 y175_9 y175_7 y175_10 y175_5 y175_6 y175_11 y175_31 _ _ ls hM (lv_sub hl [0, 1, 2, 3, 4, 5, 6] rfl) (by omega) (by omega) (by omega) (by omega) (by omega) (by omega) (by first | omega | (simp only [wr_at]; omega) | assumption) (by first | omega | (simp only [wr_at]; omega) | assumption) (by first | omega | (simp only [wr_at]; omega) | assumption) (by first | omega | (simp only [wr_at]; omega) | assumption) (by first | omega | (simp only [wr_at]; omega) | assumption) (by first | omega | (simp only [wr_at]; omega) | assumption) (by first | omega | (simp only [wr_at]; omega) | assumption) (by first | omega | (simp only [wr_at]; omega) | assumption) (by first | omega | (simp only [wr_at]; omega) | assumption) (by first | (intro hq; exfalso; omega) | (intro _; exact ⟨by omega, by omega, by omega⟩)) (by first | omega | (simp only [wr_at]; omega) | assumption) (by first | omega | (simp only [wr_at]; omega) | assumption)
                  · refine q_con B dX12_readSteps_229 ?_
                    refine lv_goto (tgt := 266) B.1 B.2.1 dX12_readSteps_230 (by decide) ?_
                    exact JJ266 v175_2 v175_3 v175_4 v175_5 v175_6 1 y175_8 y175_9 y175_7 y175_10 y175_5 y175_6 y175_11 y175_31 _ _ ls hM (lv_sub hl [0, 1, 2, 3, 4, 5, 6] rfl) (by omega) (by omega) (by omega) (by omega) (by omega) (by omega) (by first | omega | (simp only [wr_at]; omega) | assumption) (by first | omega | (simp only [wr_at]; omega) | assumption) (by first | omega | (simp only [wr_at]; omega) | assumption) (by first | omega | (simp only [wr_at]; omega) | assumption) (by first | omega | (simp only [wr_at]; omega) | assumption) (by first | omega | (simp only [wr_at]; omega) | assumption) (by first | omega | (simp only [wr_at]; omega) | assumption) (by first | omega | (simp only [wr_at]; omega) | assumption) (by first | omega | (simp only [wr_at]; omega) | assumption) (by first | (intro hq; exfalso; omega) | (intro _; exact ⟨by omega, by omega, by omega⟩)) (by first | omega | (simp only [wr_at]; omega) | assumption) (by first | omega | (simp only [wr_at]; omega) | assumption)
            · refine lv_iload B.1 B.2.1 dX12_readSteps_198 (lv_at hl 6 rfl) ?_
              refine q_bip B dX12_readSteps_200 (by decide) ?_
              refine q_ceq (tgt := 212) B dX12_readSteps_202 (by decide) (by unfold inr; omega) (by unfold inr; omega) (fun c58 => ?_) (fun c58 => ?_)
              · refine lv_iload_n B.1 B.2.1 dX12_readSteps_212 rfl (lv_at hl 3 rfl) ?_
                refine q_bip B dX12_readSteps_213 (by decide) ?_
                refine q_cge (tgt := 233) B dX12_readSteps_215 (by decide) (by unfold inr; omega) (by unfold inr; omega) (fun c59 => ?_) (fun c59 => ?_)
                · refine q_con B dX12_readSteps_233 ?_
                  refine lv_goto (tgt := 266) B.1 B.2.1 dX12_readSteps_234 (by decide) ?_
                  exact JJ266 v175_2 v175_3 v175_4 v175_5 v175_6 0 y175_8 y175_9 y175_7 y175_10 y175_5 y175_6 y175_11 y175_31 _ _ ls hM (lv_sub hl [0, 1, 2, 3, 4, 5, 6] rfl) (by omega) (by omega) (by omega) (by omega) (by omega) (by omega) (by first | omega | (simp only [wr_at]; omega) | assumption) (by first | omega | (simp only [wr_at]; omega) | assumption) (by first | omega | (simp only [wr_at]; omega) | assumption) (by first | omega | (simp only [wr_at]; omega) | assumption) (by first | omega | (simp only [wr_at]; omega) | assumption) (by first | omega | (simp only [wr_at]; omega) | assumption) (by first | omega | (simp only [wr_at]; omega) | assumption) (by first | omega | (simp only [wr_at]; omega) | assumption) (by first | omega | (simp only [wr_at]; omega) | assumption) (by first | (intro hq; exfalso; omega) | (intro _; exact ⟨by omega, by omega, by omega⟩)) (by first | omega | (simp only [wr_at]; omega) | assumption) (by first | omega | (simp only [wr_at]; omega) | assumption)
                · refine lv_iload B.1 B.2.1 dX12_readSteps_218 (lv_at hl 6 rfl) ?_
                  refine q_bip B dX12_readSteps_220 (by decide) ?_
                  refine q_ceq (tgt := 229) B dX12_readSteps_222 (by decide) (by unfold inr; omega) (by unfold inr; omega) (fun c60 => ?_) (fun c60 => ?_)
                  · refine q_con B dX12_readSteps_229 ?_
                    refine lv_goto (tgt := 266) B.1 B.2.1 dX12_readSteps_230 (by decide) ?_
                    exact JJ266 v175_2 v175_3 v175_4 v175_5 v175_6 1 y175_8 y175_9 y175_7 y175_10 y175_5 y175_6 y175_11 y175_31 _ _ ls hM (lv_sub hl [0, 1, 2, 3, 4, 5, 6] rfl) (by omega) (by omega) (by omega) (by omega) (by omega) (by omega) (by first | omega | (simp only [wr_at]; omega) | assumption) (by first | omega | (simp only [wr_at]; omega) | assumption) (by first | omega | (simp only [wr_at]; omega) | assumption) (by first | omega | (simp only [wr_at]; omega) | assumption) (by first | omega | (simp only [wr_at]; omega) | assumption) (by first | omega | (simp only [wr_at]; omega) | assumption) (by first | omega | (simp only [wr_at]; omega) | assumption) (by first | omega | (simp only [wr_at]; omega) | assumption) (by first | omega | (simp only [wr_at]; omega) | assumption) (by first | (intro hq; exfalso; omega) | (intro _; exact ⟨by omega, by omega, by omega⟩)) (by first | omega | (simp only [wr_at]; omega) | assumption) (by first | omega | (simp only [wr_at]; omega) | assumption)
                  · refine lv_iload_n B.1 B.2.1 dX12_readSteps_225 rfl (lv_at hl 1 rfl) ?_
                    refine q_ine (tgt := 233) B dX12_readSteps_226 (by decide) (by unfold inr; omega) (fun c61 => ?_) (fun c61 => ?_)
                    · refine q_con B dX12_readSteps_233 ?_
                      refine lv_goto (tgt := 266) B.1 B.2.1 dX12_readSteps_234 (by decide) ?_
                      exact JJ266 v175_2 v175_3 v175_4 v175_5 v175_6 0 y175_8 y175_9 y175_7 y175_10 y175_5 y175_6 y175_11 y175_31 _ _ ls hM (lv_sub hl [0, 1, 2, 3, 4, 5, 6] rfl) (by omega) (by omega) (by omega) (by omega) (by omega) (by omega) (by first | omega | (simp only [wr_at]; omega) | assumption) (by first | omega | (simp only [wr_at]; omega) | assumption) (by first | omega | (simp only [wr_at]; omega) | assumption) (by first | omega | (simp only [wr_at]; omega) | assumption) (by first | omega | (simp only [wr_at]; omega) | assumption) (by first | omega | (simp only [wr_at]; omega) | assumption) (by first | omega | (simp only [wr_at]; omega) | assumption) (by first | omega | (simp only [wr_at]; omega) | assumption) (by first | omega | (simp only [wr_at]; omega) | assumption) (by first | (intro hq; exfalso; omega) | (intro _; exact ⟨by omega, by omega, by omega⟩)) (by first | omega | (simp only [wr_at]; omega) | assumption) (by first | omega | (simp only [wr_at]; omega) | assumption)
                    · refine q_con B dX12_readSteps_229 ?_
                      refine lv_goto (tgt := 266) B.1 B.2.1 dX12_readSteps_230 (by decide) ?_
                      exact JJ266 v175_2 v175_3 v175_4 v175_5 v175_6 1 y175_8 y175_9 y175_7 y175_10 y175_5 y175_6 y175_11 y175_31 _ _ ls hM (lv_sub hl [0, 1, 2, 3, 4, 5, 6] rfl) (by omega) (by omega) (by omega) (by omega) (by omega) (by omega) (by first | omega | (simp only [wr_at]; omega) | assumption) (by first | omega | (simp only [wr_at]; omega) | assumption) (by first | omega | (simp only [wr_at]; omega) | assumption) (by first | omega | (simp only [wr_at]; omega) | assumption) (by first | omega | (simp only [wr_at]; omega) | assumption) (by first | omega | (simp only [wr_at]; omega) | assumption) (by first | omega | (simp only [wr_at]; omega) | assumption) (by first | omega | (simp only [wr_at]; omega) | assumption) (by first | omega | (simp only [wr_at]; omega) | assumption) (by first | (intro hq; exfalso; omega) | (intro _; exact ⟨by omega, by omega, by omega⟩)) (by first | omega | (simp only [wr_at]; omega) | assumption) (by first | omega | (simp only [wr_at]; omega) | assumption)
              · refine lv_iload B.1 B.2.1 dX12_readSteps_205 (lv_at hl 6 rfl) ?_
                refine q_bip B dX12_readSteps_207 (by decide) ?_
                refine q_cne (tgt := 237) B dX12_readSteps_209 (by decide) (by unfold inr; omega) (by unfold inr; omega) (fun c62 => ?_) (fun c62 => ?_)
                · refine lv_iload B.1 B.2.1 dX12_readSteps_237 (lv_at hl 6 rfl) ?_
                  refine q_bip B dX12_readSteps_239 (by decide) ?_
                  refine q_cne (tgt := 256) B dX12_readSteps_241 (by decide) (by unfold inr; omega) (by unfold inr; omega) (fun c63 => ?_) (fun c63 => ?_)
                  · refine lv_iload_n B.1 B.2.1 dX12_readSteps_256 rfl (lv_at hl 3 rfl) ?_
                    refine q_con B dX12_readSteps_257 ?_
                    refine q_cle (tgt := 265) B dX12_readSteps_258 (by decide) (by unfold inr; omega) (by unfold inr; omega) (fun c64 => ?_) (fun c64 => ?_)
                    · refine q_con B dX12_readSteps_265 ?_
                      exact JJ266 v175_2 v175_3 v175_4 v175_5 v175_6 0 y175_8 y175_9 y175_7 y175_10 y175_5 y175_6 y175_11 y175_31 _ _ ls hM (lv_sub hl [0, 1, 2, 3, 4, 5, 6] rfl) (by omega) (by omega) (by omega) (by omega) (by omega) (by omega) (by first | omega | (simp only [wr_at]; omega) | assumption) (by first | omega | (simp only [wr_at]; omega) | assumption) (by first | omega | (simp only [wr_at]; omega) | assumption) (by first | omega | (simp only [wr_at]; omega) | assumption) (by first | omega | (simp only [wr_at]; omega) | assumption) (by first | omega | (simp only [wr_at]; omega) | assumption) (by first | omega | (simp only [wr_at]; omega) | assumption) (by first | omega | (simp only [wr_at]; omega) | assumption) (by first | omega | (simp only [wr_at]; omega) | assumption) (by first | (intro hq; exfalso; omega) | (intro _; exact ⟨by omega, by omega, by omega⟩)) (by first | omega | (simp only [wr_at]; omega) | assumption) (by first | omega | (simp only [wr_at]; omega) | assumption)
                    · refine q_con B dX12_readSteps_261 ?_
                      refine lv_goto (tgt := 266) B.1 B.2.1 dX12_readSteps_262 (by decide) ?_
                      exact JJ266 v175_2 v175_3 v175_4 v175_5 v175_6 1 y175_8 y175_9 y175_7 y175_10 y175_5 y175_6 y175_11 y175_31 _ _ ls hM (lv_sub hl [0, 1, 2, 3, 4, 5, 6] rfl) (by omega) (by omega) (by omega) (by omega) (by omega) (by omega) (by first | omega | (simp only [wr_at]; omega) | assumption) (by first | omega | (simp only [wr_at]; omega) | assumption) (by first | omega | (simp only [wr_at]; omega) | assumption) (by first | omega | (simp only [wr_at]; omega) | assumption) (by first | omega | (simp only [wr_at]; omega) | assumption) (by first | omega | (simp only [wr_at]; omega) | assumption) (by first | omega | (simp only [wr_at]; omega) | assumption) (by first | omega | (simp only [wr_at]; omega) | assumption) (by first | omega | (simp only [wr_at]; omega) | assumption) (by first | (intro hq; exfalso; omega) | (intro _; exact ⟨by omega, by omega, by omega⟩)) (by first | omega | (simp only [wr_at]; omega) | assumption) (by first | omega | (simp only [wr_at]; omega) | assumption)
                  · refine lv_iload_n B.1 B.2.1 dX12_readSteps_244 rfl (lv_at hl 3 rfl) ?_
                    refine q_ile (tgt := 252) B dX12_readSteps_245 (by decide) (by unfold inr; omega) (fun c65 => ?_) (fun c65 => ?_)
                    · refine q_con B dX12_readSteps_252 ?_
                      refine lv_goto (tgt := 266) B.1 B.2.1 dX12_readSteps_253 (by decide) ?_
                      exact JJ266 v175_2 v175_3 v175_4 v175_5 v175_6 0 y175_8 y175_9 y175_7 y175_10 y175_5 y175_6 y175_11 y175_31 _ _ ls hM (lv_sub hl [0, 1, 2, 3, 4, 5, 6] rfl) (by omega) (by omega) (by omega) (by omega) (by omega) (by omega) (by first | omega | (simp only [wr_at]; omega) | assumption) (by first | omega | (simp only [wr_at]; omega) | assumption) (by first | omega | (simp only [wr_at]; omega) | assumption) (by first | omega | (simp only [wr_at]; omega) | assumption) (by first | omega | (simp only [wr_at]; omega) | assumption) (by first | omega | (simp only [wr_at]; omega) | assumption) (by first | omega | (simp only [wr_at]; omega) | assumption) (by first | omega | (simp only [wr_at]; omega) | assumption) (by first | omega | (simp only [wr_at]; omega) | assumption) (by first | (intro hq; exfalso; omega) | (intro _; exact ⟨by omega, by omega, by omega⟩)) (by first | omega | (simp only [wr_at]; omega) | assumption) (by first | omega | (simp only [wr_at]; omega) | assumption)
                    · refine q_con B dX12_readSteps_248 ?_
                      refine lv_goto (tgt := 266) B.1 B.2.1 dX12_readSteps_249 (by decide) ?_
                      exact JJ266 v175_2 v175_3 v175_4 v175_5 v175_6 1 y175_8 y175_9 y175_7 y175_10 y175_5 y175_6 y175_11 y175_31 _ _ ls hM (lv_sub hl [0, 1, 2, 3, 4, 5, 6] rfl) (by omega) (by omega) (by omega) (by omega) (by omega) (by omega) (by first | omega | (simp only [wr_at]; omega) | assumption) (by first | omega | (simp only [wr_at]; omega) | assumption) (by first | omega | (simp only [wr_at]; omega) | assumption) (by first | omega | (simp only [wr_at]; omega) | assumption) (by first | omega | (simp only [wr_at]; omega) | assumption) (by first | omega | (simp only [wr_at]; omega) | assumption) (by first | omega | (simp only [wr_at]; omega) | assumption) (by first | omega | (simp only [wr_at]; omega) | assumption) (by first | omega | (simp only [wr_at]; omega) | assumption) (by first | (intro hq; exfalso; omega) | (intro _; exact ⟨by omega, by omega, by omega⟩)) (by first | omega | (simp only [wr_at]; omega) | assumption) (by first | omega | (simp only [wr_at]; omega) | assumption)
                · refine lv_iload_n B.1 B.2.1 dX12_readSteps_212 rfl (lv_at hl 3 rfl) ?_
                  refine q_bip B dX12_readSteps_213 (by decide) ?_
                  refine q_cge (tgt := 233) B dX12_readSteps_215 (by decide) (by unfold inr; omega) (by unfold inr; omega) (fun c66 => ?_) (fun c66 => ?_)
                  · refine q_con B dX12_readSteps_233 ?_
                    refine lv_goto (tgt := 266) B.1 B.2.1 dX12_readSteps_234 (by decide) ?_
                    exact JJ266 v175_2 v175_3 v175_4 v175_5 v175_6 0 y175_8 y175_9 y175_7 y175_10 y175_5 y175_6 y175_11 y175_31 _ _ ls hM (lv_sub hl [0, 1, 2, 3, 4, 5, 6] rfl) (by omega) (by omega) (by omega) (by omega) (by omega) (by omega) (by first | omega | (simp only [wr_at]; omega) | assumption) (by first | omega | (simp only [wr_at]; omega) | assumption) (by first | omega | (simp only [wr_at]; omega) | assumption) (by first | omega | (simp only [wr_at]; omega) | assumption) (by first | omega | (simp only [wr_at]; omega) | assumption) (by first | omega | (simp only [wr_at]; omega) | assumption) (by first | omega | (simp only [wr_at]; omega) | assumption) (by first | omega | (simp only [wr_at]; omega) | assumption) (by first | omega | (simp only [wr_at]; omega) | assumption) (by first | (intro hq; exfalso; omega) | (intro _; exact ⟨by omega, by omega, by omega⟩)) (by first | omega | (simp only [wr_at]; omega) | assumption) (by first | omega | (simp only [wr_at]; omega) | assumption)
                  · refine lv_iload B.1 B.2.1 dX12_readSteps_218 (lv_at hl 6 rfl) ?_
                    refine q_bip B dX12_readSteps_220 (by decide) ?_
                    refine q_ceq (tgt := 229) B dX12_readSteps_222 (by decide) (by unfold inr; omega) (by unfold inr; omega) (fun c67 => ?_) (fun c67 => ?_)
                    · refine q_con B dX12_readSteps_229 ?_
                      refine lv_goto (tgt := 266) B.1 B.2.1 dX12_readSteps_230 (by decide) ?_
                      exact JJ266 v175_2 v175_3 v175_4 v175_5 v175_6 1 y175_8 y175_9 y175_7 y175_10 y175_5 y175_6 y175_11 y175_31 _ _ ls hM (lv_sub hl [0, 1, 2, 3, 4, 5, 6] rfl) (by omega) (by omega) (by omega) (by omega) (by omega) (by omega) (by first | omega | (simp only [wr_at]; omega) | assumption) (by first | omega | (simp only [wr_at]; omega) | assumption) (by first | omega | (simp only [wr_at]; omega) | assumption) (by first | omega | (simp only [wr_at]; omega) | assumption) (by first | omega | (simp only [wr_at]; omega) | assumption) (by first | omega | (simp only [wr_at]; omega) | assumption) (by first | omega | (simp only [wr_at]; omega) | assumption) (by first | omega | (simp only [wr_at]; omega) | assumption) (by first | omega | (simp only [wr_at]; omega) | assumption) (by first | (intro hq; exfalso; omega) | (intro _; exact ⟨by omega, by omega, by omega⟩)) (by first | omega | (simp only [wr_at]; omega) | assumption) (by first | omega | (simp only [wr_at]; omega) | assumption)
                    · refine lv_iload_n B.1 B.2.1 dX12_readSteps_225 rfl (lv_at hl 1 rfl) ?_
                      refine q_ine (tgt := 233) B dX12_readSteps_226 (by decide) (by unfold inr; omega) (fun c68 => ?_) (fun c68 => ?_)
                      · refine q_con B dX12_readSteps_233 ?_
                        refine lv_goto (tgt := 266) B.1 B.2.1 dX12_readSteps_234 (by decide) ?_
                        exact JJ266 v175_2 v175_3 v175_4 v175_5 v175_6 0 y175_8 y175_9 y175_7 y175_10 y175_5 y175_6 y175_11 y175_31 _ _ ls hM (lv_sub hl [0, 1, 2, 3, 4, 5, 6] rfl) (by omega) (by omega) (by omega) (by omega) (by omega) (by omega) (by first | omega | (simp only [wr_at]; omega) | assumption) (by first | omega | (simp only [wr_at]; omega) | assumption) (by first | omega | (simp only [wr_at]; omega) | assumption) (by first | omega | (simp only [wr_at]; omega) | assumption) (by first | omega | (simp only [wr_at]; omega) | assumption) (by first | omega | (simp only [wr_at]; omega) | assumption) (by first | omega | (simp only [wr_at]; omega) | assumption) (by first | omega | (simp only [wr_at]; omega) | assumption) (by first | omega | (simp only [wr_at]; omega) | assumption) (by first | (intro hq; exfalso; omega) | (intro _; exact ⟨by omega, by omega, by omega⟩)) (by first | omega | (simp only [wr_at]; omega) | assumption) (by first | omega | (simp only [wr_at]; omega) | assumption)
                      · refine q_con B dX12_readSteps_229 ?_
                        refine lv_goto (tgt := 266) B.1 B.2.1 dX12_readSteps_230 (by decide) ?_
                        exact JJ266 v175_2 v175_3 v175_4 v175_5 v175_6 1 y175_8 y175_9 y175_7 y175_10 y175_5 y175_6 y175_11 y175_31 _ _ ls hM (lv_sub hl [0, 1, 2, 3, 4, 5, 6] rfl) (by omega) (by omega) (by omega) (by omega) (by omega) (by omega) (by first | omega | (simp only [wr_at]; omega) | assumption) (by first | omega | (simp only [wr_at]; omega) | assumption) (by first | omega | (simp only [wr_at]; omega) | assumption) (by first | omega | (simp only [wr_at]; omega) | assumption) (by first | omega | (simp only [wr_at]; omega) | assumption) (by first | omega | (simp only [wr_at]; omega) | assumption) (by first | omega | (simp only [wr_at]; omega) | assumption) (by first | omega | (simp only [wr_at]; omega) | assumption) (by first | omega | (simp only [wr_at]; omega) | assumption) (by first | (intro hq; exfalso; omega) | (intro _; exact ⟨by omega, by omega, by omega⟩)) (by first | omega | (simp only [wr_at]; omega) | assumption) (by first | omega | (simp only [wr_at]; omega) | assumption)
        · refine lv_iload_n B.1 B.2.1 dX12_readSteps_182 rfl (lv_at hl 2 rfl) ?_
          subst hPST
          exact m_iret B hM dX12_readSteps_183 (by unfold inr; omega) ⟨y175_8, y175_9, y175_7, y175_10, y175_5, y175_6, ((y10_63) + 1), y175_11, ((wr (y10_30) (1500 * (f 3) + (y10_63)) (v175_6))), y175_31, rfl, by (refine ⟨by omega, by omega, by omega, by omega, by omega, by omega, ?_, by first | assumption | exact FrS_wr (by assumption) (by omega) (by omega) (by omega)⟩; first | exact SegP_bad (by omega) | (intro hq; exact ⟨by omega, by omega, by omega, (hLL10_12 (by omega)).2.1.2⟩))⟩
      have JJ104 : ∀ (v104_2 : Int) (v104_3 : Int) (v104_4 : Int) (v104_5 : Int) (s104_0 : Int) (y104_5 : Int) (y104_6 : Int) (y104_11 : Int64) (H : Heap) (locs : List Loc) (ls : Array Slot), (MWd D dA h0 ad (mF dA h0 ad (f, g, A, L) s.heap.size) s.heap ((up f [(8, y10_8), (9, y10_9), (7, y10_7), (10, y10_10), (5, y104_5), (6, y104_6), (63, y10_63)]), (up g [(11, y104_11)]), (up A [(30, y10_30), (31, y10_31)]), L) H locs) → lv_has ls 8 [(0, .ref h0), (1, .int (II a_starts)), (2, .int (II v104_2)), (3, .int (II v104_3)), (4, .int (II v104_4)), (5, .int (II v104_5))] → ((-2147483648 : Int) ≤ v104_2 ∧ v104_2 ≤ 2147483647) → ((-2147483648 : Int) ≤ v104_3 ∧ v104_3 ≤ 2147483647) → ((-2147483648 : Int) ≤ v104_4 ∧ v104_4 ≤ 2147483647) → ((-2147483648 : Int) ≤ v104_5 ∧ v104_5 ≤ 2147483647) → ((-2147483648 : Int) ≤ s104_0 ∧ s104_0 ≤ 2147483647) → ((v104_2) = (f 63)) → ((v104_3) = (v10_3)) → ((y104_5) = 0) → ((y10_5) = 0) → ((y10_63) < (f 63) + 40) → (2 ≤ (y10_7)) → (0 ≤ (v104_4)) → ((v104_4) ≤ 1) → W p l e ({ frames := 4, cells := 0, slots := 0, locals := 86 }) s m args below meth c H locs 0 0 (MQ below (mQi D dA h0 ad (f, g, A, L) s.heap.size PST) args s 0 0 (mF dA h0 ad (f, g, A, L) s.heap.size)) (F0 m 104 ls [.int (II s104_0)]) := by
        intro v104_2 v104_3 v104_4 v104_5 s104_0 y104_5 y104_6 y104_11 H locs ls hM hl hJJ104_0 hJJ104_1 hJJ104_2 hJJ104_3 hJJ104_4 hJJ104_5 hJJ104_6 hJJ104_7 hJJ104_8 hJJ104_9 hJJ104_10 hJJ104_11 hJJ104_12
        have r69 : (0 : Int) ≤ y10_8 ∧ y10_8 ≤ 3001 := hM.2.2.2.1 8
        have r70 : (0 : Int) ≤ y10_9 ∧ y10_9 ≤ 3002 := hM.2.2.2.1 9
        have r71 : (0 : Int) ≤ y10_7 ∧ y10_7 ≤ 6 := hM.2.2.2.1 7
        have r72 : (-2147483648 : Int) ≤ y10_10 ∧ y10_10 ≤ 2147483647 := hM.2.2.2.1 10
        have r73 : (-2147483648 : Int) ≤ y104_5 ∧ y104_5 ≤ 2147483647 := hM.2.2.2.1 5
        have r74 : (-2147483648 : Int) ≤ y104_6 ∧ y104_6 ≤ 2147483647 := hM.2.2.2.1 6
        have r75 : (0 : Int) ≤ y10_63 ∧ y10_63 ≤ 1500 := hM.2.2.2.1 63
        refine lv_istore (lv' := [(6, .int (II s104_0)), (0, .ref h0), (1, .int (II a_starts)), (2, .int (II v104_2)), (3, .int (II v104_3)), (4, .int (II v104_4)), (5, .int (II v104_5))]) B.1 B.2.1 dX12_readSteps_104 hl (by decide) rfl (fun ls hl => ?_)
        refine lv_aload_n B.1 B.2.1 dX12_readSteps_106 rfl (lv_at hl 1 rfl) ?_
        refine m_geta (k := 30) B hM (by decide) rfl fl184 dX12_readSteps_107 ?_
        refine q_sip B dX12_readSteps_110 (by decide) ?_
        refine lv_aload_n B.1 B.2.1 dX12_readSteps_113 rfl (lv_at hl 1 rfl) ?_
        refine m_get (k := 3) (v := f 3) B hM (by decide) rfl fl11 dX12_readSteps_114 rfl ?_
        refine q_mul B dX12_readSteps_117 ?_
        refine lv_aload_n B.1 B.2.1 dX12_readSteps_118 rfl (lv_at hl 1 rfl) ?_
        refine m_get (k := 63) (v := y10_63) B hM (by decide) rfl fl449 dX12_readSteps_119 rfl ?_
        refine q_add B dX12_readSteps_122 ?_
        refine lv_iload B.1 B.2.1 dX12_readSteps_123 (lv_at hl 0 rfl) ?_
        refine m_ist (k := 30) (i := 18) (n := 3000) B hM rfl rfl rfl (by decide) dX12_readSteps_125 (by omega) (by omega) (show (-2147483648 : Int) ≤ s104_0 from by first | omega | (simp only [wr_at]; omega)) (show s104_0 ≤ (2147483647 : Int) from by first | omega | (simp only [wr_at]; omega)) (u1_up A [(30, y10_30), (31, y10_31)] 30 (wr y10_30 ((1500 * (f 3)) + y10_63) s104_0)) (fun H locs hM => ?_)
        replace hM : MWd D dA h0 ad (mF dA h0 ad (f, g, A, L) s.heap.size) s.heap ((up f [(8, y10_8), (9, y10_9), (7, y10_7), (10, y10_10), (5, y104_5), (6, y104_6), (63, y10_63)]), (up g [(11, y104_11)]), (up A [(30, (wr y10_30 ((1500 * (f 3)) + y10_63) s104_0)), (31, y10_31)]), L) H locs := hM
        refine lv_aload_n B.1 B.2.1 dX12_readSteps_126 rfl (lv_at hl 1 rfl) ?_
        refine m_geta (k := 31) B hM (by decide) rfl fl187 dX12_readSteps_127 ?_
        refine q_sip B dX12_readSteps_130 (by decide) ?_
        refine lv_aload_n B.1 B.2.1 dX12_readSteps_133 rfl (lv_at hl 1 rfl) ?_
        refine m_get (k := 3) (v := f 3) B hM (by decide) rfl fl11 dX12_readSteps_134 rfl ?_
        refine q_mul B dX12_readSteps_137 ?_
        refine lv_aload_n B.1 B.2.1 dX12_readSteps_138 rfl (lv_at hl 1 rfl) ?_
        refine m_get (k := 63) (v := y10_63) B hM (by decide) rfl fl449 dX12_readSteps_139 rfl ?_
        refine q_add B dX12_readSteps_142 ?_
        refine lv_aload_n B.1 B.2.1 dX12_readSteps_143 rfl (lv_at hl 1 rfl) ?_
        refine m_get (k := 10) (v := y10_10) B hM (by decide) rfl fl91 dX12_readSteps_144 rfl ?_
        refine m_ist (k := 31) (i := 19) (n := 3000) B hM rfl rfl rfl (by decide) dX12_readSteps_147 (by omega) (by omega) (show (-2147483648 : Int) ≤ y10_10 from by first | omega | (simp only [wr_at]; omega)) (show y10_10 ≤ (2147483647 : Int) from by first | omega | (simp only [wr_at]; omega)) (u1_up A [(30, (wr y10_30 ((1500 * (f 3)) + y10_63) s104_0)), (31, y10_31)] 31 (wr y10_31 ((1500 * (f 3)) + y10_63) y10_10)) (fun H locs hM => ?_)
        replace hM : MWd D dA h0 ad (mF dA h0 ad (f, g, A, L) s.heap.size) s.heap ((up f [(8, y10_8), (9, y10_9), (7, y10_7), (10, y10_10), (5, y104_5), (6, y104_6), (63, y10_63)]), (up g [(11, y104_11)]), (up A [(30, (wr y10_30 ((1500 * (f 3)) + y10_63) s104_0)), (31, (wr y10_31 ((1500 * (f 3)) + y10_63) y10_10))]), L) H locs := hM
        refine lv_aload_n B.1 B.2.1 dX12_readSteps_148 rfl (lv_at hl 1 rfl) ?_
        refine lv_dup B.1 B.2.1 dX12_readSteps_149 rfl ?_
        refine m_get (k := 63) (v := y10_63) B hM (by decide) rfl fl449 dX12_readSteps_150 rfl ?_
        refine q_con B dX12_readSteps_153 ?_
        refine q_add B dX12_readSteps_154 ?_
        refine m_put (k := 63) B hM (by decide) rfl fl449 rfl dX12_readSteps_155 rfl rfl (show (0 : Int) ≤ y10_63 + 1 from by first | omega | (simp only [wr_at]; omega)) (show y10_63 + 1 ≤ (1500 : Int) from by first | omega | (simp only [wr_at]; omega)) (u1_up f [(8, y10_8), (9, y10_9), (7, y10_7), (10, y10_10), (5, y104_5), (6, y104_6), (63, y10_63)] 63 (y10_63 + 1)) (fun H locs hM => ?_)
        replace hM : MWd D dA h0 ad (mF dA h0 ad (f, g, A, L) s.heap.size) s.heap ((up f [(8, y10_8), (9, y10_9), (7, y10_7), (10, y10_10), (5, y104_5), (6, y104_6), (63, y10_63 + 1)]), (up g [(11, y104_11)]), (up A [(30, (wr y10_30 ((1500 * (f 3)) + y10_63) s104_0)), (31, (wr y10_31 ((1500 * (f 3)) + y10_63) y10_10))]), L) H locs := hM
        refine lv_aload_n B.1 B.2.1 dX12_readSteps_158 rfl (lv_at hl 1 rfl) ?_
        refine m_callv (n := 0) (rest := []) B hM hA hl.1 (k_next l D dA h0 ad (up f [(8, y10_8), (9, y10_9), (7, y10_7), (10, y10_10), (5, y104_5), (6, y104_6), (63, y10_63 + 1)]) (up g [(11, y104_11)]) (up A [(30, (wr y10_30 ((1500 * (f 3)) + y10_63) s104_0)), (31, (wr y10_31 ((1500 * (f 3)) + y10_63) y10_10))]) L   (show (y10_9) ≤ 3001 from by first | omega | (simp only [wr_at]; omega) | assumption)) rfl ok_next nm_next ⟨rfl, rfl⟩ ⟨Nat.le_of_ble_eq_true rfl, Nat.le_of_ble_eq_true rfl⟩ dX12_readSteps_159 rfl rfl (Nat.le_of_ble_eq_true rfl) ⟨Nat.zero_le _, Nat.zero_le _⟩ (fun σr76 H locs hp77 hM => ?_)
        obtain ⟨x78, x79, x80, x81, w82, rfl, hp77⟩ := hp77
        replace hp77 : ((y10_9) ≤ (x78) ∨ (x78) = (f 4)) ∧ (0 ≤ (x78) ∧ (x78) ≤ (f 4) ∧ (x78) ≤ (x79) ∧ (x79) ≤ (f 4) + 1 ∧ ((x80) = 0 ↔ (x78) = (f 4)) ∧ (2 ≤ (x80) → (x78) < (x79) ∧ (x79) ≤ (f 4)) ∧ ((x80) = 5 → (x78) + 2 ≤ (x79) ∧ (x79) ≤ (x78) + 32)) := hp77
        obtain ⟨hp77_0, hp77_1⟩ := hp77
        simp only [up_up] at hM
        replace hM : MWd D dA h0 ad (mF dA h0 ad (f, g, A, L) s.heap.size) s.heap ((up f [(8, x78), (9, x79), (7, x80), (10, x81), (5, y104_5), (6, y104_6), (63, y10_63 + 1)]), (up g [(11, w82)]), (up A [(30, (wr y10_30 ((1500 * (f 3)) + y10_63) s104_0)), (31, (wr y10_31 ((1500 * (f 3)) + y10_63) y10_10))]), L) H locs := hM
        have r83 : (0 : Int) ≤ x78 ∧ x78 ≤ 3001 := hM.2.2.2.1 8
        have r84 : (0 : Int) ≤ x79 ∧ x79 ≤ 3002 := hM.2.2.2.1 9
        have r85 : (0 : Int) ≤ x80 ∧ x80 ≤ 6 := hM.2.2.2.1 7
        have r86 : (-2147483648 : Int) ≤ x81 ∧ x81 ≤ 2147483647 := hM.2.2.2.1 10
        refine lv_iload B.1 B.2.1 dX12_readSteps_162 (lv_at hl 0 rfl) ?_
        refine q_bip B dX12_readSteps_164 (by decide) ?_
        refine q_cne (tgt := 175) B dX12_readSteps_166 (by decide) (by unfold inr; omega) (by unfold inr; omega) (fun c87 => ?_) (fun c87 => ?_)
        · exact JJ175 v104_2 v104_3 v104_4 v104_5 s104_0 x78 x79 x80 x81 y104_5 y104_6 w82 ((wr y10_31 ((1500 * (f 3)) + y10_63) y10_10)) _ _ ls hM (lv_sub hl [1, 2, 3, 4, 5, 6, 0] rfl) (by omega) (by omega) (by omega) (by omega) (by omega) (by first | omega | (simp only [wr_at]; omega) | assumption) (by first | omega | (simp only [wr_at]; omega) | assumption) (by first | omega | (simp only [wr_at]; omega) | assumption) (by first | omega | (simp only [wr_at]; omega) | assumption) (by first | omega | (simp only [wr_at]; omega) | assumption) (by first | omega | (simp only [wr_at]; omega) | assumption) (by first | omega | (simp only [wr_at]; omega) | assumption) (by first | omega | (simp only [wr_at]; omega) | assumption)
        · refine lv_aload_n B.1 B.2.1 dX12_readSteps_169 rfl (lv_at hl 1 rfl) ?_
          refine q_bip B dX12_readSteps_170 (by decide) ?_
          refine m_callv (n := 1) (rest := []) B hM hA hl.1 (k_must l D dA h0 ad (up f [(8, x78), (9, x79), (7, x80), (10, x81), (5, y104_5), (6, y104_6), (63, y10_63 + 1)]) (up g [(11, w82)]) (up A [(30, (wr y10_30 ((1500 * (f 3)) + y10_63) s104_0)), (31, (wr y10_31 ((1500 * (f 3)) + y10_63) y10_10))]) L 61 (by omega) (show (0 ≤ (x78) ∧ (x78) ≤ (f 4) ∧ (x78) ≤ (x79) ∧ (x79) ≤ (f 4) + 1 ∧ ((x80) = 0 ↔ (x78) = (f 4)) ∧ (2 ≤ (x80) → (x78) < (x79) ∧ (x79) ≤ (f 4)) ∧ ((x80) = 5 → (x78) + 2 ≤ (x79) ∧ (x79) ≤ (x78) + 32)) from by first | omega | (simp only [wr_at]; omega) | assumption)) rfl ok_must nm_must ⟨rfl, rfl⟩ ⟨Nat.le_of_ble_eq_true rfl, Nat.le_of_ble_eq_true rfl⟩ dX12_readSteps_172 rfl rfl (Nat.le_of_ble_eq_true rfl) ⟨Nat.zero_le _, Nat.zero_le _⟩ (fun σr88 H locs hp89 hM => ?_)
          obtain ⟨x90, x91, x92, x93, x94, x95, w96, rfl, hp89⟩ := hp89
          replace hp89 : ((0 ≤ (x90) ∧ (x90) ≤ (f 4) ∧ (x90) ≤ (x91) ∧ (x91) ≤ (f 4) + 1 ∧ ((x92) = 0 ↔ (x90) = (f 4)) ∧ (2 ≤ (x92) → (x90) < (x91) ∧ (x91) ≤ (f 4)) ∧ ((x92) = 5 → (x90) + 2 ≤ (x91) ∧ (x91) ≤ (x90) + 32))) ∧ (x78) ≤ (x90) ∧ ((x94) = 0 → (y104_5) = 0 ∧ (x78) + 1 ≤ (x90) ∧ (x79) ≤ (x90)) := hp89
          obtain ⟨hp89_0, hp89_1, hp89_2⟩ := hp89
          simp only [up_up] at hM
          replace hM : MWd D dA h0 ad (mF dA h0 ad (f, g, A, L) s.heap.size) s.heap ((up f [(8, x90), (9, x91), (7, x92), (10, x93), (5, x94), (6, x95), (63, y10_63 + 1)]), (up g [(11, w96)]), (up A [(30, (wr y10_30 ((1500 * (f 3)) + y10_63) s104_0)), (31, (wr y10_31 ((1500 * (f 3)) + y10_63) y10_10))]), L) H locs := hM
          have r97 : (0 : Int) ≤ x90 ∧ x90 ≤ 3001 := hM.2.2.2.1 8
          have r98 : (0 : Int) ≤ x91 ∧ x91 ≤ 3002 := hM.2.2.2.1 9
          have r99 : (0 : Int) ≤ x92 ∧ x92 ≤ 6 := hM.2.2.2.1 7
          have r100 : (-2147483648 : Int) ≤ x93 ∧ x93 ≤ 2147483647 := hM.2.2.2.1 10
          have r101 : (-2147483648 : Int) ≤ x94 ∧ x94 ≤ 2147483647 := hM.2.2.2.1 5
          have r102 : (-2147483648 : Int) ≤ x95 ∧ x95 ≤ 2147483647 := hM.2.2.2.1 6
          exact JJ175 v104_2 v104_3 v104_4 v104_5 s104_0 x90 x91 x92 x93 x94 x95 w96 ((wr y10_31 ((1500 * (f 3)) + y10_63) y10_10)) _ _ ls hM (lv_sub hl [1, 2, 3, 4, 5, 6, 0] rfl) (by omega) (by omega) (by omega) (by omega) (by omega) (by first | omega | (simp only [wr_at]; omega) | assumption) (by first | omega | (simp only [wr_at]; omega) | assumption) (by first | omega | (simp only [wr_at]; omega) | assumption) (by first | omega | (simp only [wr_at]; omega) | assumption) (by first | omega | (simp only [wr_at]; omega) | assumption) (by first | omega | (simp only [wr_at]; omega) | assumption) (by first | omega | (simp only [wr_at]; omega) | assumption) (by first | omega | (simp only [wr_at]; omega) | assumption)
      have JJ58 : ∀ (v58_2 : Int) (v58_3 : Int) (v58_4 : Int) (v58_5 : Int) (y58_5 : Int) (y58_6 : Int) (y58_11 : Int64) (H : Heap) (locs : List Loc) (ls : Array Slot), (MWd D dA h0 ad (mF dA h0 ad (f, g, A, L) s.heap.size) s.heap ((up f [(8, y10_8), (9, y10_9), (7, y10_7), (10, y10_10), (5, y58_5), (6, y58_6), (63, y10_63)]), (up g [(11, y58_11)]), (up A [(30, y10_30), (31, y10_31)]), L) H locs) → lv_has ls 8 [(0, .ref h0), (1, .int (II a_starts)), (2, .int (II v58_2)), (3, .int (II v58_3)), (4, .int (II v58_4)), (5, .int (II v58_5))] → ((-2147483648 : Int) ≤ v58_2 ∧ v58_2 ≤ 2147483647) → ((-2147483648 : Int) ≤ v58_3 ∧ v58_3 ≤ 2147483647) → ((-2147483648 : Int) ≤ v58_4 ∧ v58_4 ≤ 2147483647) → ((-2147483648 : Int) ≤ v58_5 ∧ v58_5 ≤ 2147483647) → ((v58_2) = (f 63)) → ((v58_3) = (v10_3)) → (((y58_5) = 0 → (y10_5) = 0 ∧ (y10_63) < (f 63) + 40)) → (2 ≤ (y10_7)) → (0 ≤ (v58_4)) → ((v58_4) ≤ 1) → W p l e ({ frames := 4, cells := 0, slots := 0, locals := 86 }) s m args below meth c H locs 0 0 (MQ below (mQi D dA h0 ad (f, g, A, L) s.heap.size PST) args s 0 0 (mF dA h0 ad (f, g, A, L) s.heap.size)) (F0 m 58 ls []) := by
        intro v58_2 v58_3 v58_4 v58_5 y58_5 y58_6 y58_11 H locs ls hM hl hJJ58_0 hJJ58_1 hJJ58_2 hJJ58_3 hJJ58_4 hJJ58_5 hJJ58_6 hJJ58_7 hJJ58_8 hJJ58_9
        have r103 : (0 : Int) ≤ y10_8 ∧ y10_8 ≤ 3001 := hM.2.2.2.1 8
        have r104 : (0 : Int) ≤ y10_9 ∧ y10_9 ≤ 3002 := hM.2.2.2.1 9
        have r105 : (0 : Int) ≤ y10_7 ∧ y10_7 ≤ 6 := hM.2.2.2.1 7
        have r106 : (-2147483648 : Int) ≤ y10_10 ∧ y10_10 ≤ 2147483647 := hM.2.2.2.1 10
        have r107 : (-2147483648 : Int) ≤ y58_5 ∧ y58_5 ≤ 2147483647 := hM.2.2.2.1 5
        have r108 : (-2147483648 : Int) ≤ y58_6 ∧ y58_6 ≤ 2147483647 := hM.2.2.2.1 6
        have r109 : (0 : Int) ≤ y10_63 ∧ y10_63 ≤ 1500 := hM.2.2.2.1 63
        refine lv_aload_n B.1 B.2.1 dX12_readSteps_58 rfl (lv_at hl 0 rfl) ?_
        refine m_calli (n := 0) (rest := []) B hM hA hl.1 (k_isGood l D dA h0 ad (up f [(8, y10_8), (9, y10_9), (7, y10_7), (10, y10_10), (5, y58_5), (6, y58_6), (63, y10_63)]) (up g [(11, y58_11)]) (up A [(30, y10_30), (31, y10_31)]) L   ) rfl ok_isGood nm_isGood ⟨rfl, rfl⟩ ⟨Nat.le_of_ble_eq_true rfl, Nat.le_of_ble_eq_true rfl⟩ dX12_readSteps_59 rfl rfl (Nat.le_of_ble_eq_true rfl) ⟨Nat.zero_le _, Nat.zero_le _⟩ (fun r110 σr110 H locs ir110 hp111 hM => ?_)
        obtain ⟨rfl, hp111⟩ := hp111
        unfold inr at ir110
        replace hp111 : 0 ≤ r110 ∧ r110 ≤ 1 ∧ (r110 = 1 ↔ (y58_5) = 0) := hp111
        obtain ⟨hp111_0, hp111_1, hp111_2⟩ := hp111
        refine q_ine (tgt := 67) B dX12_readSteps_62 (by decide) (by unfold inr; omega) (fun c112 => ?_) (fun c112 => ?_)
        · refine lv_aload_n B.1 B.2.1 dX12_readSteps_67 rfl (lv_at hl 0 rfl) ?_
          refine m_get (k := 7) (v := y10_7) B hM (by decide) rfl fl66 dX12_readSteps_68 rfl ?_
          refine q_con B dX12_readSteps_71 ?_
          refine q_cne (tgt := 80) B dX12_readSteps_72 (by decide) (by unfold inr; omega) (by unfold inr; omega) (fun c113 => ?_) (fun c113 => ?_)
          · refine lv_aload_n B.1 B.2.1 dX12_readSteps_80 rfl (lv_at hl 0 rfl) ?_
            refine m_get (k := 7) (v := y10_7) B hM (by decide) rfl fl66 dX12_readSteps_81 rfl ?_
            refine q_con B dX12_readSteps_84 ?_
            refine q_cne (tgt := 96) B dX12_readSteps_85 (by decide) (by unfold inr; omega) (by unfold inr; omega) (fun c114 => ?_) (fun c114 => ?_)
            · refine lv_aload_n B.1 B.2.1 dX12_readSteps_96 rfl (lv_at hl 0 rfl) ?_
              refine lv_aload_n B.1 B.2.1 dX12_readSteps_97 rfl (lv_at hl 0 rfl) ?_
              refine m_get (k := 8) (v := y10_8) B hM (by decide) rfl fl59 dX12_readSteps_98 rfl ?_
              refine m_calli (n := 1) (rest := []) B hM hA hl.1 (k_sign l D dA h0 ad (up f [(8, y10_8), (9, y10_9), (7, y10_7), (10, y10_10), (5, y58_5), (6, y58_6), (63, y10_63)]) (up g [(11, y58_11)]) (up A [(30, y10_30), (31, y10_31)]) L y10_8 (by omega) (show 0 ≤ (y10_8) from by first | omega | (simp only [wr_at]; omega) | assumption) (show (y10_8) ≤ 100000 from by first | omega | (simp only [wr_at]; omega) | assumption)) rfl ok_sign nm_sign ⟨rfl, rfl⟩ ⟨Nat.le_of_ble_eq_true rfl, Nat.le_of_ble_eq_true rfl⟩ dX12_readSteps_101 rfl rfl (Nat.le_of_ble_eq_true rfl) ⟨Nat.zero_le _, Nat.zero_le _⟩ (fun r115 σr115 H locs ir115 hp116 hM => ?_)
              obtain ⟨rfl, hp116⟩ := hp116
              unfold inr at ir115
              replace hp116 : r115 = sgn ((A 2)) (f 3) (f 4) (y10_8) ∧ 0 ≤ r115 ∧ r115 ≤ 255 ∧ (r115 ≠ 0 → (y10_8) < (f 4)) := hp116
              obtain ⟨hp116_0, hp116_1, hp116_2, hp116_3⟩ := hp116
              exact JJ104 v58_2 v58_3 v58_4 v58_5 r115 y58_5 y58_6 y58_11 _ _ ls hM (lv_sub hl [0, 1, 2, 3, 4, 5] rfl) (by omega) (by omega) (by omega) (by omega) (by omega) (by first | omega | (simp only [wr_at]; omega) | assumption) (by first | omega | (simp only [wr_at]; omega) | assumption) (by first | omega | (simp only [wr_at]; omega) | assumption) (by first | omega | (simp only [wr_at]; omega) | assumption) (by first | omega | (simp only [wr_at]; omega) | assumption) (by first | omega | (simp only [wr_at]; omega) | assumption) (by first | omega | (simp only [wr_at]; omega) | assumption) (by first | omega | (simp only [wr_at]; omega) | assumption)
            · refine lv_aload_n B.1 B.2.1 dX12_readSteps_88 rfl (lv_at hl 0 rfl) ?_
              refine m_getl (k := 11) B hM (by decide) rfl fl76 dX12_readSteps_89 rfl ?_
              refine q_l2i B dX12_readSteps_92 (fun x117 ix117 => ?_)
              unfold inr at ix117
              refine lv_goto (tgt := 104) B.1 B.2.1 dX12_readSteps_93 (by decide) ?_
              exact JJ104 v58_2 v58_3 v58_4 v58_5 x117 y58_5 y58_6 y58_11 _ _ ls hM (lv_sub hl [0, 1, 2, 3, 4, 5] rfl) (by omega) (by omega) (by omega) (by omega) (by omega) (by first | omega | (simp only [wr_at]; omega) | assumption) (by first | omega | (simp only [wr_at]; omega) | assumption) (by first | omega | (simp only [wr_at]; omega) | assumption) (by first | omega | (simp only [wr_at]; omega) | assumption) (by first | omega | (simp only [wr_at]; omega) | assumption) (by first | omega | (simp only [wr_at]; omega) | assumption) (by first | omega | (simp only [wr_at]; omega) | assumption) (by first | omega | (simp only [wr_at]; omega) | assumption)
          · refine q_bip B dX12_readSteps_75 (by decide) ?_
            refine lv_goto (tgt := 104) B.1 B.2.1 dX12_readSteps_77 (by decide) ?_
            exact JJ104 v58_2 v58_3 v58_4 v58_5 110 y58_5 y58_6 y58_11 _ _ ls hM (lv_sub hl [0, 1, 2, 3, 4, 5] rfl) (by omega) (by omega) (by omega) (by omega) (by omega) (by first | omega | (simp only [wr_at]; omega) | assumption) (by first | omega | (simp only [wr_at]; omega) | assumption) (by first | omega | (simp only [wr_at]; omega) | assumption) (by first | omega | (simp only [wr_at]; omega) | assumption) (by first | omega | (simp only [wr_at]; omega) | assumption) (by first | omega | (simp only [wr_at]; omega) | assumption) (by first | omega | (simp only [wr_at]; omega) | assumption) (by first | omega | (simp only [wr_at]; omega) | assumption)
        · refine lv_iload_n B.1 B.2.1 dX12_readSteps_65 rfl (lv_at hl 2 rfl) ?_
          subst hPST
          exact m_iret B hM dX12_readSteps_66 (by unfold inr; omega) ⟨y10_8, y10_9, y10_7, y10_10, y58_5, y58_6, y10_63, y58_11, y10_30, y10_31, rfl, by (refine ⟨by omega, by omega, by omega, by omega, by omega, by omega, ?_, by first | assumption | exact FrS_wr (by assumption) (by omega) (by omega) (by omega)⟩; first | exact SegP_bad (by omega) | (intro hq; exact ⟨by omega, by omega, by omega, (hLL10_12 (by omega)).2.1.2⟩))⟩
      have r118 : (0 : Int) ≤ y10_8 ∧ y10_8 ≤ 3001 := hM.2.2.2.1 8
      have r119 : (0 : Int) ≤ y10_9 ∧ y10_9 ≤ 3002 := hM.2.2.2.1 9
      have r120 : (0 : Int) ≤ y10_7 ∧ y10_7 ≤ 6 := hM.2.2.2.1 7
      have r121 : (-2147483648 : Int) ≤ y10_10 ∧ y10_10 ≤ 2147483647 := hM.2.2.2.1 10
      have r122 : (-2147483648 : Int) ≤ y10_5 ∧ y10_5 ≤ 2147483647 := hM.2.2.2.1 5
      have r123 : (-2147483648 : Int) ≤ y10_6 ∧ y10_6 ≤ 2147483647 := hM.2.2.2.1 6
      have r124 : (0 : Int) ≤ y10_63 ∧ y10_63 ≤ 1500 := hM.2.2.2.1 63
      refine lv_iload B.1 B.2.1 dX12_readSteps_10 (lv_at hl 4 rfl) ?_
      refine q_ieq (tgt := 331) B dX12_readSteps_12 (by decide) (by unfold inr; omega) (fun c125 => ?_) (fun c125 => ?_)
      · refine lv_aload_n B.1 B.2.1 dX12_readSteps_331 rfl (lv_at hl 0 rfl) ?_
        refine m_calli (n := 0) (rest := []) B hM hA hl.1 (k_isGood l D dA h0 ad (up f [(8, y10_8), (9, y10_9), (7, y10_7), (10, y10_10), (5, y10_5), (6, y10_6), (63, y10_63)]) (up g [(11, y10_11)]) (up A [(30, y10_30), (31, y10_31)]) L   ) rfl ok_isGood nm_isGood ⟨rfl, rfl⟩ ⟨Nat.le_of_ble_eq_true rfl, Nat.le_of_ble_eq_true rfl⟩ dX12_readSteps_332 rfl rfl (Nat.le_of_ble_eq_true rfl) ⟨Nat.zero_le _, Nat.zero_le _⟩ (fun r126 σr126 H locs ir126 hp127 hM => ?_)
        obtain ⟨rfl, hp127⟩ := hp127
        unfold inr at ir126
        replace hp127 : 0 ≤ r126 ∧ r126 ≤ 1 ∧ (r126 = 1 ↔ (y10_5) = 0) := hp127
        obtain ⟨hp127_0, hp127_1, hp127_2⟩ := hp127
        refine q_ieq (tgt := 390) B dX12_readSteps_335 (by decide) (by unfold inr; omega) (fun c128 => ?_) (fun c128 => ?_)
        · refine lv_iload_n B.1 B.2.1 dX12_readSteps_390 rfl (lv_at hl 2 rfl) ?_
          subst hPST
          exact m_iret B hM dX12_readSteps_391 (by unfold inr; omega) ⟨y10_8, y10_9, y10_7, y10_10, y10_5, y10_6, y10_63, y10_11, y10_30, y10_31, rfl, by (refine ⟨by omega, by omega, by omega, by omega, by omega, by omega, ?_, by first | assumption | exact FrS_wr (by assumption) (by omega) (by omega) (by omega)⟩; first | exact SegP_bad (by omega) | (intro hq; exact ⟨by omega, by omega, by omega, (hLL10_12 (by omega)).2.1.2⟩))⟩
        · refine lv_iload_n B.1 B.2.1 dX12_readSteps_338 rfl (lv_at hl 1 rfl) ?_
          refine q_ieq (tgt := 354) B dX12_readSteps_339 (by decide) (by unfold inr; omega) (fun c129 => ?_) (fun c129 => ?_)
          · refine lv_aload_n B.1 B.2.1 dX12_readSteps_354 rfl (lv_at hl 0 rfl) ?_
            refine q_bip B dX12_readSteps_355 (by decide) ?_
            refine m_calli (n := 1) (rest := []) B hM hA hl.1 (k_isSign l D dA h0 ad (up f [(8, y10_8), (9, y10_9), (7, y10_7), (10, y10_10), (5, y10_5), (6, y10_6), (63, y10_63)]) (up g [(11, y10_11)]) (up A [(30, y10_30), (31, y10_31)]) L 59 (by omega) (show (0 ≤ (y10_8) ∧ (y10_8) ≤ (f 4) ∧ (y10_8) ≤ (y10_9) ∧ (y10_9) ≤ (f 4) + 1 ∧ ((y10_7) = 0 ↔ (y10_8) = (f 4)) ∧ (2 ≤ (y10_7) → (y10_8) < (y10_9) ∧ (y10_9) ≤ (f 4)) ∧ ((y10_7) = 5 → (y10_8) + 2 ≤ (y10_9) ∧ (y10_9) ≤ (y10_8) + 32)) from by first | omega | (simp only [wr_at]; omega) | assumption)) rfl ok_isSign nm_isSign ⟨rfl, rfl⟩ ⟨Nat.le_of_ble_eq_true rfl, Nat.le_of_ble_eq_true rfl⟩ dX12_readSteps_357 rfl rfl (Nat.le_of_ble_eq_true rfl) ⟨Nat.zero_le _, Nat.zero_le _⟩ (fun r130 σr130 H locs ir130 hp131 hM => ?_)
            obtain ⟨rfl, hp131⟩ := hp131
            unfold inr at ir130
            replace hp131 : 0 ≤ r130 ∧ r130 ≤ 1 ∧ (r130 = 1 ↔ (y10_7) = 6 ∧ sgn ((A 2)) (f 3) (f 4) (y10_8) = (59)) := hp131
            obtain ⟨hp131_0, hp131_1, hp131_2⟩ := hp131
            refine q_ieq (tgt := 390) B dX12_readSteps_360 (by decide) (by unfold inr; omega) (fun c132 => ?_) (fun c132 => ?_)
            · refine lv_iload_n B.1 B.2.1 dX12_readSteps_390 rfl (lv_at hl 2 rfl) ?_
              subst hPST
              exact m_iret B hM dX12_readSteps_391 (by unfold inr; omega) ⟨y10_8, y10_9, y10_7, y10_10, y10_5, y10_6, y10_63, y10_11, y10_30, y10_31, rfl, by (refine ⟨by omega, by omega, by omega, by omega, by omega, by omega, ?_, by first | assumption | exact FrS_wr (by assumption) (by omega) (by omega) (by omega)⟩; first | exact SegP_bad (by omega) | (intro hq; exact ⟨by omega, by omega, by omega, (hLL10_12 (by omega)).2.1.2⟩))⟩
            · refine lv_iload_n B.1 B.2.1 dX12_readSteps_363 rfl (lv_at hl 3 rfl) ?_
              refine q_con B dX12_readSteps_364 ?_
              refine q_ceq (tgt := 390) B dX12_readSteps_365 (by decide) (by unfold inr; omega) (by unfold inr; omega) (fun c133 => ?_) (fun c133 => ?_)
              · refine lv_iload_n B.1 B.2.1 dX12_readSteps_390 rfl (lv_at hl 2 rfl) ?_
                subst hPST
                exact m_iret B hM dX12_readSteps_391 (by unfold inr; omega) ⟨y10_8, y10_9, y10_7, y10_10, y10_5, y10_6, y10_63, y10_11, y10_30, y10_31, rfl, by (refine ⟨by omega, by omega, by omega, by omega, by omega, by omega, ?_, by first | assumption | exact FrS_wr (by assumption) (by omega) (by omega) (by omega)⟩; first | exact SegP_bad (by omega) | (intro hq; exact ⟨by omega, by omega, by omega, (hLL10_12 (by omega)).2.1.2⟩))⟩
              · refine lv_iload_n B.1 B.2.1 dX12_readSteps_368 rfl (lv_at hl 1 rfl) ?_
                refine q_ieq (tgt := 380) B dX12_readSteps_369 (by decide) (by unfold inr; omega) (fun c134 => ?_) (fun c134 => ?_)
                · refine lv_aload_n B.1 B.2.1 dX12_readSteps_380 rfl (lv_at hl 0 rfl) ?_
                  refine q_con B dX12_readSteps_381 ?_
                  refine lv_aload_n B.1 B.2.1 dX12_readSteps_382 rfl (lv_at hl 0 rfl) ?_
                  refine m_get (k := 8) (v := y10_8) B hM (by decide) rfl fl59 dX12_readSteps_383 rfl ?_
                  refine m_calli (n := 2) (rest := []) B hM hA hl.1 (k_fails l D dA h0 ad (up f [(8, y10_8), (9, y10_9), (7, y10_7), (10, y10_10), (5, y10_5), (6, y10_6), (63, y10_63)]) (up g [(11, y10_11)]) (up A [(30, y10_30), (31, y10_31)]) L 4 y10_8 (by omega) (by omega) ) rfl ok_fails nm_fails ⟨rfl, rfl⟩ ⟨Nat.le_of_ble_eq_true rfl, Nat.le_of_ble_eq_true rfl⟩ dX12_readSteps_386 rfl rfl (Nat.le_of_ble_eq_true rfl) ⟨Nat.zero_le _, Nat.zero_le _⟩ (fun r135 σr135 H locs ir135 hp136 hM => ?_)
                  obtain ⟨x137, x138, rfl, hp136⟩ := hp136
                  unfold inr at ir135
                  replace hp136 : r135 = 0 ∧ ((y10_5) ≠ 0 → (x137) = (y10_5)) ∧ ((y10_5) = 0 → (x137) = (4)) := hp136
                  obtain ⟨hp136_0, hp136_1, hp136_2⟩ := hp136
                  simp only [up_up] at hM
                  replace hM : MWd D dA h0 ad (mF dA h0 ad (f, g, A, L) s.heap.size) s.heap ((up f [(8, y10_8), (9, y10_9), (7, y10_7), (10, y10_10), (5, x137), (6, x138), (63, y10_63)]), (up g [(11, y10_11)]), (up A [(30, y10_30), (31, y10_31)]), L) H locs := hM
                  have r139 : (-2147483648 : Int) ≤ x137 ∧ x137 ≤ 2147483647 := hM.2.2.2.1 5
                  have r140 : (-2147483648 : Int) ≤ x138 ∧ x138 ≤ 2147483647 := hM.2.2.2.1 6
                  refine lv_pop B.1 B.2.1 dX12_readSteps_389 rfl ?_
                  refine lv_iload_n B.1 B.2.1 dX12_readSteps_390 rfl (lv_at hl 2 rfl) ?_
                  subst hPST
                  exact m_iret B hM dX12_readSteps_391 (by unfold inr; omega) ⟨y10_8, y10_9, y10_7, y10_10, x137, x138, y10_63, y10_11, y10_30, y10_31, rfl, by (refine ⟨by omega, by omega, by omega, by omega, by omega, by omega, ?_, by first | assumption | exact FrS_wr (by assumption) (by omega) (by omega) (by omega)⟩; first | exact SegP_bad (by omega) | (intro hq; exact ⟨by omega, by omega, by omega, (hLL10_12 (by omega)).2.1.2⟩))⟩
                · refine lv_aload_n B.1 B.2.1 dX12_readSteps_372 rfl (lv_at hl 0 rfl) ?_
                  refine m_get (k := 63) (v := y10_63) B hM (by decide) rfl fl449 dX12_readSteps_373 rfl ?_
                  refine lv_iload_n B.1 B.2.1 dX12_readSteps_376 rfl (lv_at hl 2 rfl) ?_
                  refine q_ceq (tgt := 390) B dX12_readSteps_377 (by decide) (by unfold inr; omega) (by unfold inr; omega) (fun c141 => ?_) (fun c141 => ?_)
                  · refine lv_iload_n B.1 B.2.1 dX12_readSteps_390 rfl (lv_at hl 2 rfl) ?_
                    subst hPST
                    exact m_iret B hM dX12_readSteps_391 (by unfold inr; omega) ⟨y10_8, y10_9, y10_7, y10_10, y10_5, y10_6, y10_63, y10_11, y10_30, y10_31, rfl, by (refine ⟨by omega, by omega, by omega, by omega, by omega, by omega, ?_, by first | assumption | exact FrS_wr (by assumption) (by omega) (by omega) (by omega)⟩; first | exact SegP_bad (by omega) | (intro hq; exact ⟨by omega, by omega, by omega, (hLL10_12 (by omega)).2.1.2⟩))⟩
                  · refine lv_aload_n B.1 B.2.1 dX12_readSteps_380 rfl (lv_at hl 0 rfl) ?_
                    refine q_con B dX12_readSteps_381 ?_
                    refine lv_aload_n B.1 B.2.1 dX12_readSteps_382 rfl (lv_at hl 0 rfl) ?_
                    refine m_get (k := 8) (v := y10_8) B hM (by decide) rfl fl59 dX12_readSteps_383 rfl ?_
                    refine m_calli (n := 2) (rest := []) B hM hA hl.1 (k_fails l D dA h0 ad (up f [(8, y10_8), (9, y10_9), (7, y10_7), (10, y10_10), (5, y10_5), (6, y10_6), (63, y10_63)]) (up g [(11, y10_11)]) (up A [(30, y10_30), (31, y10_31)]) L 4 y10_8 (by omega) (by omega) ) rfl ok_fails nm_fails ⟨rfl, rfl⟩ ⟨Nat.le_of_ble_eq_true rfl, Nat.le_of_ble_eq_true rfl⟩ dX12_readSteps_386 rfl rfl (Nat.le_of_ble_eq_true rfl) ⟨Nat.zero_le _, Nat.zero_le _⟩ (fun r142 σr142 H locs ir142 hp143 hM => ?_)
                    obtain ⟨x144, x145, rfl, hp143⟩ := hp143
                    unfold inr at ir142
                    replace hp143 : r142 = 0 ∧ ((y10_5) ≠ 0 → (x144) = (y10_5)) ∧ ((y10_5) = 0 → (x144) = (4)) := hp143
                    obtain ⟨hp143_0, hp143_1, hp143_2⟩ := hp143
                    simp only [up_up] at hM
                    replace hM : MWd D dA h0 ad (mF dA h0 ad (f, g, A, L) s.heap.size) s.heap ((up f [(8, y10_8), (9, y10_9), (7, y10_7), (10, y10_10), (5, x144), (6, x145), (63, y10_63)]), (up g [(11, y10_11)]), (up A [(30, y10_30), (31, y10_31)]), L) H locs := hM
                    have r146 : (-2147483648 : Int) ≤ x144 ∧ x144 ≤ 2147483647 := hM.2.2.2.1 5
                    have r147 : (-2147483648 : Int) ≤ x145 ∧ x145 ≤ 2147483647 := hM.2.2.2.1 6
                    refine lv_pop B.1 B.2.1 dX12_readSteps_389 rfl ?_
                    refine lv_iload_n B.1 B.2.1 dX12_readSteps_390 rfl (lv_at hl 2 rfl) ?_
                    subst hPST
                    exact m_iret B hM dX12_readSteps_391 (by unfold inr; omega) ⟨y10_8, y10_9, y10_7, y10_10, x144, x145, y10_63, y10_11, y10_30, y10_31, rfl, by (refine ⟨by omega, by omega, by omega, by omega, by omega, by omega, ?_, by first | assumption | exact FrS_wr (by assumption) (by omega) (by omega) (by omega)⟩; first | exact SegP_bad (by omega) | (intro hq; exact ⟨by omega, by omega, by omega, (hLL10_12 (by omega)).2.1.2⟩))⟩
          · refine lv_aload_n B.1 B.2.1 dX12_readSteps_342 rfl (lv_at hl 0 rfl) ?_
            refine q_bip B dX12_readSteps_343 (by decide) ?_
            refine m_calli (n := 1) (rest := []) B hM hA hl.1 (k_isSign l D dA h0 ad (up f [(8, y10_8), (9, y10_9), (7, y10_7), (10, y10_10), (5, y10_5), (6, y10_6), (63, y10_63)]) (up g [(11, y10_11)]) (up A [(30, y10_30), (31, y10_31)]) L 61 (by omega) (show (0 ≤ (y10_8) ∧ (y10_8) ≤ (f 4) ∧ (y10_8) ≤ (y10_9) ∧ (y10_9) ≤ (f 4) + 1 ∧ ((y10_7) = 0 ↔ (y10_8) = (f 4)) ∧ (2 ≤ (y10_7) → (y10_8) < (y10_9) ∧ (y10_9) ≤ (f 4)) ∧ ((y10_7) = 5 → (y10_8) + 2 ≤ (y10_9) ∧ (y10_9) ≤ (y10_8) + 32)) from by first | omega | (simp only [wr_at]; omega) | assumption)) rfl ok_isSign nm_isSign ⟨rfl, rfl⟩ ⟨Nat.le_of_ble_eq_true rfl, Nat.le_of_ble_eq_true rfl⟩ dX12_readSteps_345 rfl rfl (Nat.le_of_ble_eq_true rfl) ⟨Nat.zero_le _, Nat.zero_le _⟩ (fun r148 σr148 H locs ir148 hp149 hM => ?_)
            obtain ⟨rfl, hp149⟩ := hp149
            unfold inr at ir148
            replace hp149 : 0 ≤ r148 ∧ r148 ≤ 1 ∧ (r148 = 1 ↔ (y10_7) = 6 ∧ sgn ((A 2)) (f 3) (f 4) (y10_8) = (61)) := hp149
            obtain ⟨hp149_0, hp149_1, hp149_2⟩ := hp149
            refine q_ieq (tgt := 390) B dX12_readSteps_348 (by decide) (by unfold inr; omega) (fun c150 => ?_) (fun c150 => ?_)
            · refine lv_iload_n B.1 B.2.1 dX12_readSteps_390 rfl (lv_at hl 2 rfl) ?_
              subst hPST
              exact m_iret B hM dX12_readSteps_391 (by unfold inr; omega) ⟨y10_8, y10_9, y10_7, y10_10, y10_5, y10_6, y10_63, y10_11, y10_30, y10_31, rfl, by (refine ⟨by omega, by omega, by omega, by omega, by omega, by omega, ?_, by first | assumption | exact FrS_wr (by assumption) (by omega) (by omega) (by omega)⟩; first | exact SegP_bad (by omega) | (intro hq; exact ⟨by omega, by omega, by omega, (hLL10_12 (by omega)).2.1.2⟩))⟩
            · refine lv_goto (tgt := 363) B.1 B.2.1 dX12_readSteps_351 (by decide) ?_
              refine lv_iload_n B.1 B.2.1 dX12_readSteps_363 rfl (lv_at hl 3 rfl) ?_
              refine q_con B dX12_readSteps_364 ?_
              refine q_ceq (tgt := 390) B dX12_readSteps_365 (by decide) (by unfold inr; omega) (by unfold inr; omega) (fun c151 => ?_) (fun c151 => ?_)
              · refine lv_iload_n B.1 B.2.1 dX12_readSteps_390 rfl (lv_at hl 2 rfl) ?_
                subst hPST
                exact m_iret B hM dX12_readSteps_391 (by unfold inr; omega) ⟨y10_8, y10_9, y10_7, y10_10, y10_5, y10_6, y10_63, y10_11, y10_30, y10_31, rfl, by (refine ⟨by omega, by omega, by omega, by omega, by omega, by omega, ?_, by first | assumption | exact FrS_wr (by assumption) (by omega) (by omega) (by omega)⟩; first | exact SegP_bad (by omega) | (intro hq; exact ⟨by omega, by omega, by omega, (hLL10_12 (by omega)).2.1.2⟩))⟩
              · refine lv_iload_n B.1 B.2.1 dX12_readSteps_368 rfl (lv_at hl 1 rfl) ?_
                refine q_ieq (tgt := 380) B dX12_readSteps_369 (by decide) (by unfold inr; omega) (fun c152 => ?_) (fun c152 => ?_)
                · refine lv_aload_n B.1 B.2.1 dX12_readSteps_380 rfl (lv_at hl 0 rfl) ?_
                  refine q_con B dX12_readSteps_381 ?_
                  refine lv_aload_n B.1 B.2.1 dX12_readSteps_382 rfl (lv_at hl 0 rfl) ?_
                  refine m_get (k := 8) (v := y10_8) B hM (by decide) rfl fl59 dX12_readSteps_383 rfl ?_
                  refine m_calli (n := 2) (rest := []) B hM hA hl.1 (k_fails l D dA h0 ad (up f [(8, y10_8), (9, y10_9), (7, y10_7), (10, y10_10), (5, y10_5), (6, y10_6), (63, y10_63)]) (up g [(11, y10_11)]) (up A [(30, y10_30), (31, y10_31)]) L 4 y10_8 (by omega) (by omega) ) rfl ok_fails nm_fails ⟨rfl, rfl⟩ ⟨Nat.le_of_ble_eq_true rfl, Nat.le_of_ble_eq_true rfl⟩ dX12_readSteps_386 rfl rfl (Nat.le_of_ble_eq_true rfl) ⟨Nat.zero_le _, Nat.zero_le _⟩ (fun r153 σr153 H locs ir153 hp154 hM => ?_)
                  obtain ⟨x155, x156, rfl, hp154⟩ := hp154
                  unfold inr at ir153
                  replace hp154 : r153 = 0 ∧ ((y10_5) ≠ 0 → (x155) = (y10_5)) ∧ ((y10_5) = 0 → (x155) = (4)) := hp154
                  obtain ⟨hp154_0, hp154_1, hp154_2⟩ := hp154
                  simp only [up_up] at hM
                  replace hM : MWd D dA h0 ad (mF dA h0 ad (f, g, A, L) s.heap.size) s.heap ((up f [(8, y10_8), (9, y10_9), (7, y10_7), (10, y10_10), (5, x155), (6, x156), (63, y10_63)]), (up g [(11, y10_11)]), (up A [(30, y10_30), (31, y10_31)]), L) H locs := hM
                  have r157 : (-2147483648 : Int) ≤ x155 ∧ x155 ≤ 2147483647 := hM.2.2.2.1 5
                  have r158 : (-2147483648 : Int) ≤ x156 ∧ x156 ≤ 2147483647 := hM.2.2.2.1 6
                  refine lv_pop B.1 B.2.1 dX12_readSteps_389 rfl ?_
                  refine lv_iload_n B.1 B.2.1 dX12_readSteps_390 rfl (lv_at hl 2 rfl) ?_
                  subst hPST
                  exact m_iret B hM dX12_readSteps_391 (by unfold inr; omega) ⟨y10_8, y10_9, y10_7, y10_10, x155, x156, y10_63, y10_11, y10_30, y10_31, rfl, by (refine ⟨by omega, by omega, by omega, by omega, by omega, by omega, ?_, by first | assumption | exact FrS_wr (by assumption) (by omega) (by omega) (by omega)⟩; first | exact SegP_bad (by omega) | (intro hq; exact ⟨by omega, by omega, by omega, (hLL10_12 (by omega)).2.1.2⟩))⟩
                · refine lv_aload_n B.1 B.2.1 dX12_readSteps_372 rfl (lv_at hl 0 rfl) ?_
                  refine m_get (k := 63) (v := y10_63) B hM (by decide) rfl fl449 dX12_readSteps_373 rfl ?_
                  refine lv_iload_n B.1 B.2.1 dX12_readSteps_376 rfl (lv_at hl 2 rfl) ?_
                  refine q_ceq (tgt := 390) B dX12_readSteps_377 (by decide) (by unfold inr; omega) (by unfold inr; omega) (fun c159 => ?_) (fun c159 => ?_)
                  · refine lv_iload_n B.1 B.2.1 dX12_readSteps_390 rfl (lv_at hl 2 rfl) ?_
                    subst hPST
                    exact m_iret B hM dX12_readSteps_391 (by unfold inr; omega) ⟨y10_8, y10_9, y10_7, y10_10, y10_5, y10_6, y10_63, y10_11, y10_30, y10_31, rfl, by (refine ⟨by omega, by omega, by omega, by omega, by omega, by omega, ?_, by first | assumption | exact FrS_wr (by assumption) (by omega) (by omega) (by omega)⟩; first | exact SegP_bad (by omega) | (intro hq; exact ⟨by omega, by omega, by omega, (hLL10_12 (by omega)).2.1.2⟩))⟩
                  · refine lv_aload_n B.1 B.2.1 dX12_readSteps_380 rfl (lv_at hl 0 rfl) ?_
                    refine q_con B dX12_readSteps_381 ?_
                    refine lv_aload_n B.1 B.2.1 dX12_readSteps_382 rfl (lv_at hl 0 rfl) ?_
                    refine m_get (k := 8) (v := y10_8) B hM (by decide) rfl fl59 dX12_readSteps_383 rfl ?_
                    refine m_calli (n := 2) (rest := []) B hM hA hl.1 (k_fails l D dA h0 ad (up f [(8, y10_8), (9, y10_9), (7, y10_7), (10, y10_10), (5, y10_5), (6, y10_6), (63, y10_63)]) (up g [(11, y10_11)]) (up A [(30, y10_30), (31, y10_31)]) L 4 y10_8 (by omega) (by omega) ) rfl ok_fails nm_fails ⟨rfl, rfl⟩ ⟨Nat.le_of_ble_eq_true rfl, Nat.le_of_ble_eq_true rfl⟩ dX12_readSteps_386 rfl rfl (Nat.le_of_ble_eq_true rfl) ⟨Nat.zero_le _, Nat.zero_le _⟩ (fun r160 σr160 H locs ir160 hp161 hM => ?_)
                    obtain ⟨x162, x163, rfl, hp161⟩ := hp161
                    unfold inr at ir160
                    replace hp161 : r160 = 0 ∧ ((y10_5) ≠ 0 → (x162) = (y10_5)) ∧ ((y10_5) = 0 → (x162) = (4)) := hp161
                    obtain ⟨hp161_0, hp161_1, hp161_2⟩ := hp161
                    simp only [up_up] at hM
                    replace hM : MWd D dA h0 ad (mF dA h0 ad (f, g, A, L) s.heap.size) s.heap ((up f [(8, y10_8), (9, y10_9), (7, y10_7), (10, y10_10), (5, x162), (6, x163), (63, y10_63)]), (up g [(11, y10_11)]), (up A [(30, y10_30), (31, y10_31)]), L) H locs := hM
                    have r164 : (-2147483648 : Int) ≤ x162 ∧ x162 ≤ 2147483647 := hM.2.2.2.1 5
                    have r165 : (-2147483648 : Int) ≤ x163 ∧ x163 ≤ 2147483647 := hM.2.2.2.1 6
                    refine lv_pop B.1 B.2.1 dX12_readSteps_389 rfl ?_
                    refine lv_iload_n B.1 B.2.1 dX12_readSteps_390 rfl (lv_at hl 2 rfl) ?_
                    subst hPST
                    exact m_iret B hM dX12_readSteps_391 (by unfold inr; omega) ⟨y10_8, y10_9, y10_7, y10_10, x162, x163, y10_63, y10_11, y10_30, y10_31, rfl, by (refine ⟨by omega, by omega, by omega, by omega, by omega, by omega, ?_, by first | assumption | exact FrS_wr (by assumption) (by omega) (by omega) (by omega)⟩; first | exact SegP_bad (by omega) | (intro hq; exact ⟨by omega, by omega, by omega, (hLL10_12 (by omega)).2.1.2⟩))⟩
      · refine lv_aload_n B.1 B.2.1 dX12_readSteps_15 rfl (lv_at hl 0 rfl) ?_
        refine m_calli (n := 0) (rest := []) B hM hA hl.1 (k_isGood l D dA h0 ad (up f [(8, y10_8), (9, y10_9), (7, y10_7), (10, y10_10), (5, y10_5), (6, y10_6), (63, y10_63)]) (up g [(11, y10_11)]) (up A [(30, y10_30), (31, y10_31)]) L   ) rfl ok_isGood nm_isGood ⟨rfl, rfl⟩ ⟨Nat.le_of_ble_eq_true rfl, Nat.le_of_ble_eq_true rfl⟩ dX12_readSteps_16 rfl rfl (Nat.le_of_ble_eq_true rfl) ⟨Nat.zero_le _, Nat.zero_le _⟩ (fun r166 σr166 H locs ir166 hp167 hM => ?_)
        obtain ⟨rfl, hp167⟩ := hp167
        unfold inr at ir166
        replace hp167 : 0 ≤ r166 ∧ r166 ≤ 1 ∧ (r166 = 1 ↔ (y10_5) = 0) := hp167
        obtain ⟨hp167_0, hp167_1, hp167_2⟩ := hp167
        refine q_ieq (tgt := 331) B dX12_readSteps_19 (by decide) (by unfold inr; omega) (fun c168 => ?_) (fun c168 => ?_)
        · refine lv_aload_n B.1 B.2.1 dX12_readSteps_331 rfl (lv_at hl 0 rfl) ?_
          refine m_calli (n := 0) (rest := []) B hM hA hl.1 (k_isGood l D dA h0 ad (up f [(8, y10_8), (9, y10_9), (7, y10_7), (10, y10_10), (5, y10_5), (6, y10_6), (63, y10_63)]) (up g [(11, y10_11)]) (up A [(30, y10_30), (31, y10_31)]) L   ) rfl ok_isGood nm_isGood ⟨rfl, rfl⟩ ⟨Nat.le_of_ble_eq_true rfl, Nat.le_of_ble_eq_true rfl⟩ dX12_readSteps_332 rfl rfl (Nat.le_of_ble_eq_true rfl) ⟨Nat.zero_le _, Nat.zero_le _⟩ (fun r169 σr169 H locs ir169 hp170 hM => ?_)
          obtain ⟨rfl, hp170⟩ := hp170
          unfold inr at ir169
          replace hp170 : 0 ≤ r169 ∧ r169 ≤ 1 ∧ (r169 = 1 ↔ (y10_5) = 0) := hp170
          obtain ⟨hp170_0, hp170_1, hp170_2⟩ := hp170
          refine q_ieq (tgt := 390) B dX12_readSteps_335 (by decide) (by unfold inr; omega) (fun c171 => ?_) (fun c171 => ?_)
          · refine lv_iload_n B.1 B.2.1 dX12_readSteps_390 rfl (lv_at hl 2 rfl) ?_
            subst hPST
            exact m_iret B hM dX12_readSteps_391 (by unfold inr; omega) ⟨y10_8, y10_9, y10_7, y10_10, y10_5, y10_6, y10_63, y10_11, y10_30, y10_31, rfl, by (refine ⟨by omega, by omega, by omega, by omega, by omega, by omega, ?_, by first | assumption | exact FrS_wr (by assumption) (by omega) (by omega) (by omega)⟩; first | exact SegP_bad (by omega) | (intro hq; exact ⟨by omega, by omega, by omega, (hLL10_12 (by omega)).2.1.2⟩))⟩
          · refine lv_iload_n B.1 B.2.1 dX12_readSteps_338 rfl (lv_at hl 1 rfl) ?_
            refine q_ieq (tgt := 354) B dX12_readSteps_339 (by decide) (by unfold inr; omega) (fun c172 => ?_) (fun c172 => ?_)
            · refine lv_aload_n B.1 B.2.1 dX12_readSteps_354 rfl (lv_at hl 0 rfl) ?_
              refine q_bip B dX12_readSteps_355 (by decide) ?_
              refine m_calli (n := 1) (rest := []) B hM hA hl.1 (k_isSign l D dA h0 ad (up f [(8, y10_8), (9, y10_9), (7, y10_7), (10, y10_10), (5, y10_5), (6, y10_6), (63, y10_63)]) (up g [(11, y10_11)]) (up A [(30, y10_30), (31, y10_31)]) L 59 (by omega) (show (0 ≤ (y10_8) ∧ (y10_8) ≤ (f 4) ∧ (y10_8) ≤ (y10_9) ∧ (y10_9) ≤ (f 4) + 1 ∧ ((y10_7) = 0 ↔ (y10_8) = (f 4)) ∧ (2 ≤ (y10_7) → (y10_8) < (y10_9) ∧ (y10_9) ≤ (f 4)) ∧ ((y10_7) = 5 → (y10_8) + 2 ≤ (y10_9) ∧ (y10_9) ≤ (y10_8) + 32)) from by first | omega | (simp only [wr_at]; omega) | assumption)) rfl ok_isSign nm_isSign ⟨rfl, rfl⟩ ⟨Nat.le_of_ble_eq_true rfl, Nat.le_of_ble_eq_true rfl⟩ dX12_readSteps_357 rfl rfl (Nat.le_of_ble_eq_true rfl) ⟨Nat.zero_le _, Nat.zero_le _⟩ (fun r173 σr173 H locs ir173 hp174 hM => ?_)
              obtain ⟨rfl, hp174⟩ := hp174
              unfold inr at ir173
              replace hp174 : 0 ≤ r173 ∧ r173 ≤ 1 ∧ (r173 = 1 ↔ (y10_7) = 6 ∧ sgn ((A 2)) (f 3) (f 4) (y10_8) = (59)) := hp174
              obtain ⟨hp174_0, hp174_1, hp174_2⟩ := hp174
              refine q_ieq (tgt := 390) B dX12_readSteps_360 (by decide) (by unfold inr; omega) (fun c175 => ?_) (fun c175 => ?_)
              · refine lv_iload_n B.1 B.2.1 dX12_readSteps_390 rfl (lv_at hl 2 rfl) ?_
                subst hPST
                exact m_iret B hM dX12_readSteps_391 (by unfold inr; omega) ⟨y10_8, y10_9, y10_7, y10_10, y10_5, y10_6, y10_63, y10_11, y10_30, y10_31, rfl, by (refine ⟨by omega, by omega, by omega, by omega, by omega, by omega, ?_, by first | assumption | exact FrS_wr (by assumption) (by omega) (by omega) (by omega)⟩; first | exact SegP_bad (by omega) | (intro hq; exact ⟨by omega, by omega, by omega, (hLL10_12 (by omega)).2.1.2⟩))⟩
              · refine lv_iload_n B.1 B.2.1 dX12_readSteps_363 rfl (lv_at hl 3 rfl) ?_
                refine q_con B dX12_readSteps_364 ?_
                refine q_ceq (tgt := 390) B dX12_readSteps_365 (by decide) (by unfold inr; omega) (by unfold inr; omega) (fun c176 => ?_) (fun c176 => ?_)
                · refine lv_iload_n B.1 B.2.1 dX12_readSteps_390 rfl (lv_at hl 2 rfl) ?_
                  subst hPST
                  exact m_iret B hM dX12_readSteps_391 (by unfold inr; omega) ⟨y10_8, y10_9, y10_7, y10_10, y10_5, y10_6, y10_63, y10_11, y10_30, y10_31, rfl, by (refine ⟨by omega, by omega, by omega, by omega, by omega, by omega, ?_, by first | assumption | exact FrS_wr (by assumption) (by omega) (by omega) (by omega)⟩; first | exact SegP_bad (by omega) | (intro hq; exact ⟨by omega, by omega, by omega, (hLL10_12 (by omega)).2.1.2⟩))⟩
                · refine lv_iload_n B.1 B.2.1 dX12_readSteps_368 rfl (lv_at hl 1 rfl) ?_
                  refine q_ieq (tgt := 380) B dX12_readSteps_369 (by decide) (by unfold inr; omega) (fun c177 => ?_) (fun c177 => ?_)
                  · refine lv_aload_n B.1 B.2.1 dX12_readSteps_380 rfl (lv_at hl 0 rfl) ?_
                    refine q_con B dX12_readSteps_381 ?_
                    refine lv_aload_n B.1 B.2.1 dX12_readSteps_382 rfl (lv_at hl 0 rfl) ?_
                    refine m_get (k := 8) (v := y10_8) B hM (by decide) rfl fl59 dX12_readSteps_383 rfl ?_
                    refine m_calli (n := 2) (rest := []) B hM hA hl.1 (k_fails l D dA h0 ad (up f [(8, y10_8), (9, y10_9), (7, y10_7), (10, y10_10), (5, y10_5), (6, y10_6), (63, y10_63)]) (up g [(11, y10_11)]) (up A [(30, y10_30), (31, y10_31)]) L 4 y10_8 (by omega) (by omega) ) rfl ok_fails nm_fails ⟨rfl, rfl⟩ ⟨Nat.le_of_ble_eq_true rfl, Nat.le_of_ble_eq_true rfl⟩ dX12_readSteps_386 rfl rfl (Nat.le_of_ble_eq_true rfl) ⟨Nat.zero_le _, Nat.zero_le _⟩ (fun r178 σr178 H locs ir178 hp179 hM => ?_)
                    obtain ⟨x180, x181, rfl, hp179⟩ := hp179
                    unfold inr at ir178
                    replace hp179 : r178 = 0 ∧ ((y10_5) ≠ 0 → (x180) = (y10_5)) ∧ ((y10_5) = 0 → (x180) = (4)) := hp179
                    obtain ⟨hp179_0, hp179_1, hp179_2⟩ := hp179
                    simp only [up_up] at hM
                    replace hM : MWd D dA h0 ad (mF dA h0 ad (f, g, A, L) s.heap.size) s.heap ((up f [(8, y10_8), (9, y10_9), (7, y10_7), (10, y10_10), (5, x180), (6, x181), (63, y10_63)]), (up g [(11, y10_11)]), (up A [(30, y10_30), (31, y10_31)]), L) H locs := hM
                    have r182 : (-2147483648 : Int) ≤ x180 ∧ x180 ≤ 2147483647 := hM.2.2.2.1 5
                    have r183 : (-2147483648 : Int) ≤ x181 ∧ x181 ≤ 2147483647 := hM.2.2.2.1 6
                    refine lv_pop B.1 B.2.1 dX12_readSteps_389 rfl ?_
                    refine lv_iload_n B.1 B.2.1 dX12_readSteps_390 rfl (lv_at hl 2 rfl) ?_
                    subst hPST
                    exact m_iret B hM dX12_readSteps_391 (by unfold inr; omega) ⟨y10_8, y10_9, y10_7, y10_10, x180, x181, y10_63, y10_11, y10_30, y10_31, rfl, by (refine ⟨by omega, by omega, by omega, by omega, by omega, by omega, ?_, by first | assumption | exact FrS_wr (by assumption) (by omega) (by omega) (by omega)⟩; first | exact SegP_bad (by omega) | (intro hq; exact ⟨by omega, by omega, by omega, (hLL10_12 (by omega)).2.1.2⟩))⟩
                  · refine lv_aload_n B.1 B.2.1 dX12_readSteps_372 rfl (lv_at hl 0 rfl) ?_
                    refine m_get (k := 63) (v := y10_63) B hM (by decide) rfl fl449 dX12_readSteps_373 rfl ?_
                    refine lv_iload_n B.1 B.2.1 dX12_readSteps_376 rfl (lv_at hl 2 rfl) ?_
                    refine q_ceq (tgt := 390) B dX12_readSteps_377 (by decide) (by unfold inr; omega) (by unfold inr; omega) (fun c184 => ?_) (fun c184 => ?_)
                    · refine lv_iload_n B.1 B.2.1 dX12_readSteps_390 rfl (lv_at hl 2 rfl) ?_
                      subst hPST
                      exact m_iret B hM dX12_readSteps_391 (by unfold inr; omega) ⟨y10_8, y10_9, y10_7, y10_10, y10_5, y10_6, y10_63, y10_11, y10_30, y10_31, rfl, by (refine ⟨by omega, by omega, by omega, by omega, by omega, by omega, ?_, by first | assumption | exact FrS_wr (by assumption) (by omega) (by omega) (by omega)⟩; first | exact SegP_bad (by omega) | (intro hq; exact ⟨by omega, by omega, by omega, (hLL10_12 (by omega)).2.1.2⟩))⟩
                    · refine lv_aload_n B.1 B.2.1 dX12_readSteps_380 rfl (lv_at hl 0 rfl) ?_
                      refine q_con B dX12_readSteps_381 ?_
                      refine lv_aload_n B.1 B.2.1 dX12_readSteps_382 rfl (lv_at hl 0 rfl) ?_
                      refine m_get (k := 8) (v := y10_8) B hM (by decide) rfl fl59 dX12_readSteps_383 rfl ?_
                      refine m_calli (n := 2) (rest := []) B hM hA hl.1 (k_fails l D dA h0 ad (up f [(8, y10_8), (9, y10_9), (7, y10_7), (10, y10_10), (5, y10_5), (6, y10_6), (63, y10_63)]) (up g [(11, y10_11)]) (up A [(30, y10_30), (31, y10_31)]) L 4 y10_8 (by omega) (by omega) ) rfl ok_fails nm_fails ⟨rfl, rfl⟩ ⟨Nat.le_of_ble_eq_true rfl, Nat.le_of_ble_eq_true rfl⟩ dX12_readSteps_386 rfl rfl (Nat.le_of_ble_eq_true rfl) ⟨Nat.zero_le _, Nat.zero_le _⟩ (fun r185 σr185 H locs ir185 hp186 hM => ?_)
                      obtain ⟨x187, x188, rfl, hp186⟩ := hp186
                      unfold inr at ir185
                      replace hp186 : r185 = 0 ∧ ((y10_5) ≠ 0 → (x187) = (y10_5)) ∧ ((y10_5) = 0 → (x187) = (4)) := hp186
                      obtain ⟨hp186_0, hp186_1, hp186_2⟩ := hp186
                      simp only [up_up] at hM
                      replace hM : MWd D dA h0 ad (mF dA h0 ad (f, g, A, L) s.heap.size) s.heap ((up f [(8, y10_8), (9, y10_9), (7, y10_7), (10, y10_10), (5, x187), (6, x188), (63, y10_63)]), (up g [(11, y10_11)]), (up A [(30, y10_30), (31, y10_31)]), L) H locs := hM
                      have r189 : (-2147483648 : Int) ≤ x187 ∧ x187 ≤ 2147483647 := hM.2.2.2.1 5
                      have r190 : (-2147483648 : Int) ≤ x188 ∧ x188 ≤ 2147483647 := hM.2.2.2.1 6
                      refine lv_pop B.1 B.2.1 dX12_readSteps_389 rfl ?_
                      refine lv_iload_n B.1 B.2.1 dX12_readSteps_390 rfl (lv_at hl 2 rfl) ?_
                      subst hPST
                      exact m_iret B hM dX12_readSteps_391 (by unfold inr; omega) ⟨y10_8, y10_9, y10_7, y10_10, x187, x188, y10_63, y10_11, y10_30, y10_31, rfl, by (refine ⟨by omega, by omega, by omega, by omega, by omega, by omega, ?_, by first | assumption | exact FrS_wr (by assumption) (by omega) (by omega) (by omega)⟩; first | exact SegP_bad (by omega) | (intro hq; exact ⟨by omega, by omega, by omega, (hLL10_12 (by omega)).2.1.2⟩))⟩
            · refine lv_aload_n B.1 B.2.1 dX12_readSteps_342 rfl (lv_at hl 0 rfl) ?_
              refine q_bip B dX12_readSteps_343 (by decide) ?_
              refine m_calli (n := 1) (rest := []) B hM hA hl.1 (k_isSign l D dA h0 ad (up f [(8, y10_8), (9, y10_9), (7, y10_7), (10, y10_10), (5, y10_5), (6, y10_6), (63, y10_63)]) (up g [(11, y10_11)]) (up A [(30, y10_30), (31, y10_31)]) L 61 (by omega) (show (0 ≤ (y10_8) ∧ (y10_8) ≤ (f 4) ∧ (y10_8) ≤ (y10_9) ∧ (y10_9) ≤ (f 4) + 1 ∧ ((y10_7) = 0 ↔ (y10_8) = (f 4)) ∧ (2 ≤ (y10_7) → (y10_8) < (y10_9) ∧ (y10_9) ≤ (f 4)) ∧ ((y10_7) = 5 → (y10_8) + 2 ≤ (y10_9) ∧ (y10_9) ≤ (y10_8) + 32)) from by first | omega | (simp only [wr_at]; omega) | assumption)) rfl ok_isSign nm_isSign ⟨rfl, rfl⟩ ⟨Nat.le_of_ble_eq_true rfl, Nat.le_of_ble_eq_true rfl⟩ dX12_readSteps_345 rfl rfl (Nat.le_of_ble_eq_true rfl) ⟨Nat.zero_le _, Nat.zero_le _⟩ (fun r191 σr191 H locs ir191 hp192 hM => ?_)
              obtain ⟨rfl, hp192⟩ := hp192
              unfold inr at ir191
              replace hp192 : 0 ≤ r191 ∧ r191 ≤ 1 ∧ (r191 = 1 ↔ (y10_7) = 6 ∧ sgn ((A 2)) (f 3) (f 4) (y10_8) = (61)) := hp192
              obtain ⟨hp192_0, hp192_1, hp192_2⟩ := hp192
              refine q_ieq (tgt := 390) B dX12_readSteps_348 (by decide) (by unfold inr; omega) (fun c193 => ?_) (fun c193 => ?_)
              · refine lv_iload_n B.1 B.2.1 dX12_readSteps_390 rfl (lv_at hl 2 rfl) ?_
                subst hPST
                exact m_iret B hM dX12_readSteps_391 (by unfold inr; omega) ⟨y10_8, y10_9, y10_7, y10_10, y10_5, y10_6, y10_63, y10_11, y10_30, y10_31, rfl, by (refine ⟨by omega, by omega, by omega, by omega, by omega, by omega, ?_, by first | assumption | exact FrS_wr (by assumption) (by omega) (by omega) (by omega)⟩; first | exact SegP_bad (by omega) | (intro hq; exact ⟨by omega, by omega, by omega, (hLL10_12 (by omega)).2.1.2⟩))⟩
              · refine lv_goto (tgt := 363) B.1 B.2.1 dX12_readSteps_351 (by decide) ?_
                refine lv_iload_n B.1 B.2.1 dX12_readSteps_363 rfl (lv_at hl 3 rfl) ?_
                refine q_con B dX12_readSteps_364 ?_
                refine q_ceq (tgt := 390) B dX12_readSteps_365 (by decide) (by unfold inr; omega) (by unfold inr; omega) (fun c194 => ?_) (fun c194 => ?_)
                · refine lv_iload_n B.1 B.2.1 dX12_readSteps_390 rfl (lv_at hl 2 rfl) ?_
                  subst hPST
                  exact m_iret B hM dX12_readSteps_391 (by unfold inr; omega) ⟨y10_8, y10_9, y10_7, y10_10, y10_5, y10_6, y10_63, y10_11, y10_30, y10_31, rfl, by (refine ⟨by omega, by omega, by omega, by omega, by omega, by omega, ?_, by first | assumption | exact FrS_wr (by assumption) (by omega) (by omega) (by omega)⟩; first | exact SegP_bad (by omega) | (intro hq; exact ⟨by omega, by omega, by omega, (hLL10_12 (by omega)).2.1.2⟩))⟩
                · refine lv_iload_n B.1 B.2.1 dX12_readSteps_368 rfl (lv_at hl 1 rfl) ?_
                  refine q_ieq (tgt := 380) B dX12_readSteps_369 (by decide) (by unfold inr; omega) (fun c195 => ?_) (fun c195 => ?_)
                  · refine lv_aload_n B.1 B.2.1 dX12_readSteps_380 rfl (lv_at hl 0 rfl) ?_
                    refine q_con B dX12_readSteps_381 ?_
                    refine lv_aload_n B.1 B.2.1 dX12_readSteps_382 rfl (lv_at hl 0 rfl) ?_
                    refine m_get (k := 8) (v := y10_8) B hM (by decide) rfl fl59 dX12_readSteps_383 rfl ?_
                    refine m_calli (n := 2) (rest := []) B hM hA hl.1 (k_fails l D dA h0 ad (up f [(8, y10_8), (9, y10_9), (7, y10_7), (10, y10_10), (5, y10_5), (6, y10_6), (63, y10_63)]) (up g [(11, y10_11)]) (up A [(30, y10_30), (31, y10_31)]) L 4 y10_8 (by omega) (by omega) ) rfl ok_fails nm_fails ⟨rfl, rfl⟩ ⟨Nat.le_of_ble_eq_true rfl, Nat.le_of_ble_eq_true rfl⟩ dX12_readSteps_386 rfl rfl (Nat.le_of_ble_eq_true rfl) ⟨Nat.zero_le _, Nat.zero_le _⟩ (fun r196 σr196 H locs ir196 hp197 hM => ?_)
                    obtain ⟨x198, x199, rfl, hp197⟩ := hp197
                    unfold inr at ir196
                    replace hp197 : r196 = 0 ∧ ((y10_5) ≠ 0 → (x198) = (y10_5)) ∧ ((y10_5) = 0 → (x198) = (4)) := hp197
                    obtain ⟨hp197_0, hp197_1, hp197_2⟩ := hp197
                    simp only [up_up] at hM
                    replace hM : MWd D dA h0 ad (mF dA h0 ad (f, g, A, L) s.heap.size) s.heap ((up f [(8, y10_8), (9, y10_9), (7, y10_7), (10, y10_10), (5, x198), (6, x199), (63, y10_63)]), (up g [(11, y10_11)]), (up A [(30, y10_30), (31, y10_31)]), L) H locs := hM
                    have r200 : (-2147483648 : Int) ≤ x198 ∧ x198 ≤ 2147483647 := hM.2.2.2.1 5
                    have r201 : (-2147483648 : Int) ≤ x199 ∧ x199 ≤ 2147483647 := hM.2.2.2.1 6
                    refine lv_pop B.1 B.2.1 dX12_readSteps_389 rfl ?_
                    refine lv_iload_n B.1 B.2.1 dX12_readSteps_390 rfl (lv_at hl 2 rfl) ?_
                    subst hPST
                    exact m_iret B hM dX12_readSteps_391 (by unfold inr; omega) ⟨y10_8, y10_9, y10_7, y10_10, x198, x199, y10_63, y10_11, y10_30, y10_31, rfl, by (refine ⟨by omega, by omega, by omega, by omega, by omega, by omega, ?_, by first | assumption | exact FrS_wr (by assumption) (by omega) (by omega) (by omega)⟩; first | exact SegP_bad (by omega) | (intro hq; exact ⟨by omega, by omega, by omega, (hLL10_12 (by omega)).2.1.2⟩))⟩
                  · refine lv_aload_n B.1 B.2.1 dX12_readSteps_372 rfl (lv_at hl 0 rfl) ?_
                    refine m_get (k := 63) (v := y10_63) B hM (by decide) rfl fl449 dX12_readSteps_373 rfl ?_
                    refine lv_iload_n B.1 B.2.1 dX12_readSteps_376 rfl (lv_at hl 2 rfl) ?_
                    refine q_ceq (tgt := 390) B dX12_readSteps_377 (by decide) (by unfold inr; omega) (by unfold inr; omega) (fun c202 => ?_) (fun c202 => ?_)
                    · refine lv_iload_n B.1 B.2.1 dX12_readSteps_390 rfl (lv_at hl 2 rfl) ?_
                      subst hPST
                      exact m_iret B hM dX12_readSteps_391 (by unfold inr; omega) ⟨y10_8, y10_9, y10_7, y10_10, y10_5, y10_6, y10_63, y10_11, y10_30, y10_31, rfl, by (refine ⟨by omega, by omega, by omega, by omega, by omega, by omega, ?_, by first | assumption | exact FrS_wr (by assumption) (by omega) (by omega) (by omega)⟩; first | exact SegP_bad (by omega) | (intro hq; exact ⟨by omega, by omega, by omega, (hLL10_12 (by omega)).2.1.2⟩))⟩
                    · refine lv_aload_n B.1 B.2.1 dX12_readSteps_380 rfl (lv_at hl 0 rfl) ?_
                      refine q_con B dX12_readSteps_381 ?_
                      refine lv_aload_n B.1 B.2.1 dX12_readSteps_382 rfl (lv_at hl 0 rfl) ?_
                      refine m_get (k := 8) (v := y10_8) B hM (by decide) rfl fl59 dX12_readSteps_383 rfl ?_
                      refine m_calli (n := 2) (rest := []) B hM hA hl.1 (k_fails l D dA h0 ad (up f [(8, y10_8), (9, y10_9), (7, y10_7), (10, y10_10), (5, y10_5), (6, y10_6), (63, y10_63)]) (up g [(11, y10_11)]) (up A [(30, y10_30), (31, y10_31)]) L 4 y10_8 (by omega) (by omega) ) rfl ok_fails nm_fails ⟨rfl, rfl⟩ ⟨Nat.le_of_ble_eq_true rfl, Nat.le_of_ble_eq_true rfl⟩ dX12_readSteps_386 rfl rfl (Nat.le_of_ble_eq_true rfl) ⟨Nat.zero_le _, Nat.zero_le _⟩ (fun r203 σr203 H locs ir203 hp204 hM => ?_)
                      obtain ⟨x205, x206, rfl, hp204⟩ := hp204
                      unfold inr at ir203
                      replace hp204 : r203 = 0 ∧ ((y10_5) ≠ 0 → (x205) = (y10_5)) ∧ ((y10_5) = 0 → (x205) = (4)) := hp204
                      obtain ⟨hp204_0, hp204_1, hp204_2⟩ := hp204
                      simp only [up_up] at hM
                      replace hM : MWd D dA h0 ad (mF dA h0 ad (f, g, A, L) s.heap.size) s.heap ((up f [(8, y10_8), (9, y10_9), (7, y10_7), (10, y10_10), (5, x205), (6, x206), (63, y10_63)]), (up g [(11, y10_11)]), (up A [(30, y10_30), (31, y10_31)]), L) H locs := hM
                      have r207 : (-2147483648 : Int) ≤ x205 ∧ x205 ≤ 2147483647 := hM.2.2.2.1 5
                      have r208 : (-2147483648 : Int) ≤ x206 ∧ x206 ≤ 2147483647 := hM.2.2.2.1 6
                      refine lv_pop B.1 B.2.1 dX12_readSteps_389 rfl ?_
                      refine lv_iload_n B.1 B.2.1 dX12_readSteps_390 rfl (lv_at hl 2 rfl) ?_
                      subst hPST
                      exact m_iret B hM dX12_readSteps_391 (by unfold inr; omega) ⟨y10_8, y10_9, y10_7, y10_10, x205, x206, y10_63, y10_11, y10_30, y10_31, rfl, by (refine ⟨by omega, by omega, by omega, by omega, by omega, by omega, ?_, by first | assumption | exact FrS_wr (by assumption) (by omega) (by omega) (by omega)⟩; first | exact SegP_bad (by omega) | (intro hq; exact ⟨by omega, by omega, by omega, (hLL10_12 (by omega)).2.1.2⟩))⟩
        · refine lv_aload_n B.1 B.2.1 dX12_readSteps_22 rfl (lv_at hl 0 rfl) ?_
          refine lv_iload_n B.1 B.2.1 dX12_readSteps_23 rfl (lv_at hl 1 rfl) ?_
          refine m_calli (n := 1) (rest := []) B hM hA hl.1 (k_isStep l D dA h0 ad (up f [(8, y10_8), (9, y10_9), (7, y10_7), (10, y10_10), (5, y10_5), (6, y10_6), (63, y10_63)]) (up g [(11, y10_11)]) (up A [(30, y10_30), (31, y10_31)]) L a_starts (by omega) (show (0 ≤ (y10_8) ∧ (y10_8) ≤ (f 4) ∧ (y10_8) ≤ (y10_9) ∧ (y10_9) ≤ (f 4) + 1 ∧ ((y10_7) = 0 ↔ (y10_8) = (f 4)) ∧ (2 ≤ (y10_7) → (y10_8) < (y10_9) ∧ (y10_9) ≤ (f 4)) ∧ ((y10_7) = 5 → (y10_8) + 2 ≤ (y10_9) ∧ (y10_9) ≤ (y10_8) + 32)) from by first | omega | (simp only [wr_at]; omega) | assumption)) rfl ok_isStep nm_isStep ⟨rfl, rfl⟩ ⟨Nat.le_of_ble_eq_true rfl, Nat.le_of_ble_eq_true rfl⟩ dX12_readSteps_24 rfl rfl (Nat.le_of_ble_eq_true rfl) ⟨Nat.zero_le _, Nat.zero_le _⟩ (fun r209 σr209 H locs ir209 hp210 hM => ?_)
          obtain ⟨rfl, hp210⟩ := hp210
          unfold inr at ir209
          replace hp210 : 0 ≤ r209 ∧ r209 ≤ 1 ∧ (r209 = 1 → 2 ≤ (y10_7)) := hp210
          obtain ⟨hp210_0, hp210_1, hp210_2⟩ := hp210
          refine lv_istore (lv' := [(4, .int (II r209)), (0, .ref h0), (1, .int (II a_starts)), (2, .int (II v10_2)), (3, .int (II v10_3))]) B.1 B.2.1 dX12_readSteps_27 hl (by decide) rfl (fun ls hl => ?_)
          refine lv_iload B.1 B.2.1 dX12_readSteps_29 (lv_at hl 0 rfl) ?_
          refine q_ine (tgt := 37) B dX12_readSteps_31 (by decide) (by unfold inr; omega) (fun c211 => ?_) (fun c211 => ?_)
          · refine lv_aload_n B.1 B.2.1 dX12_readSteps_37 rfl (lv_at hl 1 rfl) ?_
            refine m_get (k := 8) (v := y10_8) B hM (by decide) rfl fl59 dX12_readSteps_38 rfl ?_
            refine lv_istore (lv' := [(5, .int (II y10_8)), (4, .int (II r209)), (0, .ref h0), (1, .int (II a_starts)), (2, .int (II v10_2)), (3, .int (II v10_3))]) B.1 B.2.1 dX12_readSteps_41 hl (by decide) rfl (fun ls hl => ?_)
            refine lv_aload_n B.1 B.2.1 dX12_readSteps_43 rfl (lv_at hl 2 rfl) ?_
            refine m_get (k := 63) (v := y10_63) B hM (by decide) rfl fl449 dX12_readSteps_44 rfl ?_
            refine lv_iload_n B.1 B.2.1 dX12_readSteps_47 rfl (lv_at hl 4 rfl) ?_
            refine q_sub B dX12_readSteps_48 ?_
            refine q_bip B dX12_readSteps_49 (by decide) ?_
            refine q_cne (tgt := 58) B dX12_readSteps_51 (by decide) (by unfold inr; omega) (by unfold inr; omega) (fun c212 => ?_) (fun c212 => ?_)
            · exact JJ58 v10_2 v10_3 r209 y10_8 y10_5 y10_6 y10_11 _ _ ls hM (lv_sub hl [2, 3, 4, 5, 1, 0] rfl) (by omega) (by omega) (by omega) (by omega) (by first | omega | (simp only [wr_at]; omega) | assumption) (by first | omega | (simp only [wr_at]; omega) | assumption) (by first | omega | (simp only [wr_at]; omega) | assumption) (by first | omega | (simp only [wr_at]; omega) | assumption) (by first | omega | (simp only [wr_at]; omega) | assumption) (by first | omega | (simp only [wr_at]; omega) | assumption)
            · refine lv_aload_n B.1 B.2.1 dX12_readSteps_54 rfl (lv_at hl 2 rfl) ?_
              refine m_callv (n := 0) (rest := []) B hM hA hl.1 (k_wrong2 l D dA h0 ad (up f [(8, y10_8), (9, y10_9), (7, y10_7), (10, y10_10), (5, y10_5), (6, y10_6), (63, y10_63)]) (up g [(11, y10_11)]) (up A [(30, y10_30), (31, y10_31)]) L   ) rfl ok_wrong2 nm_wrong2 ⟨rfl, rfl⟩ ⟨Nat.le_of_ble_eq_true rfl, Nat.le_of_ble_eq_true rfl⟩ dX12_readSteps_55 rfl rfl (Nat.le_of_ble_eq_true rfl) ⟨Nat.zero_le _, Nat.zero_le _⟩ (fun σr213 H locs hp214 hM => ?_)
              obtain ⟨x215, x216, rfl, hp214⟩ := hp214
              replace hp214 : (x215) ≠ 0 := hp214
              simp only [up_up] at hM
              replace hM : MWd D dA h0 ad (mF dA h0 ad (f, g, A, L) s.heap.size) s.heap ((up f [(8, y10_8), (9, y10_9), (7, y10_7), (10, y10_10), (5, x215), (6, x216), (63, y10_63)]), (up g [(11, y10_11)]), (up A [(30, y10_30), (31, y10_31)]), L) H locs := hM
              have r217 : (-2147483648 : Int) ≤ x215 ∧ x215 ≤ 2147483647 := hM.2.2.2.1 5
              have r218 : (-2147483648 : Int) ≤ x216 ∧ x216 ≤ 2147483647 := hM.2.2.2.1 6
              exact JJ58 v10_2 v10_3 r209 y10_8 x215 x216 y10_11 _ _ ls hM (lv_sub hl [2, 3, 4, 5, 1, 0] rfl) (by omega) (by omega) (by omega) (by omega) (by first | omega | (simp only [wr_at]; omega) | assumption) (by first | omega | (simp only [wr_at]; omega) | assumption) (by first | omega | (simp only [wr_at]; omega) | assumption) (by first | omega | (simp only [wr_at]; omega) | assumption) (by first | omega | (simp only [wr_at]; omega) | assumption) (by first | omega | (simp only [wr_at]; omega) | assumption)
          · refine lv_goto (tgt := 10) B.1 B.2.1 dX12_readSteps_34 (by decide) ?_
            exact IH10 v10_2 v10_3 r209 y10_8 y10_9 y10_7 y10_10 y10_5 y10_6 y10_63 y10_11 y10_30 y10_31 _ _ ls hM (lv_sub hl [1, 2, 3, 4, 0] rfl) (by omega) (by omega) (by omega) (by first | omega | (simp only [wr_at]; omega) | assumption) (by first | omega | (simp only [wr_at]; omega) | assumption) (by first | omega | (simp only [wr_at]; omega) | assumption) (by first | omega | (simp only [wr_at]; omega) | assumption) (by first | omega | (simp only [wr_at]; omega) | assumption) (by first | omega | (simp only [wr_at]; omega) | assumption) (by first | omega | (simp only [wr_at]; omega) | assumption) (by first | omega | (simp only [wr_at]; omega) | assumption) (by first | omega | (simp only [wr_at]; omega) | assumption) (by first | exact (fun _ => ⟨by omega, SpI_0, by omega, by omega⟩) | assumption | (intro hq; exfalso; omega) | (intro hq; have e1 := hJJ326_10; have hs := hLL10_12 (by omega); have hs1 := hs.2.2.1; have hs2 := hs.2.2.2; have hr := can_rng (hJJ326_13 hq) hJJ326_14 hs1 hs2; refine ⟨by omega, ?_, by omega, by omega⟩; rw [e1]; exact SpI_push hs.2.1 (by omega) (by omega) (by omega) (hJJ326_13 hq) hJJ326_14)) (by first | exact FrS_rfl | assumption | exact FrS_wr (by assumption) (by omega) (by omega) (by omega)) (by first | omega | (simp only [wr_at]; omega) | assumption) (by first | omega | (simp only [wr_at]; omega) | assumption)
  refine lv_aload_n B.1 B.2.1 dX12_readSteps_0 rfl (lv_at hl 0 rfl) ?_
  refine m_get (k := 63) (v := f 63) B hM (by decide) rfl fl449 dX12_readSteps_1 rfl ?_
  refine lv_istore_n (lv' := [(2, .int (II (f 63))), (0, .ref h0), (1, .int (II a_starts))]) B.1 B.2.1 dX12_readSteps_4 rfl hl (by decide) rfl (fun ls hl => ?_)
  refine q_con B dX12_readSteps_5 ?_
  refine lv_istore_n (lv' := [(3, .int (II 0)), (2, .int (II (f 63))), (0, .ref h0), (1, .int (II a_starts))]) B.1 B.2.1 dX12_readSteps_6 rfl hl (by decide) rfl (fun ls hl => ?_)
  refine q_con B dX12_readSteps_7 ?_
  refine lv_istore (lv' := [(4, .int (II 1)), (3, .int (II 0)), (2, .int (II (f 63))), (0, .ref h0), (1, .int (II a_starts))]) B.1 B.2.1 dX12_readSteps_8 hl (by decide) rfl (fun ls hl => ?_)
  exact LL10 (Int.toNat (2 * ((f 4) - (f 8)) + (1) + 1)) (f 63) 0 1 (f 8) (f 9) (f 7) (f 10) (f 5) (f 6) (f 63) (g 11) ((A 30)) ((A 31)) _ _ ls hM (lv_sub hl [3, 4, 2, 1, 0] rfl) (by omega) (by omega) (by omega) (by first | omega | (simp only [wr_at]; omega) | assumption) (by first | omega | (simp only [wr_at]; omega) | assumption) (by first | omega | (simp only [wr_at]; omega) | assumption) (by first | omega | (simp only [wr_at]; omega) | assumption) (by first | omega | (simp only [wr_at]; omega) | assumption) (by first | omega | (simp only [wr_at]; omega) | assumption) (by first | omega | (simp only [wr_at]; omega) | assumption) (by first | omega | (simp only [wr_at]; omega) | assumption) (by first | omega | (simp only [wr_at]; omega) | assumption) (by first | exact (fun _ => ⟨by omega, SpI_0, by omega, by omega⟩) | assumption | (intro hq; exfalso; omega) | (intro hq; have e1 := hJJ326_10; have hs := hLL10_12 (by omega); have hs1 := hs.2.2.1; have hs2 := hs.2.2.2; have hr := can_rng (hJJ326_13 hq) hJJ326_14 hs1 hs2; refine ⟨by omega, ?_, by omega, by omega⟩; rw [e1]; exact SpI_push hs.2.1 (by omega) (by omega) (by omega) (hJJ326_13 hq) hJJ326_14)) (by first | exact FrS_rfl | assumption | exact FrS_wr (by assumption) (by omega) (by omega) (by omega)) (by first | omega | (simp only [wr_at]; omega) | assumption) (by first | omega | (simp only [wr_at]; omega) | assumption)
