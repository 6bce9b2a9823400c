/-- the strings of uses lie within the texts -/
def TXI (x z : Nat → Int) : Prop := ∀ j : Nat, z j ≤ 0 ∨ x j + z j ≤ 6000
theorem TXI_neg {x z : Nat → Int} {u v : Int} (h : TXI x z) (hv : v ≤ 0) : TXI x (wr z u v) := by
  intro j
  by_cases e : j = u.toNat
  · subst e; rw [wr_at]; exact Or.inl hv
  · rw [wr_ne e]; exact h j
theorem TXI_put {x z : Nat → Int} {u v w : Int} (h : TXI x z) (_ : z u.toNat ≤ 0) (hv : v + w ≤ 6000) : TXI (wr x u v) (wr z u w) := by
  intro j
  by_cases e : j = u.toNat
  · subst e; rw [wr_at, wr_at]; exact Or.inr hv
  · rw [wr_ne e, wr_ne e]; exact h j
set_option maxHeartbeats 4000000 in
set_option maxRecDepth 20000 in
theorem k_readArgs (l : Launch) (D : va_G) (dA : Nat → ClassId) (h0 : Nat) (ad : Nat → Nat) (f : Nat → Int) (g : Nat → Int64) (A : Nat → Nat → Int) (L : Nat → Nat → Int64) (a_u : Int) (i_u : (-2147483648 : Int) ≤ a_u ∧ a_u ≤ 2147483647) (p_0 : (0 ≤ (f 8) ∧ (f 8) ≤ (f 4) ∧ (f 9) ≤ (f 4) + 1 ∧ ((f 7) = 0 ↔ (f 8) = (f 4)) ∧ (2 ≤ (f 7) → (f 8) < (f 9) ∧ (f 9) ≤ (f 4)) ∧ ((f 7) = 5 → (f 8) + 2 ≤ (f 9) ∧ (f 9) ≤ (f 8) + 32))) (p_1 : (f 7) = 6) (p_2 : 0 ≤ (a_u)) (p_3 : (a_u) ≤ 3199) : MCv l yX12_readArgs cX12_readArgs 4 ({ frames := 4, cells := 0, slots := 0, locals := 86 }) D dA h0 ad (f, g, A, L) [.int (II a_u)] (fun σ => ∃ n8 : Int, ∃ n9 : Int, ∃ n7 : Int, ∃ n10 : Int, ∃ n5 : Int, ∃ n6 : Int, ∃ n11 : Int64, ∃ b47 : Nat → Int, ∃ b54 : Nat → Int, ∃ b55 : Nat → Int64, σ = ((up f [(8, n8), (9, n9), (7, n7), (10, n10), (5, n5), (6, n6)]), (up g [(11, n11)]), (up A [(47, b47), (54, b54)]), (up L [(55, b55)])) ∧ (((0 ≤ (n8) ∧ (n8) ≤ (f 4) ∧ (n9) ≤ (f 4) + 1 ∧ ((n7) = 0 ↔ (n8) = (f 4)) ∧ (2 ≤ (n7) → (n8) < (n9) ∧ (n9) ≤ (f 4)) ∧ ((n7) = 5 → (n8) + 2 ≤ (n9) ∧ (n9) ≤ (n8) + 32))) ∧ (f 8) ≤ (n8) ∧ ((n5) = 0 → (f 5) = 0 ∧ (f 8) + 1 ≤ (n8)))) := by
  generalize hPST : (fun σ => ∃ n8 : Int, ∃ n9 : Int, ∃ n7 : Int, ∃ n10 : Int, ∃ n5 : Int, ∃ n6 : Int, ∃ n11 : Int64, ∃ b47 : Nat → Int, ∃ b54 : Nat → Int, ∃ b55 : Nat → Int64, σ = ((up f [(8, n8), (9, n9), (7, n7), (10, n10), (5, n5), (6, n6)]), (up g [(11, n11)]), (up A [(47, b47), (54, b54)]), (up L [(55, b55)])) ∧ (((0 ≤ (n8) ∧ (n8) ≤ (f 4) ∧ (n9) ≤ (f 4) + 1 ∧ ((n7) = 0 ↔ (n8) = (f 4)) ∧ (2 ≤ (n7) → (n8) < (n9) ∧ (n9) ≤ (f 4)) ∧ ((n7) = 5 → (n8) + 2 ≤ (n9) ∧ (n9) ≤ (n8) + 32))) ∧ (f 8) ≤ (n8) ∧ ((n5) = 0 → (f 5) = 0 ∧ (f 8) + 1 ≤ (n8)))) = PST
  refine m_enterv (by decide) rfl (Nat.le_of_ble_eq_true rfl) (fun p e s m args below meth c ls B hM hl => ?_)
  have hA : ∀ q, s.heap.size ≤ q → mF dA h0 ad (f, g, A, L) s.heap.size q := fun q h => Or.inr h
  have hM : MWd D dA h0 ad (mF dA h0 ad (f, g, A, L) s.heap.size) s.heap ((up f [(8, f 8), (9, f 9), (7, f 7), (10, f 10), (5, f 5), (6, f 6)]), (up g [(11, g 11)]), (up A [(47, (A 47)), (54, (A 54))]), (up L [(55, (L 55))])) s.heap [] := MW_pad hM (up_self f [8, 9, 7, 10, 5, 6]) (up_self g [11]) (up_self A [47, 54]) (up_self L [55])
  have hl : lv_has ls 4 [(0, .ref h0), (1, .int (II a_u))] := hl
  have LL2 : ∀ N : Nat, ∀ (v2_2 : Int) (y2_8 : Int) (y2_9 : Int) (y2_7 : Int) (y2_10 : Int) (y2_5 : Int) (y2_6 : Int) (y2_11 : Int64) (y2_47 : Nat → Int) (y2_54 : Nat → Int) (y2_55 : Nat → Int64) (H : Heap) (locs : List Loc) (ls : Array Slot), (MWd D dA h0 ad (mF dA h0 ad (f, g, A, L) s.heap.size) s.heap ((up f [(8, y2_8), (9, y2_9), (7, y2_7), (10, y2_10), (5, y2_5), (6, y2_6)]), (up g [(11, y2_11)]), (up A [(47, y2_47), (54, y2_54)]), (up L [(55, y2_55)])) H locs) → lv_has ls 4 [(0, .ref h0), (1, .int (II a_u)), (2, .int (II v2_2))] → ((-2147483648 : Int) ≤ v2_2 ∧ v2_2 ≤ 2147483647) → ((0 ≤ (y2_8) ∧ (y2_8) ≤ (f 4) ∧ (y2_9) ≤ (f 4) + 1 ∧ ((y2_7) = 0 ↔ (y2_8) = (f 4)) ∧ (2 ≤ (y2_7) → (y2_8) < (y2_9) ∧ (y2_9) ≤ (f 4)) ∧ ((y2_7) = 5 → (y2_8) + 2 ≤ (y2_9) ∧ (y2_9) ≤ (y2_8) + 32))) → ((f 8) ≤ (y2_8)) → (0 ≤ (v2_2)) → ((v2_2) ≤ 1) → (((v2_2) = 1 → (y2_7) = 6)) → (((y2_5) = 0 → (f 5) = 0)) → (0 ≤ (f 4) - (y2_8)) → ((f 4) - (y2_8) < (N : Int)) → W p l e ({ frames := 4, cells := 0, slots := 0, locals := 86 }) s m args below meth c H locs 0 0 (MQ below (mQv D dA h0 ad (f, g, A, L) s.heap.size PST) args s 0 0 (mF dA h0 ad (f, g, A, L) s.heap.size)) (F0 m 2 ls []) := by
    intro N
    induction N with
    | zero => intro v2_2 y2_8 y2_9 y2_7 y2_10 y2_5 y2_6 y2_11 y2_47 y2_54 y2_55 H locs ls hM hl hLL2_0 hLL2_1 hLL2_2 hLL2_3 hLL2_4 hLL2_5 hLL2_6 hLL2_7 hN; exfalso; omega
    | succ N IH2 =>
      intro v2_2 y2_8 y2_9 y2_7 y2_10 y2_5 y2_6 y2_11 y2_47 y2_54 y2_55 H locs ls hM hl hLL2_0 hLL2_1 hLL2_2 hLL2_3 hLL2_4 hLL2_5 hLL2_6 hLL2_7 hN
      have JJ109 : ∀ (v109_3 : Int) (v109_2 : Int) (s109_0 : Int64) (s109_1 : Int) (y109_8 : Int) (y109_9 : Int) (y109_7 : Int) (y109_10 : Int) (y109_5 : Int) (y109_6 : Int) (y109_11 : Int64) (y109_47 : Nat → Int) (y109_54 : Nat → Int) (y109_55 : Nat → Int64) (H : Heap) (locs : List Loc) (ls : Array Slot), (MWd D dA h0 ad (mF dA h0 ad (f, g, A, L) s.heap.size) s.heap ((up f [(8, y109_8), (9, y109_9), (7, y109_7), (10, y109_10), (5, y109_5), (6, y109_6)]), (up g [(11, y109_11)]), (up A [(47, y109_47), (54, y109_54)]), (up L [(55, y109_55)])) H locs) → lv_has ls 4 [(0, .ref h0), (1, .int (II a_u)), (3, .int (II v109_3)), (2, .int (II v109_2))] → ((-2147483648 : Int) ≤ v109_3 ∧ v109_3 ≤ 2147483647) → ((-2147483648 : Int) ≤ v109_2 ∧ v109_2 ≤ 2147483647) → ((-2147483648 : Int) ≤ s109_1 ∧ s109_1 ≤ 2147483647) → ((0 ≤ (y109_8) ∧ (y109_8) ≤ (f 4) ∧ (y109_9) ≤ (f 4) + 1 ∧ ((y109_7) = 0 ↔ (y109_8) = (f 4)) ∧ (2 ≤ (y109_7) → (y109_8) < (y109_9) ∧ (y109_9) ≤ (f 4)) ∧ ((y109_7) = 5 → (y109_8) + 2 ≤ (y109_9) ∧ (y109_9) ≤ (y109_8) + 32))) → ((f 8) ≤ (y109_8)) → ((y2_8) + 1 ≤ (y109_8)) → (0 ≤ (s109_1)) → ((s109_1) ≤ 12799) → (y109_47 ((a_u)).toNat ≤ 3) → (((y109_5) = 0 → (f 5) = 0)) → (2 ≤ (y109_7)) → W p l e ({ frames := 4, cells := 0, slots := 0, locals := 86 }) s m args below meth c H locs 0 0 (MQ below (mQv D dA h0 ad (f, g, A, L) s.heap.size PST) args s 0 0 (mF dA h0 ad (f, g, A, L) s.heap.size)) (F0 m 109 ls [.long s109_0, .int (II s109_1), .ref (ad 55)]) := by
        intro v109_3 v109_2 s109_0 s109_1 y109_8 y109_9 y109_7 y109_10 y109_5 y109_6 y109_11 y109_47 y109_54 y109_55 H locs ls hM hl hJJ109_0 hJJ109_1 hJJ109_2 hJJ109_3 hJJ109_4 hJJ109_5 hJJ109_6 hJJ109_7 hJJ109_8 hJJ109_9 hJJ109_10
        have r1 : (0 : Int) ≤ y109_8 ∧ y109_8 ≤ 3001 := hM.2.2.2.1 8
        have r2 : (0 : Int) ≤ y109_9 ∧ y109_9 ≤ 3002 := hM.2.2.2.1 9
        have r3 : (0 : Int) ≤ y109_7 ∧ y109_7 ≤ 6 := hM.2.2.2.1 7
        have r4 : (-2147483648 : Int) ≤ y109_10 ∧ y109_10 ≤ 2147483647 := hM.2.2.2.1 10
        have r5 : (-2147483648 : Int) ≤ y109_5 ∧ y109_5 ≤ 2147483647 := hM.2.2.2.1 5
        have r6 : (-2147483648 : Int) ≤ y109_6 ∧ y109_6 ≤ 2147483647 := hM.2.2.2.1 6
        refine m_lst (k := 55) (i := 43) (n := 12800) B hM rfl rfl rfl (by decide) dX12_readArgs_109 (by omega) (by omega) (u1_up L [(55, y109_55)] 55 (wr y109_55 s109_1 s109_0)) (fun H locs hM => ?_)
        have hM : MWd D dA h0 ad (mF dA h0 ad (f, g, A, L) s.heap.size) s.heap ((up f [(8, y109_8), (9, y109_9), (7, y109_7), (10, y109_10), (5, y109_5), (6, y109_6)]), (up g [(11, y109_11)]), (up A [(47, y109_47), (54, y109_54)]), (up L [(55, (wr y109_55 s109_1 s109_0))])) H locs := hM
        refine lv_aload_n B.1 B.2.1 dX12_readArgs_110 rfl (lv_at hl 0 rfl) ?_
        refine m_geta (k := 47) B hM (by decide) rfl fl235 dX12_readArgs_111 ?_
        refine lv_iload_n B.1 B.2.1 dX12_readArgs_114 rfl (lv_at hl 1 rfl) ?_
        refine lv_dup2_11 B.1 B.2.1 dX12_readArgs_115 rfl rfl ?_
        refine m_ild (k := 47) (i := 35) (n := 3200) (z := a_u) (v := y109_47 a_u.toNat) B hM rfl rfl rfl (by decide) dX12_readArgs_116 (by omega) (by omega) rfl ?_
        have r7 : (0 : Int) ≤ y109_47 a_u.toNat ∧ y109_47 a_u.toNat ≤ 4 := hM.2.2.2.2 47 a_u.toNat
        refine q_con B dX12_readArgs_117 ?_
        refine q_add B dX12_readArgs_118 ?_
        refine m_ist (k := 47) (i := 35) (n := 3200) B hM rfl rfl rfl (by decide) dX12_readArgs_119 (by omega) (by omega) (show (0 : Int) ≤ (y109_47 a_u.toNat) + 1 by omega) (show (y109_47 a_u.toNat) + 1 ≤ (4 : Int) by omega) (u1_up A [(47, y109_47), (54, y109_54)] 47 (wr y109_47 a_u ((y109_47 a_u.toNat) + 1))) (fun H locs hM => ?_)
        have hM : MWd D dA h0 ad (mF dA h0 ad (f, g, A, L) s.heap.size) s.heap ((up f [(8, y109_8), (9, y109_9), (7, y109_7), (10, y109_10), (5, y109_5), (6, y109_6)]), (up g [(11, y109_11)]), (up A [(47, (wr y109_47 a_u ((y109_47 a_u.toNat) + 1))), (54, y109_54)]), (up L [(55, (wr y109_55 s109_1 s109_0))])) H locs := hM
        refine lv_aload_n B.1 B.2.1 dX12_readArgs_120 rfl (lv_at hl 0 rfl) ?_
        refine m_callv (n := 0) (rest := []) B hM hA hl.1 (k_next l D dA h0 ad (up f [(8, y109_8), (9, y109_9), (7, y109_7), (10, y109_10), (5, y109_5), (6, y109_6)]) (up g [(11, y109_11)]) (up A [(47, (wr y109_47 a_u ((y109_47 a_u.toNat) + 1))), (54, y109_54)]) (up L [(55, (wr y109_55 s109_1 s109_0))])   (by first | omega | (simp only [wr_at]; omega) | assumption)) rfl ok_next nm_next ⟨rfl, rfl⟩ ⟨Nat.le_of_ble_eq_true rfl, Nat.le_of_ble_eq_true rfl⟩ dX12_readArgs_121 rfl rfl (Nat.le_of_ble_eq_true rfl) ⟨Nat.zero_le _, Nat.zero_le _⟩ (fun σr8 H locs hp9 hM => ?_)
        obtain ⟨x10, x11, x12, x13, w14, rfl, hp9⟩ := hp9
        have hp9 : ((f 9) ≤ (x10) ∨ (x10) = (f 4)) ∧ (0 ≤ (x10) ∧ (x10) ≤ (f 4) ∧ (x11) ≤ (f 4) + 1 ∧ ((x12) = 0 ↔ (x10) = (f 4)) ∧ (2 ≤ (x12) → (x10) < (x11) ∧ (x11) ≤ (f 4)) ∧ ((x12) = 5 → (x10) + 2 ≤ (x11) ∧ (x11) ≤ (x10) + 32)) := hp9
        simp only [up_up] at hM
        have hM : MWd D dA h0 ad (mF dA h0 ad (f, g, A, L) s.heap.size) s.heap ((up f [(8, x10), (9, x11), (7, x12), (10, x13), (5, y109_5), (6, y109_6)]), (up g [(11, w14)]), (up A [(47, (wr y109_47 a_u ((y109_47 a_u.toNat) + 1))), (54, y109_54)]), (up L [(55, (wr y109_55 s109_1 s109_0))])) H locs := hM
        have r15 : (0 : Int) ≤ x10 ∧ x10 ≤ 3001 := hM.2.2.2.1 8
        have r16 : (0 : Int) ≤ x11 ∧ x11 ≤ 3002 := hM.2.2.2.1 9
        have r17 : (0 : Int) ≤ x12 ∧ x12 ≤ 6 := hM.2.2.2.1 7
        have r18 : (-2147483648 : Int) ≤ x13 ∧ x13 ≤ 2147483647 := hM.2.2.2.1 10
        refine lv_aload_n B.1 B.2.1 dX12_readArgs_124 rfl (lv_at hl 0 rfl) ?_
        refine q_bip B dX12_readArgs_125 (by decide) ?_
        refine m_calli (n := 1) (rest := []) B hM hA hl.1 (k_isSign l D dA h0 ad (up f [(8, x10), (9, x11), (7, x12), (10, x13), (5, y109_5), (6, y109_6)]) (up g [(11, w14)]) (up A [(47, (wr y109_47 a_u ((y109_47 a_u.toNat) + 1))), (54, y109_54)]) (up L [(55, (wr y109_55 s109_1 s109_0))]) 44 (by omega) (by first | omega | (simp only [wr_at]; omega) | assumption)) rfl ok_isSign nm_isSign ⟨rfl, rfl⟩ ⟨Nat.le_of_ble_eq_true rfl, Nat.le_of_ble_eq_true rfl⟩ dX12_readArgs_127 rfl rfl (Nat.le_of_ble_eq_true rfl) ⟨Nat.zero_le _, Nat.zero_le _⟩ (fun r19 σr19 H locs ir19 hp20 hM => ?_)
        obtain ⟨rfl, hp20⟩ := hp20
        unfold inr at ir19
        have hp20 : 0 ≤ r19 ∧ r19 ≤ 1 ∧ (r19 = 1 ↔ (x12) = 6 ∧ sgn ((A 2)) (f 3) (f 4) (x10) = (44)) := hp20
        refine lv_istore_n (lv' := [(2, .int (II r19)), (0, .ref h0), (1, .int (II a_u)), (3, .int (II v109_3))]) B.1 B.2.1 dX12_readArgs_130 rfl hl (by decide) rfl (fun ls hl => ?_)
        refine lv_goto (tgt := 2) B.1 B.2.1 dX12_readArgs_131 (by decide) ?_
        exact IH2 r19 x10 x11 x12 x13 y109_5 y109_6 w14 ((wr y109_47 a_u ((y109_47 a_u.toNat) + 1))) y109_54 ((wr y109_55 s109_1 s109_0)) _ _ ls hM (lv_sub hl [1, 2, 0] rfl) (by omega) (by first | omega | (simp only [wr_at]; omega) | assumption) (by first | omega | (simp only [wr_at]; omega) | assumption) (by first | omega | (simp only [wr_at]; omega) | assumption) (by first | omega | (simp only [wr_at]; omega) | assumption) (by first | omega | (simp only [wr_at]; omega) | assumption) (by first | omega | (simp only [wr_at]; omega) | assumption) (by first | omega | (simp only [wr_at]; omega) | assumption) (by first | omega | (simp only [wr_at]; omega) | assumption)
      have r21 : (0 : Int) ≤ y2_8 ∧ y2_8 ≤ 3001 := hM.2.2.2.1 8
      have r22 : (0 : Int) ≤ y2_9 ∧ y2_9 ≤ 3002 := hM.2.2.2.1 9
      have r23 : (0 : Int) ≤ y2_7 ∧ y2_7 ≤ 6 := hM.2.2.2.1 7
      have r24 : (-2147483648 : Int) ≤ y2_10 ∧ y2_10 ≤ 2147483647 := hM.2.2.2.1 10
      have r25 : (-2147483648 : Int) ≤ y2_5 ∧ y2_5 ≤ 2147483647 := hM.2.2.2.1 5
      have r26 : (-2147483648 : Int) ≤ y2_6 ∧ y2_6 ≤ 2147483647 := hM.2.2.2.1 6
      refine lv_iload_n B.1 B.2.1 dX12_readArgs_2 rfl (lv_at hl 2 rfl) ?_
      refine q_ieq (tgt := 134) B dX12_readArgs_3 (by decide) (by unfold inr; omega) (fun c27 => ?_) (fun c27 => ?_)
      · refine lv_aload_n B.1 B.2.1 dX12_readArgs_134 rfl (lv_at hl 0 rfl) ?_
        refine q_bip B dX12_readArgs_135 (by decide) ?_
        refine m_callv (n := 1) (rest := []) B hM hA hl.1 (k_must l D dA h0 ad (up f [(8, y2_8), (9, y2_9), (7, y2_7), (10, y2_10), (5, y2_5), (6, y2_6)]) (up g [(11, y2_11)]) (up A [(47, y2_47), (54, y2_54)]) (up L [(55, y2_55)]) 41 (by omega) (by first | omega | (simp only [wr_at]; omega) | assumption)) rfl ok_must nm_must ⟨rfl, rfl⟩ ⟨Nat.le_of_ble_eq_true rfl, Nat.le_of_ble_eq_true rfl⟩ dX12_readArgs_137 rfl rfl (Nat.le_of_ble_eq_true rfl) ⟨Nat.zero_le _, Nat.zero_le _⟩ (fun σr28 H locs hp29 hM => ?_)
        obtain ⟨x30, x31, x32, x33, x34, x35, w36, rfl, hp29⟩ := hp29
        have hp29 : ((0 ≤ (x30) ∧ (x30) ≤ (f 4) ∧ (x31) ≤ (f 4) + 1 ∧ ((x32) = 0 ↔ (x30) = (f 4)) ∧ (2 ≤ (x32) → (x30) < (x31) ∧ (x31) ≤ (f 4)) ∧ ((x32) = 5 → (x30) + 2 ≤ (x31) ∧ (x31) ≤ (x30) + 32))) ∧ (y2_8) ≤ (x30) ∧ ((x34) = 0 → (y2_5) = 0 ∧ (y2_8) + 1 ≤ (x30) ∧ (y2_9) ≤ (x30)) := hp29
        simp only [up_up] at hM
        have hM : MWd D dA h0 ad (mF dA h0 ad (f, g, A, L) s.heap.size) s.heap ((up f [(8, x30), (9, x31), (7, x32), (10, x33), (5, x34), (6, x35)]), (up g [(11, w36)]), (up A [(47, y2_47), (54, y2_54)]), (up L [(55, y2_55)])) H locs := hM
        have r37 : (0 : Int) ≤ x30 ∧ x30 ≤ 3001 := hM.2.2.2.1 8
        have r38 : (0 : Int) ≤ x31 ∧ x31 ≤ 3002 := hM.2.2.2.1 9
        have r39 : (0 : Int) ≤ x32 ∧ x32 ≤ 6 := hM.2.2.2.1 7
        have r40 : (-2147483648 : Int) ≤ x33 ∧ x33 ≤ 2147483647 := hM.2.2.2.1 10
        have r41 : (-2147483648 : Int) ≤ x34 ∧ x34 ≤ 2147483647 := hM.2.2.2.1 5
        have r42 : (-2147483648 : Int) ≤ x35 ∧ x35 ≤ 2147483647 := hM.2.2.2.1 6
        subst hPST
        exact m_vret B hM dX12_readArgs_140 ⟨x30, x31, x32, x33, x34, x35, w36, y2_47, y2_54, y2_55, rfl, by omega⟩
      · refine lv_aload_n B.1 B.2.1 dX12_readArgs_6 rfl (lv_at hl 0 rfl) ?_
        refine m_calli (n := 0) (rest := []) B hM hA hl.1 (k_isGood l D dA h0 ad (up f [(8, y2_8), (9, y2_9), (7, y2_7), (10, y2_10), (5, y2_5), (6, y2_6)]) (up g [(11, y2_11)]) (up A [(47, y2_47), (54, y2_54)]) (up L [(55, y2_55)])   ) rfl ok_isGood nm_isGood ⟨rfl, rfl⟩ ⟨Nat.le_of_ble_eq_true rfl, Nat.le_of_ble_eq_true rfl⟩ dX12_readArgs_7 rfl rfl (Nat.le_of_ble_eq_true rfl) ⟨Nat.zero_le _, Nat.zero_le _⟩ (fun r43 σr43 H locs ir43 hp44 hM => ?_)
        obtain ⟨rfl, hp44⟩ := hp44
        unfold inr at ir43
        have hp44 : 0 ≤ r43 ∧ r43 ≤ 1 ∧ (r43 = 1 ↔ (y2_5) = 0) := hp44
        refine q_ieq (tgt := 134) B dX12_readArgs_10 (by decide) (by unfold inr; omega) (fun c45 => ?_) (fun c45 => ?_)
        · refine lv_aload_n B.1 B.2.1 dX12_readArgs_134 rfl (lv_at hl 0 rfl) ?_
          refine q_bip B dX12_readArgs_135 (by decide) ?_
          refine m_callv (n := 1) (rest := []) B hM hA hl.1 (k_must l D dA h0 ad (up f [(8, y2_8), (9, y2_9), (7, y2_7), (10, y2_10), (5, y2_5), (6, y2_6)]) (up g [(11, y2_11)]) (up A [(47, y2_47), (54, y2_54)]) (up L [(55, y2_55)]) 41 (by omega) (by first | omega | (simp only [wr_at]; omega) | assumption)) rfl ok_must nm_must ⟨rfl, rfl⟩ ⟨Nat.le_of_ble_eq_true rfl, Nat.le_of_ble_eq_true rfl⟩ dX12_readArgs_137 rfl rfl (Nat.le_of_ble_eq_true rfl) ⟨Nat.zero_le _, Nat.zero_le _⟩ (fun σr46 H locs hp47 hM => ?_)
          obtain ⟨x48, x49, x50, x51, x52, x53, w54, rfl, hp47⟩ := hp47
          have hp47 : ((0 ≤ (x48) ∧ (x48) ≤ (f 4) ∧ (x49) ≤ (f 4) + 1 ∧ ((x50) = 0 ↔ (x48) = (f 4)) ∧ (2 ≤ (x50) → (x48) < (x49) ∧ (x49) ≤ (f 4)) ∧ ((x50) = 5 → (x48) + 2 ≤ (x49) ∧ (x49) ≤ (x48) + 32))) ∧ (y2_8) ≤ (x48) ∧ ((x52) = 0 → (y2_5) = 0 ∧ (y2_8) + 1 ≤ (x48) ∧ (y2_9) ≤ (x48)) := hp47
          simp only [up_up] at hM
          have hM : MWd D dA h0 ad (mF dA h0 ad (f, g, A, L) s.heap.size) s.heap ((up f [(8, x48), (9, x49), (7, x50), (10, x51), (5, x52), (6, x53)]), (up g [(11, w54)]), (up A [(47, y2_47), (54, y2_54)]), (up L [(55, y2_55)])) H locs := hM
          have r55 : (0 : Int) ≤ x48 ∧ x48 ≤ 3001 := hM.2.2.2.1 8
          have r56 : (0 : Int) ≤ x49 ∧ x49 ≤ 3002 := hM.2.2.2.1 9
          have r57 : (0 : Int) ≤ x50 ∧ x50 ≤ 6 := hM.2.2.2.1 7
          have r58 : (-2147483648 : Int) ≤ x51 ∧ x51 ≤ 2147483647 := hM.2.2.2.1 10
          have r59 : (-2147483648 : Int) ≤ x52 ∧ x52 ≤ 2147483647 := hM.2.2.2.1 5
          have r60 : (-2147483648 : Int) ≤ x53 ∧ x53 ≤ 2147483647 := hM.2.2.2.1 6
          subst hPST
          exact m_vret B hM dX12_readArgs_140 ⟨x48, x49, x50, x51, x52, x53, w54, y2_47, y2_54, y2_55, rfl, by omega⟩
        · refine lv_aload_n B.1 B.2.1 dX12_readArgs_13 rfl (lv_at hl 0 rfl) ?_
          refine m_callv (n := 0) (rest := []) B hM hA hl.1 (k_next l D dA h0 ad (up f [(8, y2_8), (9, y2_9), (7, y2_7), (10, y2_10), (5, y2_5), (6, y2_6)]) (up g [(11, y2_11)]) (up A [(47, y2_47), (54, y2_54)]) (up L [(55, y2_55)])   (by first | omega | (simp only [wr_at]; omega) | assumption)) rfl ok_next nm_next ⟨rfl, rfl⟩ ⟨Nat.le_of_ble_eq_true rfl, Nat.le_of_ble_eq_true rfl⟩ dX12_readArgs_14 rfl rfl (Nat.le_of_ble_eq_true rfl) ⟨Nat.zero_le _, Nat.zero_le _⟩ (fun σr61 H locs hp62 hM => ?_)
          obtain ⟨x63, x64, x65, x66, w67, rfl, hp62⟩ := hp62
          have hp62 : ((f 9) ≤ (x63) ∨ (x63) = (f 4)) ∧ (0 ≤ (x63) ∧ (x63) ≤ (f 4) ∧ (x64) ≤ (f 4) + 1 ∧ ((x65) = 0 ↔ (x63) = (f 4)) ∧ (2 ≤ (x65) → (x63) < (x64) ∧ (x64) ≤ (f 4)) ∧ ((x65) = 5 → (x63) + 2 ≤ (x64) ∧ (x64) ≤ (x63) + 32)) := hp62
          simp only [up_up] at hM
          have hM : MWd D dA h0 ad (mF dA h0 ad (f, g, A, L) s.heap.size) s.heap ((up f [(8, x63), (9, x64), (7, x65), (10, x66), (5, y2_5), (6, y2_6)]), (up g [(11, w67)]), (up A [(47, y2_47), (54, y2_54)]), (up L [(55, y2_55)])) H locs := hM
          have r68 : (0 : Int) ≤ x63 ∧ x63 ≤ 3001 := hM.2.2.2.1 8
          have r69 : (0 : Int) ≤ x64 ∧ x64 ≤ 3002 := hM.2.2.2.1 9
          have r70 : (0 : Int) ≤ x65 ∧ x65 ≤ 6 := hM.2.2.2.1 7
          have r71 : (-2147483648 : Int) ≤ x66 ∧ x66 ≤ 2147483647 := hM.2.2.2.1 10
          refine q_con B dX12_readArgs_17 ?_
          refine lv_iload_n B.1 B.2.1 dX12_readArgs_18 rfl (lv_at hl 1 rfl) ?_
          refine q_mul B dX12_readArgs_19 ?_
          refine lv_aload_n B.1 B.2.1 dX12_readArgs_20 rfl (lv_at hl 0 rfl) ?_
          refine m_geta (k := 47) B hM (by decide) rfl fl235 dX12_readArgs_21 ?_
          refine lv_iload_n B.1 B.2.1 dX12_readArgs_24 rfl (lv_at hl 1 rfl) ?_
          refine m_ild (k := 47) (i := 35) (n := 3200) (z := a_u) (v := y2_47 a_u.toNat) B hM rfl rfl rfl (by decide) dX12_readArgs_25 (by omega) (by omega) rfl ?_
          have r72 : (0 : Int) ≤ y2_47 a_u.toNat ∧ y2_47 a_u.toNat ≤ 4 := hM.2.2.2.2 47 a_u.toNat
          refine q_add B dX12_readArgs_26 ?_
          refine lv_istore_n (lv' := [(3, .int (II ((4 * a_u) + (y2_47 a_u.toNat)))), (0, .ref h0), (1, .int (II a_u)), (2, .int (II v2_2))]) B.1 B.2.1 dX12_readArgs_27 rfl hl (by decide) rfl (fun ls hl => ?_)
          refine lv_aload_n B.1 B.2.1 dX12_readArgs_28 rfl (lv_at hl 1 rfl) ?_
          refine m_get (k := 7) (v := x65) B hM (by decide) rfl fl66 dX12_readArgs_29 rfl ?_
          refine q_con B dX12_readArgs_32 ?_
          refine q_ceq (tgt := 44) B dX12_readArgs_33 (by decide) (by unfold inr; omega) (by unfold inr; omega) (fun c73 => ?_) (fun c73 => ?_)
          · refine lv_aload_n B.1 B.2.1 dX12_readArgs_44 rfl (lv_at hl 1 rfl) ?_
            refine m_geta (k := 47) B hM (by decide) rfl fl235 dX12_readArgs_45 ?_
            refine lv_iload_n B.1 B.2.1 dX12_readArgs_48 rfl (lv_at hl 2 rfl) ?_
            refine m_ild (k := 47) (i := 35) (n := 3200) (z := a_u) (v := y2_47 a_u.toNat) B hM rfl rfl rfl (by decide) dX12_readArgs_49 (by omega) (by omega) rfl ?_
            refine q_con B dX12_readArgs_50 ?_
            refine q_cne (tgt := 58) B dX12_readArgs_51 (by decide) (by unfold inr; omega) (by unfold inr; omega) (fun c74 => ?_) (fun c74 => ?_)
            · refine lv_aload_n B.1 B.2.1 dX12_readArgs_58 rfl (lv_at hl 1 rfl) ?_
              refine m_calli (n := 0) (rest := []) B hM hA hl.1 (k_isGood l D dA h0 ad (up f [(8, x63), (9, x64), (7, x65), (10, x66), (5, y2_5), (6, y2_6)]) (up g [(11, w67)]) (up A [(47, y2_47), (54, y2_54)]) (up L [(55, y2_55)])   ) rfl ok_isGood nm_isGood ⟨rfl, rfl⟩ ⟨Nat.le_of_ble_eq_true rfl, Nat.le_of_ble_eq_true rfl⟩ dX12_readArgs_59 rfl rfl (Nat.le_of_ble_eq_true rfl) ⟨Nat.zero_le _, Nat.zero_le _⟩ (fun r75 σr75 H locs ir75 hp76 hM => ?_)
              obtain ⟨rfl, hp76⟩ := hp76
              unfold inr at ir75
              have hp76 : 0 ≤ r75 ∧ r75 ≤ 1 ∧ (r75 = 1 ↔ (y2_5) = 0) := hp76
              refine q_ine (tgt := 66) B dX12_readArgs_62 (by decide) (by unfold inr; omega) (fun c77 => ?_) (fun c77 => ?_)
              · refine lv_aload_n B.1 B.2.1 dX12_readArgs_66 rfl (lv_at hl 1 rfl) ?_
                refine m_geta (k := 54) B hM (by decide) rfl fl257 dX12_readArgs_67 ?_
                refine lv_iload_n B.1 B.2.1 dX12_readArgs_70 rfl (lv_at hl 0 rfl) ?_
                refine lv_aload_n B.1 B.2.1 dX12_readArgs_71 rfl (lv_at hl 1 rfl) ?_
                refine m_get (k := 7) (v := x65) B hM (by decide) rfl fl66 dX12_readArgs_72 rfl ?_
                refine q_con B dX12_readArgs_75 ?_
                refine q_cne (tgt := 86) B dX12_readArgs_76 (by decide) (by unfold inr; omega) (by unfold inr; omega) (fun c78 => ?_) (fun c78 => ?_)
                · refine q_con B dX12_readArgs_86 ?_
                  refine m_ist (k := 54) (i := 42) (n := 12800) B hM rfl rfl rfl (by decide) dX12_readArgs_87 (by omega) (by omega) (show (-2147483648 : Int) ≤ 0 by omega) (show 0 ≤ (2147483647 : Int) by omega) (u1_up A [(47, y2_47), (54, y2_54)] 54 (wr y2_54 ((4 * a_u) + (y2_47 a_u.toNat)) 0)) (fun H locs hM => ?_)
                  have hM : MWd D dA h0 ad (mF dA h0 ad (f, g, A, L) s.heap.size) s.heap ((up f [(8, x63), (9, x64), (7, x65), (10, x66), (5, y2_5), (6, y2_6)]), (up g [(11, w67)]), (up A [(47, y2_47), (54, (wr y2_54 ((4 * a_u) + (y2_47 a_u.toNat)) 0))]), (up L [(55, y2_55)])) H locs := hM
                  refine lv_aload_n B.1 B.2.1 dX12_readArgs_88 rfl (lv_at hl 1 rfl) ?_
                  refine m_geta (k := 55) B hM (by decide) rfl fl260 dX12_readArgs_89 ?_
                  refine lv_iload_n B.1 B.2.1 dX12_readArgs_92 rfl (lv_at hl 0 rfl) ?_
                  refine lv_aload_n B.1 B.2.1 dX12_readArgs_93 rfl (lv_at hl 1 rfl) ?_
                  refine m_get (k := 7) (v := x65) B hM (by decide) rfl fl66 dX12_readArgs_94 rfl ?_
                  refine q_con B dX12_readArgs_97 ?_
                  refine q_cne (tgt := 108) B dX12_readArgs_98 (by decide) (by unfold inr; omega) (by unfold inr; omega) (fun c79 => ?_) (fun c79 => ?_)
                  · refine lv_lconst (v := 0) B.1 B.2.1 dX12_readArgs_108 (by decide) ?_
                    exact JJ109 ((4 * a_u) + (y2_47 a_u.toNat)) v2_2 ((0 : Int64)) ((4 * a_u) + (y2_47 a_u.toNat)) x63 x64 x65 x66 y2_5 y2_6 w67 y2_47 ((wr y2_54 ((4 * a_u) + (y2_47 a_u.toNat)) 0)) y2_55 _ _ ls hM (lv_sub hl [1, 2, 0, 3] rfl) (by omega) (by omega) (by omega) (by first | omega | (simp only [wr_at]; omega) | assumption) (by first | omega | (simp only [wr_at]; omega) | assumption) (by first | omega | (simp only [wr_at]; omega) | assumption) (by first | omega | (simp only [wr_at]; omega) | assumption) (by first | omega | (simp only [wr_at]; omega) | assumption) (by first | omega | (simp only [wr_at]; omega) | assumption) (by first | omega | (simp only [wr_at]; omega) | assumption) (by first | omega | (simp only [wr_at]; omega) | assumption)
                  · refine lv_aload_n B.1 B.2.1 dX12_readArgs_101 rfl (lv_at hl 1 rfl) ?_
                    refine m_getl (k := 11) B hM (by decide) rfl fl76 dX12_readArgs_102 rfl ?_
                    refine lv_goto (tgt := 109) B.1 B.2.1 dX12_readArgs_105 (by decide) ?_
                    exact JJ109 ((4 * a_u) + (y2_47 a_u.toNat)) v2_2 w67 ((4 * a_u) + (y2_47 a_u.toNat)) x63 x64 x65 x66 y2_5 y2_6 w67 y2_47 ((wr y2_54 ((4 * a_u) + (y2_47 a_u.toNat)) 0)) y2_55 _ _ ls hM (lv_sub hl [1, 2, 0, 3] rfl) (by omega) (by omega) (by omega) (by first | omega | (simp only [wr_at]; omega) | assumption) (by first | omega | (simp only [wr_at]; omega) | assumption) (by first | omega | (simp only [wr_at]; omega) | assumption) (by first | omega | (simp only [wr_at]; omega) | assumption) (by first | omega | (simp only [wr_at]; omega) | assumption) (by first | omega | (simp only [wr_at]; omega) | assumption) (by first | omega | (simp only [wr_at]; omega) | assumption) (by first | omega | (simp only [wr_at]; omega) | assumption)
                · refine lv_aload_n B.1 B.2.1 dX12_readArgs_79 rfl (lv_at hl 1 rfl) ?_
                  refine m_get (k := 10) (v := x66) B hM (by decide) rfl fl91 dX12_readArgs_80 rfl ?_
                  refine lv_goto (tgt := 87) B.1 B.2.1 dX12_readArgs_83 (by decide) ?_
                  refine m_ist (k := 54) (i := 42) (n := 12800) B hM rfl rfl rfl (by decide) dX12_readArgs_87 (by omega) (by omega) (show (-2147483648 : Int) ≤ x66 by omega) (show x66 ≤ (2147483647 : Int) by omega) (u1_up A [(47, y2_47), (54, y2_54)] 54 (wr y2_54 ((4 * a_u) + (y2_47 a_u.toNat)) x66)) (fun H locs hM => ?_)
                  have hM : MWd D dA h0 ad (mF dA h0 ad (f, g, A, L) s.heap.size) s.heap ((up f [(8, x63), (9, x64), (7, x65), (10, x66), (5, y2_5), (6, y2_6)]), (up g [(11, w67)]), (up A [(47, y2_47), (54, (wr y2_54 ((4 * a_u) + (y2_47 a_u.toNat)) x66))]), (up L [(55, y2_55)])) H locs := hM
                  refine lv_aload_n B.1 B.2.1 dX12_readArgs_88 rfl (lv_at hl 1 rfl) ?_
                  refine m_geta (k := 55) B hM (by decide) rfl fl260 dX12_readArgs_89 ?_
                  refine lv_iload_n B.1 B.2.1 dX12_readArgs_92 rfl (lv_at hl 0 rfl) ?_
                  refine lv_aload_n B.1 B.2.1 dX12_readArgs_93 rfl (lv_at hl 1 rfl) ?_
                  refine m_get (k := 7) (v := x65) B hM (by decide) rfl fl66 dX12_readArgs_94 rfl ?_
                  refine q_con B dX12_readArgs_97 ?_
                  refine q_cne (tgt := 108) B dX12_readArgs_98 (by decide) (by unfold inr; omega) (by unfold inr; omega) (fun c80 => ?_) (fun c80 => ?_)
                  · refine lv_lconst (v := 0) B.1 B.2.1 dX12_readArgs_108 (by decide) ?_
                    exact JJ109 ((4 * a_u) + (y2_47 a_u.toNat)) v2_2 ((0 : Int64)) ((4 * a_u) + (y2_47 a_u.toNat)) x63 x64 x65 x66 y2_5 y2_6 w67 y2_47 ((wr y2_54 ((4 * a_u) + (y2_47 a_u.toNat)) x66)) y2_55 _ _ ls hM (lv_sub hl [1, 2, 0, 3] rfl) (by omega) (by omega) (by omega) (by first | omega | (simp only [wr_at]; omega) | assumption) (by first | omega | (simp only [wr_at]; omega) | assumption) (by first | omega | (simp only [wr_at]; omega) | assumption) (by first | omega | (simp only [wr_at]; omega) | assumption) (by first | omega | (simp only [wr_at]; omega) | assumption) (by first | omega | (simp only [wr_at]; omega) | assumption) (by first | omega | (simp only [wr_at]; omega) | assumption) (by first | omega | (simp only [wr_at]; omega) | assumption)
                  · refine lv_aload_n B.1 B.2.1 dX12_readArgs_101 rfl (lv_at hl 1 rfl) ?_
                    refine m_getl (k := 11) B hM (by decide) rfl fl76 dX12_readArgs_102 rfl ?_
                    refine lv_goto (tgt := 109) B.1 B.2.1 dX12_readArgs_105 (by decide) ?_
                    exact JJ109 ((4 * a_u) + (y2_47 a_u.toNat)) v2_2 w67 ((4 * a_u) + (y2_47 a_u.toNat)) x63 x64 x65 x66 y2_5 y2_6 w67 y2_47 ((wr y2_54 ((4 * a_u) + (y2_47 a_u.toNat)) x66)) y2_55 _ _ ls hM (lv_sub hl [1, 2, 0, 3] rfl) (by omega) (by omega) (by omega) (by first | omega | (simp only [wr_at]; omega) | assumption) (by first | omega | (simp only [wr_at]; omega) | assumption) (by first | omega | (simp only [wr_at]; omega) | assumption) (by first | omega | (simp only [wr_at]; omega) | assumption) (by first | omega | (simp only [wr_at]; omega) | assumption) (by first | omega | (simp only [wr_at]; omega) | assumption) (by first | omega | (simp only [wr_at]; omega) | assumption) (by first | omega | (simp only [wr_at]; omega) | assumption)
              · subst hPST
                exact m_vret B hM dX12_readArgs_65 ⟨x63, x64, x65, x66, y2_5, y2_6, w67, y2_47, y2_54, y2_55, rfl, by omega⟩
            · refine lv_aload_n B.1 B.2.1 dX12_readArgs_54 rfl (lv_at hl 1 rfl) ?_
              refine m_callv (n := 0) (rest := []) B hM hA hl.1 (k_wrong l D dA h0 ad (up f [(8, x63), (9, x64), (7, x65), (10, x66), (5, y2_5), (6, y2_6)]) (up g [(11, w67)]) (up A [(47, y2_47), (54, y2_54)]) (up L [(55, y2_55)])   ) rfl ok_wrong nm_wrong ⟨rfl, rfl⟩ ⟨Nat.le_of_ble_eq_true rfl, Nat.le_of_ble_eq_true rfl⟩ dX12_readArgs_55 rfl rfl (Nat.le_of_ble_eq_true rfl) ⟨Nat.zero_le _, Nat.zero_le _⟩ (fun σr81 H locs hp82 hM => ?_)
              obtain ⟨x83, x84, rfl, hp82⟩ := hp82
              have hp82 : (x83) ≠ 0 := hp82
              simp only [up_up] at hM
              have hM : MWd D dA h0 ad (mF dA h0 ad (f, g, A, L) s.heap.size) s.heap ((up f [(8, x63), (9, x64), (7, x65), (10, x66), (5, x83), (6, x84)]), (up g [(11, w67)]), (up A [(47, y2_47), (54, y2_54)]), (up L [(55, y2_55)])) H locs := hM
              have r85 : (-2147483648 : Int) ≤ x83 ∧ x83 ≤ 2147483647 := hM.2.2.2.1 5
              have r86 : (-2147483648 : Int) ≤ x84 ∧ x84 ≤ 2147483647 := hM.2.2.2.1 6
              refine lv_aload_n B.1 B.2.1 dX12_readArgs_58 rfl (lv_at hl 1 rfl) ?_
              refine m_calli (n := 0) (rest := []) B hM hA hl.1 (k_isGood l D dA h0 ad (up f [(8, x63), (9, x64), (7, x65), (10, x66), (5, x83), (6, x84)]) (up g [(11, w67)]) (up A [(47, y2_47), (54, y2_54)]) (up L [(55, y2_55)])   ) rfl ok_isGood nm_isGood ⟨rfl, rfl⟩ ⟨Nat.le_of_ble_eq_true rfl, Nat.le_of_ble_eq_true rfl⟩ dX12_readArgs_59 rfl rfl (Nat.le_of_ble_eq_true rfl) ⟨Nat.zero_le _, Nat.zero_le _⟩ (fun r87 σr87 H locs ir87 hp88 hM => ?_)
              obtain ⟨rfl, hp88⟩ := hp88
              unfold inr at ir87
              have hp88 : 0 ≤ r87 ∧ r87 ≤ 1 ∧ (r87 = 1 ↔ (x83) = 0) := hp88
              refine q_ine (tgt := 66) B dX12_readArgs_62 (by decide) (by unfold inr; omega) (fun c89 => ?_) (fun c89 => ?_)
              · refine lv_aload_n B.1 B.2.1 dX12_readArgs_66 rfl (lv_at hl 1 rfl) ?_
                refine m_geta (k := 54) B hM (by decide) rfl fl257 dX12_readArgs_67 ?_
                refine lv_iload_n B.1 B.2.1 dX12_readArgs_70 rfl (lv_at hl 0 rfl) ?_
                refine lv_aload_n B.1 B.2.1 dX12_readArgs_71 rfl (lv_at hl 1 rfl) ?_
                refine m_get (k := 7) (v := x65) B hM (by decide) rfl fl66 dX12_readArgs_72 rfl ?_
                refine q_con B dX12_readArgs_75 ?_
                refine q_cne (tgt := 86) B dX12_readArgs_76 (by decide) (by unfold inr; omega) (by unfold inr; omega) (fun c90 => ?_) (fun c90 => ?_)
                · refine q_con B dX12_readArgs_86 ?_
                  refine m_ist (k := 54) (i := 42) (n := 12800) B hM rfl rfl rfl (by decide) dX12_readArgs_87 (by omega) (by omega) (show (-2147483648 : Int) ≤ 0 by omega) (show 0 ≤ (2147483647 : Int) by omega) (u1_up A [(47, y2_47), (54, y2_54)] 54 (wr y2_54 ((4 * a_u) + (y2_47 a_u.toNat)) 0)) (fun H locs hM => ?_)
                  have hM : MWd D dA h0 ad (mF dA h0 ad (f, g, A, L) s.heap.size) s.heap ((up f [(8, x63), (9, x64), (7, x65), (10, x66), (5, x83), (6, x84)]), (up g [(11, w67)]), (up A [(47, y2_47), (54, (wr y2_54 ((4 * a_u) + (y2_47 a_u.toNat)) 0))]), (up L [(55, y2_55)])) H locs := hM
                  refine lv_aload_n B.1 B.2.1 dX12_readArgs_88 rfl (lv_at hl 1 rfl) ?_
                  refine m_geta (k := 55) B hM (by decide) rfl fl260 dX12_readArgs_89 ?_
                  refine lv_iload_n B.1 B.2.1 dX12_readArgs_92 rfl (lv_at hl 0 rfl) ?_
                  refine lv_aload_n B.1 B.2.1 dX12_readArgs_93 rfl (lv_at hl 1 rfl) ?_
                  refine m_get (k := 7) (v := x65) B hM (by decide) rfl fl66 dX12_readArgs_94 rfl ?_
                  refine q_con B dX12_readArgs_97 ?_
                  refine q_cne (tgt := 108) B dX12_readArgs_98 (by decide) (by unfold inr; omega) (by unfold inr; omega) (fun c91 => ?_) (fun c91 => ?_)
                  · refine lv_lconst (v := 0) B.1 B.2.1 dX12_readArgs_108 (by decide) ?_
                    exact JJ109 ((4 * a_u) + (y2_47 a_u.toNat)) v2_2 ((0 : Int64)) ((4 * a_u) + (y2_47 a_u.toNat)) x63 x64 x65 x66 x83 x84 w67 y2_47 ((wr y2_54 ((4 * a_u) + (y2_47 a_u.toNat)) 0)) y2_55 _ _ ls hM (lv_sub hl [1, 2, 0, 3] rfl) (by omega) (by omega) (by omega) (by first | omega | (simp only [wr_at]; omega) | assumption) (by first | omega | (simp only [wr_at]; omega) | assumption) (by first | omega | (simp only [wr_at]; omega) | assumption) (by first | omega | (simp only [wr_at]; omega) | assumption) (by first | omega | (simp only [wr_at]; omega) | assumption) (by first | omega | (simp only [wr_at]; omega) | assumption) (by first | omega | (simp only [wr_at]; omega) | assumption) (by first | omega | (simp only [wr_at]; omega) | assumption)
                  · refine lv_aload_n B.1 B.2.1 dX12_readArgs_101 rfl (lv_at hl 1 rfl) ?_
                    refine m_getl (k := 11) B hM (by decide) rfl fl76 dX12_readArgs_102 rfl ?_
                    refine lv_goto (tgt := 109) B.1 B.2.1 dX12_readArgs_105 (by decide) ?_
                    exact JJ109 ((4 * a_u) + (y2_47 a_u.toNat)) v2_2 w67 ((4 * a_u) + (y2_47 a_u.toNat)) x63 x64 x65 x66 x83 x84 w67 y2_47 ((wr y2_54 ((4 * a_u) + (y2_47 a_u.toNat)) 0)) y2_55 _ _ ls hM (lv_sub hl [1, 2, 0, 3] rfl) (by omega) (by omega) (by omega) (by first | omega | (simp only [wr_at]; omega) | assumption) (by first | omega | (simp only [wr_at]; omega) | assumption) (by first | omega | (simp only [wr_at]; omega) | assumption) (by first | omega | (simp only [wr_at]; omega) | assumption) (by first | omega | (simp only [wr_at]; omega) | assumption) (by first | omega | (simp only [wr_at]; omega) | assumption) (by first | omega | (simp only [wr_at]; omega) | assumption) (by first | omega | (simp only [wr_at]; omega) | assumption)
                · refine lv_aload_n B.1 B.2.1 dX12_readArgs_79 rfl (lv_at hl 1 rfl) ?_
                  refine m_get (k := 10) (v := x66) B hM (by decide) rfl fl91 dX12_readArgs_80 rfl ?_
                  refine lv_goto (tgt := 87) B.1 B.2.1 dX12_readArgs_83 (by decide) ?_
                  refine m_ist (k := 54) (i := 42) (n := 12800) B hM rfl rfl rfl (by decide) dX12_readArgs_87 (by omega) (by omega) (show (-2147483648 : Int) ≤ x66 by omega) (show x66 ≤ (2147483647 : Int) by omega) (u1_up A [(47, y2_47), (54, y2_54)] 54 (wr y2_54 ((4 * a_u) + (y2_47 a_u.toNat)) x66)) (fun H locs hM => ?_)
                  have hM : MWd D dA h0 ad (mF dA h0 ad (f, g, A, L) s.heap.size) s.heap ((up f [(8, x63), (9, x64), (7, x65), (10, x66), (5, x83), (6, x84)]), (up g [(11, w67)]), (up A [(47, y2_47), (54, (wr y2_54 ((4 * a_u) + (y2_47 a_u.toNat)) x66))]), (up L [(55, y2_55)])) H locs := hM
                  refine lv_aload_n B.1 B.2.1 dX12_readArgs_88 rfl (lv_at hl 1 rfl) ?_
                  refine m_geta (k := 55) B hM (by decide) rfl fl260 dX12_readArgs_89 ?_
                  refine lv_iload_n B.1 B.2.1 dX12_readArgs_92 rfl (lv_at hl 0 rfl) ?_
                  refine lv_aload_n B.1 B.2.1 dX12_readArgs_93 rfl (lv_at hl 1 rfl) ?_
                  refine m_get (k := 7) (v := x65) B hM (by decide) rfl fl66 dX12_readArgs_94 rfl ?_
                  refine q_con B dX12_readArgs_97 ?_
                  refine q_cne (tgt := 108) B dX12_readArgs_98 (by decide) (by unfold inr; omega) (by unfold inr; omega) (fun c92 => ?_) (fun c92 => ?_)
                  · refine lv_lconst (v := 0) B.1 B.2.1 dX12_readArgs_108 (by decide) ?_
                    exact JJ109 ((4 * a_u) + (y2_47 a_u.toNat)) v2_2 ((0 : Int64)) ((4 * a_u) + (y2_47 a_u.toNat)) x63 x64 x65 x66 x83 x84 w67 y2_47 ((wr y2_54 ((4 * a_u) + (y2_47 a_u.toNat)) x66)) y2_55 _ _ ls hM (lv_sub hl [1, 2, 0, 3] rfl) (by omega) (by omega) (by omega) (by first | omega | (simp only [wr_at]; omega) | assumption) (by first | omega | (simp only [wr_at]; omega) | assumption) (by first | omega | (simp only [wr_at]; omega) | assumption) (by first | omega | (simp only [wr_at]; omega) | assumption) (by first | omega | (simp only [wr_at]; omega) | assumption) (by first | omega | (simp only [wr_at]; omega) | assumption) (by first | omega | (simp only [wr_at]; omega) | assumption) (by first | omega | (simp only [wr_at]; omega) | assumption)
                  · refine lv_aload_n B.1 B.2.1 dX12_readArgs_101 rfl (lv_at hl 1 rfl) ?_
                    refine m_getl (k := 11) B hM (by decide) rfl fl76 dX12_readArgs_102 rfl ?_
                    refine lv_goto (tgt := 109) B.1 B.2.1 dX12_readArgs_105 (by decide) ?_
                    exact JJ109 ((4 * a_u) + (y2_47 a_u.toNat)) v2_2 w67 ((4 * a_u) + (y2_47 a_u.toNat)) x63 x64 x65 x66 x83 x84 w67 y2_47 ((wr y2_54 ((4 * a_u) + (y2_47 a_u.toNat)) x66)) y2_55 _ _ ls hM (lv_sub hl [1, 2, 0, 3] rfl) (by omega) (by omega) (by omega) (by first | omega | (simp only [wr_at]; omega) | assumption) (by first | omega | (simp only [wr_at]; omega) | assumption) (by first | omega | (simp only [wr_at]; omega) | assumption) (by first | omega | (simp only [wr_at]; omega) | assumption) (by first | omega | (simp only [wr_at]; omega) | assumption) (by first | omega | (simp only [wr_at]; omega) | assumption) (by first | omega | (simp only [wr_at]; omega) | assumption) (by first | omega | (simp only [wr_at]; omega) | assumption)
              · subst hPST
                exact m_vret B hM dX12_readArgs_65 ⟨x63, x64, x65, x66, x83, x84, w67, y2_47, y2_54, y2_55, rfl, by omega⟩
          · refine lv_aload_n B.1 B.2.1 dX12_readArgs_36 rfl (lv_at hl 1 rfl) ?_
            refine m_get (k := 7) (v := x65) B hM (by decide) rfl fl66 dX12_readArgs_37 rfl ?_
            refine q_con B dX12_readArgs_40 ?_
            refine q_cne (tgt := 54) B dX12_readArgs_41 (by decide) (by unfold inr; omega) (by unfold inr; omega) (fun c93 => ?_) (fun c93 => ?_)
            · refine lv_aload_n B.1 B.2.1 dX12_readArgs_54 rfl (lv_at hl 1 rfl) ?_
              refine m_callv (n := 0) (rest := []) B hM hA hl.1 (k_wrong l D dA h0 ad (up f [(8, x63), (9, x64), (7, x65), (10, x66), (5, y2_5), (6, y2_6)]) (up g [(11, w67)]) (up A [(47, y2_47), (54, y2_54)]) (up L [(55, y2_55)])   ) rfl ok_wrong nm_wrong ⟨rfl, rfl⟩ ⟨Nat.le_of_ble_eq_true rfl, Nat.le_of_ble_eq_true rfl⟩ dX12_readArgs_55 rfl rfl (Nat.le_of_ble_eq_true rfl) ⟨Nat.zero_le _, Nat.zero_le _⟩ (fun σr94 H locs hp95 hM => ?_)
              obtain ⟨x96, x97, rfl, hp95⟩ := hp95
              have hp95 : (x96) ≠ 0 := hp95
              simp only [up_up] at hM
              have hM : MWd D dA h0 ad (mF dA h0 ad (f, g, A, L) s.heap.size) s.heap ((up f [(8, x63), (9, x64), (7, x65), (10, x66), (5, x96), (6, x97)]), (up g [(11, w67)]), (up A [(47, y2_47), (54, y2_54)]), (up L [(55, y2_55)])) H locs := hM
              have r98 : (-2147483648 : Int) ≤ x96 ∧ x96 ≤ 2147483647 := hM.2.2.2.1 5
              have r99 : (-2147483648 : Int) ≤ x97 ∧ x97 ≤ 2147483647 := hM.2.2.2.1 6
              refine lv_aload_n B.1 B.2.1 dX12_readArgs_58 rfl (lv_at hl 1 rfl) ?_
              refine m_calli (n := 0) (rest := []) B hM hA hl.1 (k_isGood l D dA h0 ad (up f [(8, x63), (9, x64), (7, x65), (10, x66), (5, x96), (6, x97)]) (up g [(11, w67)]) (up A [(47, y2_47), (54, y2_54)]) (up L [(55, y2_55)])   ) rfl ok_isGood nm_isGood ⟨rfl, rfl⟩ ⟨Nat.le_of_ble_eq_true rfl, Nat.le_of_ble_eq_true rfl⟩ dX12_readArgs_59 rfl rfl (Nat.le_of_ble_eq_true rfl) ⟨Nat.zero_le _, Nat.zero_le _⟩ (fun r100 σr100 H locs ir100 hp101 hM => ?_)
              obtain ⟨rfl, hp101⟩ := hp101
              unfold inr at ir100
              have hp101 : 0 ≤ r100 ∧ r100 ≤ 1 ∧ (r100 = 1 ↔ (x96) = 0) := hp101
              refine q_ine (tgt := 66) B dX12_readArgs_62 (by decide) (by unfold inr; omega) (fun c102 => ?_) (fun c102 => ?_)
              · refine lv_aload_n B.1 B.2.1 dX12_readArgs_66 rfl (lv_at hl 1 rfl) ?_
                refine m_geta (k := 54) B hM (by decide) rfl fl257 dX12_readArgs_67 ?_
                refine lv_iload_n B.1 B.2.1 dX12_readArgs_70 rfl (lv_at hl 0 rfl) ?_
                refine lv_aload_n B.1 B.2.1 dX12_readArgs_71 rfl (lv_at hl 1 rfl) ?_
                refine m_get (k := 7) (v := x65) B hM (by decide) rfl fl66 dX12_readArgs_72 rfl ?_
                refine q_con B dX12_readArgs_75 ?_
                refine q_cne (tgt := 86) B dX12_readArgs_76 (by decide) (by unfold inr; omega) (by unfold inr; omega) (fun c103 => ?_) (fun c103 => ?_)
                · refine q_con B dX12_readArgs_86 ?_
                  refine m_ist (k := 54) (i := 42) (n := 12800) B hM rfl rfl rfl (by decide) dX12_readArgs_87 (by omega) (by omega) (show (-2147483648 : Int) ≤ 0 by omega) (show 0 ≤ (2147483647 : Int) by omega) (u1_up A [(47, y2_47), (54, y2_54)] 54 (wr y2_54 ((4 * a_u) + (y2_47 a_u.toNat)) 0)) (fun H locs hM => ?_)
                  have hM : MWd D dA h0 ad (mF dA h0 ad (f, g, A, L) s.heap.size) s.heap ((up f [(8, x63), (9, x64), (7, x65), (10, x66), (5, x96), (6, x97)]), (up g [(11, w67)]), (up A [(47, y2_47), (54, (wr y2_54 ((4 * a_u) + (y2_47 a_u.toNat)) 0))]), (up L [(55, y2_55)])) H locs := hM
                  refine lv_aload_n B.1 B.2.1 dX12_readArgs_88 rfl (lv_at hl 1 rfl) ?_
                  refine m_geta (k := 55) B hM (by decide) rfl fl260 dX12_readArgs_89 ?_
                  refine lv_iload_n B.1 B.2.1 dX12_readArgs_92 rfl (lv_at hl 0 rfl) ?_
                  refine lv_aload_n B.1 B.2.1 dX12_readArgs_93 rfl (lv_at hl 1 rfl) ?_
                  refine m_get (k := 7) (v := x65) B hM (by decide) rfl fl66 dX12_readArgs_94 rfl ?_
                  refine q_con B dX12_readArgs_97 ?_
                  refine q_cne (tgt := 108) B dX12_readArgs_98 (by decide) (by unfold inr; omega) (by unfold inr; omega) (fun c104 => ?_) (fun c104 => ?_)
                  · refine lv_lconst (v := 0) B.1 B.2.1 dX12_readArgs_108 (by decide) ?_
                    exact JJ109 ((4 * a_u) + (y2_47 a_u.toNat)) v2_2 ((0 : Int64)) ((4 * a_u) + (y2_47 a_u.toNat)) x63 x64 x65 x66 x96 x97 w67 y2_47 ((wr y2_54 ((4 * a_u) + (y2_47 a_u.toNat)) 0)) y2_55 _ _ ls hM (lv_sub hl [1, 2, 0, 3] rfl) (by omega) (by omega) (by omega) (by first | omega | (simp only [wr_at]; omega) | assumption) (by first | omega | (simp only [wr_at]; omega) | assumption) (by first | omega | (simp only [wr_at]; omega) | assumption) (by first | omega | (simp only [wr_at]; omega) | assumption) (by first | omega | (simp only [wr_at]; omega) | assumption) (by first | omega | (simp only [wr_at]; omega) | assumption) (by first | omega | (simp only [wr_at]; omega) | assumption) (by first | omega | (simp only [wr_at]; omega) | assumption)
                  · refine lv_aload_n B.1 B.2.1 dX12_readArgs_101 rfl (lv_at hl 1 rfl) ?_
                    refine m_getl (k := 11) B hM (by decide) rfl fl76 dX12_readArgs_102 rfl ?_
                    refine lv_goto (tgt := 109) B.1 B.2.1 dX12_readArgs_105 (by decide) ?_
                    exact JJ109 ((4 * a_u) + (y2_47 a_u.toNat)) v2_2 w67 ((4 * a_u) + (y2_47 a_u.toNat)) x63 x64 x65 x66 x96 x97 w67 y2_47 ((wr y2_54 ((4 * a_u) + (y2_47 a_u.toNat)) 0)) y2_55 _ _ ls hM (lv_sub hl [1, 2, 0, 3] rfl) (by omega) (by omega) (by omega) (by first | omega | (simp only [wr_at]; omega) | assumption) (by first | omega | (simp only [wr_at]; omega) | assumption) (by first | omega | (simp only [wr_at]; omega) | assumption) (by first | omega | (simp only [wr_at]; omega) | assumption) (by first | omega | (simp only [wr_at]; omega) | assumption) (by first | omega | (simp only [wr_at]; omega) | assumption) (by first | omega | (simp only [wr_at]; omega) | assumption) (by first | omega | (simp only [wr_at]; omega) | assumption)
                · refine lv_aload_n B.1 B.2.1 dX12_readArgs_79 rfl (lv_at hl 1 rfl) ?_
                  refine m_get (k := 10) (v := x66) B hM (by decide) rfl fl91 dX12_readArgs_80 rfl ?_
                  refine lv_goto (tgt := 87) B.1 B.2.1 dX12_readArgs_83 (by decide) ?_
                  refine m_ist (k := 54) (i := 42) (n := 12800) B hM rfl rfl rfl (by decide) dX12_readArgs_87 (by omega) (by omega) (show (-2147483648 : Int) ≤ x66 by omega) (show x66 ≤ (2147483647 : Int) by omega) (u1_up A [(47, y2_47), (54, y2_54)] 54 (wr y2_54 ((4 * a_u) + (y2_47 a_u.toNat)) x66)) (fun H locs hM => ?_)
                  have hM : MWd D dA h0 ad (mF dA h0 ad (f, g, A, L) s.heap.size) s.heap ((up f [(8, x63), (9, x64), (7, x65), (10, x66), (5, x96), (6, x97)]), (up g [(11, w67)]), (up A [(47, y2_47), (54, (wr y2_54 ((4 * a_u) + (y2_47 a_u.toNat)) x66))]), (up L [(55, y2_55)])) H locs := hM
                  refine lv_aload_n B.1 B.2.1 dX12_readArgs_88 rfl (lv_at hl 1 rfl) ?_
                  refine m_geta (k := 55) B hM (by decide) rfl fl260 dX12_readArgs_89 ?_
                  refine lv_iload_n B.1 B.2.1 dX12_readArgs_92 rfl (lv_at hl 0 rfl) ?_
                  refine lv_aload_n B.1 B.2.1 dX12_readArgs_93 rfl (lv_at hl 1 rfl) ?_
                  refine m_get (k := 7) (v := x65) B hM (by decide) rfl fl66 dX12_readArgs_94 rfl ?_
                  refine q_con B dX12_readArgs_97 ?_
                  refine q_cne (tgt := 108) B dX12_readArgs_98 (by decide) (by unfold inr; omega) (by unfold inr; omega) (fun c105 => ?_) (fun c105 => ?_)
                  · refine lv_lconst (v := 0) B.1 B.2.1 dX12_readArgs_108 (by decide) ?_
                    exact JJ109 ((4 * a_u) + (y2_47 a_u.toNat)) v2_2 ((0 : Int64)) ((4 * a_u) + (y2_47 a_u.toNat)) x63 x64 x65 x66 x96 x97 w67 y2_47 ((wr y2_54 ((4 * a_u) + (y2_47 a_u.toNat)) x66)) y2_55 _ _ ls hM (lv_sub hl [1, 2, 0, 3] rfl) (by omega) (by omega) (by omega) (by first | omega | (simp only [wr_at]; omega) | assumption) (by first | omega | (simp only [wr_at]; omega) | assumption) (by first | omega | (simp only [wr_at]; omega) | assumption) (by first | omega | (simp only [wr_at]; omega) | assumption) (by first | omega | (simp only [wr_at]; omega) | assumption) (by first | omega | (simp only [wr_at]; omega) | assumption) (by first | omega | (simp only [wr_at]; omega) | assumption) (by first | omega | (simp only [wr_at]; omega) | assumption)
                  · refine lv_aload_n B.1 B.2.1 dX12_readArgs_101 rfl (lv_at hl 1 rfl) ?_
                    refine m_getl (k := 11) B hM (by decide) rfl fl76 dX12_readArgs_102 rfl ?_
                    refine lv_goto (tgt := 109) B.1 B.2.1 dX12_readArgs_105 (by decide) ?_
                    exact JJ109 ((4 * a_u) + (y2_47 a_u.toNat)) v2_2 w67 ((4 * a_u) + (y2_47 a_u.toNat)) x63 x64 x65 x66 x96 x97 w67 y2_47 ((wr y2_54 ((4 * a_u) + (y2_47 a_u.toNat)) x66)) y2_55 _ _ ls hM (lv_sub hl [1, 2, 0, 3] rfl) (by omega) (by omega) (by omega) (by first | omega | (simp only [wr_at]; omega) | assumption) (by first | omega | (simp only [wr_at]; omega) | assumption) (by first | omega | (simp only [wr_at]; omega) | assumption) (by first | omega | (simp only [wr_at]; omega) | assumption) (by first | omega | (simp only [wr_at]; omega) | assumption) (by first | omega | (simp only [wr_at]; omega) | assumption) (by first | omega | (simp only [wr_at]; omega) | assumption) (by first | omega | (simp only [wr_at]; omega) | assumption)
              · subst hPST
                exact m_vret B hM dX12_readArgs_65 ⟨x63, x64, x65, x66, x96, x97, w67, y2_47, y2_54, y2_55, rfl, by omega⟩
            · refine lv_aload_n B.1 B.2.1 dX12_readArgs_44 rfl (lv_at hl 1 rfl) ?_
              refine m_geta (k := 47) B hM (by decide) rfl fl235 dX12_readArgs_45 ?_
              refine lv_iload_n B.1 B.2.1 dX12_readArgs_48 rfl (lv_at hl 2 rfl) ?_
              refine m_ild (k := 47) (i := 35) (n := 3200) (z := a_u) (v := y2_47 a_u.toNat) B hM rfl rfl rfl (by decide) dX12_readArgs_49 (by omega) (by omega) rfl ?_
              refine q_con B dX12_readArgs_50 ?_
              refine q_cne (tgt := 58) B dX12_readArgs_51 (by decide) (by unfold inr; omega) (by unfold inr; omega) (fun c106 => ?_) (fun c106 => ?_)
              · refine lv_aload_n B.1 B.2.1 dX12_readArgs_58 rfl (lv_at hl 1 rfl) ?_
                refine m_calli (n := 0) (rest := []) B hM hA hl.1 (k_isGood l D dA h0 ad (up f [(8, x63), (9, x64), (7, x65), (10, x66), (5, y2_5), (6, y2_6)]) (up g [(11, w67)]) (up A [(47, y2_47), (54, y2_54)]) (up L [(55, y2_55)])   ) rfl ok_isGood nm_isGood ⟨rfl, rfl⟩ ⟨Nat.le_of_ble_eq_true rfl, Nat.le_of_ble_eq_true rfl⟩ dX12_readArgs_59 rfl rfl (Nat.le_of_ble_eq_true rfl) ⟨Nat.zero_le _, Nat.zero_le _⟩ (fun r107 σr107 H locs ir107 hp108 hM => ?_)
                obtain ⟨rfl, hp108⟩ := hp108
                unfold inr at ir107
                have hp108 : 0 ≤ r107 ∧ r107 ≤ 1 ∧ (r107 = 1 ↔ (y2_5) = 0) := hp108
                refine q_ine (tgt := 66) B dX12_readArgs_62 (by decide) (by unfold inr; omega) (fun c109 => ?_) (fun c109 => ?_)
                · refine lv_aload_n B.1 B.2.1 dX12_readArgs_66 rfl (lv_at hl 1 rfl) ?_
                  refine m_geta (k := 54) B hM (by decide) rfl fl257 dX12_readArgs_67 ?_
                  refine lv_iload_n B.1 B.2.1 dX12_readArgs_70 rfl (lv_at hl 0 rfl) ?_
                  refine lv_aload_n B.1 B.2.1 dX12_readArgs_71 rfl (lv_at hl 1 rfl) ?_
                  refine m_get (k := 7) (v := x65) B hM (by decide) rfl fl66 dX12_readArgs_72 rfl ?_
                  refine q_con B dX12_readArgs_75 ?_
                  refine q_cne (tgt := 86) B dX12_readArgs_76 (by decide) (by unfold inr; omega) (by unfold inr; omega) (fun c110 => ?_) (fun c110 => ?_)
                  · refine q_con B dX12_readArgs_86 ?_
                    refine m_ist (k := 54) (i := 42) (n := 12800) B hM rfl rfl rfl (by decide) dX12_readArgs_87 (by omega) (by omega) (show (-2147483648 : Int) ≤ 0 by omega) (show 0 ≤ (2147483647 : Int) by omega) (u1_up A [(47, y2_47), (54, y2_54)] 54 (wr y2_54 ((4 * a_u) + (y2_47 a_u.toNat)) 0)) (fun H locs hM => ?_)
                    have hM : MWd D dA h0 ad (mF dA h0 ad (f, g, A, L) s.heap.size) s.heap ((up f [(8, x63), (9, x64), (7, x65), (10, x66), (5, y2_5), (6, y2_6)]), (up g [(11, w67)]), (up A [(47, y2_47), (54, (wr y2_54 ((4 * a_u) + (y2_47 a_u.toNat)) 0))]), (up L [(55, y2_55)])) H locs := hM
                    refine lv_aload_n B.1 B.2.1 dX12_readArgs_88 rfl (lv_at hl 1 rfl) ?_
                    refine m_geta (k := 55) B hM (by decide) rfl fl260 dX12_readArgs_89 ?_
                    refine lv_iload_n B.1 B.2.1 dX12_readArgs_92 rfl (lv_at hl 0 rfl) ?_
                    refine lv_aload_n B.1 B.2.1 dX12_readArgs_93 rfl (lv_at hl 1 rfl) ?_
                    refine m_get (k := 7) (v := x65) B hM (by decide) rfl fl66 dX12_readArgs_94 rfl ?_
                    refine q_con B dX12_readArgs_97 ?_
                    refine q_cne (tgt := 108) B dX12_readArgs_98 (by decide) (by unfold inr; omega) (by unfold inr; omega) (fun c111 => ?_) (fun c111 => ?_)
                    · refine lv_lconst (v := 0) B.1 B.2.1 dX12_readArgs_108 (by decide) ?_
                      exact JJ109 ((4 * a_u) + (y2_47 a_u.toNat)) v2_2 ((0 : Int64)) ((4 * a_u) + (y2_47 a_u.toNat)) x63 x64 x65 x66 y2_5 y2_6 w67 y2_47 ((wr y2_54 ((4 * a_u) + (y2_47 a_u.toNat)) 0)) y2_55 _ _ ls hM (lv_sub hl [1, 2, 0, 3] rfl) (by omega) (by omega) (by omega) (by first | omega | (simp only [wr_at]; omega) | assumption) (by first | omega | (simp only [wr_at]; omega) | assumption) (by first | omega | (simp only [wr_at]; omega) | assumption) (by first | omega | (simp only [wr_at]; omega) | assumption) (by first | omega | (simp only [wr_at]; omega) | assumption) (by first | omega | (simp only [wr_at]; omega) | assumption) (by first | omega | (simp only [wr_at]; omega) | assumption) (by first | omega | (simp only [wr_at]; omega) | assumption)
                    · refine lv_aload_n B.1 B.2.1 dX12_readArgs_101 rfl (lv_at hl 1 rfl) ?_
                      refine m_getl (k := 11) B hM (by decide) rfl fl76 dX12_readArgs_102 rfl ?_
                      refine lv_goto (tgt := 109) B.1 B.2.1 dX12_readArgs_105 (by decide) ?_
                      exact JJ109 ((4 * a_u) + (y2_47 a_u.toNat)) v2_2 w67 ((4 * a_u) + (y2_47 a_u.toNat)) x63 x64 x65 x66 y2_5 y2_6 w67 y2_47 ((wr y2_54 ((4 * a_u) + (y2_47 a_u.toNat)) 0)) y2_55 _ _ ls hM (lv_sub hl [1, 2, 0, 3] rfl) (by omega) (by omega) (by omega) (by first | omega | (simp only [wr_at]; omega) | assumption) (by first | omega | (simp only [wr_at]; omega) | assumption) (by first | omega | (simp only [wr_at]; omega) | assumption) (by first | omega | (simp only [wr_at]; omega) | assumption) (by first | omega | (simp only [wr_at]; omega) | assumption) (by first | omega | (simp only [wr_at]; omega) | assumption) (by first | omega | (simp only [wr_at]; omega) | assumption) (by first | omega | (simp only [wr_at]; omega) | assumption)
                  · refine lv_aload_n B.1 B.2.1 dX12_readArgs_79 rfl (lv_at hl 1 rfl) ?_
                    refine m_get (k := 10) (v := x66) B hM (by decide) rfl fl91 dX12_readArgs_80 rfl ?_
                    refine lv_goto (tgt := 87) B.1 B.2.1 dX12_readArgs_83 (by decide) ?_
                    refine m_ist (k := 54) (i := 42) (n := 12800) B hM rfl rfl rfl (by decide) dX12_readArgs_87 (by omega) (by omega) (show (-2147483648 : Int) ≤ x66 by omega) (show x66 ≤ (2147483647 : Int) by omega) (u1_up A [(47, y2_47), (54, y2_54)] 54 (wr y2_54 ((4 * a_u) + (y2_47 a_u.toNat)) x66)) (fun H locs hM => ?_)
                    have hM : MWd D dA h0 ad (mF dA h0 ad (f, g, A, L) s.heap.size) s.heap ((up f [(8, x63), (9, x64), (7, x65), (10, x66), (5, y2_5), (6, y2_6)]), (up g [(11, w67)]), (up A [(47, y2_47), (54, (wr y2_54 ((4 * a_u) + (y2_47 a_u.toNat)) x66))]), (up L [(55, y2_55)])) H locs := hM
                    refine lv_aload_n B.1 B.2.1 dX12_readArgs_88 rfl (lv_at hl 1 rfl) ?_
                    refine m_geta (k := 55) B hM (by decide) rfl fl260 dX12_readArgs_89 ?_
                    refine lv_iload_n B.1 B.2.1 dX12_readArgs_92 rfl (lv_at hl 0 rfl) ?_
                    refine lv_aload_n B.1 B.2.1 dX12_readArgs_93 rfl (lv_at hl 1 rfl) ?_
                    refine m_get (k := 7) (v := x65) B hM (by decide) rfl fl66 dX12_readArgs_94 rfl ?_
                    refine q_con B dX12_readArgs_97 ?_
                    refine q_cne (tgt := 108) B dX12_readArgs_98 (by decide) (by unfold inr; omega) (by unfold inr; omega) (fun c112 => ?_) (fun c112 => ?_)
                    · refine lv_lconst (v := 0) B.1 B.2.1 dX12_readArgs_108 (by decide) ?_
                      exact JJ109 ((4 * a_u) + (y2_47 a_u.toNat)) v2_2 ((0 : Int64)) ((4 * a_u) + (y2_47 a_u.toNat)) x63 x64 x65 x66 y2_5 y2_6 w67 y2_47 ((wr y2_54 ((4 * a_u) + (y2_47 a_u.toNat)) x66)) y2_55 _ _ ls hM (lv_sub hl [1, 2, 0, 3] rfl) (by omega) (by omega) (by omega) (by first | omega | (simp only [wr_at]; omega) | assumption) (by first | omega | (simp only [wr_at]; omega) | assumption) (by first | omega | (simp only [wr_at]; omega) | assumption) (by first | omega | (simp only [wr_at]; omega) | assumption) (by first | omega | (simp only [wr_at]; omega) | assumption) (by first | omega | (simp only [wr_at]; omega) | assumption) (by first | omega | (simp only [wr_at]; omega) | assumption) (by first | omega | (simp only [wr_at]; omega) | assumption)
                    · refine lv_aload_n B.1 B.2.1 dX12_readArgs_101 rfl (lv_at hl 1 rfl) ?_
                      refine m_getl (k := 11) B hM (by decide) rfl fl76 dX12_readArgs_102 rfl ?_
                      refine lv_goto (tgt := 109) B.1 B.2.1 dX12_readArgs_105 (by decide) ?_
                      exact JJ109 ((4 * a_u) + (y2_47 a_u.toNat)) v2_2 w67 ((4 * a_u) + (y2_47 a_u.toNat)) x63 x64 x65 x66 y2_5 y2_6 w67 y2_47 ((wr y2_54 ((4 * a_u) + (y2_47 a_u.toNat)) x66)) y2_55 _ _ ls hM (lv_sub hl [1, 2, 0, 3] rfl) (by omega) (by omega) (by omega) (by first | omega | (simp only [wr_at]; omega) | assumption) (by first | omega | (simp only [wr_at]; omega) | assumption) (by first | omega | (simp only [wr_at]; omega) | assumption) (by first | omega | (simp only [wr_at]; omega) | assumption) (by first | omega | (simp only [wr_at]; omega) | assumption) (by first | omega | (simp only [wr_at]; omega) | assumption) (by first | omega | (simp only [wr_at]; omega) | assumption) (by first | omega | (simp only [wr_at]; omega) | assumption)
                · subst hPST
                  exact m_vret B hM dX12_readArgs_65 ⟨x63, x64, x65, x66, y2_5, y2_6, w67, y2_47, y2_54, y2_55, rfl, by omega⟩
              · refine lv_aload_n B.1 B.2.1 dX12_readArgs_54 rfl (lv_at hl 1 rfl) ?_
                refine m_callv (n := 0) (rest := []) B hM hA hl.1 (k_wrong l D dA h0 ad (up f [(8, x63), (9, x64), (7, x65), (10, x66), (5, y2_5), (6, y2_6)]) (up g [(11, w67)]) (up A [(47, y2_47), (54, y2_54)]) (up L [(55, y2_55)])   ) rfl ok_wrong nm_wrong ⟨rfl, rfl⟩ ⟨Nat.le_of_ble_eq_true rfl, Nat.le_of_ble_eq_true rfl⟩ dX12_readArgs_55 rfl rfl (Nat.le_of_ble_eq_true rfl) ⟨Nat.zero_le _, Nat.zero_le _⟩ (fun σr113 H locs hp114 hM => ?_)
                obtain ⟨x115, x116, rfl, hp114⟩ := hp114
                have hp114 : (x115) ≠ 0 := hp114
                simp only [up_up] at hM
                have hM : MWd D dA h0 ad (mF dA h0 ad (f, g, A, L) s.heap.size) s.heap ((up f [(8, x63), (9, x64), (7, x65), (10, x66), (5, x115), (6, x116)]), (up g [(11, w67)]), (up A [(47, y2_47), (54, y2_54)]), (up L [(55, y2_55)])) H locs := hM
                have r117 : (-2147483648 : Int) ≤ x115 ∧ x115 ≤ 2147483647 := hM.2.2.2.1 5
                have r118 : (-2147483648 : Int) ≤ x116 ∧ x116 ≤ 2147483647 := hM.2.2.2.1 6
                refine lv_aload_n B.1 B.2.1 dX12_readArgs_58 rfl (lv_at hl 1 rfl) ?_
                refine m_calli (n := 0) (rest := []) B hM hA hl.1 (k_isGood l D dA h0 ad (up f [(8, x63), (9, x64), (7, x65), (10, x66), (5, x115), (6, x116)]) (up g [(11, w67)]) (up A [(47, y2_47), (54, y2_54)]) (up L [(55, y2_55)])   ) rfl ok_isGood nm_isGood ⟨rfl, rfl⟩ ⟨Nat.le_of_ble_eq_true rfl, Nat.le_of_ble_eq_true rfl⟩ dX12_readArgs_59 rfl rfl (Nat.le_of_ble_eq_true rfl) ⟨Nat.zero_le _, Nat.zero_le _⟩ (fun r119 σr119 H locs ir119 hp120 hM => ?_)
                obtain ⟨rfl, hp120⟩ := hp120
                unfold inr at ir119
                have hp120 : 0 ≤ r119 ∧ r119 ≤ 1 ∧ (r119 = 1 ↔ (x115) = 0) := hp120
                refine q_ine (tgt := 66) B dX12_readArgs_62 (by decide) (by unfold inr; omega) (fun c121 => ?_) (fun c121 => ?_)
                · refine lv_aload_n B.1 B.2.1 dX12_readArgs_66 rfl (lv_at hl 1 rfl) ?_
                  refine m_geta (k := 54) B hM (by decide) rfl fl257 dX12_readArgs_67 ?_
                  refine lv_iload_n B.1 B.2.1 dX12_readArgs_70 rfl (lv_at hl 0 rfl) ?_
                  refine lv_aload_n B.1 B.2.1 dX12_readArgs_71 rfl (lv_at hl 1 rfl) ?_
                  refine m_get (k := 7) (v := x65) B hM (by decide) rfl fl66 dX12_readArgs_72 rfl ?_
                  refine q_con B dX12_readArgs_75 ?_
                  refine q_cne (tgt := 86) B dX12_readArgs_76 (by decide) (by unfold inr; omega) (by unfold inr; omega) (fun c122 => ?_) (fun c122 => ?_)
                  · refine q_con B dX12_readArgs_86 ?_
                    refine m_ist (k := 54) (i := 42) (n := 12800) B hM rfl rfl rfl (by decide) dX12_readArgs_87 (by omega) (by omega) (show (-2147483648 : Int) ≤ 0 by omega) (show 0 ≤ (2147483647 : Int) by omega) (u1_up A [(47, y2_47), (54, y2_54)] 54 (wr y2_54 ((4 * a_u) + (y2_47 a_u.toNat)) 0)) (fun H locs hM => ?_)
                    have hM : MWd D dA h0 ad (mF dA h0 ad (f, g, A, L) s.heap.size) s.heap ((up f [(8, x63), (9, x64), (7, x65), (10, x66), (5, x115), (6, x116)]), (up g [(11, w67)]), (up A [(47, y2_47), (54, (wr y2_54 ((4 * a_u) + (y2_47 a_u.toNat)) 0))]), (up L [(55, y2_55)])) H locs := hM
                    refine lv_aload_n B.1 B.2.1 dX12_readArgs_88 rfl (lv_at hl 1 rfl) ?_
                    refine m_geta (k := 55) B hM (by decide) rfl fl260 dX12_readArgs_89 ?_
                    refine lv_iload_n B.1 B.2.1 dX12_readArgs_92 rfl (lv_at hl 0 rfl) ?_
                    refine lv_aload_n B.1 B.2.1 dX12_readArgs_93 rfl (lv_at hl 1 rfl) ?_
                    refine m_get (k := 7) (v := x65) B hM (by decide) rfl fl66 dX12_readArgs_94 rfl ?_
                    refine q_con B dX12_readArgs_97 ?_
                    refine q_cne (tgt := 108) B dX12_readArgs_98 (by decide) (by unfold inr; omega) (by unfold inr; omega) (fun c123 => ?_) (fun c123 => ?_)
                    · refine lv_lconst (v := 0) B.1 B.2.1 dX12_readArgs_108 (by decide) ?_
                      exact JJ109 ((4 * a_u) + (y2_47 a_u.toNat)) v2_2 ((0 : Int64)) ((4 * a_u) + (y2_47 a_u.toNat)) x63 x64 x65 x66 x115 x116 w67 y2_47 ((wr y2_54 ((4 * a_u) + (y2_47 a_u.toNat)) 0)) y2_55 _ _ ls hM (lv_sub hl [1, 2, 0, 3] rfl) (by omega) (by omega) (by omega) (by first | omega | (simp only [wr_at]; omega) | assumption) (by first | omega | (simp only [wr_at]; omega) | assumption) (by first | omega | (simp only [wr_at]; omega) | assumption) (by first | omega | (simp only [wr_at]; omega) | assumption) (by first | omega | (simp only [wr_at]; omega) | assumption) (by first | omega | (simp only [wr_at]; omega) | assumption) (by first | omega | (simp only [wr_at]; omega) | assumption) (by first | omega | (simp only [wr_at]; omega) | assumption)
                    · refine lv_aload_n B.1 B.2.1 dX12_readArgs_101 rfl (lv_at hl 1 rfl) ?_
                      refine m_getl (k := 11) B hM (by decide) rfl fl76 dX12_readArgs_102 rfl ?_
                      refine lv_goto (tgt := 109) B.1 B.2.1 dX12_readArgs_105 (by decide) ?_
                      exact JJ109 ((4 * a_u) + (y2_47 a_u.toNat)) v2_2 w67 ((4 * a_u) + (y2_47 a_u.toNat)) x63 x64 x65 x66 x115 x116 w67 y2_47 ((wr y2_54 ((4 * a_u) + (y2_47 a_u.toNat)) 0)) y2_55 _ _ ls hM (lv_sub hl [1, 2, 0, 3] rfl) (by omega) (by omega) (by omega) (by first | omega | (simp only [wr_at]; omega) | assumption) (by first | omega | (simp only [wr_at]; omega) | assumption) (by first | omega | (simp only [wr_at]; omega) | assumption) (by first | omega | (simp only [wr_at]; omega) | assumption) (by first | omega | (simp only [wr_at]; omega) | assumption) (by first | omega | (simp only [wr_at]; omega) | assumption) (by first | omega | (simp only [wr_at]; omega) | assumption) (by first | omega | (simp only [wr_at]; omega) | assumption)
                  · refine lv_aload_n B.1 B.2.1 dX12_readArgs_79 rfl (lv_at hl 1 rfl) ?_
                    refine m_get (k := 10) (v := x66) B hM (by decide) rfl fl91 dX12_readArgs_80 rfl ?_
                    refine lv_goto (tgt := 87) B.1 B.2.1 dX12_readArgs_83 (by decide) ?_
                    refine m_ist (k := 54) (i := 42) (n := 12800) B hM rfl rfl rfl (by decide) dX12_readArgs_87 (by omega) (by omega) (show (-2147483648 : Int) ≤ x66 by omega) (show x66 ≤ (2147483647 : Int) by omega) (u1_up A [(47, y2_47), (54, y2_54)] 54 (wr y2_54 ((4 * a_u) + (y2_47 a_u.toNat)) x66)) (fun H locs hM => ?_)
                    have hM : MWd D dA h0 ad (mF dA h0 ad (f, g, A, L) s.heap.size) s.heap ((up f [(8, x63), (9, x64), (7, x65), (10, x66), (5, x115), (6, x116)]), (up g [(11, w67)]), (up A [(47, y2_47), (54, (wr y2_54 ((4 * a_u) + (y2_47 a_u.toNat)) x66))]), (up L [(55, y2_55)])) H locs := hM
                    refine lv_aload_n B.1 B.2.1 dX12_readArgs_88 rfl (lv_at hl 1 rfl) ?_
                    refine m_geta (k := 55) B hM (by decide) rfl fl260 dX12_readArgs_89 ?_
                    refine lv_iload_n B.1 B.2.1 dX12_readArgs_92 rfl (lv_at hl 0 rfl) ?_
                    refine lv_aload_n B.1 B.2.1 dX12_readArgs_93 rfl (lv_at hl 1 rfl) ?_
                    refine m_get (k := 7) (v := x65) B hM (by decide) rfl fl66 dX12_readArgs_94 rfl ?_
                    refine q_con B dX12_readArgs_97 ?_
                    refine q_cne (tgt := 108) B dX12_readArgs_98 (by decide) (by unfold inr; omega) (by unfold inr; omega) (fun c124 => ?_) (fun c124 => ?_)
                    · refine lv_lconst (v := 0) B.1 B.2.1 dX12_readArgs_108 (by decide) ?_
                      exact JJ109 ((4 * a_u) + (y2_47 a_u.toNat)) v2_2 ((0 : Int64)) ((4 * a_u) + (y2_47 a_u.toNat)) x63 x64 x65 x66 x115 x116 w67 y2_47 ((wr y2_54 ((4 * a_u) + (y2_47 a_u.toNat)) x66)) y2_55 _ _ ls hM (lv_sub hl [1, 2, 0, 3] rfl) (by omega) (by omega) (by omega) (by first | omega | (simp only [wr_at]; omega) | assumption) (by first | omega | (simp only [wr_at]; omega) | assumption) (by first | omega | (simp only [wr_at]; omega) | assumption) (by first | omega | (simp only [wr_at]; omega) | assumption) (by first | omega | (simp only [wr_at]; omega) | assumption) (by first | omega | (simp only [wr_at]; omega) | assumption) (by first | omega | (simp only [wr_at]; omega) | assumption) (by first | omega | (simp only [wr_at]; omega) | assumption)
                    · refine lv_aload_n B.1 B.2.1 dX12_readArgs_101 rfl (lv_at hl 1 rfl) ?_
                      refine m_getl (k := 11) B hM (by decide) rfl fl76 dX12_readArgs_102 rfl ?_
                      refine lv_goto (tgt := 109) B.1 B.2.1 dX12_readArgs_105 (by decide) ?_
                      exact JJ109 ((4 * a_u) + (y2_47 a_u.toNat)) v2_2 w67 ((4 * a_u) + (y2_47 a_u.toNat)) x63 x64 x65 x66 x115 x116 w67 y2_47 ((wr y2_54 ((4 * a_u) + (y2_47 a_u.toNat)) x66)) y2_55 _ _ ls hM (lv_sub hl [1, 2, 0, 3] rfl) (by omega) (by omega) (by omega) (by first | omega | (simp only [wr_at]; omega) | assumption) (by first | omega | (simp only [wr_at]; omega) | assumption) (by first | omega | (simp only [wr_at]; omega) | assumption) (by first | omega | (simp only [wr_at]; omega) | assumption) (by first | omega | (simp only [wr_at]; omega) | assumption) (by first | omega | (simp only [wr_at]; omega) | assumption) (by first | omega | (simp only [wr_at]; omega) | assumption) (by first | omega | (simp only [wr_at]; omega) | assumption)
                · subst hPST
                  exact m_vret B hM dX12_readArgs_65 ⟨x63, x64, x65, x66, x115, x116, w67, y2_47, y2_54, y2_55, rfl, by omega⟩
  refine q_con B dX12_readArgs_0 ?_
  refine lv_istore_n (lv' := [(2, .int (II 1)), (0, .ref h0), (1, .int (II a_u))]) B.1 B.2.1 dX12_readArgs_1 rfl hl (by decide) rfl (fun ls hl => ?_)
  exact LL2 ((f 4) - (f 8) + 1).toNat 1 (f 8) (f 9) (f 7) (f 10) (f 5) (f 6) (g 11) ((A 47)) ((A 54)) ((L 55)) _ _ ls hM (lv_sub hl [1, 2, 0] rfl) (by omega) (by first | omega | (simp only [wr_at]; omega) | assumption) (by first | omega | (simp only [wr_at]; omega) | assumption) (by first | omega | (simp only [wr_at]; omega) | assumption) (by first | omega | (simp only [wr_at]; omega) | assumption) (by first | omega | (simp only [wr_at]; omega) | assumption) (by first | omega | (simp only [wr_at]; omega) | assumption) (by first | omega | (simp only [wr_at]; omega) | assumption) (by first | omega | (simp only [wr_at]; omega) | assumption)
set_option maxHeartbeats 4000000 in
set_option maxRecDepth 20000 in
theorem k_readUse (l : Launch) (D : va_G) (dA : Nat → ClassId) (h0 : Nat) (ad : Nat → Nat) (f : Nat → Int) (g : Nat → Int64) (A : Nat → Nat → Int) (L : Nat → Nat → Int64) (p_0 : (0 ≤ (f 8) ∧ (f 8) ≤ (f 4) ∧ (f 9) ≤ (f 4) + 1 ∧ ((f 7) = 0 ↔ (f 8) = (f 4)) ∧ (2 ≤ (f 7) → (f 8) < (f 9) ∧ (f 9) ≤ (f 4)) ∧ ((f 7) = 5 → (f 8) + 2 ≤ (f 9) ∧ (f 9) ≤ (f 8) + 32))) (p_1 : 2 * (f 22) ≤ (f 8)) (p_2 : ((f 5) = 0 → (f 62) ≤ (f 22))) (p_3 : (f 62) ≤ 1550) (p_4 : AIp (f 22) (A 18) (A 20) (A 21)) (p_5 : TXI (A 51) (A 52)) : MCi l yX12_readUse cX12_readUse 2 (some .int) ({ frames := 5, cells := 0, slots := 0, locals := 109 }) D dA h0 ad (f, g, A, L) [] (fun r σ => ∃ n8 : Int, ∃ n9 : Int, ∃ n7 : Int, ∃ n10 : Int, ∃ n5 : Int, ∃ n6 : Int, ∃ n22 : Int, ∃ n62 : Int, ∃ n11 : Int64, ∃ b17 : Nat → Int, ∃ b18 : Nat → Int, ∃ b19 : Nat → Int, ∃ b20 : Nat → Int, ∃ b21 : Nat → Int, ∃ b47 : Nat → Int, ∃ b48 : Nat → Int, ∃ b49 : Nat → Int, ∃ b50 : Nat → Int, ∃ b51 : Nat → Int, ∃ b52 : Nat → Int, ∃ b53 : Nat → Int, ∃ b54 : Nat → Int, ∃ b16 : Nat → Int64, ∃ b55 : Nat → Int64, σ = ((up f [(8, n8), (9, n9), (7, n7), (10, n10), (5, n5), (6, n6), (22, n22), (62, n62)]), (up g [(11, n11)]), (up A [(17, b17), (18, b18), (19, b19), (20, b20), (21, b21), (47, b47), (48, b48), (49, b49), (50, b50), (51, b51), (52, b52), (53, b53), (54, b54)]), (up L [(16, b16), (55, b55)])) ∧ (r = 1600 * (f 3) + (f 62) ∧ ((0 ≤ (n8) ∧ (n8) ≤ (f 4) ∧ (n9) ≤ (f 4) + 1 ∧ ((n7) = 0 ↔ (n8) = (f 4)) ∧ (2 ≤ (n7) → (n8) < (n9) ∧ (n9) ≤ (f 4)) ∧ ((n7) = 5 → (n8) + 2 ≤ (n9) ∧ (n9) ≤ (n8) + 32))) ∧ (f 8) ≤ (n8) ∧ ((n5) = 0 → (f 5) = 0 ∧ (f 8) + 1 ≤ (n8) ∧ (n62) ≤ (n22)) ∧ 2 * (n22) ≤ (n8) + 1 ∧ (n62) = (f 62) + 1 ∧ (f 22) ≤ (n22) ∧ AIp (n22) b18 b20 b21 ∧ APe (f 22) (A 20) (A 21) b20 b21 ∧ TXI b51 b52)) := by
  generalize hPST : (fun r σ => ∃ n8 : Int, ∃ n9 : Int, ∃ n7 : Int, ∃ n10 : Int, ∃ n5 : Int, ∃ n6 : Int, ∃ n22 : Int, ∃ n62 : Int, ∃ n11 : Int64, ∃ b17 : Nat → Int, ∃ b18 : Nat → Int, ∃ b19 : Nat → Int, ∃ b20 : Nat → Int, ∃ b21 : Nat → Int, ∃ b47 : Nat → Int, ∃ b48 : Nat → Int, ∃ b49 : Nat → Int, ∃ b50 : Nat → Int, ∃ b51 : Nat → Int, ∃ b52 : Nat → Int, ∃ b53 : Nat → Int, ∃ b54 : Nat → Int, ∃ b16 : Nat → Int64, ∃ b55 : Nat → Int64, σ = ((up f [(8, n8), (9, n9), (7, n7), (10, n10), (5, n5), (6, n6), (22, n22), (62, n62)]), (up g [(11, n11)]), (up A [(17, b17), (18, b18), (19, b19), (20, b20), (21, b21), (47, b47), (48, b48), (49, b49), (50, b50), (51, b51), (52, b52), (53, b53), (54, b54)]), (up L [(16, b16), (55, b55)])) ∧ (r = 1600 * (f 3) + (f 62) ∧ ((0 ≤ (n8) ∧ (n8) ≤ (f 4) ∧ (n9) ≤ (f 4) + 1 ∧ ((n7) = 0 ↔ (n8) = (f 4)) ∧ (2 ≤ (n7) → (n8) < (n9) ∧ (n9) ≤ (f 4)) ∧ ((n7) = 5 → (n8) + 2 ≤ (n9) ∧ (n9) ≤ (n8) + 32))) ∧ (f 8) ≤ (n8) ∧ ((n5) = 0 → (f 5) = 0 ∧ (f 8) + 1 ≤ (n8) ∧ (n62) ≤ (n22)) ∧ 2 * (n22) ≤ (n8) + 1 ∧ (n62) = (f 62) + 1 ∧ (f 22) ≤ (n22) ∧ AIp (n22) b18 b20 b21 ∧ APe (f 22) (A 20) (A 21) b20 b21 ∧ TXI b51 b52)) = PST
  refine m_enter (by decide) rfl (Nat.le_of_ble_eq_true rfl) (fun p e s m args below meth c ls B hM hl => ?_)
  have hA : ∀ q, s.heap.size ≤ q → mF dA h0 ad (f, g, A, L) s.heap.size q := fun q h => Or.inr h
  have hM : MWd D dA h0 ad (mF dA h0 ad (f, g, A, L) s.heap.size) s.heap ((up f [(8, f 8), (9, f 9), (7, f 7), (10, f 10), (5, f 5), (6, f 6), (22, f 22), (62, f 62)]), (up g [(11, g 11)]), (up A [(17, (A 17)), (18, (A 18)), (19, (A 19)), (20, (A 20)), (21, (A 21)), (47, (A 47)), (48, (A 48)), (49, (A 49)), (50, (A 50)), (51, (A 51)), (52, (A 52)), (53, (A 53)), (54, (A 54))]), (up L [(16, (L 16)), (55, (L 55))])) s.heap [] := MW_pad hM (up_self f [8, 9, 7, 10, 5, 6, 22, 62]) (up_self g [11]) (up_self A [17, 18, 19, 20, 21, 47, 48, 49, 50, 51, 52, 53, 54]) (up_self L [16, 55])
  have hl : lv_has ls 2 [(0, .ref h0)] := hl
  have JJ225 : ∀ (v225_1 : Int) (y225_8 : Int) (y225_9 : Int) (y225_7 : Int) (y225_10 : Int) (y225_5 : Int) (y225_6 : Int) (y225_22 : Int) (y225_62 : Int) (y225_11 : Int64) (y225_17 : Nat → Int) (y225_18 : Nat → Int) (y225_19 : Nat → Int) (y225_20 : Nat → Int) (y225_21 : Nat → Int) (y225_47 : Nat → Int) (y225_48 : Nat → Int) (y225_49 : Nat → Int) (y225_50 : Nat → Int) (y225_51 : Nat → Int) (y225_52 : Nat → Int) (y225_53 : Nat → Int) (y225_54 : Nat → Int) (y225_16 : Nat → Int64) (y225_55 : Nat → Int64) (H : Heap) (locs : List Loc) (ls : Array Slot), (MWd D dA h0 ad (mF dA h0 ad (f, g, A, L) s.heap.size) s.heap ((up f [(8, y225_8), (9, y225_9), (7, y225_7), (10, y225_10), (5, y225_5), (6, y225_6), (22, y225_22), (62, y225_62)]), (up g [(11, y225_11)]), (up A [(17, y225_17), (18, y225_18), (19, y225_19), (20, y225_20), (21, y225_21), (47, y225_47), (48, y225_48), (49, y225_49), (50, y225_50), (51, y225_51), (52, y225_52), (53, y225_53), (54, y225_54)]), (up L [(16, y225_16), (55, y225_55)])) H locs) → lv_has ls 2 [(0, .ref h0), (1, .int (II v225_1))] → ((-2147483648 : Int) ≤ v225_1 ∧ v225_1 ≤ 2147483647) → ((0 ≤ (y225_8) ∧ (y225_8) ≤ (f 4) ∧ (y225_9) ≤ (f 4) + 1 ∧ ((y225_7) = 0 ↔ (y225_8) = (f 4)) ∧ (2 ≤ (y225_7) → (y225_8) < (y225_9) ∧ (y225_9) ≤ (f 4)) ∧ ((y225_7) = 5 → (y225_8) + 2 ≤ (y225_9) ∧ (y225_9) ≤ (y225_8) + 32))) → ((f 8) ≤ (y225_8)) → (((y225_5) = 0 → (f 5) = 0 ∧ (f 8) + 1 ≤ (y225_8) ∧ (y225_62) ≤ (y225_22))) → (2 * (y225_22) ≤ (y225_8) + 1) → ((y225_62) = (f 62) + 1) → ((f 22) ≤ (y225_22)) → (AIp (y225_22) y225_18 y225_20 y225_21) → (APe (f 22) (A 20) (A 21) y225_20 y225_21) → (TXI y225_51 y225_52) → ((v225_1) = 1600 * (f 3) + (f 62)) → (y225_52 ((v225_1)).toNat ≤ 0) → W p l e ({ frames := 5, cells := 0, slots := 0, locals := 109 }) s m args below meth c H locs 0 0 (MQ below (mQi D dA h0 ad (f, g, A, L) s.heap.size PST) args s 0 0 (mF dA h0 ad (f, g, A, L) s.heap.size)) (F0 m 225 ls []) := by
    intro v225_1 y225_8 y225_9 y225_7 y225_10 y225_5 y225_6 y225_22 y225_62 y225_11 y225_17 y225_18 y225_19 y225_20 y225_21 y225_47 y225_48 y225_49 y225_50 y225_51 y225_52 y225_53 y225_54 y225_16 y225_55 H locs ls hM hl hJJ225_0 hJJ225_1 hJJ225_2 hJJ225_3 hJJ225_4 hJJ225_5 hJJ225_6 hJJ225_7 hJJ225_8 hJJ225_9 hJJ225_10 hJJ225_11
    have r1 : (0 : Int) ≤ y225_8 ∧ y225_8 ≤ 3001 := hM.2.2.2.1 8
    have r2 : (0 : Int) ≤ y225_9 ∧ y225_9 ≤ 3002 := hM.2.2.2.1 9
    have r3 : (0 : Int) ≤ y225_7 ∧ y225_7 ≤ 6 := hM.2.2.2.1 7
    have r4 : (-2147483648 : Int) ≤ y225_10 ∧ y225_10 ≤ 2147483647 := hM.2.2.2.1 10
    have r5 : (-2147483648 : Int) ≤ y225_5 ∧ y225_5 ≤ 2147483647 := hM.2.2.2.1 5
    have r6 : (-2147483648 : Int) ≤ y225_6 ∧ y225_6 ≤ 2147483647 := hM.2.2.2.1 6
    have r7 : (0 : Int) ≤ y225_22 ∧ y225_22 ≤ 1600 := hM.2.2.2.1 22
    have r8 : (0 : Int) ≤ y225_62 ∧ y225_62 ≤ 1590 := hM.2.2.2.1 62
    refine lv_aload_n B.1 B.2.1 dX12_readUse_225 rfl (lv_at hl 0 rfl) ?_
    refine m_calli (n := 0) (rest := []) B hM hA hl.1 (k_isGood l D dA h0 ad (up f [(8, y225_8), (9, y225_9), (7, y225_7), (10, y225_10), (5, y225_5), (6, y225_6), (22, y225_22), (62, y225_62)]) (up g [(11, y225_11)]) (up A [(17, y225_17), (18, y225_18), (19, y225_19), (20, y225_20), (21, y225_21), (47, y225_47), (48, y225_48), (49, y225_49), (50, y225_50), (51, y225_51), (52, y225_52), (53, y225_53), (54, y225_54)]) (up L [(16, y225_16), (55, y225_55)])   ) rfl ok_isGood nm_isGood ⟨rfl, rfl⟩ ⟨Nat.le_of_ble_eq_true rfl, Nat.le_of_ble_eq_true rfl⟩ dX12_readUse_226 rfl rfl (Nat.le_of_ble_eq_true rfl) ⟨Nat.zero_le _, Nat.zero_le _⟩ (fun r9 σr9 H locs ir9 hp10 hM => ?_)
    obtain ⟨rfl, hp10⟩ := hp10
    unfold inr at ir9
    have hp10 : 0 ≤ r9 ∧ r9 ≤ 1 ∧ (r9 = 1 ↔ (y225_5) = 0) := hp10
    refine q_ieq (tgt := 282) B dX12_readUse_229 (by decide) (by unfold inr; omega) (fun c11 => ?_) (fun c11 => ?_)
    · refine lv_iload_n B.1 B.2.1 dX12_readUse_282 rfl (lv_at hl 1 rfl) ?_
      subst hPST
      exact m_iret B hM dX12_readUse_283 (by unfold inr; omega) ⟨y225_8, y225_9, y225_7, y225_10, y225_5, y225_6, y225_22, y225_62, y225_11, y225_17, y225_18, y225_19, y225_20, y225_21, y225_47, y225_48, y225_49, y225_50, y225_51, y225_52, y225_53, y225_54, y225_16, y225_55, rfl, by (refine ⟨by omega, by omega, by omega, by omega, by omega, by omega, by omega, by assumption, by assumption, ?_⟩; first | assumption | exact TXI_put (by assumption) (by omega) (by omega))⟩
    · refine lv_aload_n B.1 B.2.1 dX12_readUse_232 rfl (lv_at hl 0 rfl) ?_
      refine m_get (k := 7) (v := y225_7) B hM (by decide) rfl fl66 dX12_readUse_233 rfl ?_
      refine q_con B dX12_readUse_236 ?_
      refine q_cne (tgt := 282) B dX12_readUse_237 (by decide) (by unfold inr; omega) (by unfold inr; omega) (fun c12 => ?_) (fun c12 => ?_)
      · refine lv_iload_n B.1 B.2.1 dX12_readUse_282 rfl (lv_at hl 1 rfl) ?_
        subst hPST
        exact m_iret B hM dX12_readUse_283 (by unfold inr; omega) ⟨y225_8, y225_9, y225_7, y225_10, y225_5, y225_6, y225_22, y225_62, y225_11, y225_17, y225_18, y225_19, y225_20, y225_21, y225_47, y225_48, y225_49, y225_50, y225_51, y225_52, y225_53, y225_54, y225_16, y225_55, rfl, by (refine ⟨by omega, by omega, by omega, by omega, by omega, by omega, by omega, by assumption, by assumption, ?_⟩; first | assumption | exact TXI_put (by assumption) (by omega) (by omega))⟩
      · refine lv_aload_n B.1 B.2.1 dX12_readUse_240 rfl (lv_at hl 0 rfl) ?_
        refine m_geta (k := 51) B hM (by decide) rfl fl247 dX12_readUse_241 ?_
        refine lv_iload_n B.1 B.2.1 dX12_readUse_244 rfl (lv_at hl 1 rfl) ?_
        refine q_sip B dX12_readUse_245 (by decide) ?_
        refine lv_aload_n B.1 B.2.1 dX12_readUse_248 rfl (lv_at hl 0 rfl) ?_
        refine m_get (k := 3) (v := f 3) B hM (by decide) rfl fl11 dX12_readUse_249 rfl ?_
        have r13 : (0 : Int) ≤ f 3 ∧ f 3 ≤ 1 := hM.2.2.2.1 3
        refine q_mul B dX12_readUse_252 ?_
        refine lv_aload_n B.1 B.2.1 dX12_readUse_253 rfl (lv_at hl 0 rfl) ?_
        refine m_get (k := 8) (v := y225_8) B hM (by decide) rfl fl59 dX12_readUse_254 rfl ?_
        refine q_add B dX12_readUse_257 ?_
        refine q_con B dX12_readUse_258 ?_
        refine q_add B dX12_readUse_259 ?_
        refine m_ist (k := 51) (i := 39) (n := 3200) B hM rfl rfl rfl (by decide) dX12_readUse_260 (by omega) (by omega) (show (0 : Int) ≤ ((3000 * (f 3)) + y225_8) + 1 by omega) (show ((3000 * (f 3)) + y225_8) + 1 ≤ (6000 : Int) by omega) (u1_up A [(17, y225_17), (18, y225_18), (19, y225_19), (20, y225_20), (21, y225_21), (47, y225_47), (48, y225_48), (49, y225_49), (50, y225_50), (51, y225_51), (52, y225_52), (53, y225_53), (54, y225_54)] 51 (wr y225_51 v225_1 (((3000 * (f 3)) + y225_8) + 1))) (fun H locs hM => ?_)
        have hM : MWd D dA h0 ad (mF dA h0 ad (f, g, A, L) s.heap.size) s.heap ((up f [(8, y225_8), (9, y225_9), (7, y225_7), (10, y225_10), (5, y225_5), (6, y225_6), (22, y225_22), (62, y225_62)]), (up g [(11, y225_11)]), (up A [(17, y225_17), (18, y225_18), (19, y225_19), (20, y225_20), (21, y225_21), (47, y225_47), (48, y225_48), (49, y225_49), (50, y225_50), (51, (wr y225_51 v225_1 (((3000 * (f 3)) + y225_8) + 1))), (52, y225_52), (53, y225_53), (54, y225_54)]), (up L [(16, y225_16), (55, y225_55)])) H locs := hM
        refine lv_aload_n B.1 B.2.1 dX12_readUse_261 rfl (lv_at hl 0 rfl) ?_
        refine m_geta (k := 52) B hM (by decide) rfl fl250 dX12_readUse_262 ?_
        refine lv_iload_n B.1 B.2.1 dX12_readUse_265 rfl (lv_at hl 1 rfl) ?_
        refine lv_aload_n B.1 B.2.1 dX12_readUse_266 rfl (lv_at hl 0 rfl) ?_
        refine m_get (k := 9) (v := y225_9) B hM (by decide) rfl fl56 dX12_readUse_267 rfl ?_
        refine lv_aload_n B.1 B.2.1 dX12_readUse_270 rfl (lv_at hl 0 rfl) ?_
        refine m_get (k := 8) (v := y225_8) B hM (by decide) rfl fl59 dX12_readUse_271 rfl ?_
        refine q_sub B dX12_readUse_274 ?_
        refine q_con B dX12_readUse_275 ?_
        refine q_sub B dX12_readUse_276 ?_
        refine m_ist (k := 52) (i := 40) (n := 3200) B hM rfl rfl rfl (by decide) dX12_readUse_277 (by omega) (by omega) (show (-1 : Int) ≤ (y225_9 - y225_8) - 2 by omega) (show (y225_9 - y225_8) - 2 ≤ (30 : Int) by omega) (u1_up A [(17, y225_17), (18, y225_18), (19, y225_19), (20, y225_20), (21, y225_21), (47, y225_47), (48, y225_48), (49, y225_49), (50, y225_50), (51, (wr y225_51 v225_1 (((3000 * (f 3)) + y225_8) + 1))), (52, y225_52), (53, y225_53), (54, y225_54)] 52 (wr y225_52 v225_1 ((y225_9 - y225_8) - 2))) (fun H locs hM => ?_)
        have hM : MWd D dA h0 ad (mF dA h0 ad (f, g, A, L) s.heap.size) s.heap ((up f [(8, y225_8), (9, y225_9), (7, y225_7), (10, y225_10), (5, y225_5), (6, y225_6), (22, y225_22), (62, y225_62)]), (up g [(11, y225_11)]), (up A [(17, y225_17), (18, y225_18), (19, y225_19), (20, y225_20), (21, y225_21), (47, y225_47), (48, y225_48), (49, y225_49), (50, y225_50), (51, (wr y225_51 v225_1 (((3000 * (f 3)) + y225_8) + 1))), (52, (wr y225_52 v225_1 ((y225_9 - y225_8) - 2))), (53, y225_53), (54, y225_54)]), (up L [(16, y225_16), (55, y225_55)])) H locs := hM
        refine lv_aload_n B.1 B.2.1 dX12_readUse_278 rfl (lv_at hl 0 rfl) ?_
        refine m_callv (n := 0) (rest := []) B hM hA hl.1 (k_next l D dA h0 ad (up f [(8, y225_8), (9, y225_9), (7, y225_7), (10, y225_10), (5, y225_5), (6, y225_6), (22, y225_22), (62, y225_62)]) (up g [(11, y225_11)]) (up A [(17, y225_17), (18, y225_18), (19, y225_19), (20, y225_20), (21, y225_21), (47, y225_47), (48, y225_48), (49, y225_49), (50, y225_50), (51, (wr y225_51 v225_1 (((3000 * (f 3)) + y225_8) + 1))), (52, (wr y225_52 v225_1 ((y225_9 - y225_8) - 2))), (53, y225_53), (54, y225_54)]) (up L [(16, y225_16), (55, y225_55)])   (by first | omega | (simp only [wr_at]; omega) | assumption)) rfl ok_next nm_next ⟨rfl, rfl⟩ ⟨Nat.le_of_ble_eq_true rfl, Nat.le_of_ble_eq_true rfl⟩ dX12_readUse_279 rfl rfl (Nat.le_of_ble_eq_true rfl) ⟨Nat.zero_le _, Nat.zero_le _⟩ (fun σr14 H locs hp15 hM => ?_)
        obtain ⟨x16, x17, x18, x19, w20, rfl, hp15⟩ := hp15
        have hp15 : ((f 9) ≤ (x16) ∨ (x16) = (f 4)) ∧ (0 ≤ (x16) ∧ (x16) ≤ (f 4) ∧ (x17) ≤ (f 4) + 1 ∧ ((x18) = 0 ↔ (x16) = (f 4)) ∧ (2 ≤ (x18) → (x16) < (x17) ∧ (x17) ≤ (f 4)) ∧ ((x18) = 5 → (x16) + 2 ≤ (x17) ∧ (x17) ≤ (x16) + 32)) := hp15
        simp only [up_up] at hM
        have hM : MWd D dA h0 ad (mF dA h0 ad (f, g, A, L) s.heap.size) s.heap ((up f [(8, x16), (9, x17), (7, x18), (10, x19), (5, y225_5), (6, y225_6), (22, y225_22), (62, y225_62)]), (up g [(11, w20)]), (up A [(17, y225_17), (18, y225_18), (19, y225_19), (20, y225_20), (21, y225_21), (47, y225_47), (48, y225_48), (49, y225_49), (50, y225_50), (51, (wr y225_51 v225_1 (((3000 * (f 3)) + y225_8) + 1))), (52, (wr y225_52 v225_1 ((y225_9 - y225_8) - 2))), (53, y225_53), (54, y225_54)]), (up L [(16, y225_16), (55, y225_55)])) H locs := hM
        have r21 : (0 : Int) ≤ x16 ∧ x16 ≤ 3001 := hM.2.2.2.1 8
        have r22 : (0 : Int) ≤ x17 ∧ x17 ≤ 3002 := hM.2.2.2.1 9
        have r23 : (0 : Int) ≤ x18 ∧ x18 ≤ 6 := hM.2.2.2.1 7
        have r24 : (-2147483648 : Int) ≤ x19 ∧ x19 ≤ 2147483647 := hM.2.2.2.1 10
        refine lv_iload_n B.1 B.2.1 dX12_readUse_282 rfl (lv_at hl 1 rfl) ?_
        subst hPST
        exact m_iret B hM dX12_readUse_283 (by unfold inr; omega) ⟨x16, x17, x18, x19, y225_5, y225_6, y225_22, y225_62, w20, y225_17, y225_18, y225_19, y225_20, y225_21, y225_47, y225_48, y225_49, y225_50, ((wr y225_51 v225_1 (((3000 * (f 3)) + y225_8) + 1))), ((wr y225_52 v225_1 ((y225_9 - y225_8) - 2))), y225_53, y225_54, y225_16, y225_55, rfl, by (refine ⟨by omega, by omega, by omega, by omega, by omega, by omega, by omega, by assumption, by assumption, ?_⟩; first | assumption | exact TXI_put (by assumption) (by omega) (by omega))⟩
  have JJ172 : ∀ (v172_1 : Int) (y172_8 : Int) (y172_9 : Int) (y172_7 : Int) (y172_10 : Int) (y172_5 : Int) (y172_6 : Int) (y172_22 : Int) (y172_62 : Int) (y172_11 : Int64) (y172_17 : Nat → Int) (y172_18 : Nat → Int) (y172_19 : Nat → Int) (y172_20 : Nat → Int) (y172_21 : Nat → Int) (y172_47 : Nat → Int) (y172_48 : Nat → Int) (y172_49 : Nat → Int) (y172_50 : Nat → Int) (y172_51 : Nat → Int) (y172_52 : Nat → Int) (y172_53 : Nat → Int) (y172_54 : Nat → Int) (y172_16 : Nat → Int64) (y172_55 : Nat → Int64) (H : Heap) (locs : List Loc) (ls : Array Slot), (MWd D dA h0 ad (mF dA h0 ad (f, g, A, L) s.heap.size) s.heap ((up f [(8, y172_8), (9, y172_9), (7, y172_7), (10, y172_10), (5, y172_5), (6, y172_6), (22, y172_22), (62, y172_62)]), (up g [(11, y172_11)]), (up A [(17, y172_17), (18, y172_18), (19, y172_19), (20, y172_20), (21, y172_21), (47, y172_47), (48, y172_48), (49, y172_49), (50, y172_50), (51, y172_51), (52, y172_52), (53, y172_53), (54, y172_54)]), (up L [(16, y172_16), (55, y172_55)])) H locs) → lv_has ls 2 [(0, .ref h0), (1, .int (II v172_1))] → ((-2147483648 : Int) ≤ v172_1 ∧ v172_1 ≤ 2147483647) → ((0 ≤ (y172_8) ∧ (y172_8) ≤ (f 4) ∧ (y172_9) ≤ (f 4) + 1 ∧ ((y172_7) = 0 ↔ (y172_8) = (f 4)) ∧ (2 ≤ (y172_7) → (y172_8) < (y172_9) ∧ (y172_9) ≤ (f 4)) ∧ ((y172_7) = 5 → (y172_8) + 2 ≤ (y172_9) ∧ (y172_9) ≤ (y172_8) + 32))) → ((f 8) ≤ (y172_8)) → (((y172_5) = 0 → (f 5) = 0 ∧ (f 8) + 1 ≤ (y172_8) ∧ (y172_62) ≤ (y172_22))) → (2 * (y172_22) ≤ (y172_8) + 1) → ((y172_62) = (f 62) + 1) → ((f 22) ≤ (y172_22)) → (AIp (y172_22) y172_18 y172_20 y172_21) → (APe (f 22) (A 20) (A 21) y172_20 y172_21) → (TXI y172_51 y172_52) → ((v172_1) = 1600 * (f 3) + (f 62)) → (y172_52 ((v172_1)).toNat ≤ 0) → W p l e ({ frames := 5, cells := 0, slots := 0, locals := 109 }) s m args below meth c H locs 0 0 (MQ below (mQi D dA h0 ad (f, g, A, L) s.heap.size PST) args s 0 0 (mF dA h0 ad (f, g, A, L) s.heap.size)) (F0 m 172 ls []) := by
    intro v172_1 y172_8 y172_9 y172_7 y172_10 y172_5 y172_6 y172_22 y172_62 y172_11 y172_17 y172_18 y172_19 y172_20 y172_21 y172_47 y172_48 y172_49 y172_50 y172_51 y172_52 y172_53 y172_54 y172_16 y172_55 H locs ls hM hl hJJ172_0 hJJ172_1 hJJ172_2 hJJ172_3 hJJ172_4 hJJ172_5 hJJ172_6 hJJ172_7 hJJ172_8 hJJ172_9 hJJ172_10 hJJ172_11
    have r25 : (0 : Int) ≤ y172_8 ∧ y172_8 ≤ 3001 := hM.2.2.2.1 8
    have r26 : (0 : Int) ≤ y172_9 ∧ y172_9 ≤ 3002 := hM.2.2.2.1 9
    have r27 : (0 : Int) ≤ y172_7 ∧ y172_7 ≤ 6 := hM.2.2.2.1 7
    have r28 : (-2147483648 : Int) ≤ y172_10 ∧ y172_10 ≤ 2147483647 := hM.2.2.2.1 10
    have r29 : (-2147483648 : Int) ≤ y172_5 ∧ y172_5 ≤ 2147483647 := hM.2.2.2.1 5
    have r30 : (-2147483648 : Int) ≤ y172_6 ∧ y172_6 ≤ 2147483647 := hM.2.2.2.1 6
    have r31 : (0 : Int) ≤ y172_22 ∧ y172_22 ≤ 1600 := hM.2.2.2.1 22
    have r32 : (0 : Int) ≤ y172_62 ∧ y172_62 ≤ 1590 := hM.2.2.2.1 62
    refine lv_aload_n B.1 B.2.1 dX12_readUse_172 rfl (lv_at hl 0 rfl) ?_
    refine m_calli (n := 0) (rest := []) B hM hA hl.1 (k_isGood l D dA h0 ad (up f [(8, y172_8), (9, y172_9), (7, y172_7), (10, y172_10), (5, y172_5), (6, y172_6), (22, y172_22), (62, y172_62)]) (up g [(11, y172_11)]) (up A [(17, y172_17), (18, y172_18), (19, y172_19), (20, y172_20), (21, y172_21), (47, y172_47), (48, y172_48), (49, y172_49), (50, y172_50), (51, y172_51), (52, y172_52), (53, y172_53), (54, y172_54)]) (up L [(16, y172_16), (55, y172_55)])   ) rfl ok_isGood nm_isGood ⟨rfl, rfl⟩ ⟨Nat.le_of_ble_eq_true rfl, Nat.le_of_ble_eq_true rfl⟩ dX12_readUse_173 rfl rfl (Nat.le_of_ble_eq_true rfl) ⟨Nat.zero_le _, Nat.zero_le _⟩ (fun r33 σr33 H locs ir33 hp34 hM => ?_)
    obtain ⟨rfl, hp34⟩ := hp34
    unfold inr at ir33
    have hp34 : 0 ≤ r33 ∧ r33 ≤ 1 ∧ (r33 = 1 ↔ (y172_5) = 0) := hp34
    refine q_ieq (tgt := 225) B dX12_readUse_176 (by decide) (by unfold inr; omega) (fun c35 => ?_) (fun c35 => ?_)
    · exact JJ225 v172_1 y172_8 y172_9 y172_7 y172_10 y172_5 y172_6 y172_22 y172_62 y172_11 y172_17 y172_18 y172_19 y172_20 y172_21 y172_47 y172_48 y172_49 y172_50 y172_51 y172_52 y172_53 y172_54 y172_16 y172_55 _ _ ls hM (lv_sub hl [0, 1] rfl) (by omega) (by first | omega | (simp only [wr_at]; omega) | assumption) (by first | omega | (simp only [wr_at]; omega) | assumption) (by first | omega | (simp only [wr_at]; omega) | assumption) (by first | omega | (simp only [wr_at]; omega) | assumption) (by first | omega | (simp only [wr_at]; omega) | assumption) (by first | omega | (simp only [wr_at]; omega) | assumption) (by first | omega | (simp only [wr_at]; omega) | assumption) (by first | assumption | exact APe_rfl | exact APe_trans (by assumption) (by assumption) (by omega)) (by first | assumption | exact TXI_neg (by assumption) (by omega)) (by first | omega | (simp only [wr_at]; omega) | assumption) (by first | assumption | omega | (simp only [wr_at]; omega))
    · refine lv_aload_n B.1 B.2.1 dX12_readUse_179 rfl (lv_at hl 0 rfl) ?_
      refine q_bip B dX12_readUse_180 (by decide) ?_
      refine m_calli (n := 1) (rest := []) B hM hA hl.1 (k_isSign l D dA h0 ad (up f [(8, y172_8), (9, y172_9), (7, y172_7), (10, y172_10), (5, y172_5), (6, y172_6), (22, y172_22), (62, y172_62)]) (up g [(11, y172_11)]) (up A [(17, y172_17), (18, y172_18), (19, y172_19), (20, y172_20), (21, y172_21), (47, y172_47), (48, y172_48), (49, y172_49), (50, y172_50), (51, y172_51), (52, y172_52), (53, y172_53), (54, y172_54)]) (up L [(16, y172_16), (55, y172_55)]) 35 (by omega) (by first | omega | (simp only [wr_at]; omega) | assumption)) rfl ok_isSign nm_isSign ⟨rfl, rfl⟩ ⟨Nat.le_of_ble_eq_true rfl, Nat.le_of_ble_eq_true rfl⟩ dX12_readUse_182 rfl rfl (Nat.le_of_ble_eq_true rfl) ⟨Nat.zero_le _, Nat.zero_le _⟩ (fun r36 σr36 H locs ir36 hp37 hM => ?_)
      obtain ⟨rfl, hp37⟩ := hp37
      unfold inr at ir36
      have hp37 : 0 ≤ r36 ∧ r36 ≤ 1 ∧ (r36 = 1 ↔ (y172_7) = 6 ∧ sgn ((A 2)) (f 3) (f 4) (y172_8) = (35)) := hp37
      refine q_ieq (tgt := 225) B dX12_readUse_185 (by decide) (by unfold inr; omega) (fun c38 => ?_) (fun c38 => ?_)
      · exact JJ225 v172_1 y172_8 y172_9 y172_7 y172_10 y172_5 y172_6 y172_22 y172_62 y172_11 y172_17 y172_18 y172_19 y172_20 y172_21 y172_47 y172_48 y172_49 y172_50 y172_51 y172_52 y172_53 y172_54 y172_16 y172_55 _ _ ls hM (lv_sub hl [0, 1] rfl) (by omega) (by first | omega | (simp only [wr_at]; omega) | assumption) (by first | omega | (simp only [wr_at]; omega) | assumption) (by first | omega | (simp only [wr_at]; omega) | assumption) (by first | omega | (simp only [wr_at]; omega) | assumption) (by first | omega | (simp only [wr_at]; omega) | assumption) (by first | omega | (simp only [wr_at]; omega) | assumption) (by first | omega | (simp only [wr_at]; omega) | assumption) (by first | assumption | exact APe_rfl | exact APe_trans (by assumption) (by assumption) (by omega)) (by first | assumption | exact TXI_neg (by assumption) (by omega)) (by first | omega | (simp only [wr_at]; omega) | assumption) (by first | assumption | omega | (simp only [wr_at]; omega))
      · refine lv_aload_n B.1 B.2.1 dX12_readUse_188 rfl (lv_at hl 0 rfl) ?_
        refine m_callv (n := 0) (rest := []) B hM hA hl.1 (k_next l D dA h0 ad (up f [(8, y172_8), (9, y172_9), (7, y172_7), (10, y172_10), (5, y172_5), (6, y172_6), (22, y172_22), (62, y172_62)]) (up g [(11, y172_11)]) (up A [(17, y172_17), (18, y172_18), (19, y172_19), (20, y172_20), (21, y172_21), (47, y172_47), (48, y172_48), (49, y172_49), (50, y172_50), (51, y172_51), (52, y172_52), (53, y172_53), (54, y172_54)]) (up L [(16, y172_16), (55, y172_55)])   (by first | omega | (simp only [wr_at]; omega) | assumption)) rfl ok_next nm_next ⟨rfl, rfl⟩ ⟨Nat.le_of_ble_eq_true rfl, Nat.le_of_ble_eq_true rfl⟩ dX12_readUse_189 rfl rfl (Nat.le_of_ble_eq_true rfl) ⟨Nat.zero_le _, Nat.zero_le _⟩ (fun σr39 H locs hp40 hM => ?_)
        obtain ⟨x41, x42, x43, x44, w45, rfl, hp40⟩ := hp40
        have hp40 : ((f 9) ≤ (x41) ∨ (x41) = (f 4)) ∧ (0 ≤ (x41) ∧ (x41) ≤ (f 4) ∧ (x42) ≤ (f 4) + 1 ∧ ((x43) = 0 ↔ (x41) = (f 4)) ∧ (2 ≤ (x43) → (x41) < (x42) ∧ (x42) ≤ (f 4)) ∧ ((x43) = 5 → (x41) + 2 ≤ (x42) ∧ (x42) ≤ (x41) + 32)) := hp40
        simp only [up_up] at hM
        have hM : MWd D dA h0 ad (mF dA h0 ad (f, g, A, L) s.heap.size) s.heap ((up f [(8, x41), (9, x42), (7, x43), (10, x44), (5, y172_5), (6, y172_6), (22, y172_22), (62, y172_62)]), (up g [(11, w45)]), (up A [(17, y172_17), (18, y172_18), (19, y172_19), (20, y172_20), (21, y172_21), (47, y172_47), (48, y172_48), (49, y172_49), (50, y172_50), (51, y172_51), (52, y172_52), (53, y172_53), (54, y172_54)]), (up L [(16, y172_16), (55, y172_55)])) H locs := hM
        have r46 : (0 : Int) ≤ x41 ∧ x41 ≤ 3001 := hM.2.2.2.1 8
        have r47 : (0 : Int) ≤ x42 ∧ x42 ≤ 3002 := hM.2.2.2.1 9
        have r48 : (0 : Int) ≤ x43 ∧ x43 ≤ 6 := hM.2.2.2.1 7
        have r49 : (-2147483648 : Int) ≤ x44 ∧ x44 ≤ 2147483647 := hM.2.2.2.1 10
        refine lv_aload_n B.1 B.2.1 dX12_readUse_192 rfl (lv_at hl 0 rfl) ?_
        refine m_get (k := 7) (v := x43) B hM (by decide) rfl fl66 dX12_readUse_193 rfl ?_
        refine q_con B dX12_readUse_196 ?_
        refine q_ceq (tgt := 204) B dX12_readUse_197 (by decide) (by unfold inr; omega) (by unfold inr; omega) (fun c50 => ?_) (fun c50 => ?_)
        · refine lv_aload_n B.1 B.2.1 dX12_readUse_204 rfl (lv_at hl 0 rfl) ?_
          refine m_geta (k := 50) B hM (by decide) rfl fl244 dX12_readUse_205 ?_
          refine lv_iload_n B.1 B.2.1 dX12_readUse_208 rfl (lv_at hl 1 rfl) ?_
          refine lv_aload_n B.1 B.2.1 dX12_readUse_209 rfl (lv_at hl 0 rfl) ?_
          refine m_get (k := 10) (v := x44) B hM (by decide) rfl fl91 dX12_readUse_210 rfl ?_
          refine m_ist (k := 50) (i := 38) (n := 3200) B hM rfl rfl rfl (by decide) dX12_readUse_213 (by omega) (by omega) (show (-2147483648 : Int) ≤ x44 by omega) (show x44 ≤ (2147483647 : Int) by omega) (u1_up A [(17, y172_17), (18, y172_18), (19, y172_19), (20, y172_20), (21, y172_21), (47, y172_47), (48, y172_48), (49, y172_49), (50, y172_50), (51, y172_51), (52, y172_52), (53, y172_53), (54, y172_54)] 50 (wr y172_50 v172_1 x44)) (fun H locs hM => ?_)
          have hM : MWd D dA h0 ad (mF dA h0 ad (f, g, A, L) s.heap.size) s.heap ((up f [(8, x41), (9, x42), (7, x43), (10, x44), (5, y172_5), (6, y172_6), (22, y172_22), (62, y172_62)]), (up g [(11, w45)]), (up A [(17, y172_17), (18, y172_18), (19, y172_19), (20, y172_20), (21, y172_21), (47, y172_47), (48, y172_48), (49, y172_49), (50, (wr y172_50 v172_1 x44)), (51, y172_51), (52, y172_52), (53, y172_53), (54, y172_54)]), (up L [(16, y172_16), (55, y172_55)])) H locs := hM
          refine lv_aload_n B.1 B.2.1 dX12_readUse_214 rfl (lv_at hl 0 rfl) ?_
          refine m_geta (k := 53) B hM (by decide) rfl fl253 dX12_readUse_215 ?_
          refine lv_iload_n B.1 B.2.1 dX12_readUse_218 rfl (lv_at hl 1 rfl) ?_
          refine q_con B dX12_readUse_219 ?_
          refine m_zst (k := 53) (i := 41) (n := 3200) B hM rfl rfl rfl (by decide) dX12_readUse_220 (by omega) (by omega) (by omega) (show (0 : Int) ≤ 1 by omega) (show 1 ≤ (1 : Int) by omega) (u1_up A [(17, y172_17), (18, y172_18), (19, y172_19), (20, y172_20), (21, y172_21), (47, y172_47), (48, y172_48), (49, y172_49), (50, (wr y172_50 v172_1 x44)), (51, y172_51), (52, y172_52), (53, y172_53), (54, y172_54)] 53 (wr y172_53 v172_1 1)) (fun H locs hM => ?_)
          have hM : MWd D dA h0 ad (mF dA h0 ad (f, g, A, L) s.heap.size) s.heap ((up f [(8, x41), (9, x42), (7, x43), (10, x44), (5, y172_5), (6, y172_6), (22, y172_22), (62, y172_62)]), (up g [(11, w45)]), (up A [(17, y172_17), (18, y172_18), (19, y172_19), (20, y172_20), (21, y172_21), (47, y172_47), (48, y172_48), (49, y172_49), (50, (wr y172_50 v172_1 x44)), (51, y172_51), (52, y172_52), (53, (wr y172_53 v172_1 1)), (54, y172_54)]), (up L [(16, y172_16), (55, y172_55)])) H locs := hM
          refine lv_aload_n B.1 B.2.1 dX12_readUse_221 rfl (lv_at hl 0 rfl) ?_
          refine m_callv (n := 0) (rest := []) B hM hA hl.1 (k_next l D dA h0 ad (up f [(8, x41), (9, x42), (7, x43), (10, x44), (5, y172_5), (6, y172_6), (22, y172_22), (62, y172_62)]) (up g [(11, w45)]) (up A [(17, y172_17), (18, y172_18), (19, y172_19), (20, y172_20), (21, y172_21), (47, y172_47), (48, y172_48), (49, y172_49), (50, (wr y172_50 v172_1 x44)), (51, y172_51), (52, y172_52), (53, (wr y172_53 v172_1 1)), (54, y172_54)]) (up L [(16, y172_16), (55, y172_55)])   (by first | omega | (simp only [wr_at]; omega) | assumption)) rfl ok_next nm_next ⟨rfl, rfl⟩ ⟨Nat.le_of_ble_eq_true rfl, Nat.le_of_ble_eq_true rfl⟩ dX12_readUse_222 rfl rfl (Nat.le_of_ble_eq_true rfl) ⟨Nat.zero_le _, Nat.zero_le _⟩ (fun σr51 H locs hp52 hM => ?_)
          obtain ⟨x53, x54, x55, x56, w57, rfl, hp52⟩ := hp52
          have hp52 : ((f 9) ≤ (x53) ∨ (x53) = (f 4)) ∧ (0 ≤ (x53) ∧ (x53) ≤ (f 4) ∧ (x54) ≤ (f 4) + 1 ∧ ((x55) = 0 ↔ (x53) = (f 4)) ∧ (2 ≤ (x55) → (x53) < (x54) ∧ (x54) ≤ (f 4)) ∧ ((x55) = 5 → (x53) + 2 ≤ (x54) ∧ (x54) ≤ (x53) + 32)) := hp52
          simp only [up_up] at hM
          have hM : MWd D dA h0 ad (mF dA h0 ad (f, g, A, L) s.heap.size) s.heap ((up f [(8, x53), (9, x54), (7, x55), (10, x56), (5, y172_5), (6, y172_6), (22, y172_22), (62, y172_62)]), (up g [(11, w57)]), (up A [(17, y172_17), (18, y172_18), (19, y172_19), (20, y172_20), (21, y172_21), (47, y172_47), (48, y172_48), (49, y172_49), (50, (wr y172_50 v172_1 x44)), (51, y172_51), (52, y172_52), (53, (wr y172_53 v172_1 1)), (54, y172_54)]), (up L [(16, y172_16), (55, y172_55)])) H locs := hM
          have r58 : (0 : Int) ≤ x53 ∧ x53 ≤ 3001 := hM.2.2.2.1 8
          have r59 : (0 : Int) ≤ x54 ∧ x54 ≤ 3002 := hM.2.2.2.1 9
          have r60 : (0 : Int) ≤ x55 ∧ x55 ≤ 6 := hM.2.2.2.1 7
          have r61 : (-2147483648 : Int) ≤ x56 ∧ x56 ≤ 2147483647 := hM.2.2.2.1 10
          exact JJ225 v172_1 x53 x54 x55 x56 y172_5 y172_6 y172_22 y172_62 w57 y172_17 y172_18 y172_19 y172_20 y172_21 y172_47 y172_48 y172_49 ((wr y172_50 v172_1 x44)) y172_51 y172_52 ((wr y172_53 v172_1 1)) y172_54 y172_16 y172_55 _ _ ls hM (lv_sub hl [0, 1] rfl) (by omega) (by first | omega | (simp only [wr_at]; omega) | assumption) (by first | omega | (simp only [wr_at]; omega) | assumption) (by first | omega | (simp only [wr_at]; omega) | assumption) (by first | omega | (simp only [wr_at]; omega) | assumption) (by first | omega | (simp only [wr_at]; omega) | assumption) (by first | omega | (simp only [wr_at]; omega) | assumption) (by first | omega | (simp only [wr_at]; omega) | assumption) (by first | assumption | exact APe_rfl | exact APe_trans (by assumption) (by assumption) (by omega)) (by first | assumption | exact TXI_neg (by assumption) (by omega)) (by first | omega | (simp only [wr_at]; omega) | assumption) (by first | assumption | omega | (simp only [wr_at]; omega))
        · refine lv_aload_n B.1 B.2.1 dX12_readUse_200 rfl (lv_at hl 0 rfl) ?_
          refine m_callv (n := 0) (rest := []) B hM hA hl.1 (k_wrong l D dA h0 ad (up f [(8, x41), (9, x42), (7, x43), (10, x44), (5, y172_5), (6, y172_6), (22, y172_22), (62, y172_62)]) (up g [(11, w45)]) (up A [(17, y172_17), (18, y172_18), (19, y172_19), (20, y172_20), (21, y172_21), (47, y172_47), (48, y172_48), (49, y172_49), (50, y172_50), (51, y172_51), (52, y172_52), (53, y172_53), (54, y172_54)]) (up L [(16, y172_16), (55, y172_55)])   ) rfl ok_wrong nm_wrong ⟨rfl, rfl⟩ ⟨Nat.le_of_ble_eq_true rfl, Nat.le_of_ble_eq_true rfl⟩ dX12_readUse_201 rfl rfl (Nat.le_of_ble_eq_true rfl) ⟨Nat.zero_le _, Nat.zero_le _⟩ (fun σr62 H locs hp63 hM => ?_)
          obtain ⟨x64, x65, rfl, hp63⟩ := hp63
          have hp63 : (x64) ≠ 0 := hp63
          simp only [up_up] at hM
          have hM : MWd D dA h0 ad (mF dA h0 ad (f, g, A, L) s.heap.size) s.heap ((up f [(8, x41), (9, x42), (7, x43), (10, x44), (5, x64), (6, x65), (22, y172_22), (62, y172_62)]), (up g [(11, w45)]), (up A [(17, y172_17), (18, y172_18), (19, y172_19), (20, y172_20), (21, y172_21), (47, y172_47), (48, y172_48), (49, y172_49), (50, y172_50), (51, y172_51), (52, y172_52), (53, y172_53), (54, y172_54)]), (up L [(16, y172_16), (55, y172_55)])) H locs := hM
          have r66 : (-2147483648 : Int) ≤ x64 ∧ x64 ≤ 2147483647 := hM.2.2.2.1 5
          have r67 : (-2147483648 : Int) ≤ x65 ∧ x65 ≤ 2147483647 := hM.2.2.2.1 6
          refine lv_aload_n B.1 B.2.1 dX12_readUse_204 rfl (lv_at hl 0 rfl) ?_
          refine m_geta (k := 50) B hM (by decide) rfl fl244 dX12_readUse_205 ?_
          refine lv_iload_n B.1 B.2.1 dX12_readUse_208 rfl (lv_at hl 1 rfl) ?_
          refine lv_aload_n B.1 B.2.1 dX12_readUse_209 rfl (lv_at hl 0 rfl) ?_
          refine m_get (k := 10) (v := x44) B hM (by decide) rfl fl91 dX12_readUse_210 rfl ?_
          refine m_ist (k := 50) (i := 38) (n := 3200) B hM rfl rfl rfl (by decide) dX12_readUse_213 (by omega) (by omega) (show (-2147483648 : Int) ≤ x44 by omega) (show x44 ≤ (2147483647 : Int) by omega) (u1_up A [(17, y172_17), (18, y172_18), (19, y172_19), (20, y172_20), (21, y172_21), (47, y172_47), (48, y172_48), (49, y172_49), (50, y172_50), (51, y172_51), (52, y172_52), (53, y172_53), (54, y172_54)] 50 (wr y172_50 v172_1 x44)) (fun H locs hM => ?_)
          have hM : MWd D dA h0 ad (mF dA h0 ad (f, g, A, L) s.heap.size) s.heap ((up f [(8, x41), (9, x42), (7, x43), (10, x44), (5, x64), (6, x65), (22, y172_22), (62, y172_62)]), (up g [(11, w45)]), (up A [(17, y172_17), (18, y172_18), (19, y172_19), (20, y172_20), (21, y172_21), (47, y172_47), (48, y172_48), (49, y172_49), (50, (wr y172_50 v172_1 x44)), (51, y172_51), (52, y172_52), (53, y172_53), (54, y172_54)]), (up L [(16, y172_16), (55, y172_55)])) H locs := hM
          refine lv_aload_n B.1 B.2.1 dX12_readUse_214 rfl (lv_at hl 0 rfl) ?_
          refine m_geta (k := 53) B hM (by decide) rfl fl253 dX12_readUse_215 ?_
          refine lv_iload_n B.1 B.2.1 dX12_readUse_218 rfl (lv_at hl 1 rfl) ?_
          refine q_con B dX12_readUse_219 ?_
          refine m_zst (k := 53) (i := 41) (n := 3200) B hM rfl rfl rfl (by decide) dX12_readUse_220 (by omega) (by omega) (by omega) (show (0 : Int) ≤ 1 by omega) (show 1 ≤ (1 : Int) by omega) (u1_up A [(17, y172_17), (18, y172_18), (19, y172_19), (20, y172_20), (21, y172_21), (47, y172_47), (48, y172_48), (49, y172_49), (50, (wr y172_50 v172_1 x44)), (51, y172_51), (52, y172_52), (53, y172_53), (54, y172_54)] 53 (wr y172_53 v172_1 1)) (fun H locs hM => ?_)
          have hM : MWd D dA h0 ad (mF dA h0 ad (f, g, A, L) s.heap.size) s.heap ((up f [(8, x41), (9, x42), (7, x43), (10, x44), (5, x64), (6, x65), (22, y172_22), (62, y172_62)]), (up g [(11, w45)]), (up A [(17, y172_17), (18, y172_18), (19, y172_19), (20, y172_20), (21, y172_21), (47, y172_47), (48, y172_48), (49, y172_49), (50, (wr y172_50 v172_1 x44)), (51, y172_51), (52, y172_52), (53, (wr y172_53 v172_1 1)), (54, y172_54)]), (up L [(16, y172_16), (55, y172_55)])) H locs := hM
          refine lv_aload_n B.1 B.2.1 dX12_readUse_221 rfl (lv_at hl 0 rfl) ?_
          refine m_callv (n := 0) (rest := []) B hM hA hl.1 (k_next l D dA h0 ad (up f [(8, x41), (9, x42), (7, x43), (10, x44), (5, x64), (6, x65), (22, y172_22), (62, y172_62)]) (up g [(11, w45)]) (up A [(17, y172_17), (18, y172_18), (19, y172_19), (20, y172_20), (21, y172_21), (47, y172_47), (48, y172_48), (49, y172_49), (50, (wr y172_50 v172_1 x44)), (51, y172_51), (52, y172_52), (53, (wr y172_53 v172_1 1)), (54, y172_54)]) (up L [(16, y172_16), (55, y172_55)])   (by first | omega | (simp only [wr_at]; omega) | assumption)) rfl ok_next nm_next ⟨rfl, rfl⟩ ⟨Nat.le_of_ble_eq_true rfl, Nat.le_of_ble_eq_true rfl⟩ dX12_readUse_222 rfl rfl (Nat.le_of_ble_eq_true rfl) ⟨Nat.zero_le _, Nat.zero_le _⟩ (fun σr68 H locs hp69 hM => ?_)
          obtain ⟨x70, x71, x72, x73, w74, rfl, hp69⟩ := hp69
          have hp69 : ((f 9) ≤ (x70) ∨ (x70) = (f 4)) ∧ (0 ≤ (x70) ∧ (x70) ≤ (f 4) ∧ (x71) ≤ (f 4) + 1 ∧ ((x72) = 0 ↔ (x70) = (f 4)) ∧ (2 ≤ (x72) → (x70) < (x71) ∧ (x71) ≤ (f 4)) ∧ ((x72) = 5 → (x70) + 2 ≤ (x71) ∧ (x71) ≤ (x70) + 32)) := hp69
          simp only [up_up] at hM
          have hM : MWd D dA h0 ad (mF dA h0 ad (f, g, A, L) s.heap.size) s.heap ((up f [(8, x70), (9, x71), (7, x72), (10, x73), (5, x64), (6, x65), (22, y172_22), (62, y172_62)]), (up g [(11, w74)]), (up A [(17, y172_17), (18, y172_18), (19, y172_19), (20, y172_20), (21, y172_21), (47, y172_47), (48, y172_48), (49, y172_49), (50, (wr y172_50 v172_1 x44)), (51, y172_51), (52, y172_52), (53, (wr y172_53 v172_1 1)), (54, y172_54)]), (up L [(16, y172_16), (55, y172_55)])) H locs := hM
          have r75 : (0 : Int) ≤ x70 ∧ x70 ≤ 3001 := hM.2.2.2.1 8
          have r76 : (0 : Int) ≤ x71 ∧ x71 ≤ 3002 := hM.2.2.2.1 9
          have r77 : (0 : Int) ≤ x72 ∧ x72 ≤ 6 := hM.2.2.2.1 7
          have r78 : (-2147483648 : Int) ≤ x73 ∧ x73 ≤ 2147483647 := hM.2.2.2.1 10
          exact JJ225 v172_1 x70 x71 x72 x73 x64 x65 y172_22 y172_62 w74 y172_17 y172_18 y172_19 y172_20 y172_21 y172_47 y172_48 y172_49 ((wr y172_50 v172_1 x44)) y172_51 y172_52 ((wr y172_53 v172_1 1)) y172_54 y172_16 y172_55 _ _ ls hM (lv_sub hl [0, 1] rfl) (by omega) (by first | omega | (simp only [wr_at]; omega) | assumption) (by first | omega | (simp only [wr_at]; omega) | assumption) (by first | omega | (simp only [wr_at]; omega) | assumption) (by first | omega | (simp only [wr_at]; omega) | assumption) (by first | omega | (simp only [wr_at]; omega) | assumption) (by first | omega | (simp only [wr_at]; omega) | assumption) (by first | omega | (simp only [wr_at]; omega) | assumption) (by first | assumption | exact APe_rfl | exact APe_trans (by assumption) (by assumption) (by omega)) (by first | assumption | exact TXI_neg (by assumption) (by omega)) (by first | omega | (simp only [wr_at]; omega) | assumption) (by first | assumption | omega | (simp only [wr_at]; omega))
  have JJ144 : ∀ (v144_1 : Int) (y144_8 : Int) (y144_9 : Int) (y144_7 : Int) (y144_10 : Int) (y144_5 : Int) (y144_6 : Int) (y144_22 : Int) (y144_62 : Int) (y144_11 : Int64) (y144_17 : Nat → Int) (y144_18 : Nat → Int) (y144_19 : Nat → Int) (y144_20 : Nat → Int) (y144_21 : Nat → Int) (y144_47 : Nat → Int) (y144_48 : Nat → Int) (y144_49 : Nat → Int) (y144_50 : Nat → Int) (y144_51 : Nat → Int) (y144_52 : Nat → Int) (y144_53 : Nat → Int) (y144_54 : Nat → Int) (y144_16 : Nat → Int64) (y144_55 : Nat → Int64) (H : Heap) (locs : List Loc) (ls : Array Slot), (MWd D dA h0 ad (mF dA h0 ad (f, g, A, L) s.heap.size) s.heap ((up f [(8, y144_8), (9, y144_9), (7, y144_7), (10, y144_10), (5, y144_5), (6, y144_6), (22, y144_22), (62, y144_62)]), (up g [(11, y144_11)]), (up A [(17, y144_17), (18, y144_18), (19, y144_19), (20, y144_20), (21, y144_21), (47, y144_47), (48, y144_48), (49, y144_49), (50, y144_50), (51, y144_51), (52, y144_52), (53, y144_53), (54, y144_54)]), (up L [(16, y144_16), (55, y144_55)])) H locs) → lv_has ls 2 [(0, .ref h0), (1, .int (II v144_1))] → ((-2147483648 : Int) ≤ v144_1 ∧ v144_1 ≤ 2147483647) → ((0 ≤ (y144_8) ∧ (y144_8) ≤ (f 4) ∧ (y144_9) ≤ (f 4) + 1 ∧ ((y144_7) = 0 ↔ (y144_8) = (f 4)) ∧ (2 ≤ (y144_7) → (y144_8) < (y144_9) ∧ (y144_9) ≤ (f 4)) ∧ ((y144_7) = 5 → (y144_8) + 2 ≤ (y144_9) ∧ (y144_9) ≤ (y144_8) + 32))) → ((f 8) ≤ (y144_8)) → (((y144_5) = 0 → (f 5) = 0 ∧ (f 8) + 1 ≤ (y144_8) ∧ (y144_62) ≤ (y144_22))) → (2 * (y144_22) ≤ (y144_8) + 1) → ((y144_62) = (f 62) + 1) → ((f 22) ≤ (y144_22)) → (AIp (y144_22) y144_18 y144_20 y144_21) → (APe (f 22) (A 20) (A 21) y144_20 y144_21) → (TXI y144_51 y144_52) → ((v144_1) = 1600 * (f 3) + (f 62)) → (y144_52 ((v144_1)).toNat ≤ 0) → W p l e ({ frames := 5, cells := 0, slots := 0, locals := 109 }) s m args below meth c H locs 0 0 (MQ below (mQi D dA h0 ad (f, g, A, L) s.heap.size PST) args s 0 0 (mF dA h0 ad (f, g, A, L) s.heap.size)) (F0 m 144 ls []) := by
    intro v144_1 y144_8 y144_9 y144_7 y144_10 y144_5 y144_6 y144_22 y144_62 y144_11 y144_17 y144_18 y144_19 y144_20 y144_21 y144_47 y144_48 y144_49 y144_50 y144_51 y144_52 y144_53 y144_54 y144_16 y144_55 H locs ls hM hl hJJ144_0 hJJ144_1 hJJ144_2 hJJ144_3 hJJ144_4 hJJ144_5 hJJ144_6 hJJ144_7 hJJ144_8 hJJ144_9 hJJ144_10 hJJ144_11
    have r79 : (0 : Int) ≤ y144_8 ∧ y144_8 ≤ 3001 := hM.2.2.2.1 8
    have r80 : (0 : Int) ≤ y144_9 ∧ y144_9 ≤ 3002 := hM.2.2.2.1 9
    have r81 : (0 : Int) ≤ y144_7 ∧ y144_7 ≤ 6 := hM.2.2.2.1 7
    have r82 : (-2147483648 : Int) ≤ y144_10 ∧ y144_10 ≤ 2147483647 := hM.2.2.2.1 10
    have r83 : (-2147483648 : Int) ≤ y144_5 ∧ y144_5 ≤ 2147483647 := hM.2.2.2.1 5
    have r84 : (-2147483648 : Int) ≤ y144_6 ∧ y144_6 ≤ 2147483647 := hM.2.2.2.1 6
    have r85 : (0 : Int) ≤ y144_22 ∧ y144_22 ≤ 1600 := hM.2.2.2.1 22
    have r86 : (0 : Int) ≤ y144_62 ∧ y144_62 ≤ 1590 := hM.2.2.2.1 62
    refine lv_aload_n B.1 B.2.1 dX12_readUse_144 rfl (lv_at hl 0 rfl) ?_
    refine m_calli (n := 0) (rest := []) B hM hA hl.1 (k_isGood l D dA h0 ad (up f [(8, y144_8), (9, y144_9), (7, y144_7), (10, y144_10), (5, y144_5), (6, y144_6), (22, y144_22), (62, y144_62)]) (up g [(11, y144_11)]) (up A [(17, y144_17), (18, y144_18), (19, y144_19), (20, y144_20), (21, y144_21), (47, y144_47), (48, y144_48), (49, y144_49), (50, y144_50), (51, y144_51), (52, y144_52), (53, y144_53), (54, y144_54)]) (up L [(16, y144_16), (55, y144_55)])   ) rfl ok_isGood nm_isGood ⟨rfl, rfl⟩ ⟨Nat.le_of_ble_eq_true rfl, Nat.le_of_ble_eq_true rfl⟩ dX12_readUse_145 rfl rfl (Nat.le_of_ble_eq_true rfl) ⟨Nat.zero_le _, Nat.zero_le _⟩ (fun r87 σr87 H locs ir87 hp88 hM => ?_)
    obtain ⟨rfl, hp88⟩ := hp88
    unfold inr at ir87
    have hp88 : 0 ≤ r87 ∧ r87 ≤ 1 ∧ (r87 = 1 ↔ (y144_5) = 0) := hp88
    refine q_ieq (tgt := 172) B dX12_readUse_148 (by decide) (by unfold inr; omega) (fun c89 => ?_) (fun c89 => ?_)
    · exact JJ172 v144_1 y144_8 y144_9 y144_7 y144_10 y144_5 y144_6 y144_22 y144_62 y144_11 y144_17 y144_18 y144_19 y144_20 y144_21 y144_47 y144_48 y144_49 y144_50 y144_51 y144_52 y144_53 y144_54 y144_16 y144_55 _ _ ls hM (lv_sub hl [0, 1] rfl) (by omega) (by first | omega | (simp only [wr_at]; omega) | assumption) (by first | omega | (simp only [wr_at]; omega) | assumption) (by first | omega | (simp only [wr_at]; omega) | assumption) (by first | omega | (simp only [wr_at]; omega) | assumption) (by first | omega | (simp only [wr_at]; omega) | assumption) (by first | omega | (simp only [wr_at]; omega) | assumption) (by first | omega | (simp only [wr_at]; omega) | assumption) (by first | assumption | exact APe_rfl | exact APe_trans (by assumption) (by assumption) (by omega)) (by first | assumption | exact TXI_neg (by assumption) (by omega)) (by first | omega | (simp only [wr_at]; omega) | assumption) (by first | assumption | omega | (simp only [wr_at]; omega))
    · refine lv_aload_n B.1 B.2.1 dX12_readUse_151 rfl (lv_at hl 0 rfl) ?_
      refine q_bip B dX12_readUse_152 (by decide) ?_
      refine m_calli (n := 1) (rest := []) B hM hA hl.1 (k_isSign l D dA h0 ad (up f [(8, y144_8), (9, y144_9), (7, y144_7), (10, y144_10), (5, y144_5), (6, y144_6), (22, y144_22), (62, y144_62)]) (up g [(11, y144_11)]) (up A [(17, y144_17), (18, y144_18), (19, y144_19), (20, y144_20), (21, y144_21), (47, y144_47), (48, y144_48), (49, y144_49), (50, y144_50), (51, y144_51), (52, y144_52), (53, y144_53), (54, y144_54)]) (up L [(16, y144_16), (55, y144_55)]) 64 (by omega) (by first | omega | (simp only [wr_at]; omega) | assumption)) rfl ok_isSign nm_isSign ⟨rfl, rfl⟩ ⟨Nat.le_of_ble_eq_true rfl, Nat.le_of_ble_eq_true rfl⟩ dX12_readUse_154 rfl rfl (Nat.le_of_ble_eq_true rfl) ⟨Nat.zero_le _, Nat.zero_le _⟩ (fun r90 σr90 H locs ir90 hp91 hM => ?_)
      obtain ⟨rfl, hp91⟩ := hp91
      unfold inr at ir90
      have hp91 : 0 ≤ r90 ∧ r90 ≤ 1 ∧ (r90 = 1 ↔ (y144_7) = 6 ∧ sgn ((A 2)) (f 3) (f 4) (y144_8) = (64)) := hp91
      refine q_ieq (tgt := 172) B dX12_readUse_157 (by decide) (by unfold inr; omega) (fun c92 => ?_) (fun c92 => ?_)
      · exact JJ172 v144_1 y144_8 y144_9 y144_7 y144_10 y144_5 y144_6 y144_22 y144_62 y144_11 y144_17 y144_18 y144_19 y144_20 y144_21 y144_47 y144_48 y144_49 y144_50 y144_51 y144_52 y144_53 y144_54 y144_16 y144_55 _ _ ls hM (lv_sub hl [0, 1] rfl) (by omega) (by first | omega | (simp only [wr_at]; omega) | assumption) (by first | omega | (simp only [wr_at]; omega) | assumption) (by first | omega | (simp only [wr_at]; omega) | assumption) (by first | omega | (simp only [wr_at]; omega) | assumption) (by first | omega | (simp only [wr_at]; omega) | assumption) (by first | omega | (simp only [wr_at]; omega) | assumption) (by first | omega | (simp only [wr_at]; omega) | assumption) (by first | assumption | exact APe_rfl | exact APe_trans (by assumption) (by assumption) (by omega)) (by first | assumption | exact TXI_neg (by assumption) (by omega)) (by first | omega | (simp only [wr_at]; omega) | assumption) (by first | assumption | omega | (simp only [wr_at]; omega))
      · refine lv_aload_n B.1 B.2.1 dX12_readUse_160 rfl (lv_at hl 0 rfl) ?_
        refine m_callv (n := 0) (rest := []) B hM hA hl.1 (k_next l D dA h0 ad (up f [(8, y144_8), (9, y144_9), (7, y144_7), (10, y144_10), (5, y144_5), (6, y144_6), (22, y144_22), (62, y144_62)]) (up g [(11, y144_11)]) (up A [(17, y144_17), (18, y144_18), (19, y144_19), (20, y144_20), (21, y144_21), (47, y144_47), (48, y144_48), (49, y144_49), (50, y144_50), (51, y144_51), (52, y144_52), (53, y144_53), (54, y144_54)]) (up L [(16, y144_16), (55, y144_55)])   (by first | omega | (simp only [wr_at]; omega) | assumption)) rfl ok_next nm_next ⟨rfl, rfl⟩ ⟨Nat.le_of_ble_eq_true rfl, Nat.le_of_ble_eq_true rfl⟩ dX12_readUse_161 rfl rfl (Nat.le_of_ble_eq_true rfl) ⟨Nat.zero_le _, Nat.zero_le _⟩ (fun σr93 H locs hp94 hM => ?_)
        obtain ⟨x95, x96, x97, x98, w99, rfl, hp94⟩ := hp94
        have hp94 : ((f 9) ≤ (x95) ∨ (x95) = (f 4)) ∧ (0 ≤ (x95) ∧ (x95) ≤ (f 4) ∧ (x96) ≤ (f 4) + 1 ∧ ((x97) = 0 ↔ (x95) = (f 4)) ∧ (2 ≤ (x97) → (x95) < (x96) ∧ (x96) ≤ (f 4)) ∧ ((x97) = 5 → (x95) + 2 ≤ (x96) ∧ (x96) ≤ (x95) + 32)) := hp94
        simp only [up_up] at hM
        have hM : MWd D dA h0 ad (mF dA h0 ad (f, g, A, L) s.heap.size) s.heap ((up f [(8, x95), (9, x96), (7, x97), (10, x98), (5, y144_5), (6, y144_6), (22, y144_22), (62, y144_62)]), (up g [(11, w99)]), (up A [(17, y144_17), (18, y144_18), (19, y144_19), (20, y144_20), (21, y144_21), (47, y144_47), (48, y144_48), (49, y144_49), (50, y144_50), (51, y144_51), (52, y144_52), (53, y144_53), (54, y144_54)]), (up L [(16, y144_16), (55, y144_55)])) H locs := hM
        have r100 : (0 : Int) ≤ x95 ∧ x95 ≤ 3001 := hM.2.2.2.1 8
        have r101 : (0 : Int) ≤ x96 ∧ x96 ≤ 3002 := hM.2.2.2.1 9
        have r102 : (0 : Int) ≤ x97 ∧ x97 ≤ 6 := hM.2.2.2.1 7
        have r103 : (-2147483648 : Int) ≤ x98 ∧ x98 ≤ 2147483647 := hM.2.2.2.1 10
        refine lv_aload_n B.1 B.2.1 dX12_readUse_164 rfl (lv_at hl 0 rfl) ?_
        refine q_con B dX12_readUse_165 ?_
        refine q_con B dX12_readUse_166 ?_
        refine q_con B dX12_readUse_167 ?_
        refine lv_iload_n B.1 B.2.1 dX12_readUse_168 rfl (lv_at hl 1 rfl) ?_
        refine m_callv (n := 4) (rest := []) B hM hA hl.1 (k_ask l D dA h0 ad (up f [(8, x95), (9, x96), (7, x97), (10, x98), (5, y144_5), (6, y144_6), (22, y144_22), (62, y144_62)]) (up g [(11, w99)]) (up A [(17, y144_17), (18, y144_18), (19, y144_19), (20, y144_20), (21, y144_21), (47, y144_47), (48, y144_48), (49, y144_49), (50, y144_50), (51, y144_51), (52, y144_52), (53, y144_53), (54, y144_54)]) (up L [(16, y144_16), (55, y144_55)]) 1 (-1) 4 v144_1 (by omega) (by omega) (by omega) (by omega) (by first | omega | (simp only [wr_at]; omega) | assumption) (by first | omega | (simp only [wr_at]; omega) | assumption) (by first | omega | (simp only [wr_at]; omega) | assumption) (by first | omega | (simp only [wr_at]; omega) | assumption) (by first | omega | (simp only [wr_at]; omega) | assumption) (by first | omega | (simp only [wr_at]; omega) | assumption) (by first | omega | (simp only [wr_at]; omega) | assumption) (by first | omega | (simp only [wr_at]; omega) | assumption) (by first | omega | (simp only [wr_at]; omega) | assumption) (by first | omega | (simp only [wr_at]; omega) | assumption) (by first | omega | (simp only [wr_at]; omega) | assumption) (by first | omega | (simp only [wr_at]; omega) | assumption)) rfl ok_ask nm_ask ⟨rfl, rfl⟩ ⟨Nat.le_of_ble_eq_true rfl, Nat.le_of_ble_eq_true rfl⟩ dX12_readUse_169 rfl rfl (Nat.le_of_ble_eq_true rfl) ⟨Nat.zero_le _, Nat.zero_le _⟩ (fun σr104 H locs hp105 hM => ?_)
        obtain ⟨x106, x107, x108, x109, x110, x111, x112, w113, b114, b115, b116, b117, b118, b119, rfl, hp105⟩ := hp105
        have hp105 : ((0 ≤ (x106) ∧ (x106) ≤ (f 4) ∧ (x107) ≤ (f 4) + 1 ∧ ((x108) = 0 ↔ (x106) = (f 4)) ∧ (2 ≤ (x108) → (x106) < (x107) ∧ (x107) ≤ (f 4)) ∧ ((x108) = 5 → (x106) + 2 ≤ (x107) ∧ (x107) ≤ (x106) + 32))) ∧ (x95) ≤ (x106) ∧ ((x110) = 0 → (y144_5) = 0 ∧ (x95) + 1 ≤ (x106) ∧ (x97) = 2 ∧ (x112) = (y144_22) + 1 ∧ b117 ((y144_22)).toNat = (4) ∧ b118 ((y144_22)).toNat = (v144_1)) ∧ 2 * (x112) ≤ (x106) + 1 ∧ (y144_22) ≤ (x112) ∧ AIp (x112) b115 b117 b118 ∧ APe (y144_22) y144_20 y144_21 b117 b118 := hp105
        simp only [up_up] at hM
        have hM : MWd D dA h0 ad (mF dA h0 ad (f, g, A, L) s.heap.size) s.heap ((up f [(8, x106), (9, x107), (7, x108), (10, x109), (5, x110), (6, x111), (22, x112), (62, y144_62)]), (up g [(11, w113)]), (up A [(17, b114), (18, b115), (19, b116), (20, b117), (21, b118), (47, y144_47), (48, y144_48), (49, y144_49), (50, y144_50), (51, y144_51), (52, y144_52), (53, y144_53), (54, y144_54)]), (up L [(16, b119), (55, y144_55)])) H locs := hM
        have r120 : (0 : Int) ≤ x106 ∧ x106 ≤ 3001 := hM.2.2.2.1 8
        have r121 : (0 : Int) ≤ x107 ∧ x107 ≤ 3002 := hM.2.2.2.1 9
        have r122 : (0 : Int) ≤ x108 ∧ x108 ≤ 6 := hM.2.2.2.1 7
        have r123 : (-2147483648 : Int) ≤ x109 ∧ x109 ≤ 2147483647 := hM.2.2.2.1 10
        have r124 : (-2147483648 : Int) ≤ x110 ∧ x110 ≤ 2147483647 := hM.2.2.2.1 5
        have r125 : (-2147483648 : Int) ≤ x111 ∧ x111 ≤ 2147483647 := hM.2.2.2.1 6
        have r126 : (0 : Int) ≤ x112 ∧ x112 ≤ 1600 := hM.2.2.2.1 22
        exact JJ172 v144_1 x106 x107 x108 x109 x110 x111 x112 y144_62 w113 b114 b115 b116 b117 b118 y144_47 y144_48 y144_49 y144_50 y144_51 y144_52 y144_53 y144_54 b119 y144_55 _ _ ls hM (lv_sub hl [0, 1] rfl) (by omega) (by first | omega | (simp only [wr_at]; omega) | assumption) (by first | omega | (simp only [wr_at]; omega) | assumption) (by first | omega | (simp only [wr_at]; omega) | assumption) (by first | omega | (simp only [wr_at]; omega) | assumption) (by first | omega | (simp only [wr_at]; omega) | assumption) (by first | omega | (simp only [wr_at]; omega) | assumption) (by first | omega | (simp only [wr_at]; omega) | assumption) (by first | assumption | exact APe_rfl | exact APe_trans (by assumption) (by assumption) (by omega)) (by first | assumption | exact TXI_neg (by assumption) (by omega)) (by first | omega | (simp only [wr_at]; omega) | assumption) (by first | assumption | omega | (simp only [wr_at]; omega))
  have JJ95 : ∀ (v95_1 : Int) (y95_8 : Int) (y95_9 : Int) (y95_7 : Int) (y95_10 : Int) (y95_5 : Int) (y95_6 : Int) (y95_22 : Int) (y95_62 : Int) (y95_11 : Int64) (y95_17 : Nat → Int) (y95_18 : Nat → Int) (y95_19 : Nat → Int) (y95_20 : Nat → Int) (y95_21 : Nat → Int) (y95_47 : Nat → Int) (y95_48 : Nat → Int) (y95_49 : Nat → Int) (y95_50 : Nat → Int) (y95_51 : Nat → Int) (y95_52 : Nat → Int) (y95_53 : Nat → Int) (y95_54 : Nat → Int) (y95_16 : Nat → Int64) (y95_55 : Nat → Int64) (H : Heap) (locs : List Loc) (ls : Array Slot), (MWd D dA h0 ad (mF dA h0 ad (f, g, A, L) s.heap.size) s.heap ((up f [(8, y95_8), (9, y95_9), (7, y95_7), (10, y95_10), (5, y95_5), (6, y95_6), (22, y95_22), (62, y95_62)]), (up g [(11, y95_11)]), (up A [(17, y95_17), (18, y95_18), (19, y95_19), (20, y95_20), (21, y95_21), (47, y95_47), (48, y95_48), (49, y95_49), (50, y95_50), (51, y95_51), (52, y95_52), (53, y95_53), (54, y95_54)]), (up L [(16, y95_16), (55, y95_55)])) H locs) → lv_has ls 2 [(0, .ref h0), (1, .int (II v95_1))] → ((-2147483648 : Int) ≤ v95_1 ∧ v95_1 ≤ 2147483647) → ((0 ≤ (y95_8) ∧ (y95_8) ≤ (f 4) ∧ (y95_9) ≤ (f 4) + 1 ∧ ((y95_7) = 0 ↔ (y95_8) = (f 4)) ∧ (2 ≤ (y95_7) → (y95_8) < (y95_9) ∧ (y95_9) ≤ (f 4)) ∧ ((y95_7) = 5 → (y95_8) + 2 ≤ (y95_9) ∧ (y95_9) ≤ (y95_8) + 32))) → ((f 8) ≤ (y95_8)) → (((y95_5) = 0 → (f 5) = 0 ∧ (f 8) + 1 ≤ (y95_8) ∧ (y95_62) ≤ (y95_22))) → (2 * (y95_22) ≤ (y95_8) + 1) → ((y95_62) = (f 62) + 1) → ((f 22) ≤ (y95_22)) → (AIp (y95_22) y95_18 y95_20 y95_21) → (APe (f 22) (A 20) (A 21) y95_20 y95_21) → (TXI y95_51 y95_52) → ((v95_1) = 1600 * (f 3) + (f 62)) → (y95_52 ((v95_1)).toNat ≤ 0) → W p l e ({ frames := 5, cells := 0, slots := 0, locals := 109 }) s m args below meth c H locs 0 0 (MQ below (mQi D dA h0 ad (f, g, A, L) s.heap.size PST) args s 0 0 (mF dA h0 ad (f, g, A, L) s.heap.size)) (F0 m 95 ls []) := by
    intro v95_1 y95_8 y95_9 y95_7 y95_10 y95_5 y95_6 y95_22 y95_62 y95_11 y95_17 y95_18 y95_19 y95_20 y95_21 y95_47 y95_48 y95_49 y95_50 y95_51 y95_52 y95_53 y95_54 y95_16 y95_55 H locs ls hM hl hJJ95_0 hJJ95_1 hJJ95_2 hJJ95_3 hJJ95_4 hJJ95_5 hJJ95_6 hJJ95_7 hJJ95_8 hJJ95_9 hJJ95_10 hJJ95_11
    have r127 : (0 : Int) ≤ y95_8 ∧ y95_8 ≤ 3001 := hM.2.2.2.1 8
    have r128 : (0 : Int) ≤ y95_9 ∧ y95_9 ≤ 3002 := hM.2.2.2.1 9
    have r129 : (0 : Int) ≤ y95_7 ∧ y95_7 ≤ 6 := hM.2.2.2.1 7
    have r130 : (-2147483648 : Int) ≤ y95_10 ∧ y95_10 ≤ 2147483647 := hM.2.2.2.1 10
    have r131 : (-2147483648 : Int) ≤ y95_5 ∧ y95_5 ≤ 2147483647 := hM.2.2.2.1 5
    have r132 : (-2147483648 : Int) ≤ y95_6 ∧ y95_6 ≤ 2147483647 := hM.2.2.2.1 6
    have r133 : (0 : Int) ≤ y95_22 ∧ y95_22 ≤ 1600 := hM.2.2.2.1 22
    have r134 : (0 : Int) ≤ y95_62 ∧ y95_62 ≤ 1590 := hM.2.2.2.1 62
    refine lv_aload_n B.1 B.2.1 dX12_readUse_95 rfl (lv_at hl 0 rfl) ?_
    refine m_calli (n := 0) (rest := []) B hM hA hl.1 (k_isGood l D dA h0 ad (up f [(8, y95_8), (9, y95_9), (7, y95_7), (10, y95_10), (5, y95_5), (6, y95_6), (22, y95_22), (62, y95_62)]) (up g [(11, y95_11)]) (up A [(17, y95_17), (18, y95_18), (19, y95_19), (20, y95_20), (21, y95_21), (47, y95_47), (48, y95_48), (49, y95_49), (50, y95_50), (51, y95_51), (52, y95_52), (53, y95_53), (54, y95_54)]) (up L [(16, y95_16), (55, y95_55)])   ) rfl ok_isGood nm_isGood ⟨rfl, rfl⟩ ⟨Nat.le_of_ble_eq_true rfl, Nat.le_of_ble_eq_true rfl⟩ dX12_readUse_96 rfl rfl (Nat.le_of_ble_eq_true rfl) ⟨Nat.zero_le _, Nat.zero_le _⟩ (fun r135 σr135 H locs ir135 hp136 hM => ?_)
    obtain ⟨rfl, hp136⟩ := hp136
    unfold inr at ir135
    have hp136 : 0 ≤ r135 ∧ r135 ≤ 1 ∧ (r135 = 1 ↔ (y95_5) = 0) := hp136
    refine q_ieq (tgt := 144) B dX12_readUse_99 (by decide) (by unfold inr; omega) (fun c137 => ?_) (fun c137 => ?_)
    · exact JJ144 v95_1 y95_8 y95_9 y95_7 y95_10 y95_5 y95_6 y95_22 y95_62 y95_11 y95_17 y95_18 y95_19 y95_20 y95_21 y95_47 y95_48 y95_49 y95_50 y95_51 y95_52 y95_53 y95_54 y95_16 y95_55 _ _ ls hM (lv_sub hl [0, 1] rfl) (by omega) (by first | omega | (simp only [wr_at]; omega) | assumption) (by first | omega | (simp only [wr_at]; omega) | assumption) (by first | omega | (simp only [wr_at]; omega) | assumption) (by first | omega | (simp only [wr_at]; omega) | assumption) (by first | omega | (simp only [wr_at]; omega) | assumption) (by first | omega | (simp only [wr_at]; omega) | assumption) (by first | omega | (simp only [wr_at]; omega) | assumption) (by first | assumption | exact APe_rfl | exact APe_trans (by assumption) (by assumption) (by omega)) (by first | assumption | exact TXI_neg (by assumption) (by omega)) (by first | omega | (simp only [wr_at]; omega) | assumption) (by first | assumption | omega | (simp only [wr_at]; omega))
    · refine lv_aload_n B.1 B.2.1 dX12_readUse_102 rfl (lv_at hl 0 rfl) ?_
      refine q_bip B dX12_readUse_103 (by decide) ?_
      refine m_calli (n := 1) (rest := []) B hM hA hl.1 (k_isSign l D dA h0 ad (up f [(8, y95_8), (9, y95_9), (7, y95_7), (10, y95_10), (5, y95_5), (6, y95_6), (22, y95_22), (62, y95_62)]) (up g [(11, y95_11)]) (up A [(17, y95_17), (18, y95_18), (19, y95_19), (20, y95_20), (21, y95_21), (47, y95_47), (48, y95_48), (49, y95_49), (50, y95_50), (51, y95_51), (52, y95_52), (53, y95_53), (54, y95_54)]) (up L [(16, y95_16), (55, y95_55)]) 33 (by omega) (by first | omega | (simp only [wr_at]; omega) | assumption)) rfl ok_isSign nm_isSign ⟨rfl, rfl⟩ ⟨Nat.le_of_ble_eq_true rfl, Nat.le_of_ble_eq_true rfl⟩ dX12_readUse_105 rfl rfl (Nat.le_of_ble_eq_true rfl) ⟨Nat.zero_le _, Nat.zero_le _⟩ (fun r138 σr138 H locs ir138 hp139 hM => ?_)
      obtain ⟨rfl, hp139⟩ := hp139
      unfold inr at ir138
      have hp139 : 0 ≤ r138 ∧ r138 ≤ 1 ∧ (r138 = 1 ↔ (y95_7) = 6 ∧ sgn ((A 2)) (f 3) (f 4) (y95_8) = (33)) := hp139
      refine q_ine (tgt := 120) B dX12_readUse_108 (by decide) (by unfold inr; omega) (fun c140 => ?_) (fun c140 => ?_)
      · refine lv_aload_n B.1 B.2.1 dX12_readUse_120 rfl (lv_at hl 0 rfl) ?_
        refine m_geta (k := 48) B hM (by decide) rfl fl238 dX12_readUse_121 ?_
        refine lv_iload_n B.1 B.2.1 dX12_readUse_124 rfl (lv_at hl 1 rfl) ?_
        refine lv_aload_n B.1 B.2.1 dX12_readUse_125 rfl (lv_at hl 0 rfl) ?_
        refine q_bip B dX12_readUse_126 (by decide) ?_
        refine m_calli (n := 1) (rest := [.int (II v95_1), .ref (ad 48)]) B hM hA hl.1 (k_isSign l D dA h0 ad (up f [(8, y95_8), (9, y95_9), (7, y95_7), (10, y95_10), (5, y95_5), (6, y95_6), (22, y95_22), (62, y95_62)]) (up g [(11, y95_11)]) (up A [(17, y95_17), (18, y95_18), (19, y95_19), (20, y95_20), (21, y95_21), (47, y95_47), (48, y95_48), (49, y95_49), (50, y95_50), (51, y95_51), (52, y95_52), (53, y95_53), (54, y95_54)]) (up L [(16, y95_16), (55, y95_55)]) 33 (by omega) (by first | omega | (simp only [wr_at]; omega) | assumption)) rfl ok_isSign nm_isSign ⟨rfl, rfl⟩ ⟨Nat.le_of_ble_eq_true rfl, Nat.le_of_ble_eq_true rfl⟩ dX12_readUse_128 rfl rfl (Nat.le_of_ble_eq_true rfl) ⟨Nat.zero_le _, Nat.zero_le _⟩ (fun r141 σr141 H locs ir141 hp142 hM => ?_)
        obtain ⟨rfl, hp142⟩ := hp142
        unfold inr at ir141
        have hp142 : 0 ≤ r141 ∧ r141 ≤ 1 ∧ (r141 = 1 ↔ (y95_7) = 6 ∧ sgn ((A 2)) (f 3) (f 4) (y95_8) = (33)) := hp142
        refine q_ieq (tgt := 138) B dX12_readUse_131 (by decide) (by unfold inr; omega) (fun c143 => ?_) (fun c143 => ?_)
        · refine q_con B dX12_readUse_138 ?_
          refine m_ist (k := 48) (i := 36) (n := 3200) B hM rfl rfl rfl (by decide) dX12_readUse_139 (by omega) (by omega) (show (-1 : Int) ≤ 1 by omega) (show 1 ≤ (1 : Int) by omega) (u1_up A [(17, y95_17), (18, y95_18), (19, y95_19), (20, y95_20), (21, y95_21), (47, y95_47), (48, y95_48), (49, y95_49), (50, y95_50), (51, y95_51), (52, y95_52), (53, y95_53), (54, y95_54)] 48 (wr y95_48 v95_1 1)) (fun H locs hM => ?_)
          have hM : MWd D dA h0 ad (mF dA h0 ad (f, g, A, L) s.heap.size) s.heap ((up f [(8, y95_8), (9, y95_9), (7, y95_7), (10, y95_10), (5, y95_5), (6, y95_6), (22, y95_22), (62, y95_62)]), (up g [(11, y95_11)]), (up A [(17, y95_17), (18, y95_18), (19, y95_19), (20, y95_20), (21, y95_21), (47, y95_47), (48, (wr y95_48 v95_1 1)), (49, y95_49), (50, y95_50), (51, y95_51), (52, y95_52), (53, y95_53), (54, y95_54)]), (up L [(16, y95_16), (55, y95_55)])) H locs := hM
          refine lv_aload_n B.1 B.2.1 dX12_readUse_140 rfl (lv_at hl 0 rfl) ?_
          refine m_callv (n := 0) (rest := []) B hM hA hl.1 (k_next l D dA h0 ad (up f [(8, y95_8), (9, y95_9), (7, y95_7), (10, y95_10), (5, y95_5), (6, y95_6), (22, y95_22), (62, y95_62)]) (up g [(11, y95_11)]) (up A [(17, y95_17), (18, y95_18), (19, y95_19), (20, y95_20), (21, y95_21), (47, y95_47), (48, (wr y95_48 v95_1 1)), (49, y95_49), (50, y95_50), (51, y95_51), (52, y95_52), (53, y95_53), (54, y95_54)]) (up L [(16, y95_16), (55, y95_55)])   (by first | omega | (simp only [wr_at]; omega) | assumption)) rfl ok_next nm_next ⟨rfl, rfl⟩ ⟨Nat.le_of_ble_eq_true rfl, Nat.le_of_ble_eq_true rfl⟩ dX12_readUse_141 rfl rfl (Nat.le_of_ble_eq_true rfl) ⟨Nat.zero_le _, Nat.zero_le _⟩ (fun σr144 H locs hp145 hM => ?_)
          obtain ⟨x146, x147, x148, x149, w150, rfl, hp145⟩ := hp145
          have hp145 : ((f 9) ≤ (x146) ∨ (x146) = (f 4)) ∧ (0 ≤ (x146) ∧ (x146) ≤ (f 4) ∧ (x147) ≤ (f 4) + 1 ∧ ((x148) = 0 ↔ (x146) = (f 4)) ∧ (2 ≤ (x148) → (x146) < (x147) ∧ (x147) ≤ (f 4)) ∧ ((x148) = 5 → (x146) + 2 ≤ (x147) ∧ (x147) ≤ (x146) + 32)) := hp145
          simp only [up_up] at hM
          have hM : MWd D dA h0 ad (mF dA h0 ad (f, g, A, L) s.heap.size) s.heap ((up f [(8, x146), (9, x147), (7, x148), (10, x149), (5, y95_5), (6, y95_6), (22, y95_22), (62, y95_62)]), (up g [(11, w150)]), (up A [(17, y95_17), (18, y95_18), (19, y95_19), (20, y95_20), (21, y95_21), (47, y95_47), (48, (wr y95_48 v95_1 1)), (49, y95_49), (50, y95_50), (51, y95_51), (52, y95_52), (53, y95_53), (54, y95_54)]), (up L [(16, y95_16), (55, y95_55)])) H locs := hM
          have r151 : (0 : Int) ≤ x146 ∧ x146 ≤ 3001 := hM.2.2.2.1 8
          have r152 : (0 : Int) ≤ x147 ∧ x147 ≤ 3002 := hM.2.2.2.1 9
          have r153 : (0 : Int) ≤ x148 ∧ x148 ≤ 6 := hM.2.2.2.1 7
          have r154 : (-2147483648 : Int) ≤ x149 ∧ x149 ≤ 2147483647 := hM.2.2.2.1 10
          exact JJ144 v95_1 x146 x147 x148 x149 y95_5 y95_6 y95_22 y95_62 w150 y95_17 y95_18 y95_19 y95_20 y95_21 y95_47 ((wr y95_48 v95_1 1)) y95_49 y95_50 y95_51 y95_52 y95_53 y95_54 y95_16 y95_55 _ _ ls hM (lv_sub hl [0, 1] rfl) (by omega) (by first | omega | (simp only [wr_at]; omega) | assumption) (by first | omega | (simp only [wr_at]; omega) | assumption) (by first | omega | (simp only [wr_at]; omega) | assumption) (by first | omega | (simp only [wr_at]; omega) | assumption) (by first | omega | (simp only [wr_at]; omega) | assumption) (by first | omega | (simp only [wr_at]; omega) | assumption) (by first | omega | (simp only [wr_at]; omega) | assumption) (by first | assumption | exact APe_rfl | exact APe_trans (by assumption) (by assumption) (by omega)) (by first | assumption | exact TXI_neg (by assumption) (by omega)) (by first | omega | (simp only [wr_at]; omega) | assumption) (by first | assumption | omega | (simp only [wr_at]; omega))
        · refine q_con B dX12_readUse_134 ?_
          refine lv_goto (tgt := 139) B.1 B.2.1 dX12_readUse_135 (by decide) ?_
          refine m_ist (k := 48) (i := 36) (n := 3200) B hM rfl rfl rfl (by decide) dX12_readUse_139 (by omega) (by omega) (show (-1 : Int) ≤ 0 by omega) (show 0 ≤ (1 : Int) by omega) (u1_up A [(17, y95_17), (18, y95_18), (19, y95_19), (20, y95_20), (21, y95_21), (47, y95_47), (48, y95_48), (49, y95_49), (50, y95_50), (51, y95_51), (52, y95_52), (53, y95_53), (54, y95_54)] 48 (wr y95_48 v95_1 0)) (fun H locs hM => ?_)
          have hM : MWd D dA h0 ad (mF dA h0 ad (f, g, A, L) s.heap.size) s.heap ((up f [(8, y95_8), (9, y95_9), (7, y95_7), (10, y95_10), (5, y95_5), (6, y95_6), (22, y95_22), (62, y95_62)]), (up g [(11, y95_11)]), (up A [(17, y95_17), (18, y95_18), (19, y95_19), (20, y95_20), (21, y95_21), (47, y95_47), (48, (wr y95_48 v95_1 0)), (49, y95_49), (50, y95_50), (51, y95_51), (52, y95_52), (53, y95_53), (54, y95_54)]), (up L [(16, y95_16), (55, y95_55)])) H locs := hM
          refine lv_aload_n B.1 B.2.1 dX12_readUse_140 rfl (lv_at hl 0 rfl) ?_
          refine m_callv (n := 0) (rest := []) B hM hA hl.1 (k_next l D dA h0 ad (up f [(8, y95_8), (9, y95_9), (7, y95_7), (10, y95_10), (5, y95_5), (6, y95_6), (22, y95_22), (62, y95_62)]) (up g [(11, y95_11)]) (up A [(17, y95_17), (18, y95_18), (19, y95_19), (20, y95_20), (21, y95_21), (47, y95_47), (48, (wr y95_48 v95_1 0)), (49, y95_49), (50, y95_50), (51, y95_51), (52, y95_52), (53, y95_53), (54, y95_54)]) (up L [(16, y95_16), (55, y95_55)])   (by first | omega | (simp only [wr_at]; omega) | assumption)) rfl ok_next nm_next ⟨rfl, rfl⟩ ⟨Nat.le_of_ble_eq_true rfl, Nat.le_of_ble_eq_true rfl⟩ dX12_readUse_141 rfl rfl (Nat.le_of_ble_eq_true rfl) ⟨Nat.zero_le _, Nat.zero_le _⟩ (fun σr155 H locs hp156 hM => ?_)
          obtain ⟨x157, x158, x159, x160, w161, rfl, hp156⟩ := hp156
          have hp156 : ((f 9) ≤ (x157) ∨ (x157) = (f 4)) ∧ (0 ≤ (x157) ∧ (x157) ≤ (f 4) ∧ (x158) ≤ (f 4) + 1 ∧ ((x159) = 0 ↔ (x157) = (f 4)) ∧ (2 ≤ (x159) → (x157) < (x158) ∧ (x158) ≤ (f 4)) ∧ ((x159) = 5 → (x157) + 2 ≤ (x158) ∧ (x158) ≤ (x157) + 32)) := hp156
          simp only [up_up] at hM
          have hM : MWd D dA h0 ad (mF dA h0 ad (f, g, A, L) s.heap.size) s.heap ((up f [(8, x157), (9, x158), (7, x159), (10, x160), (5, y95_5), (6, y95_6), (22, y95_22), (62, y95_62)]), (up g [(11, w161)]), (up A [(17, y95_17), (18, y95_18), (19, y95_19), (20, y95_20), (21, y95_21), (47, y95_47), (48, (wr y95_48 v95_1 0)), (49, y95_49), (50, y95_50), (51, y95_51), (52, y95_52), (53, y95_53), (54, y95_54)]), (up L [(16, y95_16), (55, y95_55)])) H locs := hM
          have r162 : (0 : Int) ≤ x157 ∧ x157 ≤ 3001 := hM.2.2.2.1 8
          have r163 : (0 : Int) ≤ x158 ∧ x158 ≤ 3002 := hM.2.2.2.1 9
          have r164 : (0 : Int) ≤ x159 ∧ x159 ≤ 6 := hM.2.2.2.1 7
          have r165 : (-2147483648 : Int) ≤ x160 ∧ x160 ≤ 2147483647 := hM.2.2.2.1 10
          exact JJ144 v95_1 x157 x158 x159 x160 y95_5 y95_6 y95_22 y95_62 w161 y95_17 y95_18 y95_19 y95_20 y95_21 y95_47 ((wr y95_48 v95_1 0)) y95_49 y95_50 y95_51 y95_52 y95_53 y95_54 y95_16 y95_55 _ _ ls hM (lv_sub hl [0, 1] rfl) (by omega) (by first | omega | (simp only [wr_at]; omega) | assumption) (by first | omega | (simp only [wr_at]; omega) | assumption) (by first | omega | (simp only [wr_at]; omega) | assumption) (by first | omega | (simp only [wr_at]; omega) | assumption) (by first | omega | (simp only [wr_at]; omega) | assumption) (by first | omega | (simp only [wr_at]; omega) | assumption) (by first | omega | (simp only [wr_at]; omega) | assumption) (by first | assumption | exact APe_rfl | exact APe_trans (by assumption) (by assumption) (by omega)) (by first | assumption | exact TXI_neg (by assumption) (by omega)) (by first | omega | (simp only [wr_at]; omega) | assumption) (by first | assumption | omega | (simp only [wr_at]; omega))
      · refine lv_aload_n B.1 B.2.1 dX12_readUse_111 rfl (lv_at hl 0 rfl) ?_
        refine q_bip B dX12_readUse_112 (by decide) ?_
        refine m_calli (n := 1) (rest := []) B hM hA hl.1 (k_isSign l D dA h0 ad (up f [(8, y95_8), (9, y95_9), (7, y95_7), (10, y95_10), (5, y95_5), (6, y95_6), (22, y95_22), (62, y95_62)]) (up g [(11, y95_11)]) (up A [(17, y95_17), (18, y95_18), (19, y95_19), (20, y95_20), (21, y95_21), (47, y95_47), (48, y95_48), (49, y95_49), (50, y95_50), (51, y95_51), (52, y95_52), (53, y95_53), (54, y95_54)]) (up L [(16, y95_16), (55, y95_55)]) 63 (by omega) (by first | omega | (simp only [wr_at]; omega) | assumption)) rfl ok_isSign nm_isSign ⟨rfl, rfl⟩ ⟨Nat.le_of_ble_eq_true rfl, Nat.le_of_ble_eq_true rfl⟩ dX12_readUse_114 rfl rfl (Nat.le_of_ble_eq_true rfl) ⟨Nat.zero_le _, Nat.zero_le _⟩ (fun r166 σr166 H locs ir166 hp167 hM => ?_)
        obtain ⟨rfl, hp167⟩ := hp167
        unfold inr at ir166
        have hp167 : 0 ≤ r166 ∧ r166 ≤ 1 ∧ (r166 = 1 ↔ (y95_7) = 6 ∧ sgn ((A 2)) (f 3) (f 4) (y95_8) = (63)) := hp167
        refine q_ieq (tgt := 144) B dX12_readUse_117 (by decide) (by unfold inr; omega) (fun c168 => ?_) (fun c168 => ?_)
        · exact JJ144 v95_1 y95_8 y95_9 y95_7 y95_10 y95_5 y95_6 y95_22 y95_62 y95_11 y95_17 y95_18 y95_19 y95_20 y95_21 y95_47 y95_48 y95_49 y95_50 y95_51 y95_52 y95_53 y95_54 y95_16 y95_55 _ _ ls hM (lv_sub hl [0, 1] rfl) (by omega) (by first | omega | (simp only [wr_at]; omega) | assumption) (by first | omega | (simp only [wr_at]; omega) | assumption) (by first | omega | (simp only [wr_at]; omega) | assumption) (by first | omega | (simp only [wr_at]; omega) | assumption) (by first | omega | (simp only [wr_at]; omega) | assumption) (by first | omega | (simp only [wr_at]; omega) | assumption) (by first | omega | (simp only [wr_at]; omega) | assumption) (by first | assumption | exact APe_rfl | exact APe_trans (by assumption) (by assumption) (by omega)) (by first | assumption | exact TXI_neg (by assumption) (by omega)) (by first | omega | (simp only [wr_at]; omega) | assumption) (by first | assumption | omega | (simp only [wr_at]; omega))
        · refine lv_aload_n B.1 B.2.1 dX12_readUse_120 rfl (lv_at hl 0 rfl) ?_
          refine m_geta (k := 48) B hM (by decide) rfl fl238 dX12_readUse_121 ?_
          refine lv_iload_n B.1 B.2.1 dX12_readUse_124 rfl (lv_at hl 1 rfl) ?_
          refine lv_aload_n B.1 B.2.1 dX12_readUse_125 rfl (lv_at hl 0 rfl) ?_
          refine q_bip B dX12_readUse_126 (by decide) ?_
          refine m_calli (n := 1) (rest := [.int (II v95_1), .ref (ad 48)]) B hM hA hl.1 (k_isSign l D dA h0 ad (up f [(8, y95_8), (9, y95_9), (7, y95_7), (10, y95_10), (5, y95_5), (6, y95_6), (22, y95_22), (62, y95_62)]) (up g [(11, y95_11)]) (up A [(17, y95_17), (18, y95_18), (19, y95_19), (20, y95_20), (21, y95_21), (47, y95_47), (48, y95_48), (49, y95_49), (50, y95_50), (51, y95_51), (52, y95_52), (53, y95_53), (54, y95_54)]) (up L [(16, y95_16), (55, y95_55)]) 33 (by omega) (by first | omega | (simp only [wr_at]; omega) | assumption)) rfl ok_isSign nm_isSign ⟨rfl, rfl⟩ ⟨Nat.le_of_ble_eq_true rfl, Nat.le_of_ble_eq_true rfl⟩ dX12_readUse_128 rfl rfl (Nat.le_of_ble_eq_true rfl) ⟨Nat.zero_le _, Nat.zero_le _⟩ (fun r169 σr169 H locs ir169 hp170 hM => ?_)
          obtain ⟨rfl, hp170⟩ := hp170
          unfold inr at ir169
          have hp170 : 0 ≤ r169 ∧ r169 ≤ 1 ∧ (r169 = 1 ↔ (y95_7) = 6 ∧ sgn ((A 2)) (f 3) (f 4) (y95_8) = (33)) := hp170
          refine q_ieq (tgt := 138) B dX12_readUse_131 (by decide) (by unfold inr; omega) (fun c171 => ?_) (fun c171 => ?_)
          · refine q_con B dX12_readUse_138 ?_
            refine m_ist (k := 48) (i := 36) (n := 3200) B hM rfl rfl rfl (by decide) dX12_readUse_139 (by omega) (by omega) (show (-1 : Int) ≤ 1 by omega) (show 1 ≤ (1 : Int) by omega) (u1_up A [(17, y95_17), (18, y95_18), (19, y95_19), (20, y95_20), (21, y95_21), (47, y95_47), (48, y95_48), (49, y95_49), (50, y95_50), (51, y95_51), (52, y95_52), (53, y95_53), (54, y95_54)] 48 (wr y95_48 v95_1 1)) (fun H locs hM => ?_)
            have hM : MWd D dA h0 ad (mF dA h0 ad (f, g, A, L) s.heap.size) s.heap ((up f [(8, y95_8), (9, y95_9), (7, y95_7), (10, y95_10), (5, y95_5), (6, y95_6), (22, y95_22), (62, y95_62)]), (up g [(11, y95_11)]), (up A [(17, y95_17), (18, y95_18), (19, y95_19), (20, y95_20), (21, y95_21), (47, y95_47), (48, (wr y95_48 v95_1 1)), (49, y95_49), (50, y95_50), (51, y95_51), (52, y95_52), (53, y95_53), (54, y95_54)]), (up L [(16, y95_16), (55, y95_55)])) H locs := hM
            refine lv_aload_n B.1 B.2.1 dX12_readUse_140 rfl (lv_at hl 0 rfl) ?_
            refine m_callv (n := 0) (rest := []) B hM hA hl.1 (k_next l D dA h0 ad (up f [(8, y95_8), (9, y95_9), (7, y95_7), (10, y95_10), (5, y95_5), (6, y95_6), (22, y95_22), (62, y95_62)]) (up g [(11, y95_11)]) (up A [(17, y95_17), (18, y95_18), (19, y95_19), (20, y95_20), (21, y95_21), (47, y95_47), (48, (wr y95_48 v95_1 1)), (49, y95_49), (50, y95_50), (51, y95_51), (52, y95_52), (53, y95_53), (54, y95_54)]) (up L [(16, y95_16), (55, y95_55)])   (by first | omega | (simp only [wr_at]; omega) | assumption)) rfl ok_next nm_next ⟨rfl, rfl⟩ ⟨Nat.le_of_ble_eq_true rfl, Nat.le_of_ble_eq_true rfl⟩ dX12_readUse_141 rfl rfl (Nat.le_of_ble_eq_true rfl) ⟨Nat.zero_le _, Nat.zero_le _⟩ (fun σr172 H locs hp173 hM => ?_)
            obtain ⟨x174, x175, x176, x177, w178, rfl, hp173⟩ := hp173
            have hp173 : ((f 9) ≤ (x174) ∨ (x174) = (f 4)) ∧ (0 ≤ (x174) ∧ (x174) ≤ (f 4) ∧ (x175) ≤ (f 4) + 1 ∧ ((x176) = 0 ↔ (x174) = (f 4)) ∧ (2 ≤ (x176) → (x174) < (x175) ∧ (x175) ≤ (f 4)) ∧ ((x176) = 5 → (x174) + 2 ≤ (x175) ∧ (x175) ≤ (x174) + 32)) := hp173
            simp only [up_up] at hM
            have hM : MWd D dA h0 ad (mF dA h0 ad (f, g, A, L) s.heap.size) s.heap ((up f [(8, x174), (9, x175), (7, x176), (10, x177), (5, y95_5), (6, y95_6), (22, y95_22), (62, y95_62)]), (up g [(11, w178)]), (up A [(17, y95_17), (18, y95_18), (19, y95_19), (20, y95_20), (21, y95_21), (47, y95_47), (48, (wr y95_48 v95_1 1)), (49, y95_49), (50, y95_50), (51, y95_51), (52, y95_52), (53, y95_53), (54, y95_54)]), (up L [(16, y95_16), (55, y95_55)])) H locs := hM
            have r179 : (0 : Int) ≤ x174 ∧ x174 ≤ 3001 := hM.2.2.2.1 8
            have r180 : (0 : Int) ≤ x175 ∧ x175 ≤ 3002 := hM.2.2.2.1 9
            have r181 : (0 : Int) ≤ x176 ∧ x176 ≤ 6 := hM.2.2.2.1 7
            have r182 : (-2147483648 : Int) ≤ x177 ∧ x177 ≤ 2147483647 := hM.2.2.2.1 10
            exact JJ144 v95_1 x174 x175 x176 x177 y95_5 y95_6 y95_22 y95_62 w178 y95_17 y95_18 y95_19 y95_20 y95_21 y95_47 ((wr y95_48 v95_1 1)) y95_49 y95_50 y95_51 y95_52 y95_53 y95_54 y95_16 y95_55 _ _ ls hM (lv_sub hl [0, 1] rfl) (by omega) (by first | omega | (simp only [wr_at]; omega) | assumption) (by first | omega | (simp only [wr_at]; omega) | assumption) (by first | omega | (simp only [wr_at]; omega) | assumption) (by first | omega | (simp only [wr_at]; omega) | assumption) (by first | omega | (simp only [wr_at]; omega) | assumption) (by first | omega | (simp only [wr_at]; omega) | assumption) (by first | omega | (simp only [wr_at]; omega) | assumption) (by first | assumption | exact APe_rfl | exact APe_trans (by assumption) (by assumption) (by omega)) (by first | assumption | exact TXI_neg (by assumption) (by omega)) (by first | omega | (simp only [wr_at]; omega) | assumption) (by first | assumption | omega | (simp only [wr_at]; omega))
          · refine q_con B dX12_readUse_134 ?_
            refine lv_goto (tgt := 139) B.1 B.2.1 dX12_readUse_135 (by decide) ?_
            refine m_ist (k := 48) (i := 36) (n := 3200) B hM rfl rfl rfl (by decide) dX12_readUse_139 (by omega) (by omega) (show (-1 : Int) ≤ 0 by omega) (show 0 ≤ (1 : Int) by omega) (u1_up A [(17, y95_17), (18, y95_18), (19, y95_19), (20, y95_20), (21, y95_21), (47, y95_47), (48, y95_48), (49, y95_49), (50, y95_50), (51, y95_51), (52, y95_52), (53, y95_53), (54, y95_54)] 48 (wr y95_48 v95_1 0)) (fun H locs hM => ?_)
            have hM : MWd D dA h0 ad (mF dA h0 ad (f, g, A, L) s.heap.size) s.heap ((up f [(8, y95_8), (9, y95_9), (7, y95_7), (10, y95_10), (5, y95_5), (6, y95_6), (22, y95_22), (62, y95_62)]), (up g [(11, y95_11)]), (up A [(17, y95_17), (18, y95_18), (19, y95_19), (20, y95_20), (21, y95_21), (47, y95_47), (48, (wr y95_48 v95_1 0)), (49, y95_49), (50, y95_50), (51, y95_51), (52, y95_52), (53, y95_53), (54, y95_54)]), (up L [(16, y95_16), (55, y95_55)])) H locs := hM
            refine lv_aload_n B.1 B.2.1 dX12_readUse_140 rfl (lv_at hl 0 rfl) ?_
            refine m_callv (n := 0) (rest := []) B hM hA hl.1 (k_next l D dA h0 ad (up f [(8, y95_8), (9, y95_9), (7, y95_7), (10, y95_10), (5, y95_5), (6, y95_6), (22, y95_22), (62, y95_62)]) (up g [(11, y95_11)]) (up A [(17, y95_17), (18, y95_18), (19, y95_19), (20, y95_20), (21, y95_21), (47, y95_47), (48, (wr y95_48 v95_1 0)), (49, y95_49), (50, y95_50), (51, y95_51), (52, y95_52), (53, y95_53), (54, y95_54)]) (up L [(16, y95_16), (55, y95_55)])   (by first | omega | (simp only [wr_at]; omega) | assumption)) rfl ok_next nm_next ⟨rfl, rfl⟩ ⟨Nat.le_of_ble_eq_true rfl, Nat.le_of_ble_eq_true rfl⟩ dX12_readUse_141 rfl rfl (Nat.le_of_ble_eq_true rfl) ⟨Nat.zero_le _, Nat.zero_le _⟩ (fun σr183 H locs hp184 hM => ?_)
            obtain ⟨x185, x186, x187, x188, w189, rfl, hp184⟩ := hp184
            have hp184 : ((f 9) ≤ (x185) ∨ (x185) = (f 4)) ∧ (0 ≤ (x185) ∧ (x185) ≤ (f 4) ∧ (x186) ≤ (f 4) + 1 ∧ ((x187) = 0 ↔ (x185) = (f 4)) ∧ (2 ≤ (x187) → (x185) < (x186) ∧ (x186) ≤ (f 4)) ∧ ((x187) = 5 → (x185) + 2 ≤ (x186) ∧ (x186) ≤ (x185) + 32)) := hp184
            simp only [up_up] at hM
            have hM : MWd D dA h0 ad (mF dA h0 ad (f, g, A, L) s.heap.size) s.heap ((up f [(8, x185), (9, x186), (7, x187), (10, x188), (5, y95_5), (6, y95_6), (22, y95_22), (62, y95_62)]), (up g [(11, w189)]), (up A [(17, y95_17), (18, y95_18), (19, y95_19), (20, y95_20), (21, y95_21), (47, y95_47), (48, (wr y95_48 v95_1 0)), (49, y95_49), (50, y95_50), (51, y95_51), (52, y95_52), (53, y95_53), (54, y95_54)]), (up L [(16, y95_16), (55, y95_55)])) H locs := hM
            have r190 : (0 : Int) ≤ x185 ∧ x185 ≤ 3001 := hM.2.2.2.1 8
            have r191 : (0 : Int) ≤ x186 ∧ x186 ≤ 3002 := hM.2.2.2.1 9
            have r192 : (0 : Int) ≤ x187 ∧ x187 ≤ 6 := hM.2.2.2.1 7
            have r193 : (-2147483648 : Int) ≤ x188 ∧ x188 ≤ 2147483647 := hM.2.2.2.1 10
            exact JJ144 v95_1 x185 x186 x187 x188 y95_5 y95_6 y95_22 y95_62 w189 y95_17 y95_18 y95_19 y95_20 y95_21 y95_47 ((wr y95_48 v95_1 0)) y95_49 y95_50 y95_51 y95_52 y95_53 y95_54 y95_16 y95_55 _ _ ls hM (lv_sub hl [0, 1] rfl) (by omega) (by first | omega | (simp only [wr_at]; omega) | assumption) (by first | omega | (simp only [wr_at]; omega) | assumption) (by first | omega | (simp only [wr_at]; omega) | assumption) (by first | omega | (simp only [wr_at]; omega) | assumption) (by first | omega | (simp only [wr_at]; omega) | assumption) (by first | omega | (simp only [wr_at]; omega) | assumption) (by first | omega | (simp only [wr_at]; omega) | assumption) (by first | assumption | exact APe_rfl | exact APe_trans (by assumption) (by assumption) (by omega)) (by first | assumption | exact TXI_neg (by assumption) (by omega)) (by first | omega | (simp only [wr_at]; omega) | assumption) (by first | assumption | omega | (simp only [wr_at]; omega))
  refine q_sip B dX12_readUse_0 (by decide) ?_
  refine lv_aload_n B.1 B.2.1 dX12_readUse_3 rfl (lv_at hl 0 rfl) ?_
  refine m_get (k := 3) (v := f 3) B hM (by decide) rfl fl11 dX12_readUse_4 rfl ?_
  have r194 : (0 : Int) ≤ f 3 ∧ f 3 ≤ 1 := hM.2.2.2.1 3
  refine q_mul B dX12_readUse_7 ?_
  refine lv_aload_n B.1 B.2.1 dX12_readUse_8 rfl (lv_at hl 0 rfl) ?_
  refine m_get (k := 62) (v := f 62) B hM (by decide) rfl fl418 dX12_readUse_9 rfl ?_
  have r195 : (0 : Int) ≤ f 62 ∧ f 62 ≤ 1590 := hM.2.2.2.1 62
  refine q_add B dX12_readUse_12 ?_
  refine lv_istore_n (lv' := [(1, .int (II ((1600 * (f 3)) + (f 62)))), (0, .ref h0)]) B.1 B.2.1 dX12_readUse_13 rfl hl (by decide) rfl (fun ls hl => ?_)
  refine lv_aload_n B.1 B.2.1 dX12_readUse_14 rfl (lv_at hl 1 rfl) ?_
  refine lv_dup B.1 B.2.1 dX12_readUse_15 rfl ?_
  refine m_get (k := 62) (v := f 62) B hM (by decide) rfl fl418 dX12_readUse_16 rfl ?_
  refine q_con B dX12_readUse_19 ?_
  refine q_add B dX12_readUse_20 ?_
  refine m_put (k := 62) B hM (by decide) rfl fl418 rfl dX12_readUse_21 rfl rfl (show (0 : Int) ≤ (f 62) + 1 by omega) (show (f 62) + 1 ≤ (1590 : Int) by omega) (u1_up f [(8, f 8), (9, f 9), (7, f 7), (10, f 10), (5, f 5), (6, f 6), (22, f 22), (62, f 62)] 62 ((f 62) + 1)) (fun H locs hM => ?_)
  have hM : MWd D dA h0 ad (mF dA h0 ad (f, g, A, L) s.heap.size) s.heap ((up f [(8, f 8), (9, f 9), (7, f 7), (10, f 10), (5, f 5), (6, f 6), (22, f 22), (62, (f 62) + 1)]), (up g [(11, g 11)]), (up A [(17, (A 17)), (18, (A 18)), (19, (A 19)), (20, (A 20)), (21, (A 21)), (47, (A 47)), (48, (A 48)), (49, (A 49)), (50, (A 50)), (51, (A 51)), (52, (A 52)), (53, (A 53)), (54, (A 54))]), (up L [(16, (L 16)), (55, (L 55))])) H locs := hM
  refine lv_aload_n B.1 B.2.1 dX12_readUse_24 rfl (lv_at hl 1 rfl) ?_
  refine q_con B dX12_readUse_25 ?_
  refine q_con B dX12_readUse_26 ?_
  refine q_con B dX12_readUse_27 ?_
  refine lv_iload_n B.1 B.2.1 dX12_readUse_28 rfl (lv_at hl 0 rfl) ?_
  refine m_callv (n := 4) (rest := []) B hM hA hl.1 (k_ask l D dA h0 ad (up f [(8, f 8), (9, f 9), (7, f 7), (10, f 10), (5, f 5), (6, f 6), (22, f 22), (62, (f 62) + 1)]) (up g [(11, g 11)]) (up A [(17, (A 17)), (18, (A 18)), (19, (A 19)), (20, (A 20)), (21, (A 21)), (47, (A 47)), (48, (A 48)), (49, (A 49)), (50, (A 50)), (51, (A 51)), (52, (A 52)), (53, (A 53)), (54, (A 54))]) (up L [(16, (L 16)), (55, (L 55))]) 0 (-1) 5 ((1600 * (f 3)) + (f 62)) (by omega) (by omega) (by omega) (by omega) (by first | omega | (simp only [wr_at]; omega) | assumption) (by first | omega | (simp only [wr_at]; omega) | assumption) (by first | omega | (simp only [wr_at]; omega) | assumption) (by first | omega | (simp only [wr_at]; omega) | assumption) (by first | omega | (simp only [wr_at]; omega) | assumption) (by first | omega | (simp only [wr_at]; omega) | assumption) (by first | omega | (simp only [wr_at]; omega) | assumption) (by first | omega | (simp only [wr_at]; omega) | assumption) (by first | omega | (simp only [wr_at]; omega) | assumption) (by first | omega | (simp only [wr_at]; omega) | assumption) (by first | omega | (simp only [wr_at]; omega) | assumption) (by first | omega | (simp only [wr_at]; omega) | assumption)) rfl ok_ask nm_ask ⟨rfl, rfl⟩ ⟨Nat.le_of_ble_eq_true rfl, Nat.le_of_ble_eq_true rfl⟩ dX12_readUse_29 rfl rfl (Nat.le_of_ble_eq_true rfl) ⟨Nat.zero_le _, Nat.zero_le _⟩ (fun σr196 H locs hp197 hM => ?_)
  obtain ⟨x198, x199, x200, x201, x202, x203, x204, w205, b206, b207, b208, b209, b210, b211, rfl, hp197⟩ := hp197
  have hp197 : ((0 ≤ (x198) ∧ (x198) ≤ (f 4) ∧ (x199) ≤ (f 4) + 1 ∧ ((x200) = 0 ↔ (x198) = (f 4)) ∧ (2 ≤ (x200) → (x198) < (x199) ∧ (x199) ≤ (f 4)) ∧ ((x200) = 5 → (x198) + 2 ≤ (x199) ∧ (x199) ≤ (x198) + 32))) ∧ (f 8) ≤ (x198) ∧ ((x202) = 0 → (f 5) = 0 ∧ (f 8) + 1 ≤ (x198) ∧ (f 7) = 2 ∧ (x204) = (f 22) + 1 ∧ b209 ((f 22)).toNat = (5) ∧ b210 ((f 22)).toNat = ((1600 * (f 3)) + (f 62))) ∧ 2 * (x204) ≤ (x198) + 1 ∧ (f 22) ≤ (x204) ∧ AIp (x204) b207 b209 b210 ∧ APe (f 22) (A 20) (A 21) b209 b210 := hp197
  simp only [up_up] at hM
  have hM : MWd D dA h0 ad (mF dA h0 ad (f, g, A, L) s.heap.size) s.heap ((up f [(8, x198), (9, x199), (7, x200), (10, x201), (5, x202), (6, x203), (22, x204), (62, (f 62) + 1)]), (up g [(11, w205)]), (up A [(17, b206), (18, b207), (19, b208), (20, b209), (21, b210), (47, (A 47)), (48, (A 48)), (49, (A 49)), (50, (A 50)), (51, (A 51)), (52, (A 52)), (53, (A 53)), (54, (A 54))]), (up L [(16, b211), (55, (L 55))])) H locs := hM
  have r212 : (0 : Int) ≤ x198 ∧ x198 ≤ 3001 := hM.2.2.2.1 8
  have r213 : (0 : Int) ≤ x199 ∧ x199 ≤ 3002 := hM.2.2.2.1 9
  have r214 : (0 : Int) ≤ x200 ∧ x200 ≤ 6 := hM.2.2.2.1 7
  have r215 : (-2147483648 : Int) ≤ x201 ∧ x201 ≤ 2147483647 := hM.2.2.2.1 10
  have r216 : (-2147483648 : Int) ≤ x202 ∧ x202 ≤ 2147483647 := hM.2.2.2.1 5
  have r217 : (-2147483648 : Int) ≤ x203 ∧ x203 ≤ 2147483647 := hM.2.2.2.1 6
  have r218 : (0 : Int) ≤ x204 ∧ x204 ≤ 1600 := hM.2.2.2.1 22
  refine lv_aload_n B.1 B.2.1 dX12_readUse_32 rfl (lv_at hl 1 rfl) ?_
  refine m_geta (k := 47) B hM (by decide) rfl fl235 dX12_readUse_33 ?_
  refine lv_iload_n B.1 B.2.1 dX12_readUse_36 rfl (lv_at hl 0 rfl) ?_
  refine q_con B dX12_readUse_37 ?_
  refine m_ist (k := 47) (i := 35) (n := 3200) B hM rfl rfl rfl (by decide) dX12_readUse_38 (by omega) (by omega) (show (0 : Int) ≤ 0 by omega) (show 0 ≤ (4 : Int) by omega) (u1_up A [(17, b206), (18, b207), (19, b208), (20, b209), (21, b210), (47, (A 47)), (48, (A 48)), (49, (A 49)), (50, (A 50)), (51, (A 51)), (52, (A 52)), (53, (A 53)), (54, (A 54))] 47 (wr (A 47) ((1600 * (f 3)) + (f 62)) 0)) (fun H locs hM => ?_)
  have hM : MWd D dA h0 ad (mF dA h0 ad (f, g, A, L) s.heap.size) s.heap ((up f [(8, x198), (9, x199), (7, x200), (10, x201), (5, x202), (6, x203), (22, x204), (62, (f 62) + 1)]), (up g [(11, w205)]), (up A [(17, b206), (18, b207), (19, b208), (20, b209), (21, b210), (47, (wr (A 47) ((1600 * (f 3)) + (f 62)) 0)), (48, (A 48)), (49, (A 49)), (50, (A 50)), (51, (A 51)), (52, (A 52)), (53, (A 53)), (54, (A 54))]), (up L [(16, b211), (55, (L 55))])) H locs := hM
  refine lv_aload_n B.1 B.2.1 dX12_readUse_39 rfl (lv_at hl 1 rfl) ?_
  refine m_geta (k := 48) B hM (by decide) rfl fl238 dX12_readUse_40 ?_
  refine lv_iload_n B.1 B.2.1 dX12_readUse_43 rfl (lv_at hl 0 rfl) ?_
  refine q_con B dX12_readUse_44 ?_
  refine m_ist (k := 48) (i := 36) (n := 3200) B hM rfl rfl rfl (by decide) dX12_readUse_45 (by omega) (by omega) (show (-1 : Int) ≤ -1 by omega) (show -1 ≤ (1 : Int) by omega) (u1_up A [(17, b206), (18, b207), (19, b208), (20, b209), (21, b210), (47, (wr (A 47) ((1600 * (f 3)) + (f 62)) 0)), (48, (A 48)), (49, (A 49)), (50, (A 50)), (51, (A 51)), (52, (A 52)), (53, (A 53)), (54, (A 54))] 48 (wr (A 48) ((1600 * (f 3)) + (f 62)) (-1))) (fun H locs hM => ?_)
  have hM : MWd D dA h0 ad (mF dA h0 ad (f, g, A, L) s.heap.size) s.heap ((up f [(8, x198), (9, x199), (7, x200), (10, x201), (5, x202), (6, x203), (22, x204), (62, (f 62) + 1)]), (up g [(11, w205)]), (up A [(17, b206), (18, b207), (19, b208), (20, b209), (21, b210), (47, (wr (A 47) ((1600 * (f 3)) + (f 62)) 0)), (48, (wr (A 48) ((1600 * (f 3)) + (f 62)) (-1))), (49, (A 49)), (50, (A 50)), (51, (A 51)), (52, (A 52)), (53, (A 53)), (54, (A 54))]), (up L [(16, b211), (55, (L 55))])) H locs := hM
  refine lv_aload_n B.1 B.2.1 dX12_readUse_46 rfl (lv_at hl 1 rfl) ?_
  refine m_geta (k := 49) B hM (by decide) rfl fl241 dX12_readUse_47 ?_
  refine lv_iload_n B.1 B.2.1 dX12_readUse_50 rfl (lv_at hl 0 rfl) ?_
  refine q_con B dX12_readUse_51 ?_
  refine m_ist (k := 49) (i := 37) (n := 3200) B hM rfl rfl rfl (by decide) dX12_readUse_52 (by omega) (by omega) (show (-1 : Int) ≤ -1 by omega) (show -1 ≤ (7 : Int) by omega) (u1_up A [(17, b206), (18, b207), (19, b208), (20, b209), (21, b210), (47, (wr (A 47) ((1600 * (f 3)) + (f 62)) 0)), (48, (wr (A 48) ((1600 * (f 3)) + (f 62)) (-1))), (49, (A 49)), (50, (A 50)), (51, (A 51)), (52, (A 52)), (53, (A 53)), (54, (A 54))] 49 (wr (A 49) ((1600 * (f 3)) + (f 62)) (-1))) (fun H locs hM => ?_)
  have hM : MWd D dA h0 ad (mF dA h0 ad (f, g, A, L) s.heap.size) s.heap ((up f [(8, x198), (9, x199), (7, x200), (10, x201), (5, x202), (6, x203), (22, x204), (62, (f 62) + 1)]), (up g [(11, w205)]), (up A [(17, b206), (18, b207), (19, b208), (20, b209), (21, b210), (47, (wr (A 47) ((1600 * (f 3)) + (f 62)) 0)), (48, (wr (A 48) ((1600 * (f 3)) + (f 62)) (-1))), (49, (wr (A 49) ((1600 * (f 3)) + (f 62)) (-1))), (50, (A 50)), (51, (A 51)), (52, (A 52)), (53, (A 53)), (54, (A 54))]), (up L [(16, b211), (55, (L 55))])) H locs := hM
  refine lv_aload_n B.1 B.2.1 dX12_readUse_53 rfl (lv_at hl 1 rfl) ?_
  refine m_geta (k := 50) B hM (by decide) rfl fl244 dX12_readUse_54 ?_
  refine lv_iload_n B.1 B.2.1 dX12_readUse_57 rfl (lv_at hl 0 rfl) ?_
  refine q_con B dX12_readUse_58 ?_
  refine m_ist (k := 50) (i := 38) (n := 3200) B hM rfl rfl rfl (by decide) dX12_readUse_59 (by omega) (by omega) (show (-2147483648 : Int) ≤ 0 by omega) (show 0 ≤ (2147483647 : Int) by omega) (u1_up A [(17, b206), (18, b207), (19, b208), (20, b209), (21, b210), (47, (wr (A 47) ((1600 * (f 3)) + (f 62)) 0)), (48, (wr (A 48) ((1600 * (f 3)) + (f 62)) (-1))), (49, (wr (A 49) ((1600 * (f 3)) + (f 62)) (-1))), (50, (A 50)), (51, (A 51)), (52, (A 52)), (53, (A 53)), (54, (A 54))] 50 (wr (A 50) ((1600 * (f 3)) + (f 62)) 0)) (fun H locs hM => ?_)
  have hM : MWd D dA h0 ad (mF dA h0 ad (f, g, A, L) s.heap.size) s.heap ((up f [(8, x198), (9, x199), (7, x200), (10, x201), (5, x202), (6, x203), (22, x204), (62, (f 62) + 1)]), (up g [(11, w205)]), (up A [(17, b206), (18, b207), (19, b208), (20, b209), (21, b210), (47, (wr (A 47) ((1600 * (f 3)) + (f 62)) 0)), (48, (wr (A 48) ((1600 * (f 3)) + (f 62)) (-1))), (49, (wr (A 49) ((1600 * (f 3)) + (f 62)) (-1))), (50, (wr (A 50) ((1600 * (f 3)) + (f 62)) 0)), (51, (A 51)), (52, (A 52)), (53, (A 53)), (54, (A 54))]), (up L [(16, b211), (55, (L 55))])) H locs := hM
  refine lv_aload_n B.1 B.2.1 dX12_readUse_60 rfl (lv_at hl 1 rfl) ?_
  refine m_geta (k := 53) B hM (by decide) rfl fl253 dX12_readUse_61 ?_
  refine lv_iload_n B.1 B.2.1 dX12_readUse_64 rfl (lv_at hl 0 rfl) ?_
  refine q_con B dX12_readUse_65 ?_
  refine m_zst (k := 53) (i := 41) (n := 3200) B hM rfl rfl rfl (by decide) dX12_readUse_66 (by omega) (by omega) (by omega) (show (0 : Int) ≤ 0 by omega) (show 0 ≤ (1 : Int) by omega) (u1_up A [(17, b206), (18, b207), (19, b208), (20, b209), (21, b210), (47, (wr (A 47) ((1600 * (f 3)) + (f 62)) 0)), (48, (wr (A 48) ((1600 * (f 3)) + (f 62)) (-1))), (49, (wr (A 49) ((1600 * (f 3)) + (f 62)) (-1))), (50, (wr (A 50) ((1600 * (f 3)) + (f 62)) 0)), (51, (A 51)), (52, (A 52)), (53, (A 53)), (54, (A 54))] 53 (wr (A 53) ((1600 * (f 3)) + (f 62)) 0)) (fun H locs hM => ?_)
  have hM : MWd D dA h0 ad (mF dA h0 ad (f, g, A, L) s.heap.size) s.heap ((up f [(8, x198), (9, x199), (7, x200), (10, x201), (5, x202), (6, x203), (22, x204), (62, (f 62) + 1)]), (up g [(11, w205)]), (up A [(17, b206), (18, b207), (19, b208), (20, b209), (21, b210), (47, (wr (A 47) ((1600 * (f 3)) + (f 62)) 0)), (48, (wr (A 48) ((1600 * (f 3)) + (f 62)) (-1))), (49, (wr (A 49) ((1600 * (f 3)) + (f 62)) (-1))), (50, (wr (A 50) ((1600 * (f 3)) + (f 62)) 0)), (51, (A 51)), (52, (A 52)), (53, (wr (A 53) ((1600 * (f 3)) + (f 62)) 0)), (54, (A 54))]), (up L [(16, b211), (55, (L 55))])) H locs := hM
  refine lv_aload_n B.1 B.2.1 dX12_readUse_67 rfl (lv_at hl 1 rfl) ?_
  refine m_geta (k := 52) B hM (by decide) rfl fl250 dX12_readUse_68 ?_
  refine lv_iload_n B.1 B.2.1 dX12_readUse_71 rfl (lv_at hl 0 rfl) ?_
  refine q_con B dX12_readUse_72 ?_
  refine m_ist (k := 52) (i := 40) (n := 3200) B hM rfl rfl rfl (by decide) dX12_readUse_73 (by omega) (by omega) (show (-1 : Int) ≤ -1 by omega) (show -1 ≤ (30 : Int) by omega) (u1_up A [(17, b206), (18, b207), (19, b208), (20, b209), (21, b210), (47, (wr (A 47) ((1600 * (f 3)) + (f 62)) 0)), (48, (wr (A 48) ((1600 * (f 3)) + (f 62)) (-1))), (49, (wr (A 49) ((1600 * (f 3)) + (f 62)) (-1))), (50, (wr (A 50) ((1600 * (f 3)) + (f 62)) 0)), (51, (A 51)), (52, (A 52)), (53, (wr (A 53) ((1600 * (f 3)) + (f 62)) 0)), (54, (A 54))] 52 (wr (A 52) ((1600 * (f 3)) + (f 62)) (-1))) (fun H locs hM => ?_)
  have hM : MWd D dA h0 ad (mF dA h0 ad (f, g, A, L) s.heap.size) s.heap ((up f [(8, x198), (9, x199), (7, x200), (10, x201), (5, x202), (6, x203), (22, x204), (62, (f 62) + 1)]), (up g [(11, w205)]), (up A [(17, b206), (18, b207), (19, b208), (20, b209), (21, b210), (47, (wr (A 47) ((1600 * (f 3)) + (f 62)) 0)), (48, (wr (A 48) ((1600 * (f 3)) + (f 62)) (-1))), (49, (wr (A 49) ((1600 * (f 3)) + (f 62)) (-1))), (50, (wr (A 50) ((1600 * (f 3)) + (f 62)) 0)), (51, (A 51)), (52, (wr (A 52) ((1600 * (f 3)) + (f 62)) (-1))), (53, (wr (A 53) ((1600 * (f 3)) + (f 62)) 0)), (54, (A 54))]), (up L [(16, b211), (55, (L 55))])) H locs := hM
  refine lv_aload_n B.1 B.2.1 dX12_readUse_74 rfl (lv_at hl 1 rfl) ?_
  refine m_calli (n := 0) (rest := []) B hM hA hl.1 (k_isGood l D dA h0 ad (up f [(8, x198), (9, x199), (7, x200), (10, x201), (5, x202), (6, x203), (22, x204), (62, (f 62) + 1)]) (up g [(11, w205)]) (up A [(17, b206), (18, b207), (19, b208), (20, b209), (21, b210), (47, (wr (A 47) ((1600 * (f 3)) + (f 62)) 0)), (48, (wr (A 48) ((1600 * (f 3)) + (f 62)) (-1))), (49, (wr (A 49) ((1600 * (f 3)) + (f 62)) (-1))), (50, (wr (A 50) ((1600 * (f 3)) + (f 62)) 0)), (51, (A 51)), (52, (wr (A 52) ((1600 * (f 3)) + (f 62)) (-1))), (53, (wr (A 53) ((1600 * (f 3)) + (f 62)) 0)), (54, (A 54))]) (up L [(16, b211), (55, (L 55))])   ) rfl ok_isGood nm_isGood ⟨rfl, rfl⟩ ⟨Nat.le_of_ble_eq_true rfl, Nat.le_of_ble_eq_true rfl⟩ dX12_readUse_75 rfl rfl (Nat.le_of_ble_eq_true rfl) ⟨Nat.zero_le _, Nat.zero_le _⟩ (fun r219 σr219 H locs ir219 hp220 hM => ?_)
  obtain ⟨rfl, hp220⟩ := hp220
  unfold inr at ir219
  have hp220 : 0 ≤ r219 ∧ r219 ≤ 1 ∧ (r219 = 1 ↔ (x202) = 0) := hp220
  refine q_ieq (tgt := 95) B dX12_readUse_78 (by decide) (by unfold inr; omega) (fun c221 => ?_) (fun c221 => ?_)
  · exact JJ95 ((1600 * (f 3)) + (f 62)) x198 x199 x200 x201 x202 x203 x204 ((f 62) + 1) w205 b206 b207 b208 b209 b210 ((wr (A 47) ((1600 * (f 3)) + (f 62)) 0)) ((wr (A 48) ((1600 * (f 3)) + (f 62)) (-1))) ((wr (A 49) ((1600 * (f 3)) + (f 62)) (-1))) ((wr (A 50) ((1600 * (f 3)) + (f 62)) 0)) ((A 51)) ((wr (A 52) ((1600 * (f 3)) + (f 62)) (-1))) ((wr (A 53) ((1600 * (f 3)) + (f 62)) 0)) ((A 54)) b211 ((L 55)) _ _ ls hM (lv_sub hl [1, 0] rfl) (by omega) (by first | omega | (simp only [wr_at]; omega) | assumption) (by first | omega | (simp only [wr_at]; omega) | assumption) (by first | omega | (simp only [wr_at]; omega) | assumption) (by first | omega | (simp only [wr_at]; omega) | assumption) (by first | omega | (simp only [wr_at]; omega) | assumption) (by first | omega | (simp only [wr_at]; omega) | assumption) (by first | omega | (simp only [wr_at]; omega) | assumption) (by first | assumption | exact APe_rfl | exact APe_trans (by assumption) (by assumption) (by omega)) (by first | assumption | exact TXI_neg (by assumption) (by omega)) (by first | omega | (simp only [wr_at]; omega) | assumption) (by first | assumption | omega | (simp only [wr_at]; omega))
  · refine lv_aload_n B.1 B.2.1 dX12_readUse_81 rfl (lv_at hl 1 rfl) ?_
    refine q_bip B dX12_readUse_82 (by decide) ?_
    refine m_calli (n := 1) (rest := []) B hM hA hl.1 (k_isSign l D dA h0 ad (up f [(8, x198), (9, x199), (7, x200), (10, x201), (5, x202), (6, x203), (22, x204), (62, (f 62) + 1)]) (up g [(11, w205)]) (up A [(17, b206), (18, b207), (19, b208), (20, b209), (21, b210), (47, (wr (A 47) ((1600 * (f 3)) + (f 62)) 0)), (48, (wr (A 48) ((1600 * (f 3)) + (f 62)) (-1))), (49, (wr (A 49) ((1600 * (f 3)) + (f 62)) (-1))), (50, (wr (A 50) ((1600 * (f 3)) + (f 62)) 0)), (51, (A 51)), (52, (wr (A 52) ((1600 * (f 3)) + (f 62)) (-1))), (53, (wr (A 53) ((1600 * (f 3)) + (f 62)) 0)), (54, (A 54))]) (up L [(16, b211), (55, (L 55))]) 40 (by omega) (by first | omega | (simp only [wr_at]; omega) | assumption)) rfl ok_isSign nm_isSign ⟨rfl, rfl⟩ ⟨Nat.le_of_ble_eq_true rfl, Nat.le_of_ble_eq_true rfl⟩ dX12_readUse_84 rfl rfl (Nat.le_of_ble_eq_true rfl) ⟨Nat.zero_le _, Nat.zero_le _⟩ (fun r222 σr222 H locs ir222 hp223 hM => ?_)
    obtain ⟨rfl, hp223⟩ := hp223
    unfold inr at ir222
    have hp223 : 0 ≤ r222 ∧ r222 ≤ 1 ∧ (r222 = 1 ↔ (x200) = 6 ∧ sgn ((A 2)) (f 3) (f 4) (x198) = (40)) := hp223
    refine q_ieq (tgt := 95) B dX12_readUse_87 (by decide) (by unfold inr; omega) (fun c224 => ?_) (fun c224 => ?_)
    · exact JJ95 ((1600 * (f 3)) + (f 62)) x198 x199 x200 x201 x202 x203 x204 ((f 62) + 1) w205 b206 b207 b208 b209 b210 ((wr (A 47) ((1600 * (f 3)) + (f 62)) 0)) ((wr (A 48) ((1600 * (f 3)) + (f 62)) (-1))) ((wr (A 49) ((1600 * (f 3)) + (f 62)) (-1))) ((wr (A 50) ((1600 * (f 3)) + (f 62)) 0)) ((A 51)) ((wr (A 52) ((1600 * (f 3)) + (f 62)) (-1))) ((wr (A 53) ((1600 * (f 3)) + (f 62)) 0)) ((A 54)) b211 ((L 55)) _ _ ls hM (lv_sub hl [1, 0] rfl) (by omega) (by first | omega | (simp only [wr_at]; omega) | assumption) (by first | omega | (simp only [wr_at]; omega) | assumption) (by first | omega | (simp only [wr_at]; omega) | assumption) (by first | omega | (simp only [wr_at]; omega) | assumption) (by first | omega | (simp only [wr_at]; omega) | assumption) (by first | omega | (simp only [wr_at]; omega) | assumption) (by first | omega | (simp only [wr_at]; omega) | assumption) (by first | assumption | exact APe_rfl | exact APe_trans (by assumption) (by assumption) (by omega)) (by first | assumption | exact TXI_neg (by assumption) (by omega)) (by first | omega | (simp only [wr_at]; omega) | assumption) (by first | assumption | omega | (simp only [wr_at]; omega))
    · refine lv_aload_n B.1 B.2.1 dX12_readUse_90 rfl (lv_at hl 1 rfl) ?_
      refine lv_iload_n B.1 B.2.1 dX12_readUse_91 rfl (lv_at hl 0 rfl) ?_
      refine m_callv (n := 1) (rest := []) B hM hA hl.1 (k_readArgs l D dA h0 ad (up f [(8, x198), (9, x199), (7, x200), (10, x201), (5, x202), (6, x203), (22, x204), (62, (f 62) + 1)]) (up g [(11, w205)]) (up A [(17, b206), (18, b207), (19, b208), (20, b209), (21, b210), (47, (wr (A 47) ((1600 * (f 3)) + (f 62)) 0)), (48, (wr (A 48) ((1600 * (f 3)) + (f 62)) (-1))), (49, (wr (A 49) ((1600 * (f 3)) + (f 62)) (-1))), (50, (wr (A 50) ((1600 * (f 3)) + (f 62)) 0)), (51, (A 51)), (52, (wr (A 52) ((1600 * (f 3)) + (f 62)) (-1))), (53, (wr (A 53) ((1600 * (f 3)) + (f 62)) 0)), (54, (A 54))]) (up L [(16, b211), (55, (L 55))]) ((1600 * (f 3)) + (f 62)) (by omega) (by first | omega | (simp only [wr_at]; omega) | assumption) (by first | omega | (simp only [wr_at]; omega) | assumption) (by first | omega | (simp only [wr_at]; omega) | assumption) (by first | omega | (simp only [wr_at]; omega) | assumption)) rfl ok_readArgs nm_readArgs ⟨rfl, rfl⟩ ⟨Nat.le_of_ble_eq_true rfl, Nat.le_of_ble_eq_true rfl⟩ dX12_readUse_92 rfl rfl (Nat.le_of_ble_eq_true rfl) ⟨Nat.zero_le _, Nat.zero_le _⟩ (fun σr225 H locs hp226 hM => ?_)
      obtain ⟨x227, x228, x229, x230, x231, x232, w233, b234, b235, b236, rfl, hp226⟩ := hp226
      have hp226 : ((0 ≤ (x227) ∧ (x227) ≤ (f 4) ∧ (x228) ≤ (f 4) + 1 ∧ ((x229) = 0 ↔ (x227) = (f 4)) ∧ (2 ≤ (x229) → (x227) < (x228) ∧ (x228) ≤ (f 4)) ∧ ((x229) = 5 → (x227) + 2 ≤ (x228) ∧ (x228) ≤ (x227) + 32))) ∧ (x198) ≤ (x227) ∧ ((x231) = 0 → (x202) = 0 ∧ (x198) + 1 ≤ (x227)) := hp226
      simp only [up_up] at hM
      have hM : MWd D dA h0 ad (mF dA h0 ad (f, g, A, L) s.heap.size) s.heap ((up f [(8, x227), (9, x228), (7, x229), (10, x230), (5, x231), (6, x232), (22, x204), (62, (f 62) + 1)]), (up g [(11, w233)]), (up A [(17, b206), (18, b207), (19, b208), (20, b209), (21, b210), (47, b234), (48, (wr (A 48) ((1600 * (f 3)) + (f 62)) (-1))), (49, (wr (A 49) ((1600 * (f 3)) + (f 62)) (-1))), (50, (wr (A 50) ((1600 * (f 3)) + (f 62)) 0)), (51, (A 51)), (52, (wr (A 52) ((1600 * (f 3)) + (f 62)) (-1))), (53, (wr (A 53) ((1600 * (f 3)) + (f 62)) 0)), (54, b235)]), (up L [(16, b211), (55, b236)])) H locs := hM
      have r237 : (0 : Int) ≤ x227 ∧ x227 ≤ 3001 := hM.2.2.2.1 8
      have r238 : (0 : Int) ≤ x228 ∧ x228 ≤ 3002 := hM.2.2.2.1 9
      have r239 : (0 : Int) ≤ x229 ∧ x229 ≤ 6 := hM.2.2.2.1 7
      have r240 : (-2147483648 : Int) ≤ x230 ∧ x230 ≤ 2147483647 := hM.2.2.2.1 10
      have r241 : (-2147483648 : Int) ≤ x231 ∧ x231 ≤ 2147483647 := hM.2.2.2.1 5
      have r242 : (-2147483648 : Int) ≤ x232 ∧ x232 ≤ 2147483647 := hM.2.2.2.1 6
      exact JJ95 ((1600 * (f 3)) + (f 62)) x227 x228 x229 x230 x231 x232 x204 ((f 62) + 1) w233 b206 b207 b208 b209 b210 b234 ((wr (A 48) ((1600 * (f 3)) + (f 62)) (-1))) ((wr (A 49) ((1600 * (f 3)) + (f 62)) (-1))) ((wr (A 50) ((1600 * (f 3)) + (f 62)) 0)) ((A 51)) ((wr (A 52) ((1600 * (f 3)) + (f 62)) (-1))) ((wr (A 53) ((1600 * (f 3)) + (f 62)) 0)) b235 b211 b236 _ _ ls hM (lv_sub hl [1, 0] rfl) (by omega) (by first | omega | (simp only [wr_at]; omega) | assumption) (by first | omega | (simp only [wr_at]; omega) | assumption) (by first | omega | (simp only [wr_at]; omega) | assumption) (by first | omega | (simp only [wr_at]; omega) | assumption) (by first | omega | (simp only [wr_at]; omega) | assumption) (by first | omega | (simp only [wr_at]; omega) | assumption) (by first | omega | (simp only [wr_at]; omega) | assumption) (by first | assumption | exact APe_rfl | exact APe_trans (by assumption) (by assumption) (by omega)) (by first | assumption | exact TXI_neg (by assumption) (by omega)) (by first | omega | (simp only [wr_at]; omega) | assumption) (by first | assumption | omega | (simp only [wr_at]; omega))
set_option maxHeartbeats 4000000 in
set_option maxRecDepth 20000 in
theorem k_readUses (l : Launch) (D : va_G) (dA : Nat → ClassId) (h0 : Nat) (ad : Nat → Nat) (f : Nat → Int) (g : Nat → Int64) (A : Nat → Nat → Int) (L : Nat → Nat → Int64) (a_had : Int) (i_had : (-2147483648 : Int) ≤ a_had ∧ a_had ≤ 2147483647) (p_0 : 0 ≤ (a_had)) (p_1 : (a_had) ≤ 8) (p_2 : (0 ≤ (f 8) ∧ (f 8) ≤ (f 4) ∧ (f 9) ≤ (f 4) + 1 ∧ ((f 7) = 0 ↔ (f 8) = (f 4)) ∧ (2 ≤ (f 7) → (f 8) < (f 9) ∧ (f 9) ≤ (f 4)) ∧ ((f 7) = 5 → (f 8) + 2 ≤ (f 9) ∧ (f 9) ≤ (f 8) + 32))) (p_3 : 2 * (f 22) ≤ (f 8)) (p_4 : ((f 5) = 0 → (f 62) ≤ (f 22))) (p_5 : (f 62) ≤ 1540) (p_6 : AIp (f 22) (A 18) (A 20) (A 21)) (p_7 : TXI (A 51) (A 52)) : MCi l yX12_readUses cX12_readUses 5 (some .int) ({ frames := 6, cells := 0, slots := 0, locals := 130 }) D dA h0 ad (f, g, A, L) [.int (II a_had)] (fun r σ => ∃ n8 : Int, ∃ n9 : Int, ∃ n7 : Int, ∃ n10 : Int, ∃ n5 : Int, ∃ n6 : Int, ∃ n22 : Int, ∃ n62 : Int, ∃ n11 : Int64, ∃ b17 : Nat → Int, ∃ b18 : Nat → Int, ∃ b19 : Nat → Int, ∃ b20 : Nat → Int, ∃ b21 : Nat → Int, ∃ b47 : Nat → Int, ∃ b48 : Nat → Int, ∃ b49 : Nat → Int, ∃ b50 : Nat → Int, ∃ b51 : Nat → Int, ∃ b52 : Nat → Int, ∃ b53 : Nat → Int, ∃ b54 : Nat → Int, ∃ b16 : Nat → Int64, ∃ b55 : Nat → Int64, σ = ((up f [(8, n8), (9, n9), (7, n7), (10, n10), (5, n5), (6, n6), (22, n22), (62, n62)]), (up g [(11, n11)]), (up A [(17, b17), (18, b18), (19, b19), (20, b20), (21, b21), (47, b47), (48, b48), (49, b49), (50, b50), (51, b51), (52, b52), (53, b53), (54, b54)]), (up L [(16, b16), (55, b55)])) ∧ (0 ≤ r ∧ (a_had) + r ≤ 8 ∧ ((0 ≤ (n8) ∧ (n8) ≤ (f 4) ∧ (n9) ≤ (f 4) + 1 ∧ ((n7) = 0 ↔ (n8) = (f 4)) ∧ (2 ≤ (n7) → (n8) < (n9) ∧ (n9) ≤ (f 4)) ∧ ((n7) = 5 → (n8) + 2 ≤ (n9) ∧ (n9) ≤ (n8) + 32))) ∧ (f 8) ≤ (n8) ∧ ((n5) = 0 → (f 5) = 0 ∧ (f 8) + 1 ≤ (n8) ∧ (n62) ≤ (n22) ∧ 1 ≤ r ∧ 2 * (n22) ≤ (n8)) ∧ 2 * (n22) ≤ (n8) + 1 ∧ (n62) = (f 62) + r ∧ (f 22) ≤ (n22) ∧ AIp (n22) b18 b20 b21 ∧ APe (f 22) (A 20) (A 21) b20 b21 ∧ TXI b51 b52)) := by
  generalize hPST : (fun r σ => ∃ n8 : Int, ∃ n9 : Int, ∃ n7 : Int, ∃ n10 : Int, ∃ n5 : Int, ∃ n6 : Int, ∃ n22 : Int, ∃ n62 : Int, ∃ n11 : Int64, ∃ b17 : Nat → Int, ∃ b18 : Nat → Int, ∃ b19 : Nat → Int, ∃ b20 : Nat → Int, ∃ b21 : Nat → Int, ∃ b47 : Nat → Int, ∃ b48 : Nat → Int, ∃ b49 : Nat → Int, ∃ b50 : Nat → Int, ∃ b51 : Nat → Int, ∃ b52 : Nat → Int, ∃ b53 : Nat → Int, ∃ b54 : Nat → Int, ∃ b16 : Nat → Int64, ∃ b55 : Nat → Int64, σ = ((up f [(8, n8), (9, n9), (7, n7), (10, n10), (5, n5), (6, n6), (22, n22), (62, n62)]), (up g [(11, n11)]), (up A [(17, b17), (18, b18), (19, b19), (20, b20), (21, b21), (47, b47), (48, b48), (49, b49), (50, b50), (51, b51), (52, b52), (53, b53), (54, b54)]), (up L [(16, b16), (55, b55)])) ∧ (0 ≤ r ∧ (a_had) + r ≤ 8 ∧ ((0 ≤ (n8) ∧ (n8) ≤ (f 4) ∧ (n9) ≤ (f 4) + 1 ∧ ((n7) = 0 ↔ (n8) = (f 4)) ∧ (2 ≤ (n7) → (n8) < (n9) ∧ (n9) ≤ (f 4)) ∧ ((n7) = 5 → (n8) + 2 ≤ (n9) ∧ (n9) ≤ (n8) + 32))) ∧ (f 8) ≤ (n8) ∧ ((n5) = 0 → (f 5) = 0 ∧ (f 8) + 1 ≤ (n8) ∧ (n62) ≤ (n22) ∧ 1 ≤ r ∧ 2 * (n22) ≤ (n8)) ∧ 2 * (n22) ≤ (n8) + 1 ∧ (n62) = (f 62) + r ∧ (f 22) ≤ (n22) ∧ AIp (n22) b18 b20 b21 ∧ APe (f 22) (A 20) (A 21) b20 b21 ∧ TXI b51 b52)) = PST
  refine m_enter (by decide) rfl (Nat.le_of_ble_eq_true rfl) (fun p e s m args below meth c ls B hM hl => ?_)
  have hA : ∀ q, s.heap.size ≤ q → mF dA h0 ad (f, g, A, L) s.heap.size q := fun q h => Or.inr h
  have hM : MWd D dA h0 ad (mF dA h0 ad (f, g, A, L) s.heap.size) s.heap ((up f [(8, f 8), (9, f 9), (7, f 7), (10, f 10), (5, f 5), (6, f 6), (22, f 22), (62, f 62)]), (up g [(11, g 11)]), (up A [(17, (A 17)), (18, (A 18)), (19, (A 19)), (20, (A 20)), (21, (A 21)), (47, (A 47)), (48, (A 48)), (49, (A 49)), (50, (A 50)), (51, (A 51)), (52, (A 52)), (53, (A 53)), (54, (A 54))]), (up L [(16, (L 16)), (55, (L 55))])) s.heap [] := MW_pad hM (up_self f [8, 9, 7, 10, 5, 6, 22, 62]) (up_self g [11]) (up_self A [17, 18, 19, 20, 21, 47, 48, 49, 50, 51, 52, 53, 54]) (up_self L [16, 55])
  have hl : lv_has ls 5 [(0, .ref h0), (1, .int (II a_had))] := hl
  have LL4 : ∀ N : Nat, ∀ (v4_2 : Int) (v4_3 : Int) (y4_8 : Int) (y4_9 : Int) (y4_7 : Int) (y4_10 : Int) (y4_5 : Int) (y4_6 : Int) (y4_22 : Int) (y4_62 : Int) (y4_11 : Int64) (y4_17 : Nat → Int) (y4_18 : Nat → Int) (y4_19 : Nat → Int) (y4_20 : Nat → Int) (y4_21 : Nat → Int) (y4_47 : Nat → Int) (y4_48 : Nat → Int) (y4_49 : Nat → Int) (y4_50 : Nat → Int) (y4_51 : Nat → Int) (y4_52 : Nat → Int) (y4_53 : Nat → Int) (y4_54 : Nat → Int) (y4_16 : Nat → Int64) (y4_55 : Nat → Int64) (H : Heap) (locs : List Loc) (ls : Array Slot), (MWd D dA h0 ad (mF dA h0 ad (f, g, A, L) s.heap.size) s.heap ((up f [(8, y4_8), (9, y4_9), (7, y4_7), (10, y4_10), (5, y4_5), (6, y4_6), (22, y4_22), (62, y4_62)]), (up g [(11, y4_11)]), (up A [(17, y4_17), (18, y4_18), (19, y4_19), (20, y4_20), (21, y4_21), (47, y4_47), (48, y4_48), (49, y4_49), (50, y4_50), (51, y4_51), (52, y4_52), (53, y4_53), (54, y4_54)]), (up L [(16, y4_16), (55, y4_55)])) H locs) → lv_has ls 5 [(0, .ref h0), (1, .int (II a_had)), (2, .int (II v4_2)), (3, .int (II v4_3))] → ((-2147483648 : Int) ≤ v4_2 ∧ v4_2 ≤ 2147483647) → ((-2147483648 : Int) ≤ v4_3 ∧ v4_3 ≤ 2147483647) → ((0 ≤ (y4_8) ∧ (y4_8) ≤ (f 4) ∧ (y4_9) ≤ (f 4) + 1 ∧ ((y4_7) = 0 ↔ (y4_8) = (f 4)) ∧ (2 ≤ (y4_7) → (y4_8) < (y4_9) ∧ (y4_9) ≤ (f 4)) ∧ ((y4_7) = 5 → (y4_8) + 2 ≤ (y4_9) ∧ (y4_9) ≤ (y4_8) + 32))) → ((f 8) ≤ (y4_8)) → (0 ≤ (v4_2)) → ((a_had) + (v4_2) ≤ 8) → (0 ≤ (v4_3)) → ((v4_3) ≤ 1) → (((y4_5) = 0 → (f 5) = 0 ∧ (y4_62) ≤ (y4_22) ∧ ((v4_3) = 1 → 2 * (y4_22) ≤ (y4_8)) ∧ ((v4_3) = 0 → 1 ≤ (v4_2) ∧ (f 8) + 1 ≤ (y4_8)))) → (2 * (y4_22) ≤ (y4_8) + 1) → ((y4_62) = (f 62) + (v4_2)) → ((f 22) ≤ (y4_22)) → (AIp (y4_22) y4_18 y4_20 y4_21) → (APe (f 22) (A 20) (A 21) y4_20 y4_21) → (TXI y4_51 y4_52) → (0 ≤ 9 - (v4_2)) → (9 - (v4_2) < (N : Int)) → W p l e ({ frames := 6, cells := 0, slots := 0, locals := 130 }) s m args below meth c H locs 0 0 (MQ below (mQi D dA h0 ad (f, g, A, L) s.heap.size PST) args s 0 0 (mF dA h0 ad (f, g, A, L) s.heap.size)) (F0 m 4 ls []) := by
    intro N
    induction N with
    | zero => intro v4_2 v4_3 y4_8 y4_9 y4_7 y4_10 y4_5 y4_6 y4_22 y4_62 y4_11 y4_17 y4_18 y4_19 y4_20 y4_21 y4_47 y4_48 y4_49 y4_50 y4_51 y4_52 y4_53 y4_54 y4_16 y4_55 H locs ls hM hl hLL4_0 hLL4_1 hLL4_2 hLL4_3 hLL4_4 hLL4_5 hLL4_6 hLL4_7 hLL4_8 hLL4_9 hLL4_10 hLL4_11 hLL4_12 hLL4_13 hLL4_14 hLL4_15 hN; exfalso; omega
    | succ N IH4 =>
      intro v4_2 v4_3 y4_8 y4_9 y4_7 y4_10 y4_5 y4_6 y4_22 y4_62 y4_11 y4_17 y4_18 y4_19 y4_20 y4_21 y4_47 y4_48 y4_49 y4_50 y4_51 y4_52 y4_53 y4_54 y4_16 y4_55 H locs ls hM hl hLL4_0 hLL4_1 hLL4_2 hLL4_3 hLL4_4 hLL4_5 hLL4_6 hLL4_7 hLL4_8 hLL4_9 hLL4_10 hLL4_11 hLL4_12 hLL4_13 hLL4_14 hLL4_15 hN
      have r1 : (0 : Int) ≤ y4_8 ∧ y4_8 ≤ 3001 := hM.2.2.2.1 8
      have r2 : (0 : Int) ≤ y4_9 ∧ y4_9 ≤ 3002 := hM.2.2.2.1 9
      have r3 : (0 : Int) ≤ y4_7 ∧ y4_7 ≤ 6 := hM.2.2.2.1 7
      have r4 : (-2147483648 : Int) ≤ y4_10 ∧ y4_10 ≤ 2147483647 := hM.2.2.2.1 10
      have r5 : (-2147483648 : Int) ≤ y4_5 ∧ y4_5 ≤ 2147483647 := hM.2.2.2.1 5
      have r6 : (-2147483648 : Int) ≤ y4_6 ∧ y4_6 ≤ 2147483647 := hM.2.2.2.1 6
      have r7 : (0 : Int) ≤ y4_22 ∧ y4_22 ≤ 1600 := hM.2.2.2.1 22
      have r8 : (0 : Int) ≤ y4_62 ∧ y4_62 ≤ 1590 := hM.2.2.2.1 62
      refine lv_iload_n B.1 B.2.1 dX12_readUses_4 rfl (lv_at hl 3 rfl) ?_
      refine q_ieq (tgt := 78) B dX12_readUses_5 (by decide) (by unfold inr; omega) (fun c9 => ?_) (fun c9 => ?_)
      · refine lv_aload_n B.1 B.2.1 dX12_readUses_78 rfl (lv_at hl 0 rfl) ?_
        refine m_calli (n := 0) (rest := []) B hM hA hl.1 (k_isGood l D dA h0 ad (up f [(8, y4_8), (9, y4_9), (7, y4_7), (10, y4_10), (5, y4_5), (6, y4_6), (22, y4_22), (62, y4_62)]) (up g [(11, y4_11)]) (up A [(17, y4_17), (18, y4_18), (19, y4_19), (20, y4_20), (21, y4_21), (47, y4_47), (48, y4_48), (49, y4_49), (50, y4_50), (51, y4_51), (52, y4_52), (53, y4_53), (54, y4_54)]) (up L [(16, y4_16), (55, y4_55)])   ) rfl ok_isGood nm_isGood ⟨rfl, rfl⟩ ⟨Nat.le_of_ble_eq_true rfl, Nat.le_of_ble_eq_true rfl⟩ dX12_readUses_79 rfl rfl (Nat.le_of_ble_eq_true rfl) ⟨Nat.zero_le _, Nat.zero_le _⟩ (fun r10 σr10 H locs ir10 hp11 hM => ?_)
        obtain ⟨rfl, hp11⟩ := hp11
        unfold inr at ir10
        have hp11 : 0 ≤ r10 ∧ r10 ≤ 1 ∧ (r10 = 1 ↔ (y4_5) = 0) := hp11
        refine q_ieq (tgt := 91) B dX12_readUses_82 (by decide) (by unfold inr; omega) (fun c12 => ?_) (fun c12 => ?_)
        · refine lv_iload_n B.1 B.2.1 dX12_readUses_91 rfl (lv_at hl 2 rfl) ?_
          subst hPST
          exact m_iret B hM dX12_readUses_92 (by unfold inr; omega) ⟨y4_8, y4_9, y4_7, y4_10, y4_5, y4_6, y4_22, y4_62, y4_11, y4_17, y4_18, y4_19, y4_20, y4_21, y4_47, y4_48, y4_49, y4_50, y4_51, y4_52, y4_53, y4_54, y4_16, y4_55, rfl, by (exact ⟨by omega, by omega, by omega, by omega, by omega, by omega, by omega, by omega, by assumption, by assumption, by assumption⟩)⟩
        · refine lv_aload_n B.1 B.2.1 dX12_readUses_85 rfl (lv_at hl 0 rfl) ?_
          refine q_bip B dX12_readUses_86 (by decide) ?_
          refine m_callv (n := 1) (rest := []) B hM hA hl.1 (k_must l D dA h0 ad (up f [(8, y4_8), (9, y4_9), (7, y4_7), (10, y4_10), (5, y4_5), (6, y4_6), (22, y4_22), (62, y4_62)]) (up g [(11, y4_11)]) (up A [(17, y4_17), (18, y4_18), (19, y4_19), (20, y4_20), (21, y4_21), (47, y4_47), (48, y4_48), (49, y4_49), (50, y4_50), (51, y4_51), (52, y4_52), (53, y4_53), (54, y4_54)]) (up L [(16, y4_16), (55, y4_55)]) 59 (by omega) (by first | omega | (simp only [wr_at]; omega) | assumption)) rfl ok_must nm_must ⟨rfl, rfl⟩ ⟨Nat.le_of_ble_eq_true rfl, Nat.le_of_ble_eq_true rfl⟩ dX12_readUses_88 rfl rfl (Nat.le_of_ble_eq_true rfl) ⟨Nat.zero_le _, Nat.zero_le _⟩ (fun σr13 H locs hp14 hM => ?_)
          obtain ⟨x15, x16, x17, x18, x19, x20, w21, rfl, hp14⟩ := hp14
          have hp14 : ((0 ≤ (x15) ∧ (x15) ≤ (f 4) ∧ (x16) ≤ (f 4) + 1 ∧ ((x17) = 0 ↔ (x15) = (f 4)) ∧ (2 ≤ (x17) → (x15) < (x16) ∧ (x16) ≤ (f 4)) ∧ ((x17) = 5 → (x15) + 2 ≤ (x16) ∧ (x16) ≤ (x15) + 32))) ∧ (y4_8) ≤ (x15) ∧ ((x19) = 0 → (y4_5) = 0 ∧ (y4_8) + 1 ≤ (x15) ∧ (y4_9) ≤ (x15)) := hp14
          simp only [up_up] at hM
          have hM : MWd D dA h0 ad (mF dA h0 ad (f, g, A, L) s.heap.size) s.heap ((up f [(8, x15), (9, x16), (7, x17), (10, x18), (5, x19), (6, x20), (22, y4_22), (62, y4_62)]), (up g [(11, w21)]), (up A [(17, y4_17), (18, y4_18), (19, y4_19), (20, y4_20), (21, y4_21), (47, y4_47), (48, y4_48), (49, y4_49), (50, y4_50), (51, y4_51), (52, y4_52), (53, y4_53), (54, y4_54)]), (up L [(16, y4_16), (55, y4_55)])) H locs := hM
          have r22 : (0 : Int) ≤ x15 ∧ x15 ≤ 3001 := hM.2.2.2.1 8
          have r23 : (0 : Int) ≤ x16 ∧ x16 ≤ 3002 := hM.2.2.2.1 9
          have r24 : (0 : Int) ≤ x17 ∧ x17 ≤ 6 := hM.2.2.2.1 7
          have r25 : (-2147483648 : Int) ≤ x18 ∧ x18 ≤ 2147483647 := hM.2.2.2.1 10
          have r26 : (-2147483648 : Int) ≤ x19 ∧ x19 ≤ 2147483647 := hM.2.2.2.1 5
          have r27 : (-2147483648 : Int) ≤ x20 ∧ x20 ≤ 2147483647 := hM.2.2.2.1 6
          refine lv_iload_n B.1 B.2.1 dX12_readUses_91 rfl (lv_at hl 2 rfl) ?_
          subst hPST
          exact m_iret B hM dX12_readUses_92 (by unfold inr; omega) ⟨x15, x16, x17, x18, x19, x20, y4_22, y4_62, w21, y4_17, y4_18, y4_19, y4_20, y4_21, y4_47, y4_48, y4_49, y4_50, y4_51, y4_52, y4_53, y4_54, y4_16, y4_55, rfl, by (exact ⟨by omega, by omega, by omega, by omega, by omega, by omega, by omega, by omega, by assumption, by assumption, by assumption⟩)⟩
      · refine lv_aload_n B.1 B.2.1 dX12_readUses_8 rfl (lv_at hl 0 rfl) ?_
        refine m_calli (n := 0) (rest := []) B hM hA hl.1 (k_isGood l D dA h0 ad (up f [(8, y4_8), (9, y4_9), (7, y4_7), (10, y4_10), (5, y4_5), (6, y4_6), (22, y4_22), (62, y4_62)]) (up g [(11, y4_11)]) (up A [(17, y4_17), (18, y4_18), (19, y4_19), (20, y4_20), (21, y4_21), (47, y4_47), (48, y4_48), (49, y4_49), (50, y4_50), (51, y4_51), (52, y4_52), (53, y4_53), (54, y4_54)]) (up L [(16, y4_16), (55, y4_55)])   ) rfl ok_isGood nm_isGood ⟨rfl, rfl⟩ ⟨Nat.le_of_ble_eq_true rfl, Nat.le_of_ble_eq_true rfl⟩ dX12_readUses_9 rfl rfl (Nat.le_of_ble_eq_true rfl) ⟨Nat.zero_le _, Nat.zero_le _⟩ (fun r28 σr28 H locs ir28 hp29 hM => ?_)
        obtain ⟨rfl, hp29⟩ := hp29
        unfold inr at ir28
        have hp29 : 0 ≤ r28 ∧ r28 ≤ 1 ∧ (r28 = 1 ↔ (y4_5) = 0) := hp29
        refine q_ieq (tgt := 78) B dX12_readUses_12 (by decide) (by unfold inr; omega) (fun c30 => ?_) (fun c30 => ?_)
        · refine lv_aload_n B.1 B.2.1 dX12_readUses_78 rfl (lv_at hl 0 rfl) ?_
          refine m_calli (n := 0) (rest := []) B hM hA hl.1 (k_isGood l D dA h0 ad (up f [(8, y4_8), (9, y4_9), (7, y4_7), (10, y4_10), (5, y4_5), (6, y4_6), (22, y4_22), (62, y4_62)]) (up g [(11, y4_11)]) (up A [(17, y4_17), (18, y4_18), (19, y4_19), (20, y4_20), (21, y4_21), (47, y4_47), (48, y4_48), (49, y4_49), (50, y4_50), (51, y4_51), (52, y4_52), (53, y4_53), (54, y4_54)]) (up L [(16, y4_16), (55, y4_55)])   ) rfl ok_isGood nm_isGood ⟨rfl, rfl⟩ ⟨Nat.le_of_ble_eq_true rfl, Nat.le_of_ble_eq_true rfl⟩ dX12_readUses_79 rfl rfl (Nat.le_of_ble_eq_true rfl) ⟨Nat.zero_le _, Nat.zero_le _⟩ (fun r31 σr31 H locs ir31 hp32 hM => ?_)
          obtain ⟨rfl, hp32⟩ := hp32
          unfold inr at ir31
          have hp32 : 0 ≤ r31 ∧ r31 ≤ 1 ∧ (r31 = 1 ↔ (y4_5) = 0) := hp32
          refine q_ieq (tgt := 91) B dX12_readUses_82 (by decide) (by unfold inr; omega) (fun c33 => ?_) (fun c33 => ?_)
          · refine lv_iload_n B.1 B.2.1 dX12_readUses_91 rfl (lv_at hl 2 rfl) ?_
            subst hPST
            exact m_iret B hM dX12_readUses_92 (by unfold inr; omega) ⟨y4_8, y4_9, y4_7, y4_10, y4_5, y4_6, y4_22, y4_62, y4_11, y4_17, y4_18, y4_19, y4_20, y4_21, y4_47, y4_48, y4_49, y4_50, y4_51, y4_52, y4_53, y4_54, y4_16, y4_55, rfl, by (exact ⟨by omega, by omega, by omega, by omega, by omega, by omega, by omega, by omega, by assumption, by assumption, by assumption⟩)⟩
          · refine lv_aload_n B.1 B.2.1 dX12_readUses_85 rfl (lv_at hl 0 rfl) ?_
            refine q_bip B dX12_readUses_86 (by decide) ?_
            refine m_callv (n := 1) (rest := []) B hM hA hl.1 (k_must l D dA h0 ad (up f [(8, y4_8), (9, y4_9), (7, y4_7), (10, y4_10), (5, y4_5), (6, y4_6), (22, y4_22), (62, y4_62)]) (up g [(11, y4_11)]) (up A [(17, y4_17), (18, y4_18), (19, y4_19), (20, y4_20), (21, y4_21), (47, y4_47), (48, y4_48), (49, y4_49), (50, y4_50), (51, y4_51), (52, y4_52), (53, y4_53), (54, y4_54)]) (up L [(16, y4_16), (55, y4_55)]) 59 (by omega) (by first | omega | (simp only [wr_at]; omega) | assumption)) rfl ok_must nm_must ⟨rfl, rfl⟩ ⟨Nat.le_of_ble_eq_true rfl, Nat.le_of_ble_eq_true rfl⟩ dX12_readUses_88 rfl rfl (Nat.le_of_ble_eq_true rfl) ⟨Nat.zero_le _, Nat.zero_le _⟩ (fun σr34 H locs hp35 hM => ?_)
            obtain ⟨x36, x37, x38, x39, x40, x41, w42, rfl, hp35⟩ := hp35
            have hp35 : ((0 ≤ (x36) ∧ (x36) ≤ (f 4) ∧ (x37) ≤ (f 4) + 1 ∧ ((x38) = 0 ↔ (x36) = (f 4)) ∧ (2 ≤ (x38) → (x36) < (x37) ∧ (x37) ≤ (f 4)) ∧ ((x38) = 5 → (x36) + 2 ≤ (x37) ∧ (x37) ≤ (x36) + 32))) ∧ (y4_8) ≤ (x36) ∧ ((x40) = 0 → (y4_5) = 0 ∧ (y4_8) + 1 ≤ (x36) ∧ (y4_9) ≤ (x36)) := hp35
            simp only [up_up] at hM
            have hM : MWd D dA h0 ad (mF dA h0 ad (f, g, A, L) s.heap.size) s.heap ((up f [(8, x36), (9, x37), (7, x38), (10, x39), (5, x40), (6, x41), (22, y4_22), (62, y4_62)]), (up g [(11, w42)]), (up A [(17, y4_17), (18, y4_18), (19, y4_19), (20, y4_20), (21, y4_21), (47, y4_47), (48, y4_48), (49, y4_49), (50, y4_50), (51, y4_51), (52, y4_52), (53, y4_53), (54, y4_54)]), (up L [(16, y4_16), (55, y4_55)])) H locs := hM
            have r43 : (0 : Int) ≤ x36 ∧ x36 ≤ 3001 := hM.2.2.2.1 8
            have r44 : (0 : Int) ≤ x37 ∧ x37 ≤ 3002 := hM.2.2.2.1 9
            have r45 : (0 : Int) ≤ x38 ∧ x38 ≤ 6 := hM.2.2.2.1 7
            have r46 : (-2147483648 : Int) ≤ x39 ∧ x39 ≤ 2147483647 := hM.2.2.2.1 10
            have r47 : (-2147483648 : Int) ≤ x40 ∧ x40 ≤ 2147483647 := hM.2.2.2.1 5
            have r48 : (-2147483648 : Int) ≤ x41 ∧ x41 ≤ 2147483647 := hM.2.2.2.1 6
            refine lv_iload_n B.1 B.2.1 dX12_readUses_91 rfl (lv_at hl 2 rfl) ?_
            subst hPST
            exact m_iret B hM dX12_readUses_92 (by unfold inr; omega) ⟨x36, x37, x38, x39, x40, x41, y4_22, y4_62, w42, y4_17, y4_18, y4_19, y4_20, y4_21, y4_47, y4_48, y4_49, y4_50, y4_51, y4_52, y4_53, y4_54, y4_16, y4_55, rfl, by (exact ⟨by omega, by omega, by omega, by omega, by omega, by omega, by omega, by omega, by assumption, by assumption, by assumption⟩)⟩
        · refine lv_iload_n B.1 B.2.1 dX12_readUses_15 rfl (lv_at hl 1 rfl) ?_
          refine lv_iload_n B.1 B.2.1 dX12_readUses_16 rfl (lv_at hl 2 rfl) ?_
          refine q_add B dX12_readUses_17 ?_
          refine q_bip B dX12_readUses_18 (by decide) ?_
          refine q_cne (tgt := 27) B dX12_readUses_20 (by decide) (by unfold inr; omega) (by unfold inr; omega) (fun c49 => ?_) (fun c49 => ?_)
          · refine lv_aload_n B.1 B.2.1 dX12_readUses_27 rfl (lv_at hl 0 rfl) ?_
            refine m_calli (n := 0) (rest := []) B hM hA hl.1 (k_isGood l D dA h0 ad (up f [(8, y4_8), (9, y4_9), (7, y4_7), (10, y4_10), (5, y4_5), (6, y4_6), (22, y4_22), (62, y4_62)]) (up g [(11, y4_11)]) (up A [(17, y4_17), (18, y4_18), (19, y4_19), (20, y4_20), (21, y4_21), (47, y4_47), (48, y4_48), (49, y4_49), (50, y4_50), (51, y4_51), (52, y4_52), (53, y4_53), (54, y4_54)]) (up L [(16, y4_16), (55, y4_55)])   ) rfl ok_isGood nm_isGood ⟨rfl, rfl⟩ ⟨Nat.le_of_ble_eq_true rfl, Nat.le_of_ble_eq_true rfl⟩ dX12_readUses_28 rfl rfl (Nat.le_of_ble_eq_true rfl) ⟨Nat.zero_le _, Nat.zero_le _⟩ (fun r50 σr50 H locs ir50 hp51 hM => ?_)
            obtain ⟨rfl, hp51⟩ := hp51
            unfold inr at ir50
            have hp51 : 0 ≤ r50 ∧ r50 ≤ 1 ∧ (r50 = 1 ↔ (y4_5) = 0) := hp51
            refine q_ine (tgt := 36) B dX12_readUses_31 (by decide) (by unfold inr; omega) (fun c52 => ?_) (fun c52 => ?_)
            · refine lv_aload_n B.1 B.2.1 dX12_readUses_36 rfl (lv_at hl 0 rfl) ?_
              refine m_calli (n := 0) (rest := []) B hM hA hl.1 (k_readUse l D dA h0 ad (up f [(8, y4_8), (9, y4_9), (7, y4_7), (10, y4_10), (5, y4_5), (6, y4_6), (22, y4_22), (62, y4_62)]) (up g [(11, y4_11)]) (up A [(17, y4_17), (18, y4_18), (19, y4_19), (20, y4_20), (21, y4_21), (47, y4_47), (48, y4_48), (49, y4_49), (50, y4_50), (51, y4_51), (52, y4_52), (53, y4_53), (54, y4_54)]) (up L [(16, y4_16), (55, y4_55)])   (by first | omega | (simp only [wr_at]; omega) | assumption) (by first | omega | (simp only [wr_at]; omega) | assumption) (by first | omega | (simp only [wr_at]; omega) | assumption) (by first | omega | (simp only [wr_at]; omega) | assumption) (by first | omega | (simp only [wr_at]; omega) | assumption) (by first | omega | (simp only [wr_at]; omega) | assumption)) rfl ok_readUse nm_readUse ⟨rfl, rfl⟩ ⟨Nat.le_of_ble_eq_true rfl, Nat.le_of_ble_eq_true rfl⟩ dX12_readUses_37 rfl rfl (Nat.le_of_ble_eq_true rfl) ⟨Nat.zero_le _, Nat.zero_le _⟩ (fun r53 σr53 H locs ir53 hp54 hM => ?_)
              obtain ⟨x55, x56, x57, x58, x59, x60, x61, x62, w63, b64, b65, b66, b67, b68, b69, b70, b71, b72, b73, b74, b75, b76, b77, b78, rfl, hp54⟩ := hp54
              unfold inr at ir53
              have hp54 : r53 = 1600 * (f 3) + (y4_62) ∧ ((0 ≤ (x55) ∧ (x55) ≤ (f 4) ∧ (x56) ≤ (f 4) + 1 ∧ ((x57) = 0 ↔ (x55) = (f 4)) ∧ (2 ≤ (x57) → (x55) < (x56) ∧ (x56) ≤ (f 4)) ∧ ((x57) = 5 → (x55) + 2 ≤ (x56) ∧ (x56) ≤ (x55) + 32))) ∧ (y4_8) ≤ (x55) ∧ ((x59) = 0 → (y4_5) = 0 ∧ (y4_8) + 1 ≤ (x55) ∧ (x62) ≤ (x61)) ∧ 2 * (x61) ≤ (x55) + 1 ∧ (x62) = (y4_62) + 1 ∧ (y4_22) ≤ (x61) ∧ AIp (x61) b65 b67 b68 ∧ APe (y4_22) y4_20 y4_21 b67 b68 ∧ TXI b73 b74 := hp54
              simp only [up_up] at hM
              have hM : MWd D dA h0 ad (mF dA h0 ad (f, g, A, L) s.heap.size) s.heap ((up f [(8, x55), (9, x56), (7, x57), (10, x58), (5, x59), (6, x60), (22, x61), (62, x62)]), (up g [(11, w63)]), (up A [(17, b64), (18, b65), (19, b66), (20, b67), (21, b68), (47, b69), (48, b70), (49, b71), (50, b72), (51, b73), (52, b74), (53, b75), (54, b76)]), (up L [(16, b77), (55, b78)])) H locs := hM
              have r79 : (0 : Int) ≤ x55 ∧ x55 ≤ 3001 := hM.2.2.2.1 8
              have r80 : (0 : Int) ≤ x56 ∧ x56 ≤ 3002 := hM.2.2.2.1 9
              have r81 : (0 : Int) ≤ x57 ∧ x57 ≤ 6 := hM.2.2.2.1 7
              have r82 : (-2147483648 : Int) ≤ x58 ∧ x58 ≤ 2147483647 := hM.2.2.2.1 10
              have r83 : (-2147483648 : Int) ≤ x59 ∧ x59 ≤ 2147483647 := hM.2.2.2.1 5
              have r84 : (-2147483648 : Int) ≤ x60 ∧ x60 ≤ 2147483647 := hM.2.2.2.1 6
              have r85 : (0 : Int) ≤ x61 ∧ x61 ≤ 1600 := hM.2.2.2.1 22
              have r86 : (0 : Int) ≤ x62 ∧ x62 ≤ 1590 := hM.2.2.2.1 62
              refine lv_istore (lv' := [(4, .int (II r53)), (0, .ref h0), (1, .int (II a_had)), (2, .int (II v4_2)), (3, .int (II v4_3))]) B.1 B.2.1 dX12_readUses_40 hl (by decide) rfl (fun ls hl => ?_)
              refine q_inc (k := 3) (x := v4_2) (lv' := [(2, .int (II (v4_2 + 1))), (4, .int (II r53)), (0, .ref h0), (1, .int (II a_had)), (3, .int (II v4_3))]) B dX12_readUses_42 hl rfl (by decide) rfl (fun ls hl => ?_)
              refine lv_aload_n B.1 B.2.1 dX12_readUses_45 rfl (lv_at hl 2 rfl) ?_
              refine m_calli (n := 0) (rest := []) B hM hA hl.1 (k_isGood l D dA h0 ad (up f [(8, x55), (9, x56), (7, x57), (10, x58), (5, x59), (6, x60), (22, x61), (62, x62)]) (up g [(11, w63)]) (up A [(17, b64), (18, b65), (19, b66), (20, b67), (21, b68), (47, b69), (48, b70), (49, b71), (50, b72), (51, b73), (52, b74), (53, b75), (54, b76)]) (up L [(16, b77), (55, b78)])   ) rfl ok_isGood nm_isGood ⟨rfl, rfl⟩ ⟨Nat.le_of_ble_eq_true rfl, Nat.le_of_ble_eq_true rfl⟩ dX12_readUses_46 rfl rfl (Nat.le_of_ble_eq_true rfl) ⟨Nat.zero_le _, Nat.zero_le _⟩ (fun r87 σr87 H locs ir87 hp88 hM => ?_)
              obtain ⟨rfl, hp88⟩ := hp88
              unfold inr at ir87
              have hp88 : 0 ≤ r87 ∧ r87 ≤ 1 ∧ (r87 = 1 ↔ (x59) = 0) := hp88
              refine q_ieq (tgt := 65) B dX12_readUses_49 (by decide) (by unfold inr; omega) (fun c89 => ?_) (fun c89 => ?_)
              · refine q_con B dX12_readUses_65 ?_
                refine lv_istore_n (lv' := [(3, .int (II 0)), (2, .int (II (v4_2 + 1))), (4, .int (II r53)), (0, .ref h0), (1, .int (II a_had))]) B.1 B.2.1 dX12_readUses_66 rfl hl (by decide) rfl (fun ls hl => ?_)
                refine lv_iload_n B.1 B.2.1 dX12_readUses_67 rfl (lv_at hl 0 rfl) ?_
                refine q_ieq (tgt := 75) B dX12_readUses_68 (by decide) (by unfold inr; omega) (fun _ => ?_) (fun c90 => absurd c90 (by omega))
                refine lv_goto (tgt := 4) B.1 B.2.1 dX12_readUses_75 (by decide) ?_
                exact IH4 (v4_2 + 1) 0 x55 x56 x57 x58 x59 x60 x61 x62 w63 b64 b65 b66 b67 b68 b69 b70 b71 b72 b73 b74 b75 b76 b77 b78 _ _ ls hM (lv_sub hl [3, 4, 1, 0] rfl) (by omega) (by omega) (by first | omega | (simp only [wr_at]; omega) | assumption) (by first | omega | (simp only [wr_at]; omega) | assumption) (by first | omega | (simp only [wr_at]; omega) | assumption) (by first | omega | (simp only [wr_at]; omega) | assumption) (by first | omega | (simp only [wr_at]; omega) | assumption) (by first | omega | (simp only [wr_at]; omega) | assumption) (by first | omega | (simp only [wr_at]; omega) | assumption) (by first | omega | (simp only [wr_at]; omega) | assumption) (by first | omega | (simp only [wr_at]; omega) | assumption) (by first | omega | (simp only [wr_at]; omega) | assumption) (by first | omega | (simp only [wr_at]; omega) | assumption) (by first | assumption | exact APe_rfl | exact APe_trans (by assumption) (by assumption) (by omega)) (by first | omega | (simp only [wr_at]; omega) | assumption) (by first | omega | (simp only [wr_at]; omega) | assumption) (by first | omega | (simp only [wr_at]; omega) | assumption)
              · refine lv_aload_n B.1 B.2.1 dX12_readUses_52 rfl (lv_at hl 2 rfl) ?_
                refine q_bip B dX12_readUses_53 (by decide) ?_
                refine m_calli (n := 1) (rest := []) B hM hA hl.1 (k_isSign l D dA h0 ad (up f [(8, x55), (9, x56), (7, x57), (10, x58), (5, x59), (6, x60), (22, x61), (62, x62)]) (up g [(11, w63)]) (up A [(17, b64), (18, b65), (19, b66), (20, b67), (21, b68), (47, b69), (48, b70), (49, b71), (50, b72), (51, b73), (52, b74), (53, b75), (54, b76)]) (up L [(16, b77), (55, b78)]) 44 (by omega) (by first | omega | (simp only [wr_at]; omega) | assumption)) rfl ok_isSign nm_isSign ⟨rfl, rfl⟩ ⟨Nat.le_of_ble_eq_true rfl, Nat.le_of_ble_eq_true rfl⟩ dX12_readUses_55 rfl rfl (Nat.le_of_ble_eq_true rfl) ⟨Nat.zero_le _, Nat.zero_le _⟩ (fun r91 σr91 H locs ir91 hp92 hM => ?_)
                obtain ⟨rfl, hp92⟩ := hp92
                unfold inr at ir91
                have hp92 : 0 ≤ r91 ∧ r91 ≤ 1 ∧ (r91 = 1 ↔ (x57) = 6 ∧ sgn ((A 2)) (f 3) (f 4) (x55) = (44)) := hp92
                refine q_ieq (tgt := 65) B dX12_readUses_58 (by decide) (by unfold inr; omega) (fun c93 => ?_) (fun c93 => ?_)
                · refine q_con B dX12_readUses_65 ?_
                  refine lv_istore_n (lv' := [(3, .int (II 0)), (2, .int (II (v4_2 + 1))), (4, .int (II r53)), (0, .ref h0), (1, .int (II a_had))]) B.1 B.2.1 dX12_readUses_66 rfl hl (by decide) rfl (fun ls hl => ?_)
                  refine lv_iload_n B.1 B.2.1 dX12_readUses_67 rfl (lv_at hl 0 rfl) ?_
                  refine q_ieq (tgt := 75) B dX12_readUses_68 (by decide) (by unfold inr; omega) (fun _ => ?_) (fun c94 => absurd c94 (by omega))
                  refine lv_goto (tgt := 4) B.1 B.2.1 dX12_readUses_75 (by decide) ?_
                  exact IH4 (v4_2 + 1) 0 x55 x56 x57 x58 x59 x60 x61 x62 w63 b64 b65 b66 b67 b68 b69 b70 b71 b72 b73 b74 b75 b76 b77 b78 _ _ ls hM (lv_sub hl [3, 4, 1, 0] rfl) (by omega) (by omega) (by first | omega | (simp only [wr_at]; omega) | assumption) (by first | omega | (simp only [wr_at]; omega) | assumption) (by first | omega | (simp only [wr_at]; omega) | assumption) (by first | omega | (simp only [wr_at]; omega) | assumption) (by first | omega | (simp only [wr_at]; omega) | assumption) (by first | omega | (simp only [wr_at]; omega) | assumption) (by first | omega | (simp only [wr_at]; omega) | assumption) (by first | omega | (simp only [wr_at]; omega) | assumption) (by first | omega | (simp only [wr_at]; omega) | assumption) (by first | omega | (simp only [wr_at]; omega) | assumption) (by first | omega | (simp only [wr_at]; omega) | assumption) (by first | assumption | exact APe_rfl | exact APe_trans (by assumption) (by assumption) (by omega)) (by first | omega | (simp only [wr_at]; omega) | assumption) (by first | omega | (simp only [wr_at]; omega) | assumption) (by first | omega | (simp only [wr_at]; omega) | assumption)
                · refine q_con B dX12_readUses_61 ?_
                  refine lv_goto (tgt := 66) B.1 B.2.1 dX12_readUses_62 (by decide) ?_
                  refine lv_istore_n (lv' := [(3, .int (II 1)), (2, .int (II (v4_2 + 1))), (4, .int (II r53)), (0, .ref h0), (1, .int (II a_had))]) B.1 B.2.1 dX12_readUses_66 rfl hl (by decide) rfl (fun ls hl => ?_)
                  refine lv_iload_n B.1 B.2.1 dX12_readUses_67 rfl (lv_at hl 0 rfl) ?_
                  refine q_ieq (tgt := 75) B dX12_readUses_68 (by decide) (by unfold inr; omega) (fun c95 => absurd c95 (by omega)) (fun _ => ?_)
                  refine lv_aload_n B.1 B.2.1 dX12_readUses_71 rfl (lv_at hl 3 rfl) ?_
                  refine m_callv (n := 0) (rest := []) B hM hA hl.1 (k_next l D dA h0 ad (up f [(8, x55), (9, x56), (7, x57), (10, x58), (5, x59), (6, x60), (22, x61), (62, x62)]) (up g [(11, w63)]) (up A [(17, b64), (18, b65), (19, b66), (20, b67), (21, b68), (47, b69), (48, b70), (49, b71), (50, b72), (51, b73), (52, b74), (53, b75), (54, b76)]) (up L [(16, b77), (55, b78)])   (by first | omega | (simp only [wr_at]; omega) | assumption)) rfl ok_next nm_next ⟨rfl, rfl⟩ ⟨Nat.le_of_ble_eq_true rfl, Nat.le_of_ble_eq_true rfl⟩ dX12_readUses_72 rfl rfl (Nat.le_of_ble_eq_true rfl) ⟨Nat.zero_le _, Nat.zero_le _⟩ (fun σr96 H locs hp97 hM => ?_)
                  obtain ⟨x98, x99, x100, x101, w102, rfl, hp97⟩ := hp97
                  have hp97 : ((f 9) ≤ (x98) ∨ (x98) = (f 4)) ∧ (0 ≤ (x98) ∧ (x98) ≤ (f 4) ∧ (x99) ≤ (f 4) + 1 ∧ ((x100) = 0 ↔ (x98) = (f 4)) ∧ (2 ≤ (x100) → (x98) < (x99) ∧ (x99) ≤ (f 4)) ∧ ((x100) = 5 → (x98) + 2 ≤ (x99) ∧ (x99) ≤ (x98) + 32)) := hp97
                  simp only [up_up] at hM
                  have hM : MWd D dA h0 ad (mF dA h0 ad (f, g, A, L) s.heap.size) s.heap ((up f [(8, x98), (9, x99), (7, x100), (10, x101), (5, x59), (6, x60), (22, x61), (62, x62)]), (up g [(11, w102)]), (up A [(17, b64), (18, b65), (19, b66), (20, b67), (21, b68), (47, b69), (48, b70), (49, b71), (50, b72), (51, b73), (52, b74), (53, b75), (54, b76)]), (up L [(16, b77), (55, b78)])) H locs := hM
                  have r103 : (0 : Int) ≤ x98 ∧ x98 ≤ 3001 := hM.2.2.2.1 8
                  have r104 : (0 : Int) ≤ x99 ∧ x99 ≤ 3002 := hM.2.2.2.1 9
                  have r105 : (0 : Int) ≤ x100 ∧ x100 ≤ 6 := hM.2.2.2.1 7
                  have r106 : (-2147483648 : Int) ≤ x101 ∧ x101 ≤ 2147483647 := hM.2.2.2.1 10
                  refine lv_goto (tgt := 4) B.1 B.2.1 dX12_readUses_75 (by decide) ?_
                  exact IH4 (v4_2 + 1) 1 x98 x99 x100 x101 x59 x60 x61 x62 w102 b64 b65 b66 b67 b68 b69 b70 b71 b72 b73 b74 b75 b76 b77 b78 _ _ ls hM (lv_sub hl [3, 4, 1, 0] rfl) (by omega) (by omega) (by first | omega | (simp only [wr_at]; omega) | assumption) (by first | omega | (simp only [wr_at]; omega) | assumption) (by first | omega | (simp only [wr_at]; omega) | assumption) (by first | omega | (simp only [wr_at]; omega) | assumption) (by first | omega | (simp only [wr_at]; omega) | assumption) (by first | omega | (simp only [wr_at]; omega) | assumption) (by first | omega | (simp only [wr_at]; omega) | assumption) (by first | omega | (simp only [wr_at]; omega) | assumption) (by first | omega | (simp only [wr_at]; omega) | assumption) (by first | omega | (simp only [wr_at]; omega) | assumption) (by first | omega | (simp only [wr_at]; omega) | assumption) (by first | assumption | exact APe_rfl | exact APe_trans (by assumption) (by assumption) (by omega)) (by first | omega | (simp only [wr_at]; omega) | assumption) (by first | omega | (simp only [wr_at]; omega) | assumption) (by first | omega | (simp only [wr_at]; omega) | assumption)
            · refine lv_iload_n B.1 B.2.1 dX12_readUses_34 rfl (lv_at hl 2 rfl) ?_
              subst hPST
              exact m_iret B hM dX12_readUses_35 (by unfold inr; omega) ⟨y4_8, y4_9, y4_7, y4_10, y4_5, y4_6, y4_22, y4_62, y4_11, y4_17, y4_18, y4_19, y4_20, y4_21, y4_47, y4_48, y4_49, y4_50, y4_51, y4_52, y4_53, y4_54, y4_16, y4_55, rfl, by (exact ⟨by omega, by omega, by omega, by omega, by omega, by omega, by omega, by omega, by assumption, by assumption, by assumption⟩)⟩
          · refine lv_aload_n B.1 B.2.1 dX12_readUses_23 rfl (lv_at hl 0 rfl) ?_
            refine m_callv (n := 0) (rest := []) B hM hA hl.1 (k_wrong2 l D dA h0 ad (up f [(8, y4_8), (9, y4_9), (7, y4_7), (10, y4_10), (5, y4_5), (6, y4_6), (22, y4_22), (62, y4_62)]) (up g [(11, y4_11)]) (up A [(17, y4_17), (18, y4_18), (19, y4_19), (20, y4_20), (21, y4_21), (47, y4_47), (48, y4_48), (49, y4_49), (50, y4_50), (51, y4_51), (52, y4_52), (53, y4_53), (54, y4_54)]) (up L [(16, y4_16), (55, y4_55)])   ) rfl ok_wrong2 nm_wrong2 ⟨rfl, rfl⟩ ⟨Nat.le_of_ble_eq_true rfl, Nat.le_of_ble_eq_true rfl⟩ dX12_readUses_24 rfl rfl (Nat.le_of_ble_eq_true rfl) ⟨Nat.zero_le _, Nat.zero_le _⟩ (fun σr107 H locs hp108 hM => ?_)
            obtain ⟨x109, x110, rfl, hp108⟩ := hp108
            have hp108 : (x109) ≠ 0 := hp108
            simp only [up_up] at hM
            have hM : MWd D dA h0 ad (mF dA h0 ad (f, g, A, L) s.heap.size) s.heap ((up f [(8, y4_8), (9, y4_9), (7, y4_7), (10, y4_10), (5, x109), (6, x110), (22, y4_22), (62, y4_62)]), (up g [(11, y4_11)]), (up A [(17, y4_17), (18, y4_18), (19, y4_19), (20, y4_20), (21, y4_21), (47, y4_47), (48, y4_48), (49, y4_49), (50, y4_50), (51, y4_51), (52, y4_52), (53, y4_53), (54, y4_54)]), (up L [(16, y4_16), (55, y4_55)])) H locs := hM
            have r111 : (-2147483648 : Int) ≤ x109 ∧ x109 ≤ 2147483647 := hM.2.2.2.1 5
            have r112 : (-2147483648 : Int) ≤ x110 ∧ x110 ≤ 2147483647 := hM.2.2.2.1 6
            refine lv_aload_n B.1 B.2.1 dX12_readUses_27 rfl (lv_at hl 0 rfl) ?_
            refine m_calli (n := 0) (rest := []) B hM hA hl.1 (k_isGood l D dA h0 ad (up f [(8, y4_8), (9, y4_9), (7, y4_7), (10, y4_10), (5, x109), (6, x110), (22, y4_22), (62, y4_62)]) (up g [(11, y4_11)]) (up A [(17, y4_17), (18, y4_18), (19, y4_19), (20, y4_20), (21, y4_21), (47, y4_47), (48, y4_48), (49, y4_49), (50, y4_50), (51, y4_51), (52, y4_52), (53, y4_53), (54, y4_54)]) (up L [(16, y4_16), (55, y4_55)])   ) rfl ok_isGood nm_isGood ⟨rfl, rfl⟩ ⟨Nat.le_of_ble_eq_true rfl, Nat.le_of_ble_eq_true rfl⟩ dX12_readUses_28 rfl rfl (Nat.le_of_ble_eq_true rfl) ⟨Nat.zero_le _, Nat.zero_le _⟩ (fun r113 σr113 H locs ir113 hp114 hM => ?_)
            obtain ⟨rfl, hp114⟩ := hp114
            unfold inr at ir113
            have hp114 : 0 ≤ r113 ∧ r113 ≤ 1 ∧ (r113 = 1 ↔ (x109) = 0) := hp114
            refine q_ine (tgt := 36) B dX12_readUses_31 (by decide) (by unfold inr; omega) (fun c115 => ?_) (fun c115 => ?_)
            · refine lv_aload_n B.1 B.2.1 dX12_readUses_36 rfl (lv_at hl 0 rfl) ?_
              refine m_calli (n := 0) (rest := []) B hM hA hl.1 (k_readUse l D dA h0 ad (up f [(8, y4_8), (9, y4_9), (7, y4_7), (10, y4_10), (5, x109), (6, x110), (22, y4_22), (62, y4_62)]) (up g [(11, y4_11)]) (up A [(17, y4_17), (18, y4_18), (19, y4_19), (20, y4_20), (21, y4_21), (47, y4_47), (48, y4_48), (49, y4_49), (50, y4_50), (51, y4_51), (52, y4_52), (53, y4_53), (54, y4_54)]) (up L [(16, y4_16), (55, y4_55)])   (by first | omega | (simp only [wr_at]; omega) | assumption) (by first | omega | (simp only [wr_at]; omega) | assumption) (by first | omega | (simp only [wr_at]; omega) | assumption) (by first | omega | (simp only [wr_at]; omega) | assumption) (by first | omega | (simp only [wr_at]; omega) | assumption) (by first | omega | (simp only [wr_at]; omega) | assumption)) rfl ok_readUse nm_readUse ⟨rfl, rfl⟩ ⟨Nat.le_of_ble_eq_true rfl, Nat.le_of_ble_eq_true rfl⟩ dX12_readUses_37 rfl rfl (Nat.le_of_ble_eq_true rfl) ⟨Nat.zero_le _, Nat.zero_le _⟩ (fun r116 σr116 H locs ir116 hp117 hM => ?_)
              obtain ⟨x118, x119, x120, x121, x122, x123, x124, x125, w126, b127, b128, b129, b130, b131, b132, b133, b134, b135, b136, b137, b138, b139, b140, b141, rfl, hp117⟩ := hp117
              unfold inr at ir116
              have hp117 : r116 = 1600 * (f 3) + (y4_62) ∧ ((0 ≤ (x118) ∧ (x118) ≤ (f 4) ∧ (x119) ≤ (f 4) + 1 ∧ ((x120) = 0 ↔ (x118) = (f 4)) ∧ (2 ≤ (x120) → (x118) < (x119) ∧ (x119) ≤ (f 4)) ∧ ((x120) = 5 → (x118) + 2 ≤ (x119) ∧ (x119) ≤ (x118) + 32))) ∧ (y4_8) ≤ (x118) ∧ ((x122) = 0 → (x109) = 0 ∧ (y4_8) + 1 ≤ (x118) ∧ (x125) ≤ (x124)) ∧ 2 * (x124) ≤ (x118) + 1 ∧ (x125) = (y4_62) + 1 ∧ (y4_22) ≤ (x124) ∧ AIp (x124) b128 b130 b131 ∧ APe (y4_22) y4_20 y4_21 b130 b131 ∧ TXI b136 b137 := hp117
              simp only [up_up] at hM
              have hM : MWd D dA h0 ad (mF dA h0 ad (f, g, A, L) s.heap.size) s.heap ((up f [(8, x118), (9, x119), (7, x120), (10, x121), (5, x122), (6, x123), (22, x124), (62, x125)]), (up g [(11, w126)]), (up A [(17, b127), (18, b128), (19, b129), (20, b130), (21, b131), (47, b132), (48, b133), (49, b134), (50, b135), (51, b136), (52, b137), (53, b138), (54, b139)]), (up L [(16, b140), (55, b141)])) H locs := hM
              have r142 : (0 : Int) ≤ x118 ∧ x118 ≤ 3001 := hM.2.2.2.1 8
              have r143 : (0 : Int) ≤ x119 ∧ x119 ≤ 3002 := hM.2.2.2.1 9
              have r144 : (0 : Int) ≤ x120 ∧ x120 ≤ 6 := hM.2.2.2.1 7
              have r145 : (-2147483648 : Int) ≤ x121 ∧ x121 ≤ 2147483647 := hM.2.2.2.1 10
              have r146 : (-2147483648 : Int) ≤ x122 ∧ x122 ≤ 2147483647 := hM.2.2.2.1 5
              have r147 : (-2147483648 : Int) ≤ x123 ∧ x123 ≤ 2147483647 := hM.2.2.2.1 6
              have r148 : (0 : Int) ≤ x124 ∧ x124 ≤ 1600 := hM.2.2.2.1 22
              have r149 : (0 : Int) ≤ x125 ∧ x125 ≤ 1590 := hM.2.2.2.1 62
              refine lv_istore (lv' := [(4, .int (II r116)), (0, .ref h0), (1, .int (II a_had)), (2, .int (II v4_2)), (3, .int (II v4_3))]) B.1 B.2.1 dX12_readUses_40 hl (by decide) rfl (fun ls hl => ?_)
              refine q_inc (k := 3) (x := v4_2) (lv' := [(2, .int (II (v4_2 + 1))), (4, .int (II r116)), (0, .ref h0), (1, .int (II a_had)), (3, .int (II v4_3))]) B dX12_readUses_42 hl rfl (by decide) rfl (fun ls hl => ?_)
              refine lv_aload_n B.1 B.2.1 dX12_readUses_45 rfl (lv_at hl 2 rfl) ?_
              refine m_calli (n := 0) (rest := []) B hM hA hl.1 (k_isGood l D dA h0 ad (up f [(8, x118), (9, x119), (7, x120), (10, x121), (5, x122), (6, x123), (22, x124), (62, x125)]) (up g [(11, w126)]) (up A [(17, b127), (18, b128), (19, b129), (20, b130), (21, b131), (47, b132), (48, b133), (49, b134), (50, b135), (51, b136), (52, b137), (53, b138), (54, b139)]) (up L [(16, b140), (55, b141)])   ) rfl ok_isGood nm_isGood ⟨rfl, rfl⟩ ⟨Nat.le_of_ble_eq_true rfl, Nat.le_of_ble_eq_true rfl⟩ dX12_readUses_46 rfl rfl (Nat.le_of_ble_eq_true rfl) ⟨Nat.zero_le _, Nat.zero_le _⟩ (fun r150 σr150 H locs ir150 hp151 hM => ?_)
              obtain ⟨rfl, hp151⟩ := hp151
              unfold inr at ir150
              have hp151 : 0 ≤ r150 ∧ r150 ≤ 1 ∧ (r150 = 1 ↔ (x122) = 0) := hp151
              refine q_ieq (tgt := 65) B dX12_readUses_49 (by decide) (by unfold inr; omega) (fun c152 => ?_) (fun c152 => ?_)
              · refine q_con B dX12_readUses_65 ?_
                refine lv_istore_n (lv' := [(3, .int (II 0)), (2, .int (II (v4_2 + 1))), (4, .int (II r116)), (0, .ref h0), (1, .int (II a_had))]) B.1 B.2.1 dX12_readUses_66 rfl hl (by decide) rfl (fun ls hl => ?_)
                refine lv_iload_n B.1 B.2.1 dX12_readUses_67 rfl (lv_at hl 0 rfl) ?_
                refine q_ieq (tgt := 75) B dX12_readUses_68 (by decide) (by unfold inr; omega) (fun _ => ?_) (fun c153 => absurd c153 (by omega))
                refine lv_goto (tgt := 4) B.1 B.2.1 dX12_readUses_75 (by decide) ?_
                exact IH4 (v4_2 + 1) 0 x118 x119 x120 x121 x122 x123 x124 x125 w126 b127 b128 b129 b130 b131 b132 b133 b134 b135 b136 b137 b138 b139 b140 b141 _ _ ls hM (lv_sub hl [3, 4, 1, 0] rfl) (by omega) (by omega) (by first | omega | (simp only [wr_at]; omega) | assumption) (by first | omega | (simp only [wr_at]; omega) | assumption) (by first | omega | (simp only [wr_at]; omega) | assumption) (by first | omega | (simp only [wr_at]; omega) | assumption) (by first | omega | (simp only [wr_at]; omega) | assumption) (by first | omega | (simp only [wr_at]; omega) | assumption) (by first | omega | (simp only [wr_at]; omega) | assumption) (by first | omega | (simp only [wr_at]; omega) | assumption) (by first | omega | (simp only [wr_at]; omega) | assumption) (by first | omega | (simp only [wr_at]; omega) | assumption) (by first | omega | (simp only [wr_at]; omega) | assumption) (by first | assumption | exact APe_rfl | exact APe_trans (by assumption) (by assumption) (by omega)) (by first | omega | (simp only [wr_at]; omega) | assumption) (by first | omega | (simp only [wr_at]; omega) | assumption) (by first | omega | (simp only [wr_at]; omega) | assumption)
              · refine lv_aload_n B.1 B.2.1 dX12_readUses_52 rfl (lv_at hl 2 rfl) ?_
                refine q_bip B dX12_readUses_53 (by decide) ?_
                refine m_calli (n := 1) (rest := []) B hM hA hl.1 (k_isSign l D dA h0 ad (up f [(8, x118), (9, x119), (7, x120), (10, x121), (5, x122), (6, x123), (22, x124), (62, x125)]) (up g [(11, w126)]) (up A [(17, b127), (18, b128), (19, b129), (20, b130), (21, b131), (47, b132), (48, b133), (49, b134), (50, b135), (51, b136), (52, b137), (53, b138), (54, b139)]) (up L [(16, b140), (55, b141)]) 44 (by omega) (by first | omega | (simp only [wr_at]; omega) | assumption)) rfl ok_isSign nm_isSign ⟨rfl, rfl⟩ ⟨Nat.le_of_ble_eq_true rfl, Nat.le_of_ble_eq_true rfl⟩ dX12_readUses_55 rfl rfl (Nat.le_of_ble_eq_true rfl) ⟨Nat.zero_le _, Nat.zero_le _⟩ (fun r154 σr154 H locs ir154 hp155 hM => ?_)
                obtain ⟨rfl, hp155⟩ := hp155
                unfold inr at ir154
                have hp155 : 0 ≤ r154 ∧ r154 ≤ 1 ∧ (r154 = 1 ↔ (x120) = 6 ∧ sgn ((A 2)) (f 3) (f 4) (x118) = (44)) := hp155
                refine q_ieq (tgt := 65) B dX12_readUses_58 (by decide) (by unfold inr; omega) (fun c156 => ?_) (fun c156 => ?_)
                · refine q_con B dX12_readUses_65 ?_
                  refine lv_istore_n (lv' := [(3, .int (II 0)), (2, .int (II (v4_2 + 1))), (4, .int (II r116)), (0, .ref h0), (1, .int (II a_had))]) B.1 B.2.1 dX12_readUses_66 rfl hl (by decide) rfl (fun ls hl => ?_)
                  refine lv_iload_n B.1 B.2.1 dX12_readUses_67 rfl (lv_at hl 0 rfl) ?_
                  refine q_ieq (tgt := 75) B dX12_readUses_68 (by decide) (by unfold inr; omega) (fun _ => ?_) (fun c157 => absurd c157 (by omega))
                  refine lv_goto (tgt := 4) B.1 B.2.1 dX12_readUses_75 (by decide) ?_
                  exact IH4 (v4_2 + 1) 0 x118 x119 x120 x121 x122 x123 x124 x125 w126 b127 b128 b129 b130 b131 b132 b133 b134 b135 b136 b137 b138 b139 b140 b141 _ _ ls hM (lv_sub hl [3, 4, 1, 0] rfl) (by omega) (by omega) (by first | omega | (simp only [wr_at]; omega) | assumption) (by first | omega | (simp only [wr_at]; omega) | assumption) (by first | omega | (simp only [wr_at]; omega) | assumption) (by first | omega | (simp only [wr_at]; omega) | assumption) (by first | omega | (simp only [wr_at]; omega) | assumption) (by first | omega | (simp only [wr_at]; omega) | assumption) (by first | omega | (simp only [wr_at]; omega) | assumption) (by first | omega | (simp only [wr_at]; omega) | assumption) (by first | omega | (simp only [wr_at]; omega) | assumption) (by first | omega | (simp only [wr_at]; omega) | assumption) (by first | omega | (simp only [wr_at]; omega) | assumption) (by first | assumption | exact APe_rfl | exact APe_trans (by assumption) (by assumption) (by omega)) (by first | omega | (simp only [wr_at]; omega) | assumption) (by first | omega | (simp only [wr_at]; omega) | assumption) (by first | omega | (simp only [wr_at]; omega) | assumption)
                · refine q_con B dX12_readUses_61 ?_
                  refine lv_goto (tgt := 66) B.1 B.2.1 dX12_readUses_62 (by decide) ?_
                  refine lv_istore_n (lv' := [(3, .int (II 1)), (2, .int (II (v4_2 + 1))), (4, .int (II r116)), (0, .ref h0), (1, .int (II a_had))]) B.1 B.2.1 dX12_readUses_66 rfl hl (by decide) rfl (fun ls hl => ?_)
                  refine lv_iload_n B.1 B.2.1 dX12_readUses_67 rfl (lv_at hl 0 rfl) ?_
                  refine q_ieq (tgt := 75) B dX12_readUses_68 (by decide) (by unfold inr; omega) (fun c158 => absurd c158 (by omega)) (fun _ => ?_)
                  refine lv_aload_n B.1 B.2.1 dX12_readUses_71 rfl (lv_at hl 3 rfl) ?_
                  refine m_callv (n := 0) (rest := []) B hM hA hl.1 (k_next l D dA h0 ad (up f [(8, x118), (9, x119), (7, x120), (10, x121), (5, x122), (6, x123), (22, x124), (62, x125)]) (up g [(11, w126)]) (up A [(17, b127), (18, b128), (19, b129), (20, b130), (21, b131), (47, b132), (48, b133), (49, b134), (50, b135), (51, b136), (52, b137), (53, b138), (54, b139)]) (up L [(16, b140), (55, b141)])   (by first | omega | (simp only [wr_at]; omega) | assumption)) rfl ok_next nm_next ⟨rfl, rfl⟩ ⟨Nat.le_of_ble_eq_true rfl, Nat.le_of_ble_eq_true rfl⟩ dX12_readUses_72 rfl rfl (Nat.le_of_ble_eq_true rfl) ⟨Nat.zero_le _, Nat.zero_le _⟩ (fun σr159 H locs hp160 hM => ?_)
                  obtain ⟨x161, x162, x163, x164, w165, rfl, hp160⟩ := hp160
                  have hp160 : ((f 9) ≤ (x161) ∨ (x161) = (f 4)) ∧ (0 ≤ (x161) ∧ (x161) ≤ (f 4) ∧ (x162) ≤ (f 4) + 1 ∧ ((x163) = 0 ↔ (x161) = (f 4)) ∧ (2 ≤ (x163) → (x161) < (x162) ∧ (x162) ≤ (f 4)) ∧ ((x163) = 5 → (x161) + 2 ≤ (x162) ∧ (x162) ≤ (x161) + 32)) := hp160
                  simp only [up_up] at hM
                  have hM : MWd D dA h0 ad (mF dA h0 ad (f, g, A, L) s.heap.size) s.heap ((up f [(8, x161), (9, x162), (7, x163), (10, x164), (5, x122), (6, x123), (22, x124), (62, x125)]), (up g [(11, w165)]), (up A [(17, b127), (18, b128), (19, b129), (20, b130), (21, b131), (47, b132), (48, b133), (49, b134), (50, b135), (51, b136), (52, b137), (53, b138), (54, b139)]), (up L [(16, b140), (55, b141)])) H locs := hM
                  have r166 : (0 : Int) ≤ x161 ∧ x161 ≤ 3001 := hM.2.2.2.1 8
                  have r167 : (0 : Int) ≤ x162 ∧ x162 ≤ 3002 := hM.2.2.2.1 9
                  have r168 : (0 : Int) ≤ x163 ∧ x163 ≤ 6 := hM.2.2.2.1 7
                  have r169 : (-2147483648 : Int) ≤ x164 ∧ x164 ≤ 2147483647 := hM.2.2.2.1 10
                  refine lv_goto (tgt := 4) B.1 B.2.1 dX12_readUses_75 (by decide) ?_
                  exact IH4 (v4_2 + 1) 1 x161 x162 x163 x164 x122 x123 x124 x125 w165 b127 b128 b129 b130 b131 b132 b133 b134 b135 b136 b137 b138 b139 b140 b141 _ _ ls hM (lv_sub hl [3, 4, 1, 0] rfl) (by omega) (by omega) (by first | omega | (simp only [wr_at]; omega) | assumption) (by first | omega | (simp only [wr_at]; omega) | assumption) (by first | omega | (simp only [wr_at]; omega) | assumption) (by first | omega | (simp only [wr_at]; omega) | assumption) (by first | omega | (simp only [wr_at]; omega) | assumption) (by first | omega | (simp only [wr_at]; omega) | assumption) (by first | omega | (simp only [wr_at]; omega) | assumption) (by first | omega | (simp only [wr_at]; omega) | assumption) (by first | omega | (simp only [wr_at]; omega) | assumption) (by first | omega | (simp only [wr_at]; omega) | assumption) (by first | omega | (simp only [wr_at]; omega) | assumption) (by first | assumption | exact APe_rfl | exact APe_trans (by assumption) (by assumption) (by omega)) (by first | omega | (simp only [wr_at]; omega) | assumption) (by first | omega | (simp only [wr_at]; omega) | assumption) (by first | omega | (simp only [wr_at]; omega) | assumption)
            · refine lv_iload_n B.1 B.2.1 dX12_readUses_34 rfl (lv_at hl 2 rfl) ?_
              subst hPST
              exact m_iret B hM dX12_readUses_35 (by unfold inr; omega) ⟨y4_8, y4_9, y4_7, y4_10, x109, x110, y4_22, y4_62, y4_11, y4_17, y4_18, y4_19, y4_20, y4_21, y4_47, y4_48, y4_49, y4_50, y4_51, y4_52, y4_53, y4_54, y4_16, y4_55, rfl, by (exact ⟨by omega, by omega, by omega, by omega, by omega, by omega, by omega, by omega, by assumption, by assumption, by assumption⟩)⟩
  refine q_con B dX12_readUses_0 ?_
  refine lv_istore_n (lv' := [(2, .int (II 0)), (0, .ref h0), (1, .int (II a_had))]) B.1 B.2.1 dX12_readUses_1 rfl hl (by decide) rfl (fun ls hl => ?_)
  refine q_con B dX12_readUses_2 ?_
  refine lv_istore_n (lv' := [(3, .int (II 1)), (2, .int (II 0)), (0, .ref h0), (1, .int (II a_had))]) B.1 B.2.1 dX12_readUses_3 rfl hl (by decide) rfl (fun ls hl => ?_)
  exact LL4 (9 - (0) + 1).toNat 0 1 (f 8) (f 9) (f 7) (f 10) (f 5) (f 6) (f 22) (f 62) (g 11) ((A 17)) ((A 18)) ((A 19)) ((A 20)) ((A 21)) ((A 47)) ((A 48)) ((A 49)) ((A 50)) ((A 51)) ((A 52)) ((A 53)) ((A 54)) ((L 16)) ((L 55)) _ _ ls hM (lv_sub hl [2, 3, 1, 0] rfl) (by omega) (by omega) (by first | omega | (simp only [wr_at]; omega) | assumption) (by first | omega | (simp only [wr_at]; omega) | assumption) (by first | omega | (simp only [wr_at]; omega) | assumption) (by first | omega | (simp only [wr_at]; omega) | assumption) (by first | omega | (simp only [wr_at]; omega) | assumption) (by first | omega | (simp only [wr_at]; omega) | assumption) (by first | omega | (simp only [wr_at]; omega) | assumption) (by first | omega | (simp only [wr_at]; omega) | assumption) (by first | omega | (simp only [wr_at]; omega) | assumption) (by first | omega | (simp only [wr_at]; omega) | assumption) (by first | omega | (simp only [wr_at]; omega) | assumption) (by first | assumption | exact APe_rfl | exact APe_trans (by assumption) (by assumption) (by omega)) (by first | omega | (simp only [wr_at]; omega) | assumption) (by first | omega | (simp only [wr_at]; omega) | assumption) (by first | omega | (simp only [wr_at]; omega) | assumption)
set_option maxHeartbeats 4000000 in
set_option maxRecDepth 20000 in
theorem k_memberOf (l : Launch) (D : va_G) (dA : Nat → ClassId) (h0 : Nat) (ad : Nat → Nat) (f : Nat → Int) (g : Nat → Int64) (A : Nat → Nat → Int) (L : Nat → Nat → Int64) (a_k : Int) (a_v : Int64) (i_k : (-2147483648 : Int) ≤ a_k ∧ a_k ≤ 2147483647) (p_0 : 0 ≤ (a_k)) (p_1 : (a_k) < 32) : MCi l yX12_memberOf cX12_memberOf 5 (some .int) ({ frames := 0, cells := 0, slots := 0, locals := 0 }) D dA h0 ad (f, g, A, L) [.int (II a_k), .long a_v] (fun r σ => σ = (f, g, A, L) ∧ (-1 ≤ r ∧ r < (A 37) ((a_k)).toNat)) := by
  generalize hPST : (fun r σ => σ = (f, g, A, L) ∧ (-1 ≤ r ∧ r < (A 37) ((a_k)).toNat)) = PST
  refine m_enter (by decide) rfl (Nat.le_of_ble_eq_true rfl) (fun p e s m args below meth c ls B hM hl => ?_)
  have hA : ∀ q, s.heap.size ≤ q → mF dA h0 ad (f, g, A, L) s.heap.size q := fun q h => Or.inr h
  have hl : lv_has ls 5 [(0, .ref h0), (1, .int (II a_k)), (2, .long a_v)] := hl
  have LL3 : ∀ N : Nat, ∀ (v3_4 : Int) (H : Heap) (locs : List Loc) (ls : Array Slot), (MWd D dA h0 ad (mF dA h0 ad (f, g, A, L) s.heap.size) s.heap (f, g, A, L) H locs) → lv_has ls 5 [(0, .ref h0), (1, .int (II a_k)), (2, .long a_v), (4, .int (II v3_4))] → ((-2147483648 : Int) ≤ v3_4 ∧ v3_4 ≤ 2147483647) → (0 ≤ (v3_4)) → ((v3_4) ≤ (A 37) ((a_k)).toNat) → (0 ≤ (A 37) ((a_k)).toNat) → ((A 37) ((a_k)).toNat ≤ 12) → (0 ≤ (A 37) ((a_k)).toNat - (v3_4)) → ((A 37) ((a_k)).toNat - (v3_4) < (N : Int)) → W p l e ({ frames := 0, cells := 0, slots := 0, locals := 0 }) s m args below meth c H locs 0 0 (MQ below (mQi D dA h0 ad (f, g, A, L) s.heap.size PST) args s 0 0 (mF dA h0 ad (f, g, A, L) s.heap.size)) (F0 m 3 ls []) := by
    intro N
    induction N with
    | zero => intro v3_4 H locs ls hM hl hLL3_0 hLL3_1 hLL3_2 hLL3_3 hLL3_4 hLL3_5 hN; exfalso; omega
    | succ N IH3 =>
      intro v3_4 H locs ls hM hl hLL3_0 hLL3_1 hLL3_2 hLL3_3 hLL3_4 hLL3_5 hN
      refine lv_iload B.1 B.2.1 dX12_memberOf_3 (lv_at hl 3 rfl) ?_
      refine lv_aload_n B.1 B.2.1 dX12_memberOf_5 rfl (lv_at hl 0 rfl) ?_
      refine m_geta (k := 37) B hM (by decide) rfl fl205 dX12_memberOf_6 ?_
      refine lv_iload_n B.1 B.2.1 dX12_memberOf_9 rfl (lv_at hl 1 rfl) ?_
      refine m_ild (k := 37) (i := 25) (n := 32) (z := a_k) (v := (A 37) a_k.toNat) B hM rfl rfl rfl (by decide) dX12_memberOf_10 (by omega) (by omega) rfl ?_
      have r1 : (0 : Int) ≤ (A 37) a_k.toNat ∧ (A 37) a_k.toNat ≤ 12 := hM.2.2.2.2 37 a_k.toNat
      refine q_cge (tgt := 45) B dX12_memberOf_11 (by decide) (by unfold inr; omega) (by unfold inr; omega) (fun c2 => ?_) (fun c2 => ?_)
      · refine q_con B dX12_memberOf_45 ?_
        subst hPST
        exact m_iret B hM dX12_memberOf_46 (by unfold inr; omega) ⟨rfl, by omega⟩
      · refine lv_aload_n B.1 B.2.1 dX12_memberOf_14 rfl (lv_at hl 0 rfl) ?_
        refine m_geta (k := 41) B hM (by decide) rfl fl217 dX12_memberOf_15 ?_
        refine lv_aload_n B.1 B.2.1 dX12_memberOf_18 rfl (lv_at hl 0 rfl) ?_
        refine m_geta (k := 38) B hM (by decide) rfl fl208 dX12_memberOf_19 ?_
        refine q_bip B dX12_memberOf_22 (by decide) ?_
        refine lv_iload_n B.1 B.2.1 dX12_memberOf_24 rfl (lv_at hl 1 rfl) ?_
        refine q_mul B dX12_memberOf_25 ?_
        refine lv_iload B.1 B.2.1 dX12_memberOf_26 (lv_at hl 3 rfl) ?_
        refine q_add B dX12_memberOf_28 ?_
        refine m_ild (k := 38) (i := 26) (n := 384) (z := (12 * a_k) + v3_4) (v := (A 38) ((12 * a_k) + v3_4).toNat) B hM rfl rfl rfl (by decide) dX12_memberOf_29 (by omega) (by omega) rfl ?_
        have r3 : (0 : Int) ≤ (A 38) ((12 * a_k) + v3_4).toNat ∧ (A 38) ((12 * a_k) + v3_4).toNat ≤ 399 := hM.2.2.2.2 38 ((12 * a_k) + v3_4).toNat
        refine m_lld (k := 41) (i := 29) (n := 400) (z := (A 38) ((12 * a_k) + v3_4).toNat) (v := (L 41) ((A 38) ((12 * a_k) + v3_4).toNat).toNat) B hM rfl rfl rfl (by decide) dX12_memberOf_30 (by omega) (by omega) rfl ?_
        refine lv_lload_n B.1 B.2.1 dX12_memberOf_31 rfl (lv_at hl 2 rfl) ?_
        refine q_lcmp B dX12_memberOf_32 (fun x4 lx4 ux4 ex4 => ?_)
        refine q_ine (tgt := 39) B dX12_memberOf_33 (by decide) (by unfold inr; omega) (fun c5 => ?_) (fun c5 => ?_)
        · refine q_inc (k := 3) (x := v3_4) (lv' := [(4, .int (II (v3_4 + 1))), (0, .ref h0), (1, .int (II a_k)), (2, .long a_v)]) B dX12_memberOf_39 hl rfl (by decide) rfl (fun ls hl => ?_)
          refine lv_goto (tgt := 3) B.1 B.2.1 dX12_memberOf_42 (by decide) ?_
          exact IH3 (v3_4 + 1) _ _ ls hM (lv_sub hl [1, 2, 3, 0] rfl) (by omega) (by first | omega | (simp only [wr_at]; omega) | assumption) (by first | omega | (simp only [wr_at]; omega) | assumption) (by first | omega | (simp only [wr_at]; omega) | assumption) (by first | omega | (simp only [wr_at]; omega) | assumption) (by first | omega | (simp only [wr_at]; omega) | assumption) (by first | omega | (simp only [wr_at]; omega) | assumption)
        · refine lv_iload B.1 B.2.1 dX12_memberOf_36 (lv_at hl 3 rfl) ?_
          subst hPST
          exact m_iret B hM dX12_memberOf_38 (by unfold inr; omega) ⟨rfl, by omega⟩
  refine q_con B dX12_memberOf_0 ?_
  refine lv_istore (lv' := [(4, .int (II 0)), (0, .ref h0), (1, .int (II a_k)), (2, .long a_v)]) B.1 B.2.1 dX12_memberOf_1 hl (by decide) rfl (fun ls hl => ?_)
  exact LL3 ((A 37) ((a_k)).toNat - (0) + 1).toNat 0 _ _ ls hM (lv_sub hl [1, 2, 3, 0] rfl) (by omega) (by first | omega | (simp only [wr_at]; omega) | assumption) (by first | omega | (simp only [wr_at]; omega) | assumption) (by first | omega | (simp only [wr_at]; omega) | assumption) (by first | omega | (simp only [wr_at]; omega) | assumption) (by first | omega | (simp only [wr_at]; omega) | assumption) (by first | omega | (simp only [wr_at]; omega) | assumption)
