/-- the strings of uses lie within the texts -/
def TXI (x z : Nat → Int) : Prop := ∀ j : Nat, z j ≤ 0 ∨ x j + z j ≤ 6000
theorem TXI_neg {x z : Nat → Int} {u v : Int} (h : TXI x z) (hv : v ≤ 0) : TXI x (wr z u v) := by
  intro j
  by_cases e : j = u.toNat
  · subst e; rw [wr_at]; exact Or.inl hv
  · rw [wr_ne e]; exact h j
theorem TXI_put {x z : Nat → Int} {u v w : Int} (h : TXI x z) (_ : z u.toNat ≤ 0) (hv : v + w ≤ 6000) : TXI (wr x u v) (wr z u w) := by
  intro j
  by_cases e : j = u.toNat
  · subst e; rw [wr_at, wr_at]; exact Or.inr hv
  · rw [wr_ne e, wr_ne e]; exact h j
/-- every use of this half has asked for what it names -/
def UTI (b us n : Int) (r a : Nat → Int) : Prop := ∀ u : Int, 1600 * b ≤ u → u < 1600 * b + us → ∃ j : Nat, (j : Int) < n ∧ r j = 5 ∧ a j = u
theorem UTI_step {b us n n' : Int} {r a r' a' : Nat → Int} (h : UTI b us n r a) (hp : APe n r a r' a') (hn : n ≤ n') : UTI b us n' r' a' := by
  intro u u0 u1
  obtain ⟨j, j0, j1, j2⟩ := h u u0 u1
  obtain ⟨e1, e2⟩ := hp j j0
  exact ⟨j, by omega, by rw [e1]; exact j1, by rw [e2]; exact j2⟩
theorem UTI_ask {b us n n' : Int} {r a r' a' : Nat → Int} (h : UTI b us n r a) (hp : APe n r a r' a') (h0 : 0 ≤ n) (hn : n' = n + 1) (h1 : r' n.toNat = 5) (h2 : a' n.toNat = 1600 * b + us) : UTI b (us + 1) n' r' a' := by
  subst hn
  intro u u0 u1
  by_cases e : u = 1600 * b + us
  · subst e; exact ⟨n.toNat, by omega, h1, h2⟩
  · obtain ⟨j, j0, j1, j2⟩ := h u u0 (by omega)
    obtain ⟨e1, e2⟩ := hp j j0
    exact ⟨j, by omega, by rw [e1]; exact j1, by rw [e2]; exact j2⟩
set_option maxHeartbeats 4000000 in
set_option maxRecDepth 20000 in
theorem k_readArgs (l : Launch) (D : va_G) (dA : Nat → ClassId) (h0 : Nat) (ad : Nat → Nat) (f : Nat → Int) (g : Nat → Int64) (A : Nat → Nat → Int) (L : Nat → Nat → Int64) (a_u : Int) (i_u : (-2147483648 : Int) ≤ a_u ∧ a_u ≤ 2147483647) (p_0 : (0 ≤ (f 8) ∧ (f 8) ≤ (f 4) ∧ (f 8) ≤ (f 9) ∧ (f 9) ≤ (f 4) + 1 ∧ ((f 7) = 0 ↔ (f 8) = (f 4)) ∧ (2 ≤ (f 7) → (f 8) < (f 9) ∧ (f 9) ≤ (f 4)) ∧ ((f 7) = 5 → (f 8) + 2 ≤ (f 9) ∧ (f 9) ≤ (f 8) + 32))) (p_1 : (f 7) = 6) (p_2 : 0 ≤ (a_u)) (p_3 : (a_u) ≤ 3199) : MCv l yX12_readArgs cX12_readArgs 4 ({ frames := 4, cells := 0, slots := 0, locals := 86 }) D dA h0 ad (f, g, A, L) [.int (II a_u)] (fun (σ : MS) => ∃ n8 : Int, ∃ n9 : Int, ∃ n7 : Int, ∃ n10 : Int, ∃ n5 : Int, ∃ n6 : Int, ∃ n11 : Int64, ∃ b47 : Nat → Int, ∃ b54 : Nat → Int, ∃ b55 : Nat → Int64, σ = ((up f [(8, n8), (9, n9), (7, n7), (10, n10), (5, n5), (6, n6)]), (up g [(11, n11)]), (up A [(47, b47), (54, b54)]), (up L [(55, b55)])) ∧ (((0 ≤ (n8) ∧ (n8) ≤ (f 4) ∧ (n8) ≤ (n9) ∧ (n9) ≤ (f 4) + 1 ∧ ((n7) = 0 ↔ (n8) = (f 4)) ∧ (2 ≤ (n7) → (n8) < (n9) ∧ (n9) ≤ (f 4)) ∧ ((n7) = 5 → (n8) + 2 ≤ (n9) ∧ (n9) ≤ (n8) + 32))) ∧ (f 8) ≤ (n8) ∧ ((n5) = 0 → (f 5) = 0 ∧ (f 8) + 1 ≤ (n8)))) := by
  generalize hPST : (fun (σ : MS) => ∃ n8 : Int, ∃ n9 : Int, ∃ n7 : Int, ∃ n10 : Int, ∃ n5 : Int, ∃ n6 : Int, ∃ n11 : Int64, ∃ b47 : Nat → Int, ∃ b54 : Nat → Int, ∃ b55 : Nat → Int64, σ = ((up f [(8, n8), (9, n9), (7, n7), (10, n10), (5, n5), (6, n6)]), (up g [(11, n11)]), (up A [(47, b47), (54, b54)]), (up L [(55, b55)])) ∧ (((0 ≤ (n8) ∧ (n8) ≤ (f 4) ∧ (n8) ≤ (n9) ∧ (n9) ≤ (f 4) + 1 ∧ ((n7) = 0 ↔ (n8) = (f 4)) ∧ (2 ≤ (n7) → (n8) < (n9) ∧ (n9) ≤ (f 4)) ∧ ((n7) = 5 → (n8) + 2 ≤ (n9) ∧ (n9) ≤ (n8) + 32))) ∧ (f 8) ≤ (n8) ∧ ((n5) = 0 → (f 5) = 0 ∧ (f 8) + 1 ≤ (n8)))) = PST
  refine m_enterv (by decide) rfl (Nat.le_of_ble_eq_true rfl) (fun p e s m args below meth c ls B hM hl => ?_)
  have hA : ∀ q, s.heap.size ≤ q → mF dA h0 ad (f, g, A, L) s.heap.size q := fun q h => Or.inr h
  have hM : MWd D dA h0 ad (mF dA h0 ad (f, g, A, L) s.heap.size) s.heap ((up f [(8, f 8), (9, f 9), (7, f 7), (10, f 10), (5, f 5), (6, f 6)]), (up g [(11, g 11)]), (up A [(47, (A 47)), (54, (A 54))]), (up L [(55, (L 55))])) s.heap [] := MW_pad hM (up_self f [8, 9, 7, 10, 5, 6]) (up_self g [11]) (up_self A [47, 54]) (up_self L [55])
  have hl : lv_has ls 4 [(0, .ref h0), (1, .int (II a_u))] := hl
  have r1 : (0 : Int) ≤ f 4 ∧ f 4 ≤ 3000 := hM.2.2.2.1 4
  have r2 : (0 : Int) ≤ f 7 ∧ f 7 ≤ 6 := hM.2.2.2.1 7
  have r3 : (0 : Int) ≤ f 8 ∧ f 8 ≤ 3001 := hM.2.2.2.1 8
  have r4 : (0 : Int) ≤ f 9 ∧ f 9 ≤ 3002 := hM.2.2.2.1 9
  have LL2 : ∀ N : Nat, ∀ (v2_2 : Int) (y2_8 : Int) (y2_9 : Int) (y2_7 : Int) (y2_10 : Int) (y2_5 : Int) (y2_6 : Int) (y2_11 : Int64) (y2_47 : Nat → Int) (y2_54 : Nat → Int) (y2_55 : Nat → Int64) (H : Heap) (locs : List Loc) (ls : Array Slot), (MWd D dA h0 ad (mF dA h0 ad (f, g, A, L) s.heap.size) s.heap ((up f [(8, y2_8), (9, y2_9), (7, y2_7), (10, y2_10), (5, y2_5), (6, y2_6)]), (up g [(11, y2_11)]), (up A [(47, y2_47), (54, y2_54)]), (up L [(55, y2_55)])) H locs) → lv_has ls 4 [(0, .ref h0), (1, .int (II a_u)), (2, .int (II v2_2))] → ((-2147483648 : Int) ≤ v2_2 ∧ v2_2 ≤ 2147483647) → ((0 ≤ (y2_8) ∧ (y2_8) ≤ (f 4) ∧ (y2_8) ≤ (y2_9) ∧ (y2_9) ≤ (f 4) + 1 ∧ ((y2_7) = 0 ↔ (y2_8) = (f 4)) ∧ (2 ≤ (y2_7) → (y2_8) < (y2_9) ∧ (y2_9) ≤ (f 4)) ∧ ((y2_7) = 5 → (y2_8) + 2 ≤ (y2_9) ∧ (y2_9) ≤ (y2_8) + 32))) → ((f 8) ≤ (y2_8)) → (0 ≤ (v2_2)) → ((v2_2) ≤ 1) → (((v2_2) = 1 → (y2_7) = 6)) → (((y2_5) = 0 → (f 5) = 0)) → (0 ≤ (f 4) - (y2_8)) → ((f 4) - (y2_8) < (N : Int)) → W p l e ({ frames := 4, cells := 0, slots := 0, locals := 86 }) s m args below meth c H locs 0 0 (MQ below (mQv D dA h0 ad (f, g, A, L) s.heap.size PST) args s 0 0 (mF dA h0 ad (f, g, A, L) s.heap.size)) (F0 m 2 ls []) := by
    intro N
    induction N with
    | zero => intro v2_2 y2_8 y2_9 y2_7 y2_10 y2_5 y2_6 y2_11 y2_47 y2_54 y2_55 H locs ls hM hl hLL2_0 hLL2_1 hLL2_2 hLL2_3 hLL2_4 hLL2_5 hLL2_6 hLL2_7 hN; exfalso; omega
    | succ N IH2 =>
      intro v2_2 y2_8 y2_9 y2_7 y2_10 y2_5 y2_6 y2_11 y2_47 y2_54 y2_55 H locs ls hM hl hLL2_0 hLL2_1 hLL2_2 hLL2_3 hLL2_4 hLL2_5 hLL2_6 hLL2_7 hN
      have JJ109 : ∀ (v109_3 : Int) (v109_2 : Int) (s109_0 : Int64) (s109_1 : Int) (y109_8 : Int) (y109_9 : Int) (y109_7 : Int) (y109_10 : Int) (y109_5 : Int) (y109_6 : Int) (y109_11 : Int64) (y109_47 : Nat → Int) (y109_54 : Nat → Int) (y109_55 : Nat → Int64) (H : Heap) (locs : List Loc) (ls : Array Slot), (MWd D dA h0 ad (mF dA h0 ad (f, g, A, L) s.heap.size) s.heap ((up f [(8, y109_8), (9, y109_9), (7, y109_7), (10, y109_10), (5, y109_5), (6, y109_6)]), (up g [(11, y109_11)]), (up A [(47, y109_47), (54, y109_54)]), (up L [(55, y109_55)])) H locs) → lv_has ls 4 [(0, .ref h0), (1, .int (II a_u)), (3, .int (II v109_3)), (2, .int (II v109_2))] → ((-2147483648 : Int) ≤ v109_3 ∧ v109_3 ≤ 2147483647) → ((-2147483648 : Int) ≤ v109_2 ∧ v109_2 ≤ 2147483647) → ((-2147483648 : Int) ≤ s109_1 ∧ s109_1 ≤ 2147483647) → ((0 ≤ (y109_8) ∧ (y109_8) ≤ (f 4) ∧ (y109_8) ≤ (y109_9) ∧ (y109_9) ≤ (f 4) + 1 ∧ ((y109_7) = 0 ↔ (y109_8) = (f 4)) ∧ (2 ≤ (y109_7) → (y109_8) < (y109_9) ∧ (y109_9) ≤ (f 4)) ∧ ((y109_7) = 5 → (y109_8) + 2 ≤ (y109_9) ∧ (y109_9) ≤ (y109_8) + 32))) → ((f 8) ≤ (y109_8)) → ((y2_8) + 1 ≤ (y109_8)) → (0 ≤ (s109_1)) → ((s109_1) ≤ 12799) → (y109_47 ((a_u)).toNat ≤ 3) → (((y109_5) = 0 → (f 5) = 0)) → (2 ≤ (y109_7)) → W p l e ({ frames := 4, cells := 0, slots := 0, locals := 86 }) s m args below meth c H locs 0 0 (MQ below (mQv D dA h0 ad (f, g, A, L) s.heap.size PST) args s 0 0 (mF dA h0 ad (f, g, A, L) s.heap.size)) (F0 m 109 ls [.long s109_0, .int (II s109_1), .ref (ad 55)]) := by
        intro v109_3 v109_2 s109_0 s109_1 y109_8 y109_9 y109_7 y109_10 y109_5 y109_6 y109_11 y109_47 y109_54 y109_55 H locs ls hM hl hJJ109_0 hJJ109_1 hJJ109_2 hJJ109_3 hJJ109_4 hJJ109_5 hJJ109_6 hJJ109_7 hJJ109_8 hJJ109_9 hJJ109_10
        have r5 : (0 : Int) ≤ y109_8 ∧ y109_8 ≤ 3001 := hM.2.2.2.1 8
        have r6 : (0 : Int) ≤ y109_9 ∧ y109_9 ≤ 3002 := hM.2.2.2.1 9
        have r7 : (0 : Int) ≤ y109_7 ∧ y109_7 ≤ 6 := hM.2.2.2.1 7
        have r8 : (-2147483648 : Int) ≤ y109_10 ∧ y109_10 ≤ 2147483647 := hM.2.2.2.1 10
        have r9 : (-2147483648 : Int) ≤ y109_5 ∧ y109_5 ≤ 2147483647 := hM.2.2.2.1 5
        have r10 : (-2147483648 : Int) ≤ y109_6 ∧ y109_6 ≤ 2147483647 := hM.2.2.2.1 6
        refine m_lst (k := 55) (i := 43) (n := 12800) B hM rfl rfl rfl (by decide) dX12_readArgs_109 (by omega) (by omega) (u1_up L [(55, y109_55)] 55 (wr y109_55 s109_1 s109_0)) (fun H locs hM => ?_)
        replace hM : MWd D dA h0 ad (mF dA h0 ad (f, g, A, L) s.heap.size) s.heap ((up f [(8, y109_8), (9, y109_9), (7, y109_7), (10, y109_10), (5, y109_5), (6, y109_6)]), (up g [(11, y109_11)]), (up A [(47, y109_47), (54, y109_54)]), (up L [(55, (wr y109_55 s109_1 s109_0))])) H locs := hM
        refine lv_aload_n B.1 B.2.1 dX12_readArgs_110 rfl (lv_at hl 0 rfl) ?_
        refine m_geta (k := 47) B hM (by decide) rfl fl235 dX12_readArgs_111 ?_
        refine lv_iload_n B.1 B.2.1 dX12_readArgs_114 rfl (lv_at hl 1 rfl) ?_
        refine lv_dup2_11 B.1 B.2.1 dX12_readArgs_115 rfl rfl ?_
        refine m_ild (k := 47) (i := 35) (n := 3200) (z := a_u) (v := y109_47 a_u.toNat) B hM rfl rfl rfl (by decide) dX12_readArgs_116 (by omega) (by omega) rfl ?_
        have r11 : (0 : Int) ≤ y109_47 a_u.toNat ∧ y109_47 a_u.toNat ≤ 4 := hM.2.2.2.2 47 a_u.toNat
        refine q_con B dX12_readArgs_117 ?_
        refine q_add B dX12_readArgs_118 ?_
        refine m_ist (k := 47) (i := 35) (n := 3200) B hM rfl rfl rfl (by decide) dX12_readArgs_119 (by omega) (by omega) (show (0 : Int) ≤ (y109_47 a_u.toNat) + 1 from by first | omega | (simp only [wr_at]; omega)) (show (y109_47 a_u.toNat) + 1 ≤ (4 : Int) from by first | omega | (simp only [wr_at]; omega)) (u1_up A [(47, y109_47), (54, y109_54)] 47 (wr y109_47 a_u ((y109_47 a_u.toNat) + 1))) (fun H locs hM => ?_)
        replace hM : MWd D dA h0 ad (mF dA h0 ad (f, g, A, L) s.heap.size) s.heap ((up f [(8, y109_8), (9, y109_9), (7, y109_7), (10, y109_10), (5, y109_5), (6, y109_6)]), (up g [(11, y109_11)]), (up A [(47, (wr y109_47 a_u ((y109_47 a_u.toNat) + 1))), (54, y109_54)]), (up L [(55, (wr y109_55 s109_1 s109_0))])) H locs := hM
        refine lv_aload_n B.1 B.2.1 dX12_readArgs_120 rfl (lv_at hl 0 rfl) ?_
        refine m_callv (n := 0) (rest := []) B hM hA hl.1 (k_next l D dA h0 ad (up f [(8, y109_8), (9, y109_9), (7, y109_7), (10, y109_10), (5, y109_5), (6, y109_6)]) (up g [(11, y109_11)]) (up A [(47, (wr y109_47 a_u ((y109_47 a_u.toNat) + 1))), (54, y109_54)]) (up L [(55, (wr y109_55 s109_1 s109_0))])   (show (y109_9) ≤ 3001 from by first | omega | (simp only [wr_at]; omega) | assumption)) rfl ok_next nm_next ⟨rfl, rfl⟩ ⟨Nat.le_of_ble_eq_true rfl, Nat.le_of_ble_eq_true rfl⟩ dX12_readArgs_121 rfl rfl (Nat.le_of_ble_eq_true rfl) ⟨Nat.zero_le _, Nat.zero_le _⟩ (fun σr12 H locs hp13 hM => ?_)
        obtain ⟨x14, x15, x16, x17, w18, rfl, hp13⟩ := hp13
        replace hp13 : ((y109_9) ≤ (x14) ∨ (x14) = (f 4)) ∧ (0 ≤ (x14) ∧ (x14) ≤ (f 4) ∧ (x14) ≤ (x15) ∧ (x15) ≤ (f 4) + 1 ∧ ((x16) = 0 ↔ (x14) = (f 4)) ∧ (2 ≤ (x16) → (x14) < (x15) ∧ (x15) ≤ (f 4)) ∧ ((x16) = 5 → (x14) + 2 ≤ (x15) ∧ (x15) ≤ (x14) + 32)) := hp13
        obtain ⟨hp13_0, hp13_1⟩ := hp13
        simp only [up_up] at hM
        replace hM : MWd D dA h0 ad (mF dA h0 ad (f, g, A, L) s.heap.size) s.heap ((up f [(8, x14), (9, x15), (7, x16), (10, x17), (5, y109_5), (6, y109_6)]), (up g [(11, w18)]), (up A [(47, (wr y109_47 a_u ((y109_47 a_u.toNat) + 1))), (54, y109_54)]), (up L [(55, (wr y109_55 s109_1 s109_0))])) H locs := hM
        have r19 : (0 : Int) ≤ x14 ∧ x14 ≤ 3001 := hM.2.2.2.1 8
        have r20 : (0 : Int) ≤ x15 ∧ x15 ≤ 3002 := hM.2.2.2.1 9
        have r21 : (0 : Int) ≤ x16 ∧ x16 ≤ 6 := hM.2.2.2.1 7
        have r22 : (-2147483648 : Int) ≤ x17 ∧ x17 ≤ 2147483647 := hM.2.2.2.1 10
        refine lv_aload_n B.1 B.2.1 dX12_readArgs_124 rfl (lv_at hl 0 rfl) ?_
        refine q_bip B dX12_readArgs_125 (by decide) ?_
        refine m_calli (n := 1) (rest := []) B hM hA hl.1 (k_isSign l D dA h0 ad (up f [(8, x14), (9, x15), (7, x16), (10, x17), (5, y109_5), (6, y109_6)]) (up g [(11, w18)]) (up A [(47, (wr y109_47 a_u ((y109_47 a_u.toNat) + 1))), (54, y109_54)]) (up L [(55, (wr y109_55 s109_1 s109_0))]) 44 (by omega) (show (0 ≤ (x14) ∧ (x14) ≤ (f 4) ∧ (x14) ≤ (x15) ∧ (x15) ≤ (f 4) + 1 ∧ ((x16) = 0 ↔ (x14) = (f 4)) ∧ (2 ≤ (x16) → (x14) < (x15) ∧ (x15) ≤ (f 4)) ∧ ((x16) = 5 → (x14) + 2 ≤ (x15) ∧ (x15) ≤ (x14) + 32)) from by first | omega | (simp only [wr_at]; omega) | assumption)) rfl ok_isSign nm_isSign ⟨rfl, rfl⟩ ⟨Nat.le_of_ble_eq_true rfl, Nat.le_of_ble_eq_true rfl⟩ dX12_readArgs_127 rfl rfl (Nat.le_of_ble_eq_true rfl) ⟨Nat.zero_le _, Nat.zero_le _⟩ (fun r23 σr23 H locs ir23 hp24 hM => ?_)
        obtain ⟨rfl, hp24⟩ := hp24
        unfold inr at ir23
        replace hp24 : 0 ≤ r23 ∧ r23 ≤ 1 ∧ (r23 = 1 ↔ (x16) = 6 ∧ sgn ((A 2)) (f 3) (f 4) (x14) = (44)) := hp24
        obtain ⟨hp24_0, hp24_1, hp24_2⟩ := hp24
        refine lv_istore_n (lv' := [(2, .int (II r23)), (0, .ref h0), (1, .int (II a_u)), (3, .int (II v109_3))]) B.1 B.2.1 dX12_readArgs_130 rfl hl (by decide) rfl (fun ls hl => ?_)
        refine lv_goto (tgt := 2) B.1 B.2.1 dX12_readArgs_131 (by decide) ?_
        exact IH2 r23 x14 x15 x16 x17 y109_5 y109_6 w18 ((wr y109_47 a_u ((y109_47 a_u.toNat) + 1))) y109_54 ((wr y109_55 s109_1 s109_0)) _ _ ls hM (lv_sub hl [1, 2, 0] rfl) (by omega) (by first | omega | (simp only [wr_at]; omega) | assumption) (by first | omega | (simp only [wr_at]; omega) | assumption) (by first | omega | (simp only [wr_at]; omega) | assumption) (by first | omega | (simp only [wr_at]; omega) | assumption) (by first | omega | (simp only [wr_at]; omega) | assumption) (by first | omega | (simp only [wr_at]; omega) | assumption) (by first | omega | (simp only [wr_at]; omega) | assumption) (by first | omega | (simp only [wr_at]; omega) | assumption)
      have r25 : (0 : Int) ≤ y2_8 ∧ y2_8 ≤ 3001 := hM.2.2.2.1 8
      have r26 : (0 : Int) ≤ y2_9 ∧ y2_9 ≤ 3002 := hM.2.2.2.1 9
      have r27 : (0 : Int) ≤ y2_7 ∧ y2_7 ≤ 6 := hM.2.2.2.1 7
      have r28 : (-2147483648 : Int) ≤ y2_10 ∧ y2_10 ≤ 2147483647 := hM.2.2.2.1 10
      have r29 : (-2147483648 : Int) ≤ y2_5 ∧ y2_5 ≤ 2147483647 := hM.2.2.2.1 5
      have r30 : (-2147483648 : Int) ≤ y2_6 ∧ y2_6 ≤ 2147483647 := hM.2.2.2.1 6
      refine lv_iload_n B.1 B.2.1 dX12_readArgs_2 rfl (lv_at hl 2 rfl) ?_
      refine q_ieq (tgt := 134) B dX12_readArgs_3 (by decide) (by unfold inr; omega) (fun c31 => ?_) (fun c31 => ?_)
      · refine lv_aload_n B.1 B.2.1 dX12_readArgs_134 rfl (lv_at hl 0 rfl) ?_
        refine q_bip B dX12_readArgs_135 (by decide) ?_
        refine m_callv (n := 1) (rest := []) B hM hA hl.1 (k_must l D dA h0 ad (up f [(8, y2_8), (9, y2_9), (7, y2_7), (10, y2_10), (5, y2_5), (6, y2_6)]) (up g [(11, y2_11)]) (up A [(47, y2_47), (54, y2_54)]) (up L [(55, y2_55)]) 41 (by omega) (show (0 ≤ (y2_8) ∧ (y2_8) ≤ (f 4) ∧ (y2_8) ≤ (y2_9) ∧ (y2_9) ≤ (f 4) + 1 ∧ ((y2_7) = 0 ↔ (y2_8) = (f 4)) ∧ (2 ≤ (y2_7) → (y2_8) < (y2_9) ∧ (y2_9) ≤ (f 4)) ∧ ((y2_7) = 5 → (y2_8) + 2 ≤ (y2_9) ∧ (y2_9) ≤ (y2_8) + 32)) from by first | omega | (simp only [wr_at]; omega) | assumption)) rfl ok_must nm_must ⟨rfl, rfl⟩ ⟨Nat.le_of_ble_eq_true rfl, Nat.le_of_ble_eq_true rfl⟩ dX12_readArgs_137 rfl rfl (Nat.le_of_ble_eq_true rfl) ⟨Nat.zero_le _, Nat.zero_le _⟩ (fun σr32 H locs hp33 hM => ?_)
        obtain ⟨x34, x35, x36, x37, x38, x39, w40, rfl, hp33⟩ := hp33
        replace hp33 : ((0 ≤ (x34) ∧ (x34) ≤ (f 4) ∧ (x34) ≤ (x35) ∧ (x35) ≤ (f 4) + 1 ∧ ((x36) = 0 ↔ (x34) = (f 4)) ∧ (2 ≤ (x36) → (x34) < (x35) ∧ (x35) ≤ (f 4)) ∧ ((x36) = 5 → (x34) + 2 ≤ (x35) ∧ (x35) ≤ (x34) + 32))) ∧ (y2_8) ≤ (x34) ∧ ((x38) = 0 → (y2_5) = 0 ∧ (y2_8) + 1 ≤ (x34) ∧ (y2_9) ≤ (x34)) := hp33
        obtain ⟨hp33_0, hp33_1, hp33_2⟩ := hp33
        simp only [up_up] at hM
        replace hM : MWd D dA h0 ad (mF dA h0 ad (f, g, A, L) s.heap.size) s.heap ((up f [(8, x34), (9, x35), (7, x36), (10, x37), (5, x38), (6, x39)]), (up g [(11, w40)]), (up A [(47, y2_47), (54, y2_54)]), (up L [(55, y2_55)])) H locs := hM
        have r41 : (0 : Int) ≤ x34 ∧ x34 ≤ 3001 := hM.2.2.2.1 8
        have r42 : (0 : Int) ≤ x35 ∧ x35 ≤ 3002 := hM.2.2.2.1 9
        have r43 : (0 : Int) ≤ x36 ∧ x36 ≤ 6 := hM.2.2.2.1 7
        have r44 : (-2147483648 : Int) ≤ x37 ∧ x37 ≤ 2147483647 := hM.2.2.2.1 10
        have r45 : (-2147483648 : Int) ≤ x38 ∧ x38 ≤ 2147483647 := hM.2.2.2.1 5
        have r46 : (-2147483648 : Int) ≤ x39 ∧ x39 ≤ 2147483647 := hM.2.2.2.1 6
        subst hPST
        exact m_vret B hM dX12_readArgs_140 ⟨x34, x35, x36, x37, x38, x39, w40, y2_47, y2_54, y2_55, rfl, by omega⟩
      · refine lv_aload_n B.1 B.2.1 dX12_readArgs_6 rfl (lv_at hl 0 rfl) ?_
        refine m_calli (n := 0) (rest := []) B hM hA hl.1 (k_isGood l D dA h0 ad (up f [(8, y2_8), (9, y2_9), (7, y2_7), (10, y2_10), (5, y2_5), (6, y2_6)]) (up g [(11, y2_11)]) (up A [(47, y2_47), (54, y2_54)]) (up L [(55, y2_55)])   ) rfl ok_isGood nm_isGood ⟨rfl, rfl⟩ ⟨Nat.le_of_ble_eq_true rfl, Nat.le_of_ble_eq_true rfl⟩ dX12_readArgs_7 rfl rfl (Nat.le_of_ble_eq_true rfl) ⟨Nat.zero_le _, Nat.zero_le _⟩ (fun r47 σr47 H locs ir47 hp48 hM => ?_)
        obtain ⟨rfl, hp48⟩ := hp48
        unfold inr at ir47
        replace hp48 : 0 ≤ r47 ∧ r47 ≤ 1 ∧ (r47 = 1 ↔ (y2_5) = 0) := hp48
        obtain ⟨hp48_0, hp48_1, hp48_2⟩ := hp48
        refine q_ieq (tgt := 134) B dX12_readArgs_10 (by decide) (by unfold inr; omega) (fun c49 => ?_) (fun c49 => ?_)
        · refine lv_aload_n B.1 B.2.1 dX12_readArgs_134 rfl (lv_at hl 0 rfl) ?_
          refine q_bip B dX12_readArgs_135 (by decide) ?_
          refine m_callv (n := 1) (rest := []) B hM hA hl.1 (k_must l D dA h0 ad (up f [(8, y2_8), (9, y2_9), (7, y2_7), (10, y2_10), (5, y2_5), (6, y2_6)]) (up g [(11, y2_11)]) (up A [(47, y2_47), (54, y2_54)]) (up L [(55, y2_55)]) 41 (by omega) (show (0 ≤ (y2_8) ∧ (y2_8) ≤ (f 4) ∧ (y2_8) ≤ (y2_9) ∧ (y2_9) ≤ (f 4) + 1 ∧ ((y2_7) = 0 ↔ (y2_8) = (f 4)) ∧ (2 ≤ (y2_7) → (y2_8) < (y2_9) ∧ (y2_9) ≤ (f 4)) ∧ ((y2_7) = 5 → (y2_8) + 2 ≤ (y2_9) ∧ (y2_9) ≤ (y2_8) + 32)) from by first | omega | (simp only [wr_at]; omega) | assumption)) rfl ok_must nm_must ⟨rfl, rfl⟩ ⟨Nat.le_of_ble_eq_true rfl, Nat.le_of_ble_eq_true rfl⟩ dX12_readArgs_137 rfl rfl (Nat.le_of_ble_eq_true rfl) ⟨Nat.zero_le _, Nat.zero_le _⟩ (fun σr50 H locs hp51 hM => ?_)
          obtain ⟨x52, x53, x54, x55, x56, x57, w58, rfl, hp51⟩ := hp51
          replace hp51 : ((0 ≤ (x52) ∧ (x52) ≤ (f 4) ∧ (x52) ≤ (x53) ∧ (x53) ≤ (f 4) + 1 ∧ ((x54) = 0 ↔ (x52) = (f 4)) ∧ (2 ≤ (x54) → (x52) < (x53) ∧ (x53) ≤ (f 4)) ∧ ((x54) = 5 → (x52) + 2 ≤ (x53) ∧ (x53) ≤ (x52) + 32))) ∧ (y2_8) ≤ (x52) ∧ ((x56) = 0 → (y2_5) = 0 ∧ (y2_8) + 1 ≤ (x52) ∧ (y2_9) ≤ (x52)) := hp51
          obtain ⟨hp51_0, hp51_1, hp51_2⟩ := hp51
          simp only [up_up] at hM
          replace hM : MWd D dA h0 ad (mF dA h0 ad (f, g, A, L) s.heap.size) s.heap ((up f [(8, x52), (9, x53), (7, x54), (10, x55), (5, x56), (6, x57)]), (up g [(11, w58)]), (up A [(47, y2_47), (54, y2_54)]), (up L [(55, y2_55)])) H locs := hM
          have r59 : (0 : Int) ≤ x52 ∧ x52 ≤ 3001 := hM.2.2.2.1 8
          have r60 : (0 : Int) ≤ x53 ∧ x53 ≤ 3002 := hM.2.2.2.1 9
          have r61 : (0 : Int) ≤ x54 ∧ x54 ≤ 6 := hM.2.2.2.1 7
          have r62 : (-2147483648 : Int) ≤ x55 ∧ x55 ≤ 2147483647 := hM.2.2.2.1 10
          have r63 : (-2147483648 : Int) ≤ x56 ∧ x56 ≤ 2147483647 := hM.2.2.2.1 5
          have r64 : (-2147483648 : Int) ≤ x57 ∧ x57 ≤ 2147483647 := hM.2.2.2.1 6
          subst hPST
          exact m_vret B hM dX12_readArgs_140 ⟨x52, x53, x54, x55, x56, x57, w58, y2_47, y2_54, y2_55, rfl, by omega⟩
        · refine lv_aload_n B.1 B.2.1 dX12_readArgs_13 rfl (lv_at hl 0 rfl) ?_
          refine m_callv (n := 0) (rest := []) B hM hA hl.1 (k_next l D dA h0 ad (up f [(8, y2_8), (9, y2_9), (7, y2_7), (10, y2_10), (5, y2_5), (6, y2_6)]) (up g [(11, y2_11)]) (up A [(47, y2_47), (54, y2_54)]) (up L [(55, y2_55)])   (show (y2_9) ≤ 3001 from by first | omega | (simp only [wr_at]; omega) | assumption)) rfl ok_next nm_next ⟨rfl, rfl⟩ ⟨Nat.le_of_ble_eq_true rfl, Nat.le_of_ble_eq_true rfl⟩ dX12_readArgs_14 rfl rfl (Nat.le_of_ble_eq_true rfl) ⟨Nat.zero_le _, Nat.zero_le _⟩ (fun σr65 H locs hp66 hM => ?_)
          obtain ⟨x67, x68, x69, x70, w71, rfl, hp66⟩ := hp66
          replace hp66 : ((y2_9) ≤ (x67) ∨ (x67) = (f 4)) ∧ (0 ≤ (x67) ∧ (x67) ≤ (f 4) ∧ (x67) ≤ (x68) ∧ (x68) ≤ (f 4) + 1 ∧ ((x69) = 0 ↔ (x67) = (f 4)) ∧ (2 ≤ (x69) → (x67) < (x68) ∧ (x68) ≤ (f 4)) ∧ ((x69) = 5 → (x67) + 2 ≤ (x68) ∧ (x68) ≤ (x67) + 32)) := hp66
          obtain ⟨hp66_0, hp66_1⟩ := hp66
          simp only [up_up] at hM
          replace hM : MWd D dA h0 ad (mF dA h0 ad (f, g, A, L) s.heap.size) s.heap ((up f [(8, x67), (9, x68), (7, x69), (10, x70), (5, y2_5), (6, y2_6)]), (up g [(11, w71)]), (up A [(47, y2_47), (54, y2_54)]), (up L [(55, y2_55)])) H locs := hM
          have r72 : (0 : Int) ≤ x67 ∧ x67 ≤ 3001 := hM.2.2.2.1 8
          have r73 : (0 : Int) ≤ x68 ∧ x68 ≤ 3002 := hM.2.2.2.1 9
          have r74 : (0 : Int) ≤ x69 ∧ x69 ≤ 6 := hM.2.2.2.1 7
          have r75 : (-2147483648 : Int) ≤ x70 ∧ x70 ≤ 2147483647 := hM.2.2.2.1 10
          refine q_con B dX12_readArgs_17 ?_
          refine lv_iload_n B.1 B.2.1 dX12_readArgs_18 rfl (lv_at hl 1 rfl) ?_
          refine q_mul B dX12_readArgs_19 ?_
          refine lv_aload_n B.1 B.2.1 dX12_readArgs_20 rfl (lv_at hl 0 rfl) ?_
          refine m_geta (k := 47) B hM (by decide) rfl fl235 dX12_readArgs_21 ?_
          refine lv_iload_n B.1 B.2.1 dX12_readArgs_24 rfl (lv_at hl 1 rfl) ?_
          refine m_ild (k := 47) (i := 35) (n := 3200) (z := a_u) (v := y2_47 a_u.toNat) B hM rfl rfl rfl (by decide) dX12_readArgs_25 (by omega) (by omega) rfl ?_
          have r76 : (0 : Int) ≤ y2_47 a_u.toNat ∧ y2_47 a_u.toNat ≤ 4 := hM.2.2.2.2 47 a_u.toNat
          refine q_add B dX12_readArgs_26 ?_
          refine lv_istore_n (lv' := [(3, .int (II ((4 * a_u) + (y2_47 a_u.toNat)))), (0, .ref h0), (1, .int (II a_u)), (2, .int (II v2_2))]) B.1 B.2.1 dX12_readArgs_27 rfl hl (by decide) rfl (fun ls hl => ?_)
          refine lv_aload_n B.1 B.2.1 dX12_readArgs_28 rfl (lv_at hl 1 rfl) ?_
          refine m_get (k := 7) (v := x69) B hM (by decide) rfl fl66 dX12_readArgs_29 rfl ?_
          refine q_con B dX12_readArgs_32 ?_
          refine q_ceq (tgt := 44) B dX12_readArgs_33 (by decide) (by unfold inr; omega) (by unfold inr; omega) (fun c77 => ?_) (fun c77 => ?_)
          · refine lv_aload_n B.1 B.2.1 dX12_readArgs_44 rfl (lv_at hl 1 rfl) ?_
            refine m_geta (k := 47) B hM (by decide) rfl fl235 dX12_readArgs_45 ?_
            refine lv_iload_n B.1 B.2.1 dX12_readArgs_48 rfl (lv_at hl 2 rfl) ?_
            refine m_ild (k := 47) (i := 35) (n := 3200) (z := a_u) (v := y2_47 a_u.toNat) B hM rfl rfl rfl (by decide) dX12_readArgs_49 (by omega) (by omega) rfl ?_
            refine q_con B dX12_readArgs_50 ?_
            refine q_cne (tgt := 58) B dX12_readArgs_51 (by decide) (by unfold inr; omega) (by unfold inr; omega) (fun c78 => ?_) (fun c78 => ?_)
            · refine lv_aload_n B.1 B.2.1 dX12_readArgs_58 rfl (lv_at hl 1 rfl) ?_
              refine m_calli (n := 0) (rest := []) B hM hA hl.1 (k_isGood l D dA h0 ad (up f [(8, x67), (9, x68), (7, x69), (10, x70), (5, y2_5), (6, y2_6)]) (up g [(11, w71)]) (up A [(47, y2_47), (54, y2_54)]) (up L [(55, y2_55)])   ) rfl ok_isGood nm_isGood ⟨rfl, rfl⟩ ⟨Nat.le_of_ble_eq_true rfl, Nat.le_of_ble_eq_true rfl⟩ dX12_readArgs_59 rfl rfl (Nat.le_of_ble_eq_true rfl) ⟨Nat.zero_le _, Nat.zero_le _⟩ (fun r79 σr79 H locs ir79 hp80 hM => ?_)
              obtain ⟨rfl, hp80⟩ := hp80
              unfold inr at ir79
              replace hp80 : 0 ≤ r79 ∧ r79 ≤ 1 ∧ (r79 = 1 ↔ (y2_5) = 0) := hp80
              obtain ⟨hp80_0, hp80_1, hp80_2⟩ := hp80
              refine q_ine (tgt := 66) B dX12_readArgs_62 (by decide) (by unfold inr; omega) (fun c81 => ?_) (fun c81 => ?_)
              · refine lv_aload_n B.1 B.2.1 dX12_readArgs_66 rfl (lv_at hl 1 rfl) ?_
                refine m_geta (k := 54) B hM (by decide) rfl fl257 dX12_readArgs_67 ?_
                refine lv_iload_n B.1 B.2.1 dX12_readArgs_70 rfl (lv_at hl 0 rfl) ?_
                refine lv_aload_n B.1 B.2.1 dX12_readArgs_71 rfl (lv_at hl 1 rfl) ?_
                refine m_get (k := 7) (v := x69) B hM (by decide) rfl fl66 dX12_readArgs_72 rfl ?_
                refine q_con B dX12_readArgs_75 ?_
                refine q_cne (tgt := 86) B dX12_readArgs_76 (by decide) (by unfold inr; omega) (by unfold inr; omega) (fun c82 => ?_) (fun c82 => ?_)
                · refine q_con B dX12_readArgs_86 ?_
                  refine m_ist (k := 54) (i := 42) (n := 12800) B hM rfl rfl rfl (by decide) dX12_readArgs_87 (by omega) (by omega) (show (-2147483648 : Int) ≤ 0 from by first | omega | (simp only [wr_at]; omega)) (show 0 ≤ (2147483647 : Int) from by first | omega | (simp only [wr_at]; omega)) (u1_up A [(47, y2_47), (54, y2_54)] 54 (wr y2_54 ((4 * a_u) + (y2_47 a_u.toNat)) 0)) (fun H locs hM => ?_)
                  replace hM : MWd D dA h0 ad (mF dA h0 ad (f, g, A, L) s.heap.size) s.heap ((up f [(8, x67), (9, x68), (7, x69), (10, x70), (5, y2_5), (6, y2_6)]), (up g [(11, w71)]), (up A [(47, y2_47), (54, (wr y2_54 ((4 * a_u) + (y2_47 a_u.toNat)) 0))]), (up L [(55, y2_55)])) H locs := hM
                  refine lv_aload_n B.1 B.2.1 dX12_readArgs_88 rfl (lv_at hl 1 rfl) ?_
                  refine m_geta (k := 55) B hM (by decide) rfl fl260 dX12_readArgs_89 ?_
                  refine lv_iload_n B.1 B.2.1 dX12_readArgs_92 rfl (lv_at hl 0 rfl) ?_
                  refine lv_aload_n B.1 B.2.1 dX12_readArgs_93 rfl (lv_at hl 1 rfl) ?_
                  refine m_get (k := 7) (v := x69) B hM (by decide) rfl fl66 dX12_readArgs_94 rfl ?_
                  refine q_con B dX12_readArgs_97 ?_
                  refine q_cne (tgt := 108) B dX12_readArgs_98 (by decide) (by unfold inr; omega) (by unfold inr; omega) (fun c83 => ?_) (fun c83 => ?_)
                  · refine lv_lconst (v := 0) B.1 B.2.1 dX12_readArgs_108 (by decide) ?_
                    exact JJ109 ((4 * a_u) + (y2_47 a_u.toNat)) v2_2 ((0 : Int64)) ((4 * a_u) + (y2_47 a_u.toNat)) x67 x68 x69 x70 y2_5 y2_6 w71 y2_47 ((wr y2_54 ((4 * a_u) + (y2_47 a_u.toNat)) 0)) y2_55 _ _ ls hM (lv_sub hl [1, 2, 0, 3] rfl) (by omega) (by omega) (by omega) (by first | omega | (simp only [wr_at]; omega) | assumption) (by first | omega | (simp only [wr_at]; omega) | assumption) (by first | omega | (simp only [wr_at]; omega) | assumption) (by first | omega | (simp only [wr_at]; omega) | assumption) (by first | omega | (simp only [wr_at]; omega) | assumption) (by first | omega | (simp only [wr_at]; omega) | assumption) (by first | omega | (simp only [wr_at]; omega) | assumption) (by first | omega | (simp only [wr_at]; omega) | assumption)
                  · refine lv_aload_n B.1 B.2.1 dX12_readArgs_101 rfl (lv_at hl 1 rfl) ?_
                    refine m_getl (k := 11) B hM (by decide) rfl fl76 dX12_readArgs_102 rfl ?_
                    refine lv_goto (tgt := 109) B.1 B.2.1 dX12_readArgs_105 (by decide) ?_
                    exact JJ109 ((4 * a_u) + (y2_47 a_u.toNat)) v2_2 w71 ((4 * a_u) + (y2_47 a_u.toNat)) x67 x68 x69 x70 y2_5 y2_6 w71 y2_47 ((wr y2_54 ((4 * a_u) + (y2_47 a_u.toNat)) 0)) y2_55 _ _ ls hM (lv_sub hl [1, 2, 0, 3] rfl) (by omega) (by omega) (by omega) (by first | omega | (simp only [wr_at]; omega) | assumption) (by first | omega | (simp only [wr_at]; omega) | assumption) (by first | omega | (simp only [wr_at]; omega) | assumption) (by first | omega | (simp only [wr_at]; omega) | assumption) (by first | omega | (simp only [wr_at]; omega) | assumption) (by first | omega | (simp only [wr_at]; omega) | assumption) (by first | omega | (simp only [wr_at]; omega) | assumption) (by first | omega | (simp only [wr_at]; omega) | assumption)
                · refine lv_aload_n B.1 B.2.1 dX12_readArgs_79 rfl (lv_at hl 1 rfl) ?_
                  refine m_get (k := 10) (v := x70) B hM (by decide) rfl fl91 dX12_readArgs_80 rfl ?_
                  refine lv_goto (tgt := 87) B.1 B.2.1 dX12_readArgs_83 (by decide) ?_
                  refine m_ist (k := 54) (i := 42) (n := 12800) B hM rfl rfl rfl (by decide) dX12_readArgs_87 (by omega) (by omega) (show (-2147483648 : Int) ≤ x70 from by first | omega | (simp only [wr_at]; omega)) (show x70 ≤ (2147483647 : Int) from by first | omega | (simp only [wr_at]; omega)) (u1_up A [(47, y2_47), (54, y2_54)] 54 (wr y2_54 ((4 * a_u) + (y2_47 a_u.toNat)) x70)) (fun H locs hM => ?_)
                  replace hM : MWd D dA h0 ad (mF dA h0 ad (f, g, A, L) s.heap.size) s.heap ((up f [(8, x67), (9, x68), (7, x69), (10, x70), (5, y2_5), (6, y2_6)]), (up g [(11, w71)]), (up A [(47, y2_47), (54, (wr y2_54 ((4 * a_u) + (y2_47 a_u.toNat)) x70))]), (up L [(55, y2_55)])) H locs := hM
                  refine lv_aload_n B.1 B.2.1 dX12_readArgs_88 rfl (lv_at hl 1 rfl) ?_
                  refine m_geta (k := 55) B hM (by decide) rfl fl260 dX12_readArgs_89 ?_
                  refine lv_iload_n B.1 B.2.1 dX12_readArgs_92 rfl (lv_at hl 0 rfl) ?_
                  refine lv_aload_n B.1 B.2.1 dX12_readArgs_93 rfl (lv_at hl 1 rfl) ?_
                  refine m_get (k := 7) (v := x69) B hM (by decide) rfl fl66 dX12_readArgs_94 rfl ?_
                  refine q_con B dX12_readArgs_97 ?_
                  refine q_cne (tgt := 108) B dX12_readArgs_98 (by decide) (by unfold inr; omega) (by unfold inr; omega) (fun c84 => ?_) (fun c84 => ?_)
                  · refine lv_lconst (v := 0) B.1 B.2.1 dX12_readArgs_108 (by decide) ?_
                    exact JJ109 ((4 * a_u) + (y2_47 a_u.toNat)) v2_2 ((0 : Int64)) ((4 * a_u) + (y2_47 a_u.toNat)) x67 x68 x69 x70 y2_5 y2_6 w71 y2_47 ((wr y2_54 ((4 * a_u) + (y2_47 a_u.toNat)) x70)) y2_55 _ _ ls hM (lv_sub hl [1, 2, 0, 3] rfl) (by omega) (by omega) (by omega) (by first | omega | (simp only [wr_at]; omega) | assumption) (by first | omega | (simp only [wr_at]; omega) | assumption) (by first | omega | (simp only [wr_at]; omega) | assumption) (by first | omega | (simp only [wr_at]; omega) | assumption) (by first | omega | (simp only [wr_at]; omega) | assumption) (by first | omega | (simp only [wr_at]; omega) | assumption) (by first | omega | (simp only [wr_at]; omega) | assumption) (by first | omega | (simp only [wr_at]; omega) | assumption)
                  · refine lv_aload_n B.1 B.2.1 dX12_readArgs_101 rfl (lv_at hl 1 rfl) ?_
                    refine m_getl (k := 11) B hM (by decide) rfl fl76 dX12_readArgs_102 rfl ?_
                    refine lv_goto (tgt := 109) B.1 B.2.1 dX12_readArgs_105 (by decide) ?_
                    exact JJ109 ((4 * a_u) + (y2_47 a_u.toNat)) v2_2 w71 ((4 * a_u) + (y2_47 a_u.toNat)) x67 x68 x69 x70 y2_5 y2_6 w71 y2_47 ((wr y2_54 ((4 * a_u) + (y2_47 a_u.toNat)) x70)) y2_55 _ _ ls hM (lv_sub hl [1, 2, 0, 3] rfl) (by omega) (by omega) (by omega) (by first | omega | (simp only [wr_at]; omega) | assumption) (by first | omega | (simp only [wr_at]; omega) | assumption) (by first | omega | (simp only [wr_at]; omega) | assumption) (by first | omega | (simp only [wr_at]; omega) | assumption) (by first | omega | (simp only [wr_at]; omega) | assumption) (by first | omega | (simp only [wr_at]; omega) | assumption) (by first | omega | (simp only [wr_at]; omega) | assumption) (by first | omega | (simp only [wr_at]; omega) | assumption)
              · subst hPST
                exact m_vret B hM dX12_readArgs_65 ⟨x67, x68, x69, x70, y2_5, y2_6, w71, y2_47, y2_54, y2_55, rfl, by omega⟩
            · refine lv_aload_n B.1 B.2.1 dX12_readArgs_54 rfl (lv_at hl 1 rfl) ?_
              refine m_callv (n := 0) (rest := []) B hM hA hl.1 (k_wrong l D dA h0 ad (up f [(8, x67), (9, x68), (7, x69), (10, x70), (5, y2_5), (6, y2_6)]) (up g [(11, w71)]) (up A [(47, y2_47), (54, y2_54)]) (up L [(55, y2_55)])   ) rfl ok_wrong nm_wrong ⟨rfl, rfl⟩ ⟨Nat.le_of_ble_eq_true rfl, Nat.le_of_ble_eq_true rfl⟩ dX12_readArgs_55 rfl rfl (Nat.le_of_ble_eq_true rfl) ⟨Nat.zero_le _, Nat.zero_le _⟩ (fun σr85 H locs hp86 hM => ?_)
              obtain ⟨x87, x88, rfl, hp86⟩ := hp86
              replace hp86 : (x87) ≠ 0 := hp86
              simp only [up_up] at hM
              replace hM : MWd D dA h0 ad (mF dA h0 ad (f, g, A, L) s.heap.size) s.heap ((up f [(8, x67), (9, x68), (7, x69), (10, x70), (5, x87), (6, x88)]), (up g [(11, w71)]), (up A [(47, y2_47), (54, y2_54)]), (up L [(55, y2_55)])) H locs := hM
              have r89 : (-2147483648 : Int) ≤ x87 ∧ x87 ≤ 2147483647 := hM.2.2.2.1 5
              have r90 : (-2147483648 : Int) ≤ x88 ∧ x88 ≤ 2147483647 := hM.2.2.2.1 6
              refine lv_aload_n B.1 B.2.1 dX12_readArgs_58 rfl (lv_at hl 1 rfl) ?_
              refine m_calli (n := 0) (rest := []) B hM hA hl.1 (k_isGood l D dA h0 ad (up f [(8, x67), (9, x68), (7, x69), (10, x70), (5, x87), (6, x88)]) (up g [(11, w71)]) (up A [(47, y2_47), (54, y2_54)]) (up L [(55, y2_55)])   ) rfl ok_isGood nm_isGood ⟨rfl, rfl⟩ ⟨Nat.le_of_ble_eq_true rfl, Nat.le_of_ble_eq_true rfl⟩ dX12_readArgs_59 rfl rfl (Nat.le_of_ble_eq_true rfl) ⟨Nat.zero_le _, Nat.zero_le _⟩ (fun r91 σr91 H locs ir91 hp92 hM => ?_)
              obtain ⟨rfl, hp92⟩ := hp92
              unfold inr at ir91
              replace hp92 : 0 ≤ r91 ∧ r91 ≤ 1 ∧ (r91 = 1 ↔ (x87) = 0) := hp92
              obtain ⟨hp92_0, hp92_1, hp92_2⟩ := hp92
              refine q_ine (tgt := 66) B dX12_readArgs_62 (by decide) (by unfold inr; omega) (fun c93 => ?_) (fun c93 => ?_)
              · refine lv_aload_n B.1 B.2.1 dX12_readArgs_66 rfl (lv_at hl 1 rfl) ?_
                refine m_geta (k := 54) B hM (by decide) rfl fl257 dX12_readArgs_67 ?_
                refine lv_iload_n B.1 B.2.1 dX12_readArgs_70 rfl (lv_at hl 0 rfl) ?_
                refine lv_aload_n B.1 B.2.1 dX12_readArgs_71 rfl (lv_at hl 1 rfl) ?_
                refine m_get (k := 7) (v := x69) B hM (by decide) rfl fl66 dX12_readArgs_72 rfl ?_
                refine q_con B dX12_readArgs_75 ?_
                refine q_cne (tgt := 86) B dX12_readArgs_76 (by decide) (by unfold inr; omega) (by unfold inr; omega) (fun c94 => ?_) (fun c94 => ?_)
                · refine q_con B dX12_readArgs_86 ?_
                  refine m_ist (k := 54) (i := 42) (n := 12800) B hM rfl rfl rfl (by decide) dX12_readArgs_87 (by omega) (by omega) (show (-2147483648 : Int) ≤ 0 from by first | omega | (simp only [wr_at]; omega)) (show 0 ≤ (2147483647 : Int) from by first | omega | (simp only [wr_at]; omega)) (u1_up A [(47, y2_47), (54, y2_54)] 54 (wr y2_54 ((4 * a_u) + (y2_47 a_u.toNat)) 0)) (fun H locs hM => ?_)
                  replace hM : MWd D dA h0 ad (mF dA h0 ad (f, g, A, L) s.heap.size) s.heap ((up f [(8, x67), (9, x68), (7, x69), (10, x70), (5, x87), (6, x88)]), (up g [(11, w71)]), (up A [(47, y2_47), (54, (wr y2_54 ((4 * a_u) + (y2_47 a_u.toNat)) 0))]), (up L [(55, y2_55)])) H locs := hM
                  refine lv_aload_n B.1 B.2.1 dX12_readArgs_88 rfl (lv_at hl 1 rfl) ?_
                  refine m_geta (k := 55) B hM (by decide) rfl fl260 dX12_readArgs_89 ?_
                  refine lv_iload_n B.1 B.2.1 dX12_readArgs_92 rfl (lv_at hl 0 rfl) ?_
                  refine lv_aload_n B.1 B.2.1 dX12_readArgs_93 rfl (lv_at hl 1 rfl) ?_
                  refine m_get (k := 7) (v := x69) B hM (by decide) rfl fl66 dX12_readArgs_94 rfl ?_
                  refine q_con B dX12_readArgs_97 ?_
                  refine q_cne (tgt := 108) B dX12_readArgs_98 (by decide) (by unfold inr; omega) (by unfold inr; omega) (fun c95 => ?_) (fun c95 => ?_)
                  · refine lv_lconst (v := 0) B.1 B.2.1 dX12_readArgs_108 (by decide) ?_
                    exact JJ109 ((4 * a_u) + (y2_47 a_u.toNat)) v2_2 ((0 : Int64)) ((4 * a_u) + (y2_47 a_u.toNat)) x67 x68 x69 x70 x87 x88 w71 y2_47 ((wr y2_54 ((4 * a_u) + (y2_47 a_u.toNat)) 0)) y2_55 _ _ ls hM (lv_sub hl [1, 2, 0, 3] rfl) (by omega) (by omega) (by omega) (by first | omega | (simp only [wr_at]; omega) | assumption) (by first | omega | (simp only [wr_at]; omega) | assumption) (by first | omega | (simp only [wr_at]; omega) | assumption) (by first | omega | (simp only [wr_at]; omega) | assumption) (by first | omega | (simp only [wr_at]; omega) | assumption) (by first | omega | (simp only [wr_at]; omega) | assumption) (by first | omega | (simp only [wr_at]; omega) | assumption) (by first | omega | (simp only [wr_at]; omega) | assumption)
                  · refine lv_aload_n B.1 B.2.1 dX12_readArgs_101 rfl (lv_at hl 1 rfl) ?_
                    refine m_getl (k := 11) B hM (by decide) rfl fl76 dX12_readArgs_102 rfl ?_
                    refine lv_goto (tgt := 109) B.1 B.2.1 dX12_readArgs_105 (by decide) ?_
                    exact JJ109 ((4 * a_u) + (y2_47 a_u.toNat)) v2_2 w71 ((4 * a_u) + (y2_47 a_u.toNat)) x67 x68 x69 x70 x87 x88 w71 y2_47 ((wr y2_54 ((4 * a_u) + (y2_47 a_u.toNat)) 0)) y2_55 _ _ ls hM (lv_sub hl [1, 2, 0, 3] rfl) (by omega) (by omega) (by omega) (by first | omega | (simp only [wr_at]; omega) | assumption) (by first | omega | (simp only [wr_at]; omega) | assumption) (by first | omega | (simp only [wr_at]; omega) | assumption) (by first | omega | (simp only [wr_at]; omega) | assumption) (by first | omega | (simp only [wr_at]; omega) | assumption) (by first | omega | (simp only [wr_at]; omega) | assumption) (by first | omega | (simp only [wr_at]; omega) | assumption) (by first | omega | (simp only [wr_at]; omega) | assumption)
                · refine lv_aload_n B.1 B.2.1 dX12_readArgs_79 rfl (lv_at hl 1 rfl) ?_
                  refine m_get (k := 10) (v := x70) B hM (by decide) rfl fl91 dX12_readArgs_80 rfl ?_
                  refine lv_goto (tgt := 87) B.1 B.2.1 dX12_readArgs_83 (by decide) ?_
                  refine m_ist (k := 54) (i := 42) (n := 12800) B hM rfl rfl rfl (by decide) dX12_readArgs_87 (by omega) (by omega) (show (-2147483648 : Int) ≤ x70 from by first | omega | (simp only [wr_at]; omega)) (show x70 ≤ (2147483647 : Int) from by first | omega | (simp only [wr_at]; omega)) (u1_up A [(47, y2_47), (54, y2_54)] 54 (wr y2_54 ((4 * a_u) + (y2_47 a_u.toNat)) x70)) (fun H locs hM => ?_)
                  replace hM : MWd D dA h0 ad (mF dA h0 ad (f, g, A, L) s.heap.size) s.heap ((up f [(8, x67), (9, x68), (7, x69), (10, x70), (5, x87), (6, x88)]), (up g [(11, w71)]), (up A [(47, y2_47), (54, (wr y2_54 ((4 * a_u) + (y2_47 a_u.toNat)) x70))]), (up L [(55, y2_55)])) H locs := hM
                  refine lv_aload_n B.1 B.2.1 dX12_readArgs_88 rfl (lv_at hl 1 rfl) ?_
                  refine m_geta (k := 55) B hM (by decide) rfl fl260 dX12_readArgs_89 ?_
                  refine lv_iload_n B.1 B.2.1 dX12_readArgs_92 rfl (lv_at hl 0 rfl) ?_
                  refine lv_aload_n B.1 B.2.1 dX12_readArgs_93 rfl (lv_at hl 1 rfl) ?_
                  refine m_get (k := 7) (v := x69) B hM (by decide) rfl fl66 dX12_readArgs_94 rfl ?_
                  refine q_con B dX12_readArgs_97 ?_
                  refine q_cne (tgt := 108) B dX12_readArgs_98 (by decide) (by unfold inr; omega) (by unfold inr; omega) (fun c96 => ?_) (fun c96 => ?_)
                  · refine lv_lconst (v := 0) B.1 B.2.1 dX12_readArgs_108 (by decide) ?_
                    exact JJ109 ((4 * a_u) + (y2_47 a_u.toNat)) v2_2 ((0 : Int64)) ((4 * a_u) + (y2_47 a_u.toNat)) x67 x68 x69 x70 x87 x88 w71 y2_47 ((wr y2_54 ((4 * a_u) + (y2_47 a_u.toNat)) x70)) y2_55 _ _ ls hM (lv_sub hl [1, 2, 0, 3] rfl) (by omega) (by omega) (by omega) (by first | omega | (simp only [wr_at]; omega) | assumption) (by first | omega | (simp only [wr_at]; omega) | assumption) (by first | omega | (simp only [wr_at]; omega) | assumption) (by first | omega | (simp only [wr_at]; omega) | assumption) (by first | omega | (simp only [wr_at]; omega) | assumption) (by first | omega | (simp only [wr_at]; omega) | assumption) (by first | omega | (simp only [wr_at]; omega) | assumption) (by first | omega | (simp only [wr_at]; omega) | assumption)
                  · refine lv_aload_n B.1 B.2.1 dX12_readArgs_101 rfl (lv_at hl 1 rfl) ?_
                    refine m_getl (k := 11) B hM (by decide) rfl fl76 dX12_readArgs_102 rfl ?_
                    refine lv_goto (tgt := 109) B.1 B.2.1 dX12_readArgs_105 (by decide) ?_
                    exact JJ109 ((4 * a_u) + (y2_47 a_u.toNat)) v2_2 w71 ((4 * a_u) + (y2_47 a_u.toNat)) x67 x68 x69 x70 x87 x88 w71 y2_47 ((wr y2_54 ((4 * a_u) + (y2_47 a_u.toNat)) x70)) y2_55 _ _ ls hM (lv_sub hl [1, 2, 0, 3] rfl) (by omega) (by omega) (by omega) (by first | omega | (simp only [wr_at]; omega) | assumption) (by first | omega | (simp only [wr_at]; omega) | assumption) (by first | omega | (simp only [wr_at]; omega) | assumption) (by first | omega | (simp only [wr_at]; omega) | assumption) (by first | omega | (simp only [wr_at]; omega) | assumption) (by first | omega | (simp only [wr_at]; omega) | assumption) (by first | omega | (simp only [wr_at]; omega) | assumption) (by first | omega | (simp only [wr_at]; omega) | assumption)
              · subst hPST
                exact m_vret B hM dX12_readArgs_65 ⟨x67, x68, x69, x70, x87, x88, w71, y2_47, y2_54, y2_55, rfl, by omega⟩
          · refine lv_aload_n B.1 B.2.1 dX12_readArgs_36 rfl (lv_at hl 1 rfl) ?_
            refine m_get (k := 7) (v := x69) B hM (by decide) rfl fl66 dX12_readArgs_37 rfl ?_
            refine q_con B dX12_readArgs_40 ?_
            refine q_cne (tgt := 54) B dX12_readArgs_41 (by decide) (by unfold inr; omega) (by unfold inr; omega) (fun c97 => ?_) (fun c97 => ?_)
            · refine lv_aload_n B.1 B.2.1 dX12_readArgs_54 rfl (lv_at hl 1 rfl) ?_
              refine m_callv (n := 0) (rest := []) B hM hA hl.1 (k_wrong l D dA h0 ad (up f [(8, x67), (9, x68), (7, x69), (10, x70), (5, y2_5), (6, y2_6)]) (up g [(11, w71)]) (up A [(47, y2_47), (54, y2_54)]) (up L [(55, y2_55)])   ) rfl ok_wrong nm_wrong ⟨rfl, rfl⟩ ⟨Nat.le_of_ble_eq_true rfl, Nat.le_of_ble_eq_true rfl⟩ dX12_readArgs_55 rfl rfl (Nat.le_of_ble_eq_true rfl) ⟨Nat.zero_le _, Nat.zero_le _⟩ (fun σr98 H locs hp99 hM => ?_)
              obtain ⟨x100, x101, rfl, hp99⟩ := hp99
              replace hp99 : (x100) ≠ 0 := hp99
              simp only [up_up] at hM
              replace hM : MWd D dA h0 ad (mF dA h0 ad (f, g, A, L) s.heap.size) s.heap ((up f [(8, x67), (9, x68), (7, x69), (10, x70), (5, x100), (6, x101)]), (up g [(11, w71)]), (up A [(47, y2_47), (54, y2_54)]), (up L [(55, y2_55)])) H locs := hM
              have r102 : (-2147483648 : Int) ≤ x100 ∧ x100 ≤ 2147483647 := hM.2.2.2.1 5
              have r103 : (-2147483648 : Int) ≤ x101 ∧ x101 ≤ 2147483647 := hM.2.2.2.1 6
              refine lv_aload_n B.1 B.2.1 dX12_readArgs_58 rfl (lv_at hl 1 rfl) ?_
              refine m_calli (n := 0) (rest := []) B hM hA hl.1 (k_isGood l D dA h0 ad (up f [(8, x67), (9, x68), (7, x69), (10, x70), (5, x100), (6, x101)]) (up g [(11, w71)]) (up A [(47, y2_47), (54, y2_54)]) (up L [(55, y2_55)])   ) rfl ok_isGood nm_isGood ⟨rfl, rfl⟩ ⟨Nat.le_of_ble_eq_true rfl, Nat.le_of_ble_eq_true rfl⟩ dX12_readArgs_59 rfl rfl (Nat.le_of_ble_eq_true rfl) ⟨Nat.zero_le _, Nat.zero_le _⟩ (fun r104 σr104 H locs ir104 hp105 hM => ?_)
              obtain ⟨rfl, hp105⟩ := hp105
              unfold inr at ir104
              replace hp105 : 0 ≤ r104 ∧ r104 ≤ 1 ∧ (r104 = 1 ↔ (x100) = 0) := hp105
              obtain ⟨hp105_0, hp105_1, hp105_2⟩ := hp105
              refine q_ine (tgt := 66) B dX12_readArgs_62 (by decide) (by unfold inr; omega) (fun c106 => ?_) (fun c106 => ?_)
              · refine lv_aload_n B.1 B.2.1 dX12_readArgs_66 rfl (lv_at hl 1 rfl) ?_
                refine m_geta (k := 54) B hM (by decide) rfl fl257 dX12_readArgs_67 ?_
                refine lv_iload_n B.1 B.2.1 dX12_readArgs_70 rfl (lv_at hl 0 rfl) ?_
                refine lv_aload_n B.1 B.2.1 dX12_readArgs_71 rfl (lv_at hl 1 rfl) ?_
                refine m_get (k := 7) (v := x69) B hM (by decide) rfl fl66 dX12_readArgs_72 rfl ?_
                refine q_con B dX12_readArgs_75 ?_
                refine q_cne (tgt := 86) B dX12_readArgs_76 (by decide) (by unfold inr; omega) (by unfold inr; omega) (fun c107 => ?_) (fun c107 => ?_)
                · refine q_con B dX12_readArgs_86 ?_
                  refine m_ist (k := 54) (i := 42) (n := 12800) B hM rfl rfl rfl (by decide) dX12_readArgs_87 (by omega) (by omega) (show (-2147483648 : Int) ≤ 0 from by first | omega | (simp only [wr_at]; omega)) (show 0 ≤ (2147483647 : Int) from by first | omega | (simp only [wr_at]; omega)) (u1_up A [(47, y2_47), (54, y2_54)] 54 (wr y2_54 ((4 * a_u) + (y2_47 a_u.toNat)) 0)) (fun H locs hM => ?_)
                  replace hM : MWd D dA h0 ad (mF dA h0 ad (f, g, A, L) s.heap.size) s.heap ((up f [(8, x67), (9, x68), (7, x69), (10, x70), (5, x100), (6, x101)]), (up g [(11, w71)]), (up A [(47, y2_47), (54, (wr y2_54 ((4 * a_u) + (y2_47 a_u.toNat)) 0))]), (up L [(55, y2_55)])) H locs := hM
                  refine lv_aload_n B.1 B.2.1 dX12_readArgs_88 rfl (lv_at hl 1 rfl) ?_
                  refine m_geta (k := 55) B hM (by decide) rfl fl260 dX12_readArgs_89 ?_
                  refine lv_iload_n B.1 B.2.1 dX12_readArgs_92 rfl (lv_at hl 0 rfl) ?_
                  refine lv_aload_n B.1 B.2.1 dX12_readArgs_93 rfl (lv_at hl 1 rfl) ?_
                  refine m_get (k := 7) (v := x69) B hM (by decide) rfl fl66 dX12_readArgs_94 rfl ?_
                  refine q_con B dX12_readArgs_97 ?_
                  refine q_cne (tgt := 108) B dX12_readArgs_98 (by decide) (by unfold inr; omega) (by unfold inr; omega) (fun c108 => ?_) (fun c108 => ?_)
                  · refine lv_lconst (v := 0) B.1 B.2.1 dX12_readArgs_108 (by decide) ?_
                    exact JJ109 ((4 * a_u) + (y2_47 a_u.toNat)) v2_2 ((0 : Int64)) ((4 * a_u) + (y2_47 a_u.toNat)) x67 x68 x69 x70 x100 x101 w71 y2_47 ((wr y2_54 ((4 * a_u) + (y2_47 a_u.toNat)) 0)) y2_55 _ _ ls hM (lv_sub hl [1, 2, 0, 3] rfl) (by omega) (by omega) (by omega) (by first | omega | (simp only [wr_at]; omega) | assumption) (by first | omega | (simp only [wr_at]; omega) | assumption) (by first | omega | (simp only [wr_at]; omega) | assumption) (by first | omega | (simp only [wr_at]; omega) | assumption) (by first | omega | (simp only [wr_at]; omega) | assumption) (by first | omega | (simp only [wr_at]; omega) | assumption) (by first | omega | (simp only [wr_at]; omega) | assumption) (by first | omega | (simp only [wr_at]; omega) | assumption)
                  · refine lv_aload_n B.1 B.2.1 dX12_readArgs_101 rfl (lv_at hl 1 rfl) ?_
                    refine m_getl (k := 11) B hM (by decide) rfl fl76 dX12_readArgs_102 rfl ?_
                    refine lv_goto (tgt := 109) B.1 B.2.1 dX12_readArgs_105 (by decide) ?_
                    exact JJ109 ((4 * a_u) + (y2_47 a_u.toNat)) v2_2 w71 ((4 * a_u) + (y2_47 a_u.toNat)) x67 x68 x69 x70 x100 x101 w71 y2_47 ((wr y2_54 ((4 * a_u) + (y2_47 a_u.toNat)) 0)) y2_55 _ _ ls hM (lv_sub hl [1, 2, 0, 3] rfl) (by omega) (by omega) (by omega) (by first | omega | (simp only [wr_at]; omega) | assumption) (by first | omega | (simp only [wr_at]; omega) | assumption) (by first | omega | (simp only [wr_at]; omega) | assumption) (by first | omega | (simp only [wr_at]; omega) | assumption) (by first | omega | (simp only [wr_at]; omega) | assumption) (by first | omega | (simp only [wr_at]; omega) | assumption) (by first | omega | (simp only [wr_at]; omega) | assumption) (by first | omega | (simp only [wr_at]; omega) | assumption)
                · refine lv_aload_n B.1 B.2.1 dX12_readArgs_79 rfl (lv_at hl 1 rfl) ?_
                  refine m_get (k := 10) (v := x70) B hM (by decide) rfl fl91 dX12_readArgs_80 rfl ?_
                  refine lv_goto (tgt := 87) B.1 B.2.1 dX12_readArgs_83 (by decide) ?_
                  refine m_ist (k := 54) (i := 42) (n := 12800) B hM rfl rfl rfl (by decide) dX12_readArgs_87 (by omega) (by omega) (show (-2147483648 : Int) ≤ x70 from by first | omega | (simp only [wr_at]; omega)) (show x70 ≤ (2147483647 : Int) from by first | omega | (simp only [wr_at]; omega)) (u1_up A [(47, y2_47), (54, y2_54)] 54 (wr y2_54 ((4 * a_u) + (y2_47 a_u.toNat)) x70)) (fun H locs hM => ?_)
                  replace hM : MWd D dA h0 ad (mF dA h0 ad (f, g, A, L) s.heap.size) s.heap ((up f [(8, x67), (9, x68), (7, x69), (10, x70), (5, x100), (6, x101)]), (up g [(11, w71)]), (up A [(47, y2_47), (54, (wr y2_54 ((4 * a_u) + (y2_47 a_u.toNat)) x70))]), (up L [(55, y2_55)])) H locs := hM
                  refine lv_aload_n B.1 B.2.1 dX12_readArgs_88 rfl (lv_at hl 1 rfl) ?_
                  refine m_geta (k := 55) B hM (by decide) rfl fl260 dX12_readArgs_89 ?_
                  refine lv_iload_n B.1 B.2.1 dX12_readArgs_92 rfl (lv_at hl 0 rfl) ?_
                  refine lv_aload_n B.1 B.2.1 dX12_readArgs_93 rfl (lv_at hl 1 rfl) ?_
                  refine m_get (k := 7) (v := x69) B hM (by decide) rfl fl66 dX12_readArgs_94 rfl ?_
                  refine q_con B dX12_readArgs_97 ?_
                  refine q_cne (tgt := 108) B dX12_readArgs_98 (by decide) (by unfold inr; omega) (by unfold inr; omega) (fun c109 => ?_) (fun c109 => ?_)
                  · refine lv_lconst (v := 0) B.1 B.2.1 dX12_readArgs_108 (by decide) ?_
                    exact JJ109 ((4 * a_u) + (y2_47 a_u.toNat)) v2_2 ((0 : Int64)) ((4 * a_u) + (y2_47 a_u.toNat)) x67 x68 x69 x70 x100 x101 w71 y2_47 ((wr y2_54 ((4 * a_u) + (y2_47 a_u.toNat)) x70)) y2_55 _ _ ls hM (lv_sub hl [1, 2, 0, 3] rfl) (by omega) (by omega) (by omega) (by first | omega | (simp only [wr_at]; omega) | assumption) (by first | omega | (simp only [wr_at]; omega) | assumption) (by first | omega | (simp only [wr_at]; omega) | assumption) (by first | omega | (simp only [wr_at]; omega) | assumption) (by first | omega | (simp only [wr_at]; omega) | assumption) (by first | omega | (simp only [wr_at]; omega) | assumption) (by first | omega | (simp only [wr_at]; omega) | assumption) (by first | omega | (simp only [wr_at]; omega) | assumption)
                  · refine lv_aload_n B.1 B.2.1 dX12_readArgs_101 rfl (lv_at hl 1 rfl) ?_
                    refine m_getl (k := 11) B hM (by decide) rfl fl76 dX12_readArgs_102 rfl ?_
                    refine lv_goto (tgt := 109) B.1 B.2.1 dX12_readArgs_105 (by decide) ?_
                    exact JJ109 ((4 * a_u) + (y2_47 a_u.toNat)) v2_2 w71 ((4 * a_u) + (y2_47 a_u.toNat)) x67 x68 x69 x70 x100 x101 w71 y2_47 ((wr y2_54 ((4 * a_u) + (y2_47 a_u.toNat)) x70)) y2_55 _ _ ls hM (lv_sub hl [1, 2, 0, 3] rfl) (by omega) (by omega) (by omega) (by first | omega | (simp only [wr_at]; omega) | assumption) (by first | omega | (simp only [wr_at]; omega) | assumption) (by first | omega | (simp only [wr_at]; omega) | assumption) (by first | omega | (simp only [wr_at]; omega) | assumption) (by first | omega | (simp only [wr_at]; omega) | assumption) (by first | omega | (simp only [wr_at]; omega) | assumption) (by first | omega | (simp only [wr_at]; omega) | assumption) (by first | omega | (simp only [wr_at]; omega) | assumption)
              · subst hPST
                exact m_vret B hM dX12_readArgs_65 ⟨x67, x68, x69, x70, x100, x101, w71, y2_47, y2_54, y2_55, rfl, by omega⟩
            · refine lv_aload_n B.1 B.2.1 dX12_readArgs_44 rfl (lv_at hl 1 rfl) ?_
              refine m_geta (k := 47) B hM (by decide) rfl fl235 dX12_readArgs_45 ?_
              refine lv_iload_n B.1 B.2.1 dX12_readArgs_48 rfl (lv_at hl 2 rfl) ?_
              refine m_ild (k := 47) (i := 35) (n := 3200) (z := a_u) (v := y2_47 a_u.toNat) B hM rfl rfl rfl (by decide) dX12_readArgs_49 (by omega) (by omega) rfl ?_
              refine q_con B dX12_readArgs_50 ?_
              refine q_cne (tgt := 58) B dX12_readArgs_51 (by decide) (by unfold inr; omega) (by unfold inr; omega) (fun c110 => ?_) (fun c110 => ?_)
              · refine lv_aload_n B.1 B.2.1 dX12_readArgs_58 rfl (lv_at hl 1 rfl) ?_
                refine m_calli (n := 0) (rest := []) B hM hA hl.1 (k_isGood l D dA h0 ad (up f [(8, x67), (9, x68), (7, x69), (10, x70), (5, y2_5), (6, y2_6)]) (up g [(11, w71)]) (up A [(47, y2_47), (54, y2_54)]) (up L [(55, y2_55)])   ) rfl ok_isGood nm_isGood ⟨rfl, rfl⟩ ⟨Nat.le_of_ble_eq_true rfl, Nat.le_of_ble_eq_true rfl⟩ dX12_readArgs_59 rfl rfl (Nat.le_of_ble_eq_true rfl) ⟨Nat.zero_le _, Nat.zero_le _⟩ (fun r111 σr111 H locs ir111 hp112 hM => ?_)
                obtain ⟨rfl, hp112⟩ := hp112
                unfold inr at ir111
                replace hp112 : 0 ≤ r111 ∧ r111 ≤ 1 ∧ (r111 = 1 ↔ (y2_5) = 0) := hp112
                obtain ⟨hp112_0, hp112_1, hp112_2⟩ := hp112
                refine q_ine (tgt := 66) B dX12_readArgs_62 (by decide) (by unfold inr; omega) (fun c113 => ?_) (fun c113 => ?_)
                · refine lv_aload_n B.1 B.2.1 dX12_readArgs_66 rfl (lv_at hl 1 rfl) ?_
                  refine m_geta (k := 54) B hM (by decide) rfl fl257 dX12_readArgs_67 ?_
                  refine lv_iload_n B.1 B.2.1 dX12_readArgs_70 rfl (lv_at hl 0 rfl) ?_
                  refine lv_aload_n B.1 B.2.1 dX12_readArgs_71 rfl (lv_at hl 1 rfl) ?_
                  refine m_get (k := 7) (v := x69) B hM (by decide) rfl fl66 dX12_readArgs_72 rfl ?_
                  refine q_con B dX12_readArgs_75 ?_
                  refine q_cne (tgt := 86) B dX12_readArgs_76 (by decide) (by unfold inr; omega) (by unfold inr; omega) (fun c114 => ?_) (fun c114 => ?_)
                  · refine q_con B dX12_readArgs_86 ?_
                    refine m_ist (k := 54) (i := 42) (n := 12800) B hM rfl rfl rfl (by decide) dX12_readArgs_87 (by omega) (by omega) (show (-2147483648 : Int) ≤ 0 from by first | omega | (simp only [wr_at]; omega)) (show 0 ≤ (2147483647 : Int) from by first | omega | (simp only [wr_at]; omega)) (u1_up A [(47, y2_47), (54, y2_54)] 54 (wr y2_54 ((4 * a_u) + (y2_47 a_u.toNat)) 0)) (fun H locs hM => ?_)
                    replace hM : MWd D dA h0 ad (mF dA h0 ad (f, g, A, L) s.heap.size) s.heap ((up f [(8, x67), (9, x68), (7, x69), (10, x70), (5, y2_5), (6, y2_6)]), (up g [(11, w71)]), (up A [(47, y2_47), (54, (wr y2_54 ((4 * a_u) + (y2_47 a_u.toNat)) 0))]), (up L [(55, y2_55)])) H locs := hM
                    refine lv_aload_n B.1 B.2.1 dX12_readArgs_88 rfl (lv_at hl 1 rfl) ?_
                    refine m_geta (k := 55) B hM (by decide) rfl fl260 dX12_readArgs_89 ?_
                    refine lv_iload_n B.1 B.2.1 dX12_readArgs_92 rfl (lv_at hl 0 rfl) ?_
                    refine lv_aload_n B.1 B.2.1 dX12_readArgs_93 rfl (lv_at hl 1 rfl) ?_
                    refine m_get (k := 7) (v := x69) B hM (by decide) rfl fl66 dX12_readArgs_94 rfl ?_
                    refine q_con B dX12_readArgs_97 ?_
                    refine q_cne (tgt := 108) B dX12_readArgs_98 (by decide) (by unfold inr; omega) (by unfold inr; omega) (fun c115 => ?_) (fun c115 => ?_)
                    · refine lv_lconst (v := 0) B.1 B.2.1 dX12_readArgs_108 (by decide) ?_
                      exact JJ109 ((4 * a_u) + (y2_47 a_u.toNat)) v2_2 ((0 : Int64)) ((4 * a_u) + (y2_47 a_u.toNat)) x67 x68 x69 x70 y2_5 y2_6 w71 y2_47 ((wr y2_54 ((4 * a_u) + (y2_47 a_u.toNat)) 0)) y2_55 _ _ ls hM (lv_sub hl [1, 2, 0, 3] rfl) (by omega) (by omega) (by omega) (by first | omega | (simp only [wr_at]; omega) | assumption) (by first | omega | (simp only [wr_at]; omega) | assumption) (by first | omega | (simp only [wr_at]; omega) | assumption) (by first | omega | (simp only [wr_at]; omega) | assumption) (by first | omega | (simp only [wr_at]; omega) | assumption) (by first | omega | (simp only [wr_at]; omega) | assumption) (by first | omega | (simp only [wr_at]; omega) | assumption) (by first | omega | (simp only [wr_at]; omega) | assumption)
                    · refine lv_aload_n B.1 B.2.1 dX12_readArgs_101 rfl (lv_at hl 1 rfl) ?_
                      refine m_getl (k := 11) B hM (by decide) rfl fl76 dX12_readArgs_102 rfl ?_
                      refine lv_goto (tgt := 109) B.1 B.2.1 dX12_readArgs_105 (by decide) ?_
                      exact JJ109 ((4 * a_u) + (y2_47 a_u.toNat)) v2_2 w71 ((4 * a_u) + (y2_47 a_u.toNat)) x67 x68 x69 x70 y2_5 y2_6 w71 y2_47 ((wr y2_54 ((4 * a_u) + (y2_47 a_u.toNat)) 0)) y2_55 _ _ ls hM (lv_sub hl [1, 2, 0, 3] rfl) (by omega) (by omega) (by omega) (by first | omega | (simp only [wr_at]; omega) | assumption) (by first | omega | (simp only [wr_at]; omega) | assumption) (by first | omega | (simp only [wr_at]; omega) | assumption) (by first | omega | (simp only [wr_at]; omega) | assumption) (by first | omega | (simp only [wr_at]; omega) | assumption) (by first | omega | (simp only [wr_at]; omega) | assumption) (by first | omega | (simp only [wr_at]; omega) | assumption) (by first | omega | (simp only [wr_at]; omega) | assumption)
                  · refine lv_aload_n B.1 B.2.1 dX12_readArgs_79 rfl (lv_at hl 1 rfl) ?_
                    refine m_get (k := 10) (v := x70) B hM (by decide) rfl fl91 dX12_readArgs_80 rfl ?_
                    refine lv_goto (tgt := 87) B.1 B.2.1 dX12_readArgs_83 (by decide) ?_
                    refine m_ist (k := 54) (i := 42) (n := 12800) B hM rfl rfl rfl (by decide) dX12_readArgs_87 (by omega) (by omega) (show (-2147483648 : Int) ≤ x70 from by first | omega | (simp only [wr_at]; omega)) (show x70 ≤ (2147483647 : Int) from by first | omega | (simp only [wr_at]; omega)) (u1_up A [(47, y2_47), (54, y2_54)] 54 (wr y2_54 ((4 * a_u) + (y2_47 a_u.toNat)) x70)) (fun H locs hM => ?_)
                    replace hM : MWd D dA h0 ad (mF dA h0 ad (f, g, A, L) s.heap.size) s.heap ((up f [(8, x67), (9, x68), (7, x69), (10, x70), (5, y2_5), (6, y2_6)]), (up g [(11, w71)]), (up A [(47, y2_47), (54, (wr y2_54 ((4 * a_u) + (y2_47 a_u.toNat)) x70))]), (up L [(55, y2_55)])) H locs := hM
                    refine lv_aload_n B.1 B.2.1 dX12_readArgs_88 rfl (lv_at hl 1 rfl) ?_
                    refine m_geta (k := 55) B hM (by decide) rfl fl260 dX12_readArgs_89 ?_
                    refine lv_iload_n B.1 B.2.1 dX12_readArgs_92 rfl (lv_at hl 0 rfl) ?_
                    refine lv_aload_n B.1 B.2.1 dX12_readArgs_93 rfl (lv_at hl 1 rfl) ?_
                    refine m_get (k := 7) (v := x69) B hM (by decide) rfl fl66 dX12_readArgs_94 rfl ?_
                    refine q_con B dX12_readArgs_97 ?_
                    refine q_cne (tgt := 108) B dX12_readArgs_98 (by decide) (by unfold inr; omega) (by unfold inr; omega) (fun c116 => ?_) (fun c116 => ?_)
                    · refine lv_lconst (v := 0) B.1 B.2.1 dX12_readArgs_108 (by decide) ?_
                      exact JJ109 ((4 * a_u) + (y2_47 a_u.toNat)) v2_2 ((0 : Int64)) ((4 * a_u) + (y2_47 a_u.toNat)) x67 x68 x69 x70 y2_5 y2_6 w71 y2_47 ((wr y2_54 ((4 * a_u) + (y2_47 a_u.toNat)) x70)) y2_55 _ _ ls hM (lv_sub hl [1, 2, 0, 3] rfl) (by omega) (by omega) (by omega) (by first | omega | (simp only [wr_at]; omega) | assumption) (by first | omega | (simp only [wr_at]; omega) | assumption) (by first | omega | (simp only [wr_at]; omega) | assumption) (by first | omega | (simp only [wr_at]; omega) | assumption) (by first | omega | (simp only [wr_at]; omega) | assumption) (by first | omega | (simp only [wr_at]; omega) | assumption) (by first | omega | (simp only [wr_at]; omega) | assumption) (by first | omega | (simp only [wr_at]; omega) | assumption)
                    · refine lv_aload_n B.1 B.2.1 dX12_readArgs_101 rfl (lv_at hl 1 rfl) ?_
                      refine m_getl (k := 11) B hM (by decide) rfl fl76 dX12_readArgs_102 rfl ?_
                      refine lv_goto (tgt := 109) B.1 B.2.1 dX12_readArgs_105 (by decide) ?_
                      exact JJ109 ((4 * a_u) + (y2_47 a_u.toNat)) v2_2 w71 ((4 * a_u) + (y2_47 a_u.toNat)) x67 x68 x69 x70 y2_5 y2_6 w71 y2_47 ((wr y2_54 ((4 * a_u) + (y2_47 a_u.toNat)) x70)) y2_55 _ _ ls hM (lv_sub hl [1, 2, 0, 3] rfl) (by omega) (by omega) (by omega) (by first | omega | (simp only [wr_at]; omega) | assumption) (by first | omega | (simp only [wr_at]; omega) | assumption) (by first | omega | (simp only [wr_at]; omega) | assumption) (by first | omega | (simp only [wr_at]; omega) | assumption) (by first | omega | (simp only [wr_at]; omega) | assumption) (by first | omega | (simp only [wr_at]; omega) | assumption) (by first | omega | (simp only [wr_at]; omega) | assumption) (by first | omega | (simp only [wr_at]; omega) | assumption)
                · subst hPST
                  exact m_vret B hM dX12_readArgs_65 ⟨x67, x68, x69, x70, y2_5, y2_6, w71, y2_47, y2_54, y2_55, rfl, by omega⟩
              · refine lv_aload_n B.1 B.2.1 dX12_readArgs_54 rfl (lv_at hl 1 rfl) ?_
                refine m_callv (n := 0) (rest := []) B hM hA hl.1 (k_wrong l D dA h0 ad (up f [(8, x67), (9, x68), (7, x69), (10, x70), (5, y2_5), (6, y2_6)]) (up g [(11, w71)]) (up A [(47, y2_47), (54, y2_54)]) (up L [(55, y2_55)])   ) rfl ok_wrong nm_wrong ⟨rfl, rfl⟩ ⟨Nat.le_of_ble_eq_true rfl, Nat.le_of_ble_eq_true rfl⟩ dX12_readArgs_55 rfl rfl (Nat.le_of_ble_eq_true rfl) ⟨Nat.zero_le _, Nat.zero_le _⟩ (fun σr117 H locs hp118 hM => ?_)
                obtain ⟨x119, x120, rfl, hp118⟩ := hp118
                replace hp118 : (x119) ≠ 0 := hp118
                simp only [up_up] at hM
                replace hM : MWd D dA h0 ad (mF dA h0 ad (f, g, A, L) s.heap.size) s.heap ((up f [(8, x67), (9, x68), (7, x69), (10, x70), (5, x119), (6, x120)]), (up g [(11, w71)]), (up A [(47, y2_47), (54, y2_54)]), (up L [(55, y2_55)])) H locs := hM
                have r121 : (-2147483648 : Int) ≤ x119 ∧ x119 ≤ 2147483647 := hM.2.2.2.1 5
                have r122 : (-2147483648 : Int) ≤ x120 ∧ x120 ≤ 2147483647 := hM.2.2.2.1 6
                refine lv_aload_n B.1 B.2.1 dX12_readArgs_58 rfl (lv_at hl 1 rfl) ?_
                refine m_calli (n := 0) (rest := []) B hM hA hl.1 (k_isGood l D dA h0 ad (up f [(8, x67), (9, x68), (7, x69), (10, x70), (5, x119), (6, x120)]) (up g [(11, w71)]) (up A [(47, y2_47), (54, y2_54)]) (up L [(55, y2_55)])   ) rfl ok_isGood nm_isGood ⟨rfl, rfl⟩ ⟨Nat.le_of_ble_eq_true rfl, Nat.le_of_ble_eq_true rfl⟩ dX12_readArgs_59 rfl rfl (Nat.le_of_ble_eq_true rfl) ⟨Nat.zero_le _, Nat.zero_le _⟩ (fun r123 σr123 H locs ir123 hp124 hM => ?_)
                obtain ⟨rfl, hp124⟩ := hp124
                unfold inr at ir123
                replace hp124 : 0 ≤ r123 ∧ r123 ≤ 1 ∧ (r123 = 1 ↔ (x119) = 0) := hp124
                obtain ⟨hp124_0, hp124_1, hp124_2⟩ := hp124
                refine q_ine (tgt := 66) B dX12_readArgs_62 (by decide) (by unfold inr; omega) (fun c125 => ?_) (fun c125 => ?_)
                · refine lv_aload_n B.1 B.2.1 dX12_readArgs_66 rfl (lv_at hl 1 rfl) ?_
                  refine m_geta (k := 54) B hM (by decide) rfl fl257 dX12_readArgs_67 ?_
                  refine lv_iload_n B.1 B.2.1 dX12_readArgs_70 rfl (lv_at hl 0 rfl) ?_
                  refine lv_aload_n B.1 B.2.1 dX12_readArgs_71 rfl (lv_at hl 1 rfl) ?_
                  refine m_get (k := 7) (v := x69) B hM (by decide) rfl fl66 dX12_readArgs_72 rfl ?_
                  refine q_con B dX12_readArgs_75 ?_
                  refine q_cne (tgt := 86) B dX12_readArgs_76 (by decide) (by unfold inr; omega) (by unfold inr; omega) (fun c126 => ?_) (fun c126 => ?_)
                  · refine q_con B dX12_readArgs_86 ?_
                    refine m_ist (k := 54) (i := 42) (n := 12800) B hM rfl rfl rfl (by decide) dX12_readArgs_87 (by omega) (by omega) (show (-2147483648 : Int) ≤ 0 from by first | omega | (simp only [wr_at]; omega)) (show 0 ≤ (2147483647 : Int) from by first | omega | (simp only [wr_at]; omega)) (u1_up A [(47, y2_47), (54, y2_54)] 54 (wr y2_54 ((4 * a_u) + (y2_47 a_u.toNat)) 0)) (fun H locs hM => ?_)
                    replace hM : MWd D dA h0 ad (mF dA h0 ad (f, g, A, L) s.heap.size) s.heap ((up f [(8, x67), (9, x68), (7, x69), (10, x70), (5, x119), (6, x120)]), (up g [(11, w71)]), (up A [(47, y2_47), (54, (wr y2_54 ((4 * a_u) + (y2_47 a_u.toNat)) 0))]), (up L [(55, y2_55)])) H locs := hM
                    refine lv_aload_n B.1 B.2.1 dX12_readArgs_88 rfl (lv_at hl 1 rfl) ?_
                    refine m_geta (k := 55) B hM (by decide) rfl fl260 dX12_readArgs_89 ?_
                    refine lv_iload_n B.1 B.2.1 dX12_readArgs_92 rfl (lv_at hl 0 rfl) ?_
                    refine lv_aload_n B.1 B.2.1 dX12_readArgs_93 rfl (lv_at hl 1 rfl) ?_
                    refine m_get (k := 7) (v := x69) B hM (by decide) rfl fl66 dX12_readArgs_94 rfl ?_
                    refine q_con B dX12_readArgs_97 ?_
                    refine q_cne (tgt := 108) B dX12_readArgs_98 (by decide) (by unfold inr; omega) (by unfold inr; omega) (fun c127 => ?_) (fun c127 => ?_)
                    · refine lv_lconst (v := 0) B.1 B.2.1 dX12_readArgs_108 (by decide) ?_
                      exact JJ109 ((4 * a_u) + (y2_47 a_u.toNat)) v2_2 ((0 : Int64)) ((4 * a_u) + (y2_47 a_u.toNat)) x67 x68 x69 x70 x119 x120 w71 y2_47 ((wr y2_54 ((4 * a_u) + (y2_47 a_u.toNat)) 0)) y2_55 _ _ ls hM (lv_sub hl [1, 2, 0, 3] rfl) (by omega) (by omega) (by omega) (by first | omega | (simp only [wr_at]; omega) | assumption) (by first | omega | (simp only [wr_at]; omega) | assumption) (by first | omega | (simp only [wr_at]; omega) | assumption) (by first | omega | (simp only [wr_at]; omega) | assumption) (by first | omega | (simp only [wr_at]; omega) | assumption) (by first | omega | (simp only [wr_at]; omega) | assumption) (by first | omega | (simp only [wr_at]; omega) | assumption) (by first | omega | (simp only [wr_at]; omega) | assumption)
                    · refine lv_aload_n B.1 B.2.1 dX12_readArgs_101 rfl (lv_at hl 1 rfl) ?_
                      refine m_getl (k := 11) B hM (by decide) rfl fl76 dX12_readArgs_102 rfl ?_
                      refine lv_goto (tgt := 109) B.1 B.2.1 dX12_readArgs_105 (by decide) ?_
                      exact JJ109 ((4 * a_u) + (y2_47 a_u.toNat)) v2_2 w71 ((4 * a_u) + (y2_47 a_u.toNat)) x67 x68 x69 x70 x119 x120 w71 y2_47 ((wr y2_54 ((4 * a_u) + (y2_47 a_u.toNat)) 0)) y2_55 _ _ ls hM (lv_sub hl [1, 2, 0, 3] rfl) (by omega) (by omega) (by omega) (by first | omega | (simp only [wr_at]; omega) | assumption) (by first | omega | (simp only [wr_at]; omega) | assumption) (by first | omega | (simp only [wr_at]; omega) | assumption) (by first | omega | (simp only [wr_at]; omega) | assumption) (by first | omega | (simp only [wr_at]; omega) | assumption) (by first | omega | (simp only [wr_at]; omega) | assumption) (by first | omega | (simp only [wr_at]; omega) | assumption) (by first | omega | (simp only [wr_at]; omega) | assumption)
                  · refine lv_aload_n B.1 B.2.1 dX12_readArgs_79 rfl (lv_at hl 1 rfl) ?_
                    refine m_get (k := 10) (v := x70) B hM (by decide) rfl fl91 dX12_readArgs_80 rfl ?_
                    refine lv_goto (tgt := 87) B.1 B.2.1 dX12_readArgs_83 (by decide) ?_
                    refine m_ist (k := 54) (i := 42) (n := 12800) B hM rfl rfl rfl (by decide) dX12_readArgs_87 (by omega) (by omega) (show (-2147483648 : Int) ≤ x70 from by first | omega | (simp only [wr_at]; omega)) (show x70 ≤ (2147483647 : Int) from by first | omega | (simp only [wr_at]; omega)) (u1_up A [(47, y2_47), (54, y2_54)] 54 (wr y2_54 ((4 * a_u) + (y2_47 a_u.toNat)) x70)) (fun H locs hM => ?_)
                    replace hM : MWd D dA h0 ad (mF dA h0 ad (f, g, A, L) s.heap.size) s.heap ((up f [(8, x67), (9, x68), (7, x69), (10, x70), (5, x119), (6, x120)]), (up g [(11, w71)]), (up A [(47, y2_47), (54, (wr y2_54 ((4 * a_u) + (y2_47 a_u.toNat)) x70))]), (up L [(55, y2_55)])) H locs := hM
                    refine lv_aload_n B.1 B.2.1 dX12_readArgs_88 rfl (lv_at hl 1 rfl) ?_
                    refine m_geta (k := 55) B hM (by decide) rfl fl260 dX12_readArgs_89 ?_
                    refine lv_iload_n B.1 B.2.1 dX12_readArgs_92 rfl (lv_at hl 0 rfl) ?_
                    refine lv_aload_n B.1 B.2.1 dX12_readArgs_93 rfl (lv_at hl 1 rfl) ?_
                    refine m_get (k := 7) (v := x69) B hM (by decide) rfl fl66 dX12_readArgs_94 rfl ?_
                    refine q_con B dX12_readArgs_97 ?_
                    refine q_cne (tgt := 108) B dX12_readArgs_98 (by decide) (by unfold inr; omega) (by unfold inr; omega) (fun c128 => ?_) (fun c128 => ?_)
                    · refine lv_lconst (v := 0) B.1 B.2.1 dX12_readArgs_108 (by decide) ?_
                      exact JJ109 ((4 * a_u) + (y2_47 a_u.toNat)) v2_2 ((0 : Int64)) ((4 * a_u) + (y2_47 a_u.toNat)) x67 x68 x69 x70 x119 x120 w71 y2_47 ((wr y2_54 ((4 * a_u) + (y2_47 a_u.toNat)) x70)) y2_55 _ _ ls hM (lv_sub hl [1, 2, 0, 3] rfl) (by omega) (by omega) (by omega) (by first | omega | (simp only [wr_at]; omega) | assumption) (by first | omega | (simp only [wr_at]; omega) | assumption) (by first | omega | (simp only [wr_at]; omega) | assumption) (by first | omega | (simp only [wr_at]; omega) | assumption) (by first | omega | (simp only [wr_at]; omega) | assumption) (by first | omega | (simp only [wr_at]; omega) | assumption) (by first | omega | (simp only [wr_at]; omega) | assumption) (by first | omega | (simp only [wr_at]; omega) | assumption)
                    · refine lv_aload_n B.1 B.2.1 dX12_readArgs_101 rfl (lv_at hl 1 rfl) ?_
                      refine m_getl (k := 11) B hM (by decide) rfl fl76 dX12_readArgs_102 rfl ?_
                      refine lv_goto (tgt := 109) B.1 B.2.1 dX12_readArgs_105 (by decide) ?_
                      exact JJ109 ((4 * a_u) + (y2_47 a_u.toNat)) v2_2 w71 ((4 * a_u) + (y2_47 a_u.toNat)) x67 x68 x69 x70 x119 x120 w71 y2_47 ((wr y2_54 ((4 * a_u) + (y2_47 a_u.toNat)) x70)) y2_55 _ _ ls hM (lv_sub hl [1, 2, 0, 3] rfl) (by omega) (by omega) (by omega) (by first | omega | (simp only [wr_at]; omega) | assumption) (by first | omega | (simp only [wr_at]; omega) | assumption) (by first | omega | (simp only [wr_at]; omega) | assumption) (by first | omega | (simp only [wr_at]; omega) | assumption) (by first | omega | (simp only [wr_at]; omega) | assumption) (by first | omega | (simp only [wr_at]; omega) | assumption) (by first | omega | (simp only [wr_at]; omega) | assumption) (by first | omega | (simp only [wr_at]; omega) | assumption)
                · subst hPST
                  exact m_vret B hM dX12_readArgs_65 ⟨x67, x68, x69, x70, x119, x120, w71, y2_47, y2_54, y2_55, rfl, by omega⟩
  refine q_con B dX12_readArgs_0 ?_
  refine lv_istore_n (lv' := [(2, .int (II 1)), (0, .ref h0), (1, .int (II a_u))]) B.1 B.2.1 dX12_readArgs_1 rfl hl (by decide) rfl (fun ls hl => ?_)
  exact LL2 (Int.toNat ((f 4) - (f 8) + 1)) 1 (f 8) (f 9) (f 7) (f 10) (f 5) (f 6) (g 11) ((A 47)) ((A 54)) ((L 55)) _ _ ls hM (lv_sub hl [1, 2, 0] rfl) (by omega) (by first | omega | (simp only [wr_at]; omega) | assumption) (by first | omega | (simp only [wr_at]; omega) | assumption) (by first | omega | (simp only [wr_at]; omega) | assumption) (by first | omega | (simp only [wr_at]; omega) | assumption) (by first | omega | (simp only [wr_at]; omega) | assumption) (by first | omega | (simp only [wr_at]; omega) | assumption) (by first | omega | (simp only [wr_at]; omega) | assumption) (by first | omega | (simp only [wr_at]; omega) | assumption)
set_option maxHeartbeats 4000000 in
set_option maxRecDepth 20000 in
theorem k_readUse (l : Launch) (D : va_G) (dA : Nat → ClassId) (h0 : Nat) (ad : Nat → Nat) (f : Nat → Int) (g : Nat → Int64) (A : Nat → Nat → Int) (L : Nat → Nat → Int64) (p_0 : (0 ≤ (f 8) ∧ (f 8) ≤ (f 4) ∧ (f 8) ≤ (f 9) ∧ (f 9) ≤ (f 4) + 1 ∧ ((f 7) = 0 ↔ (f 8) = (f 4)) ∧ (2 ≤ (f 7) → (f 8) < (f 9) ∧ (f 9) ≤ (f 4)) ∧ ((f 7) = 5 → (f 8) + 2 ≤ (f 9) ∧ (f 9) ≤ (f 8) + 32))) (p_1 : 2 * (f 22) ≤ (f 8)) (p_2 : ((f 5) = 0 → (f 62) ≤ (f 22))) (p_3 : (f 62) ≤ 1550) (p_4 : AIp (f 22) (A 18) (A 20) (A 21)) (p_5 : TXI (A 51) (A 52)) (p_6 : ((f 5) = 0 → UTI (f 3) (f 62) (f 22) (A 20) (A 21))) : MCi l yX12_readUse cX12_readUse 2 (some .int) ({ frames := 5, cells := 0, slots := 0, locals := 109 }) D dA h0 ad (f, g, A, L) [] (fun (r : Int) (σ : MS) => ∃ n8 : Int, ∃ n9 : Int, ∃ n7 : Int, ∃ n10 : Int, ∃ n5 : Int, ∃ n6 : Int, ∃ n22 : Int, ∃ n62 : Int, ∃ n11 : Int64, ∃ b17 : Nat → Int, ∃ b18 : Nat → Int, ∃ b19 : Nat → Int, ∃ b20 : Nat → Int, ∃ b21 : Nat → Int, ∃ b47 : Nat → Int, ∃ b48 : Nat → Int, ∃ b49 : Nat → Int, ∃ b50 : Nat → Int, ∃ b51 : Nat → Int, ∃ b52 : Nat → Int, ∃ b53 : Nat → Int, ∃ b54 : Nat → Int, ∃ b16 : Nat → Int64, ∃ b55 : Nat → Int64, σ = ((up f [(8, n8), (9, n9), (7, n7), (10, n10), (5, n5), (6, n6), (22, n22), (62, n62)]), (up g [(11, n11)]), (up A [(17, b17), (18, b18), (19, b19), (20, b20), (21, b21), (47, b47), (48, b48), (49, b49), (50, b50), (51, b51), (52, b52), (53, b53), (54, b54)]), (up L [(16, b16), (55, b55)])) ∧ (r = 1600 * (f 3) + (f 62) ∧ ((0 ≤ (n8) ∧ (n8) ≤ (f 4) ∧ (n8) ≤ (n9) ∧ (n9) ≤ (f 4) + 1 ∧ ((n7) = 0 ↔ (n8) = (f 4)) ∧ (2 ≤ (n7) → (n8) < (n9) ∧ (n9) ≤ (f 4)) ∧ ((n7) = 5 → (n8) + 2 ≤ (n9) ∧ (n9) ≤ (n8) + 32))) ∧ (f 8) ≤ (n8) ∧ ((n5) = 0 → (f 5) = 0 ∧ (f 8) + 1 ≤ (n8) ∧ (n62) ≤ (n22)) ∧ 2 * (n22) ≤ (n8) + 1 ∧ (n62) = (f 62) + 1 ∧ (f 22) ≤ (n22) ∧ AIp (n22) b18 b20 b21 ∧ APe (f 22) (A 20) (A 21) b20 b21 ∧ TXI b51 b52 ∧ ((n5) = 0 → UTI (f 3) (n62) (n22) b20 b21))) := by
  generalize hPST : (fun (r : Int) (σ : MS) => ∃ n8 : Int, ∃ n9 : Int, ∃ n7 : Int, ∃ n10 : Int, ∃ n5 : Int, ∃ n6 : Int, ∃ n22 : Int, ∃ n62 : Int, ∃ n11 : Int64, ∃ b17 : Nat → Int, ∃ b18 : Nat → Int, ∃ b19 : Nat → Int, ∃ b20 : Nat → Int, ∃ b21 : Nat → Int, ∃ b47 : Nat → Int, ∃ b48 : Nat → Int, ∃ b49 : Nat → Int, ∃ b50 : Nat → Int, ∃ b51 : Nat → Int, ∃ b52 : Nat → Int, ∃ b53 : Nat → Int, ∃ b54 : Nat → Int, ∃ b16 : Nat → Int64, ∃ b55 : Nat → Int64, σ = ((up f [(8, n8), (9, n9), (7, n7), (10, n10), (5, n5), (6, n6), (22, n22), (62, n62)]), (up g [(11, n11)]), (up A [(17, b17), (18, b18), (19, b19), (20, b20), (21, b21), (47, b47), (48, b48), (49, b49), (50, b50), (51, b51), (52, b52), (53, b53), (54, b54)]), (up L [(16, b16), (55, b55)])) ∧ (r = 1600 * (f 3) + (f 62) ∧ ((0 ≤ (n8) ∧ (n8) ≤ (f 4) ∧ (n8) ≤ (n9) ∧ (n9) ≤ (f 4) + 1 ∧ ((n7) = 0 ↔ (n8) = (f 4)) ∧ (2 ≤ (n7) → (n8) < (n9) ∧ (n9) ≤ (f 4)) ∧ ((n7) = 5 → (n8) + 2 ≤ (n9) ∧ (n9) ≤ (n8) + 32))) ∧ (f 8) ≤ (n8) ∧ ((n5) = 0 → (f 5) = 0 ∧ (f 8) + 1 ≤ (n8) ∧ (n62) ≤ (n22)) ∧ 2 * (n22) ≤ (n8) + 1 ∧ (n62) = (f 62) + 1 ∧ (f 22) ≤ (n22) ∧ AIp (n22) b18 b20 b21 ∧ APe (f 22) (A 20) (A 21) b20 b21 ∧ TXI b51 b52 ∧ ((n5) = 0 → UTI (f 3) (n62) (n22) b20 b21))) = PST
  refine m_enter (by decide) rfl (Nat.le_of_ble_eq_true rfl) (fun p e s m args below meth c ls B hM hl => ?_)
  have hA : ∀ q, s.heap.size ≤ q → mF dA h0 ad (f, g, A, L) s.heap.size q := fun q h => Or.inr h
  have hM : MWd D dA h0 ad (mF dA h0 ad (f, g, A, L) s.heap.size) s.heap ((up f [(8, f 8), (9, f 9), (7, f 7), (10, f 10), (5, f 5), (6, f 6), (22, f 22), (62, f 62)]), (up g [(11, g 11)]), (up A [(17, (A 17)), (18, (A 18)), (19, (A 19)), (20, (A 20)), (21, (A 21)), (47, (A 47)), (48, (A 48)), (49, (A 49)), (50, (A 50)), (51, (A 51)), (52, (A 52)), (53, (A 53)), (54, (A 54))]), (up L [(16, (L 16)), (55, (L 55))])) s.heap [] := MW_pad hM (up_self f [8, 9, 7, 10, 5, 6, 22, 62]) (up_self g [11]) (up_self A [17, 18, 19, 20, 21, 47, 48, 49, 50, 51, 52, 53, 54]) (up_self L [16, 55])
  have hl : lv_has ls 2 [(0, .ref h0)] := hl
  have r1 : (0 : Int) ≤ f 3 ∧ f 3 ≤ 1 := hM.2.2.2.1 3
  have r2 : (0 : Int) ≤ f 4 ∧ f 4 ≤ 3000 := hM.2.2.2.1 4
  have r3 : (0 : Int) ≤ f 7 ∧ f 7 ≤ 6 := hM.2.2.2.1 7
  have r4 : (0 : Int) ≤ f 8 ∧ f 8 ≤ 3001 := hM.2.2.2.1 8
  have r5 : (0 : Int) ≤ f 9 ∧ f 9 ≤ 3002 := hM.2.2.2.1 9
  have r6 : (0 : Int) ≤ f 22 ∧ f 22 ≤ 1600 := hM.2.2.2.1 22
  have r7 : (0 : Int) ≤ f 62 ∧ f 62 ≤ 1590 := hM.2.2.2.1 62
  have JJ225 : ∀ (v225_1 : Int) (y225_8 : Int) (y225_9 : Int) (y225_7 : Int) (y225_10 : Int) (y225_5 : Int) (y225_6 : Int) (y225_22 : Int) (y225_62 : Int) (y225_11 : Int64) (y225_17 : Nat → Int) (y225_18 : Nat → Int) (y225_19 : Nat → Int) (y225_20 : Nat → Int) (y225_21 : Nat → Int) (y225_47 : Nat → Int) (y225_48 : Nat → Int) (y225_49 : Nat → Int) (y225_50 : Nat → Int) (y225_51 : Nat → Int) (y225_52 : Nat → Int) (y225_53 : Nat → Int) (y225_54 : Nat → Int) (y225_16 : Nat → Int64) (y225_55 : Nat → Int64) (H : Heap) (locs : List Loc) (ls : Array Slot), (MWd D dA h0 ad (mF dA h0 ad (f, g, A, L) s.heap.size) s.heap ((up f [(8, y225_8), (9, y225_9), (7, y225_7), (10, y225_10), (5, y225_5), (6, y225_6), (22, y225_22), (62, y225_62)]), (up g [(11, y225_11)]), (up A [(17, y225_17), (18, y225_18), (19, y225_19), (20, y225_20), (21, y225_21), (47, y225_47), (48, y225_48), (49, y225_49), (50, y225_50), (51, y225_51), (52, y225_52), (53, y225_53), (54, y225_54)]), (up L [(16, y225_16), (55, y225_55)])) H locs) → lv_has ls 2 [(0, .ref h0), (1, .int (II v225_1))] → ((-2147483648 : Int) ≤ v225_1 ∧ v225_1 ≤ 2147483647) → ((0 ≤ (y225_8) ∧ (y225_8) ≤ (f 4) ∧ (y225_8) ≤ (y225_9) ∧ (y225_9) ≤ (f 4) + 1 ∧ ((y225_7) = 0 ↔ (y225_8) = (f 4)) ∧ (2 ≤ (y225_7) → (y225_8) < (y225_9) ∧ (y225_9) ≤ (f 4)) ∧ ((y225_7) = 5 → (y225_8) + 2 ≤ (y225_9) ∧ (y225_9) ≤ (y225_8) + 32))) → ((f 8) ≤ (y225_8)) → (((y225_5) = 0 → (f 5) = 0 ∧ (f 8) + 1 ≤ (y225_8) ∧ (y225_62) ≤ (y225_22))) → (2 * (y225_22) ≤ (y225_8) + 1) → ((y225_62) = (f 62) + 1) → ((f 22) ≤ (y225_22)) → (AIp (y225_22) y225_18 y225_20 y225_21) → (APe (f 22) (A 20) (A 21) y225_20 y225_21) → (TXI y225_51 y225_52) → ((v225_1) = 1600 * (f 3) + (f 62)) → (y225_52 ((v225_1)).toNat ≤ 0) → (((y225_5) = 0 → UTI (f 3) ((f 62) + 1) (y225_22) y225_20 y225_21)) → W p l e ({ frames := 5, cells := 0, slots := 0, locals := 109 }) s m args below meth c H locs 0 0 (MQ below (mQi D dA h0 ad (f, g, A, L) s.heap.size PST) args s 0 0 (mF dA h0 ad (f, g, A, L) s.heap.size)) (F0 m 225 ls []) := by
    intro v225_1 y225_8 y225_9 y225_7 y225_10 y225_5 y225_6 y225_22 y225_62 y225_11 y225_17 y225_18 y225_19 y225_20 y225_21 y225_47 y225_48 y225_49 y225_50 y225_51 y225_52 y225_53 y225_54 y225_16 y225_55 H locs ls hM hl hJJ225_0 hJJ225_1 hJJ225_2 hJJ225_3 hJJ225_4 hJJ225_5 hJJ225_6 hJJ225_7 hJJ225_8 hJJ225_9 hJJ225_10 hJJ225_11 hJJ225_12
    have r8 : (0 : Int) ≤ y225_8 ∧ y225_8 ≤ 3001 := hM.2.2.2.1 8
    have r9 : (0 : Int) ≤ y225_9 ∧ y225_9 ≤ 3002 := hM.2.2.2.1 9
    have r10 : (0 : Int) ≤ y225_7 ∧ y225_7 ≤ 6 := hM.2.2.2.1 7
    have r11 : (-2147483648 : Int) ≤ y225_10 ∧ y225_10 ≤ 2147483647 := hM.2.2.2.1 10
    have r12 : (-2147483648 : Int) ≤ y225_5 ∧ y225_5 ≤ 2147483647 := hM.2.2.2.1 5
    have r13 : (-2147483648 : Int) ≤ y225_6 ∧ y225_6 ≤ 2147483647 := hM.2.2.2.1 6
    have r14 : (0 : Int) ≤ y225_22 ∧ y225_22 ≤ 1600 := hM.2.2.2.1 22
    have r15 : (0 : Int) ≤ y225_62 ∧ y225_62 ≤ 1590 := hM.2.2.2.1 62
    refine lv_aload_n B.1 B.2.1 dX12_readUse_225 rfl (lv_at hl 0 rfl) ?_
    refine m_calli (n := 0) (rest := []) B hM hA hl.1 (k_isGood l D dA h0 ad (up f [(8, y225_8), (9, y225_9), (7, y225_7), (10, y225_10), (5, y225_5), (6, y225_6), (22, y225_22), (62, y225_62)]) (up g [(11, y225_11)]) (up A [(17, y225_17), (18, y225_18), (19, y225_19), (20, y225_20), (21, y225_21), (47, y225_47), (48, y225_48), (49, y225_49), (50, y225_50), (51, y225_51), (52, y225_52), (53, y225_53), (54, y225_54)]) (up L [(16, y225_16), (55, y225_55)])   ) rfl ok_isGood nm_isGood ⟨rfl, rfl⟩ ⟨Nat.le_of_ble_eq_true rfl, Nat.le_of_ble_eq_true rfl⟩ dX12_readUse_226 rfl rfl (Nat.le_of_ble_eq_true rfl) ⟨Nat.zero_le _, Nat.zero_le _⟩ (fun r16 σr16 H locs ir16 hp17 hM => ?_)
    obtain ⟨rfl, hp17⟩ := hp17
    unfold inr at ir16
    replace hp17 : 0 ≤ r16 ∧ r16 ≤ 1 ∧ (r16 = 1 ↔ (y225_5) = 0) := hp17
    obtain ⟨hp17_0, hp17_1, hp17_2⟩ := hp17
    refine q_ieq (tgt := 282) B dX12_readUse_229 (by decide) (by unfold inr; omega) (fun c18 => ?_) (fun c18 => ?_)
    · refine lv_iload_n B.1 B.2.1 dX12_readUse_282 rfl (lv_at hl 1 rfl) ?_
      subst hPST
      exact m_iret B hM dX12_readUse_283 (by unfold inr; omega) ⟨y225_8, y225_9, y225_7, y225_10, y225_5, y225_6, y225_22, y225_62, y225_11, y225_17, y225_18, y225_19, y225_20, y225_21, y225_47, y225_48, y225_49, y225_50, y225_51, y225_52, y225_53, y225_54, y225_16, y225_55, rfl, by (refine ⟨by omega, by omega, by omega, by omega, by omega, by omega, by omega, by assumption, by assumption, ?_, ?_⟩; (first | assumption | exact TXI_put (by assumption) (by omega) (by omega)); (first | assumption | (intro hq; exact hJJ225_12 (by omega))))⟩
    · refine lv_aload_n B.1 B.2.1 dX12_readUse_232 rfl (lv_at hl 0 rfl) ?_
      refine m_get (k := 7) (v := y225_7) B hM (by decide) rfl fl66 dX12_readUse_233 rfl ?_
      refine q_con B dX12_readUse_236 ?_
      refine q_cne (tgt := 282) B dX12_readUse_237 (by decide) (by unfold inr; omega) (by unfold inr; omega) (fun c19 => ?_) (fun c19 => ?_)
      · refine lv_iload_n B.1 B.2.1 dX12_readUse_282 rfl (lv_at hl 1 rfl) ?_
        subst hPST
        exact m_iret B hM dX12_readUse_283 (by unfold inr; omega) ⟨y225_8, y225_9, y225_7, y225_10, y225_5, y225_6, y225_22, y225_62, y225_11, y225_17, y225_18, y225_19, y225_20, y225_21, y225_47, y225_48, y225_49, y225_50, y225_51, y225_52, y225_53, y225_54, y225_16, y225_55, rfl, by (refine ⟨by omega, by omega, by omega, by omega, by omega, by omega, by omega, by assumption, by assumption, ?_, ?_⟩; (first | assumption | exact TXI_put (by assumption) (by omega) (by omega)); (first | assumption | (intro hq; exact hJJ225_12 (by omega))))⟩
      · refine lv_aload_n B.1 B.2.1 dX12_readUse_240 rfl (lv_at hl 0 rfl) ?_
        refine m_geta (k := 51) B hM (by decide) rfl fl247 dX12_readUse_241 ?_
        refine lv_iload_n B.1 B.2.1 dX12_readUse_244 rfl (lv_at hl 1 rfl) ?_
        refine q_sip B dX12_readUse_245 (by decide) ?_
        refine lv_aload_n B.1 B.2.1 dX12_readUse_248 rfl (lv_at hl 0 rfl) ?_
        refine m_get (k := 3) (v := f 3) B hM (by decide) rfl fl11 dX12_readUse_249 rfl ?_
        refine q_mul B dX12_readUse_252 ?_
        refine lv_aload_n B.1 B.2.1 dX12_readUse_253 rfl (lv_at hl 0 rfl) ?_
        refine m_get (k := 8) (v := y225_8) B hM (by decide) rfl fl59 dX12_readUse_254 rfl ?_
        refine q_add B dX12_readUse_257 ?_
        refine q_con B dX12_readUse_258 ?_
        refine q_add B dX12_readUse_259 ?_
        refine m_ist (k := 51) (i := 39) (n := 3200) B hM rfl rfl rfl (by decide) dX12_readUse_260 (by omega) (by omega) (show (0 : Int) ≤ ((3000 * (f 3)) + y225_8) + 1 from by first | omega | (simp only [wr_at]; omega)) (show ((3000 * (f 3)) + y225_8) + 1 ≤ (6000 : Int) from by first | omega | (simp only [wr_at]; omega)) (u1_up A [(17, y225_17), (18, y225_18), (19, y225_19), (20, y225_20), (21, y225_21), (47, y225_47), (48, y225_48), (49, y225_49), (50, y225_50), (51, y225_51), (52, y225_52), (53, y225_53), (54, y225_54)] 51 (wr y225_51 v225_1 (((3000 * (f 3)) + y225_8) + 1))) (fun H locs hM => ?_)
        replace hM : MWd D dA h0 ad (mF dA h0 ad (f, g, A, L) s.heap.size) s.heap ((up f [(8, y225_8), (9, y225_9), (7, y225_7), (10, y225_10), (5, y225_5), (6, y225_6), (22, y225_22), (62, y225_62)]), (up g [(11, y225_11)]), (up A [(17, y225_17), (18, y225_18), (19, y225_19), (20, y225_20), (21, y225_21), (47, y225_47), (48, y225_48), (49, y225_49), (50, y225_50), (51, (wr y225_51 v225_1 (((3000 * (f 3)) + y225_8) + 1))), (52, y225_52), (53, y225_53), (54, y225_54)]), (up L [(16, y225_16), (55, y225_55)])) H locs := hM
        refine lv_aload_n B.1 B.2.1 dX12_readUse_261 rfl (lv_at hl 0 rfl) ?_
        refine m_geta (k := 52) B hM (by decide) rfl fl250 dX12_readUse_262 ?_
        refine lv_iload_n B.1 B.2.1 dX12_readUse_265 rfl (lv_at hl 1 rfl) ?_
        refine lv_aload_n B.1 B.2.1 dX12_readUse_266 rfl (lv_at hl 0 rfl) ?_
        refine m_get (k := 9) (v := y225_9) B hM (by decide) rfl fl56 dX12_readUse_267 rfl ?_
        refine lv_aload_n B.1 B.2.1 dX12_readUse_270 rfl (lv_at hl 0 rfl) ?_
        refine m_get (k := 8) (v := y225_8) B hM (by decide) rfl fl59 dX12_readUse_271 rfl ?_
        refine q_sub B dX12_readUse_274 ?_
        refine q_con B dX12_readUse_275 ?_
        refine q_sub B dX12_readUse_276 ?_
        refine m_ist (k := 52) (i := 40) (n := 3200) B hM rfl rfl rfl (by decide) dX12_readUse_277 (by omega) (by omega) (show (-1 : Int) ≤ (y225_9 - y225_8) - 2 from by first | omega | (simp only [wr_at]; omega)) (show (y225_9 - y225_8) - 2 ≤ (30 : Int) from by first | omega | (simp only [wr_at]; omega)) (u1_up A [(17, y225_17), (18, y225_18), (19, y225_19), (20, y225_20), (21, y225_21), (47, y225_47), (48, y225_48), (49, y225_49), (50, y225_50), (51, (wr y225_51 v225_1 (((3000 * (f 3)) + y225_8) + 1))), (52, y225_52), (53, y225_53), (54, y225_54)] 52 (wr y225_52 v225_1 ((y225_9 - y225_8) - 2))) (fun H locs hM => ?_)
        replace hM : MWd D dA h0 ad (mF dA h0 ad (f, g, A, L) s.heap.size) s.heap ((up f [(8, y225_8), (9, y225_9), (7, y225_7), (10, y225_10), (5, y225_5), (6, y225_6), (22, y225_22), (62, y225_62)]), (up g [(11, y225_11)]), (up A [(17, y225_17), (18, y225_18), (19, y225_19), (20, y225_20), (21, y225_21), (47, y225_47), (48, y225_48), (49, y225_49), (50, y225_50), (51, (wr y225_51 v225_1 (((3000 * (f 3)) + y225_8) + 1))), (52, (wr y225_52 v225_1 ((y225_9 - y225_8) - 2))), (53, y225_53), (54, y225_54)]), (up L [(16, y225_16), (55, y225_55)])) H locs := hM
        refine lv_aload_n B.1 B.2.1 dX12_readUse_278 rfl (lv_at hl 0 rfl) ?_
        refine m_callv (n := 0) (rest := []) B hM hA hl.1 (k_next l D dA h0 ad (up f [(8, y225_8), (9, y225_9), (7, y225_7), (10, y225_10), (5, y225_5), (6, y225_6), (22, y225_22), (62, y225_62)]) (up g [(11, y225_11)]) (up A [(17, y225_17), (18, y225_18), (19, y225_19), (20, y225_20), (21, y225_21), (47, y225_47), (48, y225_48), (49, y225_49), (50, y225_50), (51, (wr y225_51 v225_1 (((3000 * (f 3)) + y225_8) + 1))), (52, (wr y225_52 v225_1 ((y225_9 - y225_8) - 2))), (53, y225_53), (54, y225_54)]) (up L [(16, y225_16), (55, y225_55)])   (show (y225_9) ≤ 3001 from by first | omega | (simp only [wr_at]; omega) | assumption)) rfl ok_next nm_next ⟨rfl, rfl⟩ ⟨Nat.le_of_ble_eq_true rfl, Nat.le_of_ble_eq_true rfl⟩ dX12_readUse_279 rfl rfl (Nat.le_of_ble_eq_true rfl) ⟨Nat.zero_le _, Nat.zero_le _⟩ (fun σr20 H locs hp21 hM => ?_)
        obtain ⟨x22, x23, x24, x25, w26, rfl, hp21⟩ := hp21
        replace hp21 : ((y225_9) ≤ (x22) ∨ (x22) = (f 4)) ∧ (0 ≤ (x22) ∧ (x22) ≤ (f 4) ∧ (x22) ≤ (x23) ∧ (x23) ≤ (f 4) + 1 ∧ ((x24) = 0 ↔ (x22) = (f 4)) ∧ (2 ≤ (x24) → (x22) < (x23) ∧ (x23) ≤ (f 4)) ∧ ((x24) = 5 → (x22) + 2 ≤ (x23) ∧ (x23) ≤ (x22) + 32)) := hp21
        obtain ⟨hp21_0, hp21_1⟩ := hp21
        simp only [up_up] at hM
        replace hM : MWd D dA h0 ad (mF dA h0 ad (f, g, A, L) s.heap.size) s.heap ((up f [(8, x22), (9, x23), (7, x24), (10, x25), (5, y225_5), (6, y225_6), (22, y225_22), (62, y225_62)]), (up g [(11, w26)]), (up A [(17, y225_17), (18, y225_18), (19, y225_19), (20, y225_20), (21, y225_21), (47, y225_47), (48, y225_48), (49, y225_49), (50, y225_50), (51, (wr y225_51 v225_1 (((3000 * (f 3)) + y225_8) + 1))), (52, (wr y225_52 v225_1 ((y225_9 - y225_8) - 2))), (53, y225_53), (54, y225_54)]), (up L [(16, y225_16), (55, y225_55)])) H locs := hM
        have r27 : (0 : Int) ≤ x22 ∧ x22 ≤ 3001 := hM.2.2.2.1 8
        have r28 : (0 : Int) ≤ x23 ∧ x23 ≤ 3002 := hM.2.2.2.1 9
        have r29 : (0 : Int) ≤ x24 ∧ x24 ≤ 6 := hM.2.2.2.1 7
        have r30 : (-2147483648 : Int) ≤ x25 ∧ x25 ≤ 2147483647 := hM.2.2.2.1 10
        refine lv_iload_n B.1 B.2.1 dX12_readUse_282 rfl (lv_at hl 1 rfl) ?_
        subst hPST
        exact m_iret B hM dX12_readUse_283 (by unfold inr; omega) ⟨x22, x23, x24, x25, y225_5, y225_6, y225_22, y225_62, w26, y225_17, y225_18, y225_19, y225_20, y225_21, y225_47, y225_48, y225_49, y225_50, ((wr y225_51 v225_1 (((3000 * (f 3)) + y225_8) + 1))), ((wr y225_52 v225_1 ((y225_9 - y225_8) - 2))), y225_53, y225_54, y225_16, y225_55, rfl, by (refine ⟨by omega, by omega, by omega, by omega, by omega, by omega, by omega, by assumption, by assumption, ?_, ?_⟩; (first | assumption | exact TXI_put (by assumption) (by omega) (by omega)); (first | assumption | (intro hq; exact hJJ225_12 (by omega))))⟩
  have JJ172 : ∀ (v172_1 : Int) (y172_8 : Int) (y172_9 : Int) (y172_7 : Int) (y172_10 : Int) (y172_5 : Int) (y172_6 : Int) (y172_22 : Int) (y172_62 : Int) (y172_11 : Int64) (y172_17 : Nat → Int) (y172_18 : Nat → Int) (y172_19 : Nat → Int) (y172_20 : Nat → Int) (y172_21 : Nat → Int) (y172_47 : Nat → Int) (y172_48 : Nat → Int) (y172_49 : Nat → Int) (y172_50 : Nat → Int) (y172_51 : Nat → Int) (y172_52 : Nat → Int) (y172_53 : Nat → Int) (y172_54 : Nat → Int) (y172_16 : Nat → Int64) (y172_55 : Nat → Int64) (H : Heap) (locs : List Loc) (ls : Array Slot), (MWd D dA h0 ad (mF dA h0 ad (f, g, A, L) s.heap.size) s.heap ((up f [(8, y172_8), (9, y172_9), (7, y172_7), (10, y172_10), (5, y172_5), (6, y172_6), (22, y172_22), (62, y172_62)]), (up g [(11, y172_11)]), (up A [(17, y172_17), (18, y172_18), (19, y172_19), (20, y172_20), (21, y172_21), (47, y172_47), (48, y172_48), (49, y172_49), (50, y172_50), (51, y172_51), (52, y172_52), (53, y172_53), (54, y172_54)]), (up L [(16, y172_16), (55, y172_55)])) H locs) → lv_has ls 2 [(0, .ref h0), (1, .int (II v172_1))] → ((-2147483648 : Int) ≤ v172_1 ∧ v172_1 ≤ 2147483647) → ((0 ≤ (y172_8) ∧ (y172_8) ≤ (f 4) ∧ (y172_8) ≤ (y172_9) ∧ (y172_9) ≤ (f 4) + 1 ∧ ((y172_7) = 0 ↔ (y172_8) = (f 4)) ∧ (2 ≤ (y172_7) → (y172_8) < (y172_9) ∧ (y172_9) ≤ (f 4)) ∧ ((y172_7) = 5 → (y172_8) + 2 ≤ (y172_9) ∧ (y172_9) ≤ (y172_8) + 32))) → ((f 8) ≤ (y172_8)) → (((y172_5) = 0 → (f 5) = 0 ∧ (f 8) + 1 ≤ (y172_8) ∧ (y172_62) ≤ (y172_22))) → (2 * (y172_22) ≤ (y172_8) + 1) → ((y172_62) = (f 62) + 1) → ((f 22) ≤ (y172_22)) → (AIp (y172_22) y172_18 y172_20 y172_21) → (APe (f 22) (A 20) (A 21) y172_20 y172_21) → (TXI y172_51 y172_52) → ((v172_1) = 1600 * (f 3) + (f 62)) → (y172_52 ((v172_1)).toNat ≤ 0) → (((y172_5) = 0 → UTI (f 3) ((f 62) + 1) (y172_22) y172_20 y172_21)) → W p l e ({ frames := 5, cells := 0, slots := 0, locals := 109 }) s m args below meth c H locs 0 0 (MQ below (mQi D dA h0 ad (f, g, A, L) s.heap.size PST) args s 0 0 (mF dA h0 ad (f, g, A, L) s.heap.size)) (F0 m 172 ls []) := by
    intro v172_1 y172_8 y172_9 y172_7 y172_10 y172_5 y172_6 y172_22 y172_62 y172_11 y172_17 y172_18 y172_19 y172_20 y172_21 y172_47 y172_48 y172_49 y172_50 y172_51 y172_52 y172_53 y172_54 y172_16 y172_55 H locs ls hM hl hJJ172_0 hJJ172_1 hJJ172_2 hJJ172_3 hJJ172_4 hJJ172_5 hJJ172_6 hJJ172_7 hJJ172_8 hJJ172_9 hJJ172_10 hJJ172_11 hJJ172_12
    have r31 : (0 : Int) ≤ y172_8 ∧ y172_8 ≤ 3001 := hM.2.2.2.1 8
    have r32 : (0 : Int) ≤ y172_9 ∧ y172_9 ≤ 3002 := hM.2.2.2.1 9
    have r33 : (0 : Int) ≤ y172_7 ∧ y172_7 ≤ 6 := hM.2.2.2.1 7
    have r34 : (-2147483648 : Int) ≤ y172_10 ∧ y172_10 ≤ 2147483647 := hM.2.2.2.1 10
    have r35 : (-2147483648 : Int) ≤ y172_5 ∧ y172_5 ≤ 2147483647 := hM.2.2.2.1 5
    have r36 : (-2147483648 : Int) ≤ y172_6 ∧ y172_6 ≤ 2147483647 := hM.2.2.2.1 6
    have r37 : (0 : Int) ≤ y172_22 ∧ y172_22 ≤ 1600 := hM.2.2.2.1 22
    have r38 : (0 : Int) ≤ y172_62 ∧ y172_62 ≤ 1590 := hM.2.2.2.1 62
    refine lv_aload_n B.1 B.2.1 dX12_readUse_172 rfl (lv_at hl 0 rfl) ?_
    refine m_calli (n := 0) (rest := []) B hM hA hl.1 (k_isGood l D dA h0 ad (up f [(8, y172_8), (9, y172_9), (7, y172_7), (10, y172_10), (5, y172_5), (6, y172_6), (22, y172_22), (62, y172_62)]) (up g [(11, y172_11)]) (up A [(17, y172_17), (18, y172_18), (19, y172_19), (20, y172_20), (21, y172_21), (47, y172_47), (48, y172_48), (49, y172_49), (50, y172_50), (51, y172_51), (52, y172_52), (53, y172_53), (54, y172_54)]) (up L [(16, y172_16), (55, y172_55)])   ) rfl ok_isGood nm_isGood ⟨rfl, rfl⟩ ⟨Nat.le_of_ble_eq_true rfl, Nat.le_of_ble_eq_true rfl⟩ dX12_readUse_173 rfl rfl (Nat.le_of_ble_eq_true rfl) ⟨Nat.zero_le _, Nat.zero_le _⟩ (fun r39 σr39 H locs ir39 hp40 hM => ?_)
    obtain ⟨rfl, hp40⟩ := hp40
    unfold inr at ir39
    replace hp40 : 0 ≤ r39 ∧ r39 ≤ 1 ∧ (r39 = 1 ↔ (y172_5) = 0) := hp40
    obtain ⟨hp40_0, hp40_1, hp40_2⟩ := hp40
    refine q_ieq (tgt := 225) B dX12_readUse_176 (by decide) (by unfold inr; omega) (fun c41 => ?_) (fun c41 => ?_)
    · exact JJ225 v172_1 y172_8 y172_9 y172_7 y172_10 y172_5 y172_6 y172_22 y172_62 y172_11 y172_17 y172_18 y172_19 y172_20 y172_21 y172_47 y172_48 y172_49 y172_50 y172_51 y172_52 y172_53 y172_54 y172_16 y172_55 _ _ ls hM (lv_sub hl [0, 1] rfl) (by omega) (by first | omega | (simp only [wr_at]; omega) | assumption) (by first | omega | (simp only [wr_at]; omega) | assumption) (by first | omega | (simp only [wr_at]; omega) | assumption) (by first | omega | (simp only [wr_at]; omega) | assumption) (by first | omega | (simp only [wr_at]; omega) | assumption) (by first | omega | (simp only [wr_at]; omega) | assumption) (by first | omega | (simp only [wr_at]; omega) | assumption) (by first | assumption | exact APe_rfl | exact APe_trans (by assumption) (by assumption) (by omega)) (by first | assumption | exact TXI_neg (by assumption) (by omega)) (by first | omega | (simp only [wr_at]; omega) | assumption) (by first | assumption | omega | (simp only [wr_at]; omega)) (by first | assumption | (intro hq; exfalso; omega) | (intro hq; have hz := ‹_ = 0 → _ ∧ _ ∧ _ ∧ _ = _ + 1 ∧ _ ∧ _› hq; exact UTI_ask (p_6 (by omega)) (by assumption) (by omega) hz.2.2.2.1 hz.2.2.2.2.1 hz.2.2.2.2.2) | (intro hq; exact UTI_step (‹_ = 0 → UTI _ _ _ _ _› (by omega)) (by first | assumption | exact APe_rfl) (by omega)))
    · refine lv_aload_n B.1 B.2.1 dX12_readUse_179 rfl (lv_at hl 0 rfl) ?_
      refine q_bip B dX12_readUse_180 (by decide) ?_
      refine m_calli (n := 1) (rest := []) B hM hA hl.1 (k_isSign l D dA h0 ad (up f [(8, y172_8), (9, y172_9), (7, y172_7), (10, y172_10), (5, y172_5), (6, y172_6), (22, y172_22), (62, y172_62)]) (up g [(11, y172_11)]) (up A [(17, y172_17), (18, y172_18), (19, y172_19), (20, y172_20), (21, y172_21), (47, y172_47), (48, y172_48), (49, y172_49), (50, y172_50), (51, y172_51), (52, y172_52), (53, y172_53), (54, y172_54)]) (up L [(16, y172_16), (55, y172_55)]) 35 (by omega) (show (0 ≤ (y172_8) ∧ (y172_8) ≤ (f 4) ∧ (y172_8) ≤ (y172_9) ∧ (y172_9) ≤ (f 4) + 1 ∧ ((y172_7) = 0 ↔ (y172_8) = (f 4)) ∧ (2 ≤ (y172_7) → (y172_8) < (y172_9) ∧ (y172_9) ≤ (f 4)) ∧ ((y172_7) = 5 → (y172_8) + 2 ≤ (y172_9) ∧ (y172_9) ≤ (y172_8) + 32)) from by first | omega | (simp only [wr_at]; omega) | assumption)) rfl ok_isSign nm_isSign ⟨rfl, rfl⟩ ⟨Nat.le_of_ble_eq_true rfl, Nat.le_of_ble_eq_true rfl⟩ dX12_readUse_182 rfl rfl (Nat.le_of_ble_eq_true rfl) ⟨Nat.zero_le _, Nat.zero_le _⟩ (fun r42 σr42 H locs ir42 hp43 hM => ?_)
      obtain ⟨rfl, hp43⟩ := hp43
      unfold inr at ir42
      replace hp43 : 0 ≤ r42 ∧ r42 ≤ 1 ∧ (r42 = 1 ↔ (y172_7) = 6 ∧ sgn ((A 2)) (f 3) (f 4) (y172_8) = (35)) := hp43
      obtain ⟨hp43_0, hp43_1, hp43_2⟩ := hp43
      refine q_ieq (tgt := 225) B dX12_readUse_185 (by decide) (by unfold inr; omega) (fun c44 => ?_) (fun c44 => ?_)
      · exact JJ225 v172_1 y172_8 y172_9 y172_7 y172_10 y172_5 y172_6 y172_22 y172_62 y172_11 y172_17 y172_18 y172_19 y172_20 y172_21 y172_47 y172_48 y172_49 y172_50 y172_51 y172_52 y172_53 y172_54 y172_16 y172_55 _ _ ls hM (lv_sub hl [0, 1] rfl) (by omega) (by first | omega | (simp only [wr_at]; omega) | assumption) (by first | omega | (simp only [wr_at]; omega) | assumption) (by first | omega | (simp only [wr_at]; omega) | assumption) (by first | omega | (simp only [wr_at]; omega) | assumption) (by first | omega | (simp only [wr_at]; omega) | assumption) (by first | omega | (simp only [wr_at]; omega) | assumption) (by first | omega | (simp only [wr_at]; omega) | assumption) (by first | assumption | exact APe_rfl | exact APe_trans (by assumption) (by assumption) (by omega)) (by first | assumption | exact TXI_neg (by assumption) (by omega)) (by first | omega | (simp only [wr_at]; omega) | assumption) (by first | assumption | omega | (simp only [wr_at]; omega)) (by first | assumption | (intro hq; exfalso; omega) | (intro hq; have hz := ‹_ = 0 → _ ∧ _ ∧ _ ∧ _ = _ + 1 ∧ _ ∧ _› hq; exact UTI_ask (p_6 (by omega)) (by assumption) (by omega) hz.2.2.2.1 hz.2.2.2.2.1 hz.2.2.2.2.2) | (intro hq; exact UTI_step (‹_ = 0 → UTI _ _ _ _ _› (by omega)) (by first | assumption | exact APe_rfl) (by omega)))
      · refine lv_aload_n B.1 B.2.1 dX12_readUse_188 rfl (lv_at hl 0 rfl) ?_
        refine m_callv (n := 0) (rest := []) B hM hA hl.1 (k_next l D dA h0 ad (up f [(8, y172_8), (9, y172_9), (7, y172_7), (10, y172_10), (5, y172_5), (6, y172_6), (22, y172_22), (62, y172_62)]) (up g [(11, y172_11)]) (up A [(17, y172_17), (18, y172_18), (19, y172_19), (20, y172_20), (21, y172_21), (47, y172_47), (48, y172_48), (49, y172_49), (50, y172_50), (51, y172_51), (52, y172_52), (53, y172_53), (54, y172_54)]) (up L [(16, y172_16), (55, y172_55)])   (show (y172_9) ≤ 3001 from by first | omega | (simp only [wr_at]; omega) | assumption)) rfl ok_next nm_next ⟨rfl, rfl⟩ ⟨Nat.le_of_ble_eq_true rfl, Nat.le_of_ble_eq_true rfl⟩ dX12_readUse_189 rfl rfl (Nat.le_of_ble_eq_true rfl) ⟨Nat.zero_le _, Nat.zero_le _⟩ (fun σr45 H locs hp46 hM => ?_)
        obtain ⟨x47, x48, x49, x50, w51, rfl, hp46⟩ := hp46
        replace hp46 : ((y172_9) ≤ (x47) ∨ (x47) = (f 4)) ∧ (0 ≤ (x47) ∧ (x47) ≤ (f 4) ∧ (x47) ≤ (x48) ∧ (x48) ≤ (f 4) + 1 ∧ ((x49) = 0 ↔ (x47) = (f 4)) ∧ (2 ≤ (x49) → (x47) < (x48) ∧ (x48) ≤ (f 4)) ∧ ((x49) = 5 → (x47) + 2 ≤ (x48) ∧ (x48) ≤ (x47) + 32)) := hp46
        obtain ⟨hp46_0, hp46_1⟩ := hp46
        simp only [up_up] at hM
        replace hM : MWd D dA h0 ad (mF dA h0 ad (f, g, A, L) s.heap.size) s.heap ((up f [(8, x47), (9, x48), (7, x49), (10, x50), (5, y172_5), (6, y172_6), (22, y172_22), (62, y172_62)]), (up g [(11, w51)]), (up A [(17, y172_17), (18, y172_18), (19, y172_19), (20, y172_20), (21, y172_21), (47, y172_47), (48, y172_48), (49, y172_49), (50, y172_50), (51, y172_51), (52, y172_52), (53, y172_53), (54, y172_54)]), (up L [(16, y172_16), (55, y172_55)])) H locs := hM
        have r52 : (0 : Int) ≤ x47 ∧ x47 ≤ 3001 := hM.2.2.2.1 8
        have r53 : (0 : Int) ≤ x48 ∧ x48 ≤ 3002 := hM.2.2.2.1 9
        have r54 : (0 : Int) ≤ x49 ∧ x49 ≤ 6 := hM.2.2.2.1 7
        have r55 : (-2147483648 : Int) ≤ x50 ∧ x50 ≤ 2147483647 := hM.2.2.2.1 10
        refine lv_aload_n B.1 B.2.1 dX12_readUse_192 rfl (lv_at hl 0 rfl) ?_
        refine m_get (k := 7) (v := x49) B hM (by decide) rfl fl66 dX12_readUse_193 rfl ?_
        refine q_con B dX12_readUse_196 ?_
        refine q_ceq (tgt := 204) B dX12_readUse_197 (by decide) (by unfold inr; omega) (by unfold inr; omega) (fun c56 => ?_) (fun c56 => ?_)
        · refine lv_aload_n B.1 B.2.1 dX12_readUse_204 rfl (lv_at hl 0 rfl) ?_
          refine m_geta (k := 50) B hM (by decide) rfl fl244 dX12_readUse_205 ?_
          refine lv_iload_n B.1 B.2.1 dX12_readUse_208 rfl (lv_at hl 1 rfl) ?_
          refine lv_aload_n B.1 B.2.1 dX12_readUse_209 rfl (lv_at hl 0 rfl) ?_
          refine m_get (k := 10) (v := x50) B hM (by decide) rfl fl91 dX12_readUse_210 rfl ?_
          refine m_ist (k := 50) (i := 38) (n := 3200) B hM rfl rfl rfl (by decide) dX12_readUse_213 (by omega) (by omega) (show (-2147483648 : Int) ≤ x50 from by first | omega | (simp only [wr_at]; omega)) (show x50 ≤ (2147483647 : Int) from by first | omega | (simp only [wr_at]; omega)) (u1_up A [(17, y172_17), (18, y172_18), (19, y172_19), (20, y172_20), (21, y172_21), (47, y172_47), (48, y172_48), (49, y172_49), (50, y172_50), (51, y172_51), (52, y172_52), (53, y172_53), (54, y172_54)] 50 (wr y172_50 v172_1 x50)) (fun H locs hM => ?_)
          replace hM : MWd D dA h0 ad (mF dA h0 ad (f, g, A, L) s.heap.size) s.heap ((up f [(8, x47), (9, x48), (7, x49), (10, x50), (5, y172_5), (6, y172_6), (22, y172_22), (62, y172_62)]), (up g [(11, w51)]), (up A [(17, y172_17), (18, y172_18), (19, y172_19), (20, y172_20), (21, y172_21), (47, y172_47), (48, y172_48), (49, y172_49), (50, (wr y172_50 v172_1 x50)), (51, y172_51), (52, y172_52), (53, y172_53), (54, y172_54)]), (up L [(16, y172_16), (55, y172_55)])) H locs := hM
          refine lv_aload_n B.1 B.2.1 dX12_readUse_214 rfl (lv_at hl 0 rfl) ?_
          refine m_geta (k := 53) B hM (by decide) rfl fl253 dX12_readUse_215 ?_
          refine lv_iload_n B.1 B.2.1 dX12_readUse_218 rfl (lv_at hl 1 rfl) ?_
          refine q_con B dX12_readUse_219 ?_
          refine m_zst (k := 53) (i := 41) (n := 3200) B hM rfl rfl rfl (by decide) dX12_readUse_220 (by omega) (by omega) (by omega) (show (0 : Int) ≤ 1 from by first | omega | (simp only [wr_at]; omega)) (show 1 ≤ (1 : Int) from by first | omega | (simp only [wr_at]; omega)) (u1_up A [(17, y172_17), (18, y172_18), (19, y172_19), (20, y172_20), (21, y172_21), (47, y172_47), (48, y172_48), (49, y172_49), (50, (wr y172_50 v172_1 x50)), (51, y172_51), (52, y172_52), (53, y172_53), (54, y172_54)] 53 (wr y172_53 v172_1 1)) (fun H locs hM => ?_)
          replace hM : MWd D dA h0 ad (mF dA h0 ad (f, g, A, L) s.heap.size) s.heap ((up f [(8, x47), (9, x48), (7, x49), (10, x50), (5, y172_5), (6, y172_6), (22, y172_22), (62, y172_62)]), (up g [(11, w51)]), (up A [(17, y172_17), (18, y172_18), (19, y172_19), (20, y172_20), (21, y172_21), (47, y172_47), (48, y172_48), (49, y172_49), (50, (wr y172_50 v172_1 x50)), (51, y172_51), (52, y172_52), (53, (wr y172_53 v172_1 1)), (54, y172_54)]), (up L [(16, y172_16), (55, y172_55)])) H locs := hM
          refine lv_aload_n B.1 B.2.1 dX12_readUse_221 rfl (lv_at hl 0 rfl) ?_
          refine m_callv (n := 0) (rest := []) B hM hA hl.1 (k_next l D dA h0 ad (up f [(8, x47), (9, x48), (7, x49), (10, x50), (5, y172_5), (6, y172_6), (22, y172_22), (62, y172_62)]) (up g [(11, w51)]) (up A [(17, y172_17), (18, y172_18), (19, y172_19), (20, y172_20), (21, y172_21), (47, y172_47), (48, y172_48), (49, y172_49), (50, (wr y172_50 v172_1 x50)), (51, y172_51), (52, y172_52), (53, (wr y172_53 v172_1 1)), (54, y172_54)]) (up L [(16, y172_16), (55, y172_55)])   (show (x48) ≤ 3001 from by first | omega | (simp only [wr_at]; omega) | assumption)) rfl ok_next nm_next ⟨rfl, rfl⟩ ⟨Nat.le_of_ble_eq_true rfl, Nat.le_of_ble_eq_true rfl⟩ dX12_readUse_222 rfl rfl (Nat.le_of_ble_eq_true rfl) ⟨Nat.zero_le _, Nat.zero_le _⟩ (fun σr57 H locs hp58 hM => ?_)
          obtain ⟨x59, x60, x61, x62, w63, rfl, hp58⟩ := hp58
          replace hp58 : ((x48) ≤ (x59) ∨ (x59) = (f 4)) ∧ (0 ≤ (x59) ∧ (x59) ≤ (f 4) ∧ (x59) ≤ (x60) ∧ (x60) ≤ (f 4) + 1 ∧ ((x61) = 0 ↔ (x59) = (f 4)) ∧ (2 ≤ (x61) → (x59) < (x60) ∧ (x60) ≤ (f 4)) ∧ ((x61) = 5 → (x59) + 2 ≤ (x60) ∧ (x60) ≤ (x59) + 32)) := hp58
          obtain ⟨hp58_0, hp58_1⟩ := hp58
          simp only [up_up] at hM
          replace hM : MWd D dA h0 ad (mF dA h0 ad (f, g, A, L) s.heap.size) s.heap ((up f [(8, x59), (9, x60), (7, x61), (10, x62), (5, y172_5), (6, y172_6), (22, y172_22), (62, y172_62)]), (up g [(11, w63)]), (up A [(17, y172_17), (18, y172_18), (19, y172_19), (20, y172_20), (21, y172_21), (47, y172_47), (48, y172_48), (49, y172_49), (50, (wr y172_50 v172_1 x50)), (51, y172_51), (52, y172_52), (53, (wr y172_53 v172_1 1)), (54, y172_54)]), (up L [(16, y172_16), (55, y172_55)])) H locs := hM
          have r64 : (0 : Int) ≤ x59 ∧ x59 ≤ 3001 := hM.2.2.2.1 8
          have r65 : (0 : Int) ≤ x60 ∧ x60 ≤ 3002 := hM.2.2.2.1 9
          have r66 : (0 : Int) ≤ x61 ∧ x61 ≤ 6 := hM.2.2.2.1 7
          have r67 : (-2147483648 : Int) ≤ x62 ∧ x62 ≤ 2147483647 := hM.2.2.2.1 10
          exact JJ225 v172_1 x59 x60 x61 x62 y172_5 y172_6 y172_22 y172_62 w63 y172_17 y172_18 y172_19 y172_20 y172_21 y172_47 y172_48 y172_49 ((wr y172_50 v172_1 x50)) y172_51 y172_52 ((wr y172_53 v172_1 1)) y172_54 y172_16 y172_55 _ _ ls hM (lv_sub hl [0, 1] rfl) (by omega) (by first | omega | (simp only [wr_at]; omega) | assumption) (by first | omega | (simp only [wr_at]; omega) | assumption) (by first | omega | (simp only [wr_at]; omega) | assumption) (by first | omega | (simp only [wr_at]; omega) | assumption) (by first | omega | (simp only [wr_at]; omega) | assumption) (by first | omega | (simp only [wr_at]; omega) | assumption) (by first | omega | (simp only [wr_at]; omega) | assumption) (by first | assumption | exact APe_rfl | exact APe_trans (by assumption) (by assumption) (by omega)) (by first | assumption | exact TXI_neg (by assumption) (by omega)) (by first | omega | (simp only [wr_at]; omega) | assumption) (by first | assumption | omega | (simp only [wr_at]; omega)) (by first | assumption | (intro hq; exfalso; omega) | (intro hq; have hz := ‹_ = 0 → _ ∧ _ ∧ _ ∧ _ = _ + 1 ∧ _ ∧ _› hq; exact UTI_ask (p_6 (by omega)) (by assumption) (by omega) hz.2.2.2.1 hz.2.2.2.2.1 hz.2.2.2.2.2) | (intro hq; exact UTI_step (‹_ = 0 → UTI _ _ _ _ _› (by omega)) (by first | assumption | exact APe_rfl) (by omega)))
        · refine lv_aload_n B.1 B.2.1 dX12_readUse_200 rfl (lv_at hl 0 rfl) ?_
          refine m_callv (n := 0) (rest := []) B hM hA hl.1 (k_wrong l D dA h0 ad (up f [(8, x47), (9, x48), (7, x49), (10, x50), (5, y172_5), (6, y172_6), (22, y172_22), (62, y172_62)]) (up g [(11, w51)]) (up A [(17, y172_17), (18, y172_18), (19, y172_19), (20, y172_20), (21, y172_21), (47, y172_47), (48, y172_48), (49, y172_49), (50, y172_50), (51, y172_51), (52, y172_52), (53, y172_53), (54, y172_54)]) (up L [(16, y172_16), (55, y172_55)])   ) rfl ok_wrong nm_wrong ⟨rfl, rfl⟩ ⟨Nat.le_of_ble_eq_true rfl, Nat.le_of_ble_eq_true rfl⟩ dX12_readUse_201 rfl rfl (Nat.le_of_ble_eq_true rfl) ⟨Nat.zero_le _, Nat.zero_le _⟩ (fun σr68 H locs hp69 hM => ?_)
          obtain ⟨x70, x71, rfl, hp69⟩ := hp69
          replace hp69 : (x70) ≠ 0 := hp69
          simp only [up_up] at hM
          replace hM : MWd D dA h0 ad (mF dA h0 ad (f, g, A, L) s.heap.size) s.heap ((up f [(8, x47), (9, x48), (7, x49), (10, x50), (5, x70), (6, x71), (22, y172_22), (62, y172_62)]), (up g [(11, w51)]), (up A [(17, y172_17), (18, y172_18), (19, y172_19), (20, y172_20), (21, y172_21), (47, y172_47), (48, y172_48), (49, y172_49), (50, y172_50), (51, y172_51), (52, y172_52), (53, y172_53), (54, y172_54)]), (up L [(16, y172_16), (55, y172_55)])) H locs := hM
          have r72 : (-2147483648 : Int) ≤ x70 ∧ x70 ≤ 2147483647 := hM.2.2.2.1 5
          have r73 : (-2147483648 : Int) ≤ x71 ∧ x71 ≤ 2147483647 := hM.2.2.2.1 6
          refine lv_aload_n B.1 B.2.1 dX12_readUse_204 rfl (lv_at hl 0 rfl) ?_
          refine m_geta (k := 50) B hM (by decide) rfl fl244 dX12_readUse_205 ?_
          refine lv_iload_n B.1 B.2.1 dX12_readUse_208 rfl (lv_at hl 1 rfl) ?_
          refine lv_aload_n B.1 B.2.1 dX12_readUse_209 rfl (lv_at hl 0 rfl) ?_
          refine m_get (k := 10) (v := x50) B hM (by decide) rfl fl91 dX12_readUse_210 rfl ?_
          refine m_ist (k := 50) (i := 38) (n := 3200) B hM rfl rfl rfl (by decide) dX12_readUse_213 (by omega) (by omega) (show (-2147483648 : Int) ≤ x50 from by first | omega | (simp only [wr_at]; omega)) (show x50 ≤ (2147483647 : Int) from by first | omega | (simp only [wr_at]; omega)) (u1_up A [(17, y172_17), (18, y172_18), (19, y172_19), (20, y172_20), (21, y172_21), (47, y172_47), (48, y172_48), (49, y172_49), (50, y172_50), (51, y172_51), (52, y172_52), (53, y172_53), (54, y172_54)] 50 (wr y172_50 v172_1 x50)) (fun H locs hM => ?_)
          replace hM : MWd D dA h0 ad (mF dA h0 ad (f, g, A, L) s.heap.size) s.heap ((up f [(8, x47), (9, x48), (7, x49), (10, x50), (5, x70), (6, x71), (22, y172_22), (62, y172_62)]), (up g [(11, w51)]), (up A [(17, y172_17), (18, y172_18), (19, y172_19), (20, y172_20), (21, y172_21), (47, y172_47), (48, y172_48), (49, y172_49), (50, (wr y172_50 v172_1 x50)), (51, y172_51), (52, y172_52), (53, y172_53), (54, y172_54)]), (up L [(16, y172_16), (55, y172_55)])) H locs := hM
          refine lv_aload_n B.1 B.2.1 dX12_readUse_214 rfl (lv_at hl 0 rfl) ?_
          refine m_geta (k := 53) B hM (by decide) rfl fl253 dX12_readUse_215 ?_
          refine lv_iload_n B.1 B.2.1 dX12_readUse_218 rfl (lv_at hl 1 rfl) ?_
          refine q_con B dX12_readUse_219 ?_
          refine m_zst (k := 53) (i := 41) (n := 3200) B hM rfl rfl rfl (by decide) dX12_readUse_220 (by omega) (by omega) (by omega) (show (0 : Int) ≤ 1 from by first | omega | (simp only [wr_at]; omega)) (show 1 ≤ (1 : Int) from by first | omega | (simp only [wr_at]; omega)) (u1_up A [(17, y172_17), (18, y172_18), (19, y172_19), (20, y172_20), (21, y172_21), (47, y172_47), (48, y172_48), (49, y172_49), (50, (wr y172_50 v172_1 x50)), (51, y172_51), (52, y172_52), (53, y172_53), (54, y172_54)] 53 (wr y172_53 v172_1 1)) (fun H locs hM => ?_)
          replace hM : MWd D dA h0 ad (mF dA h0 ad (f, g, A, L) s.heap.size) s.heap ((up f [(8, x47), (9, x48), (7, x49), (10, x50), (5, x70), (6, x71), (22, y172_22), (62, y172_62)]), (up g [(11, w51)]), (up A [(17, y172_17), (18, y172_18), (19, y172_19), (20, y172_20), (21, y172_21), (47, y172_47), (48, y172_48), (49, y172_49), (50, (wr y172_50 v172_1 x50)), (51, y172_51), (52, y172_52), (53, (wr y172_53 v172_1 1)), (54, y172_54)]), (up L [(16, y172_16), (55, y172_55)])) H locs := hM
          refine lv_aload_n B.1 B.2.1 dX12_readUse_221 rfl (lv_at hl 0 rfl) ?_
          refine m_callv (n := 0) (rest := []) B hM hA hl.1 (k_next l D dA h0 ad (up f [(8, x47), (9, x48), (7, x49), (10, x50), (5, x70), (6, x71), (22, y172_22), (62, y172_62)]) (up g [(11, w51)]) (up A [(17, y172_17), (18, y172_18), (19, y172_19), (20, y172_20), (21, y172_21), (47, y172_47), (48, y172_48), (49, y172_49), (50, (wr y172_50 v172_1 x50)), (51, y172_51), (52, y172_52), (53, (wr y172_53 v172_1 1)), (54, y172_54)]) (up L [(16, y172_16), (55, y172_55)])   (show (x48) ≤ 3001 from by first | omega | (simp only [wr_at]; omega) | assumption)) rfl ok_next nm_next ⟨rfl, rfl⟩ ⟨Nat.le_of_ble_eq_true rfl, Nat.le_of_ble_eq_true rfl⟩ dX12_readUse_222 rfl rfl (Nat.le_of_ble_eq_true rfl) ⟨Nat.zero_le _, Nat.zero_le _⟩ (fun σr74 H locs hp75 hM => ?_)
          obtain ⟨x76, x77, x78, x79, w80, rfl, hp75⟩ := hp75
          replace hp75 : ((x48) ≤ (x76) ∨ (x76) = (f 4)) ∧ (0 ≤ (x76) ∧ (x76) ≤ (f 4) ∧ (x76) ≤ (x77) ∧ (x77) ≤ (f 4) + 1 ∧ ((x78) = 0 ↔ (x76) = (f 4)) ∧ (2 ≤ (x78) → (x76) < (x77) ∧ (x77) ≤ (f 4)) ∧ ((x78) = 5 → (x76) + 2 ≤ (x77) ∧ (x77) ≤ (x76) + 32)) := hp75
          obtain ⟨hp75_0, hp75_1⟩ := hp75
          simp only [up_up] at hM
          replace hM : MWd D dA h0 ad (mF dA h0 ad (f, g, A, L) s.heap.size) s.heap ((up f [(8, x76), (9, x77), (7, x78), (10, x79), (5, x70), (6, x71), (22, y172_22), (62, y172_62)]), (up g [(11, w80)]), (up A [(17, y172_17), (18, y172_18), (19, y172_19), (20, y172_20), (21, y172_21), (47, y172_47), (48, y172_48), (49, y172_49), (50, (wr y172_50 v172_1 x50)), (51, y172_51), (52, y172_52), (53, (wr y172_53 v172_1 1)), (54, y172_54)]), (up L [(16, y172_16), (55, y172_55)])) H locs := hM
          have r81 : (0 : Int) ≤ x76 ∧ x76 ≤ 3001 := hM.2.2.2.1 8
          have r82 : (0 : Int) ≤ x77 ∧ x77 ≤ 3002 := hM.2.2.2.1 9
          have r83 : (0 : Int) ≤ x78 ∧ x78 ≤ 6 := hM.2.2.2.1 7
          have r84 : (-2147483648 : Int) ≤ x79 ∧ x79 ≤ 2147483647 := hM.2.2.2.1 10
          exact JJ225 v172_1 x76 x77 x78 x79 x70 x71 y172_22 y172_62 w80 y172_17 y172_18 y172_19 y172_20 y172_21 y172_47 y172_48 y172_49 ((wr y172_50 v172_1 x50)) y172_51 y172_52 ((wr y172_53 v172_1 1)) y172_54 y172_16 y172_55 _ _ ls hM (lv_sub hl [0, 1] rfl) (by omega) (by first | omega | (simp only [wr_at]; omega) | assumption) (by first | omega | (simp only [wr_at]; omega) | assumption) (by first | omega | (simp only [wr_at]; omega) | assumption) (by first | omega | (simp only [wr_at]; omega) | assumption) (by first | omega | (simp only [wr_at]; omega) | assumption) (by first | omega | (simp only [wr_at]; omega) | assumption) (by first | omega | (simp only [wr_at]; omega) | assumption) (by first | assumption | exact APe_rfl | exact APe_trans (by assumption) (by assumption) (by omega)) (by first | assumption | exact TXI_neg (by assumption) (by omega)) (by first | omega | (simp only [wr_at]; omega) | assumption) (by first | assumption | omega | (simp only [wr_at]; omega)) (by first | assumption | (intro hq; exfalso; omega) | (intro hq; have hz := ‹_ = 0 → _ ∧ _ ∧ _ ∧ _ = _ + 1 ∧ _ ∧ _› hq; exact UTI_ask (p_6 (by omega)) (by assumption) (by omega) hz.2.2.2.1 hz.2.2.2.2.1 hz.2.2.2.2.2) | (intro hq; exact UTI_step (‹_ = 0 → UTI _ _ _ _ _› (by omega)) (by first | assumption | exact APe_rfl) (by omega)))
  have JJ144 : ∀ (v144_1 : Int) (y144_8 : Int) (y144_9 : Int) (y144_7 : Int) (y144_10 : Int) (y144_5 : Int) (y144_6 : Int) (y144_22 : Int) (y144_62 : Int) (y144_11 : Int64) (y144_17 : Nat → Int) (y144_18 : Nat → Int) (y144_19 : Nat → Int) (y144_20 : Nat → Int) (y144_21 : Nat → Int) (y144_47 : Nat → Int) (y144_48 : Nat → Int) (y144_49 : Nat → Int) (y144_50 : Nat → Int) (y144_51 : Nat → Int) (y144_52 : Nat → Int) (y144_53 : Nat → Int) (y144_54 : Nat → Int) (y144_16 : Nat → Int64) (y144_55 : Nat → Int64) (H : Heap) (locs : List Loc) (ls : Array Slot), (MWd D dA h0 ad (mF dA h0 ad (f, g, A, L) s.heap.size) s.heap ((up f [(8, y144_8), (9, y144_9), (7, y144_7), (10, y144_10), (5, y144_5), (6, y144_6), (22, y144_22), (62, y144_62)]), (up g [(11, y144_11)]), (up A [(17, y144_17), (18, y144_18), (19, y144_19), (20, y144_20), (21, y144_21), (47, y144_47), (48, y144_48), (49, y144_49), (50, y144_50), (51, y144_51), (52, y144_52), (53, y144_53), (54, y144_54)]), (up L [(16, y144_16), (55, y144_55)])) H locs) → lv_has ls 2 [(0, .ref h0), (1, .int (II v144_1))] → ((-2147483648 : Int) ≤ v144_1 ∧ v144_1 ≤ 2147483647) → ((0 ≤ (y144_8) ∧ (y144_8) ≤ (f 4) ∧ (y144_8) ≤ (y144_9) ∧ (y144_9) ≤ (f 4) + 1 ∧ ((y144_7) = 0 ↔ (y144_8) = (f 4)) ∧ (2 ≤ (y144_7) → (y144_8) < (y144_9) ∧ (y144_9) ≤ (f 4)) ∧ ((y144_7) = 5 → (y144_8) + 2 ≤ (y144_9) ∧ (y144_9) ≤ (y144_8) + 32))) → ((f 8) ≤ (y144_8)) → (((y144_5) = 0 → (f 5) = 0 ∧ (f 8) + 1 ≤ (y144_8) ∧ (y144_62) ≤ (y144_22))) → (2 * (y144_22) ≤ (y144_8) + 1) → ((y144_62) = (f 62) + 1) → ((f 22) ≤ (y144_22)) → (AIp (y144_22) y144_18 y144_20 y144_21) → (APe (f 22) (A 20) (A 21) y144_20 y144_21) → (TXI y144_51 y144_52) → ((v144_1) = 1600 * (f 3) + (f 62)) → (y144_52 ((v144_1)).toNat ≤ 0) → (((y144_5) = 0 → UTI (f 3) ((f 62) + 1) (y144_22) y144_20 y144_21)) → W p l e ({ frames := 5, cells := 0, slots := 0, locals := 109 }) s m args below meth c H locs 0 0 (MQ below (mQi D dA h0 ad (f, g, A, L) s.heap.size PST) args s 0 0 (mF dA h0 ad (f, g, A, L) s.heap.size)) (F0 m 144 ls []) := by
    intro v144_1 y144_8 y144_9 y144_7 y144_10 y144_5 y144_6 y144_22 y144_62 y144_11 y144_17 y144_18 y144_19 y144_20 y144_21 y144_47 y144_48 y144_49 y144_50 y144_51 y144_52 y144_53 y144_54 y144_16 y144_55 H locs ls hM hl hJJ144_0 hJJ144_1 hJJ144_2 hJJ144_3 hJJ144_4 hJJ144_5 hJJ144_6 hJJ144_7 hJJ144_8 hJJ144_9 hJJ144_10 hJJ144_11 hJJ144_12
    have r85 : (0 : Int) ≤ y144_8 ∧ y144_8 ≤ 3001 := hM.2.2.2.1 8
    have r86 : (0 : Int) ≤ y144_9 ∧ y144_9 ≤ 3002 := hM.2.2.2.1 9
    have r87 : (0 : Int) ≤ y144_7 ∧ y144_7 ≤ 6 := hM.2.2.2.1 7
    have r88 : (-2147483648 : Int) ≤ y144_10 ∧ y144_10 ≤ 2147483647 := hM.2.2.2.1 10
    have r89 : (-2147483648 : Int) ≤ y144_5 ∧ y144_5 ≤ 2147483647 := hM.2.2.2.1 5
    have r90 : (-2147483648 : Int) ≤ y144_6 ∧ y144_6 ≤ 2147483647 := hM.2.2.2.1 6
    have r91 : (0 : Int) ≤ y144_22 ∧ y144_22 ≤ 1600 := hM.2.2.2.1 22
    have r92 : (0 : Int) ≤ y144_62 ∧ y144_62 ≤ 1590 := hM.2.2.2.1 62
    refine lv_aload_n B.1 B.2.1 dX12_readUse_144 rfl (lv_at hl 0 rfl) ?_
    refine m_calli (n := 0) (rest := []) B hM hA hl.1 (k_isGood l D dA h0 ad (up f [(8, y144_8), (9, y144_9), (7, y144_7), (10, y144_10), (5, y144_5), (6, y144_6), (22, y144_22), (62, y144_62)]) (up g [(11, y144_11)]) (up A [(17, y144_17), (18, y144_18), (19, y144_19), (20, y144_20), (21, y144_21), (47, y144_47), (48, y144_48), (49, y144_49), (50, y144_50), (51, y144_51), (52, y144_52), (53, y144_53), (54, y144_54)]) (up L [(16, y144_16), (55, y144_55)])   ) rfl ok_isGood nm_isGood ⟨rfl, rfl⟩ ⟨Nat.le_of_ble_eq_true rfl, Nat.le_of_ble_eq_true rfl⟩ dX12_readUse_145 rfl rfl (Nat.le_of_ble_eq_true rfl) ⟨Nat.zero_le _, Nat.zero_le _⟩ (fun r93 σr93 H locs ir93 hp94 hM => ?_)
    obtain ⟨rfl, hp94⟩ := hp94
    unfold inr at ir93
    replace hp94 : 0 ≤ r93 ∧ r93 ≤ 1 ∧ (r93 = 1 ↔ (y144_5) = 0) := hp94
    obtain ⟨hp94_0, hp94_1, hp94_2⟩ := hp94
    refine q_ieq (tgt := 172) B dX12_readUse_148 (by decide) (by unfold inr; omega) (fun c95 => ?_) (fun c95 => ?_)
    · exact JJ172 v144_1 y144_8 y144_9 y144_7 y144_10 y144_5 y144_6 y144_22 y144_62 y144_11 y144_17 y144_18 y144_19 y144_20 y144_21 y144_47 y144_48 y144_49 y144_50 y144_51 y144_52 y144_53 y144_54 y144_16 y144_55 _ _ ls hM (lv_sub hl [0, 1] rfl) (by omega) (by first | omega | (simp only [wr_at]; omega) | assumption) (by first | omega | (simp only [wr_at]; omega) | assumption) (by first | omega | (simp only [wr_at]; omega) | assumption) (by first | omega | (simp only [wr_at]; omega) | assumption) (by first | omega | (simp only [wr_at]; omega) | assumption) (by first | omega | (simp only [wr_at]; omega) | assumption) (by first | omega | (simp only [wr_at]; omega) | assumption) (by first | assumption | exact APe_rfl | exact APe_trans (by assumption) (by assumption) (by omega)) (by first | assumption | exact TXI_neg (by assumption) (by omega)) (by first | omega | (simp only [wr_at]; omega) | assumption) (by first | assumption | omega | (simp only [wr_at]; omega)) (by first | assumption | (intro hq; exfalso; omega) | (intro hq; have hz := ‹_ = 0 → _ ∧ _ ∧ _ ∧ _ = _ + 1 ∧ _ ∧ _› hq; exact UTI_ask (p_6 (by omega)) (by assumption) (by omega) hz.2.2.2.1 hz.2.2.2.2.1 hz.2.2.2.2.2) | (intro hq; exact UTI_step (‹_ = 0 → UTI _ _ _ _ _› (by omega)) (by first | assumption | exact APe_rfl) (by omega)))
    · refine lv_aload_n B.1 B.2.1 dX12_readUse_151 rfl (lv_at hl 0 rfl) ?_
      refine q_bip B dX12_readUse_152 (by decide) ?_
      refine m_calli (n := 1) (rest := []) B hM hA hl.1 (k_isSign l D dA h0 ad (up f [(8, y144_8), (9, y144_9), (7, y144_7), (10, y144_10), (5, y144_5), (6, y144_6), (22, y144_22), (62, y144_62)]) (up g [(11, y144_11)]) (up A [(17, y144_17), (18, y144_18), (19, y144_19), (20, y144_20), (21, y144_21), (47, y144_47), (48, y144_48), (49, y144_49), (50, y144_50), (51, y144_51), (52, y144_52), (53, y144_53), (54, y144_54)]) (up L [(16, y144_16), (55, y144_55)]) 64 (by omega) (show (0 ≤ (y144_8) ∧ (y144_8) ≤ (f 4) ∧ (y144_8) ≤ (y144_9) ∧ (y144_9) ≤ (f 4) + 1 ∧ ((y144_7) = 0 ↔ (y144_8) = (f 4)) ∧ (2 ≤ (y144_7) → (y144_8) < (y144_9) ∧ (y144_9) ≤ (f 4)) ∧ ((y144_7) = 5 → (y144_8) + 2 ≤ (y144_9) ∧ (y144_9) ≤ (y144_8) + 32)) from by first | omega | (simp only [wr_at]; omega) | assumption)) rfl ok_isSign nm_isSign ⟨rfl, rfl⟩ ⟨Nat.le_of_ble_eq_true rfl, Nat.le_of_ble_eq_true rfl⟩ dX12_readUse_154 rfl rfl (Nat.le_of_ble_eq_true rfl) ⟨Nat.zero_le _, Nat.zero_le _⟩ (fun r96 σr96 H locs ir96 hp97 hM => ?_)
      obtain ⟨rfl, hp97⟩ := hp97
      unfold inr at ir96
      replace hp97 : 0 ≤ r96 ∧ r96 ≤ 1 ∧ (r96 = 1 ↔ (y144_7) = 6 ∧ sgn ((A 2)) (f 3) (f 4) (y144_8) = (64)) := hp97
      obtain ⟨hp97_0, hp97_1, hp97_2⟩ := hp97
      refine q_ieq (tgt := 172) B dX12_readUse_157 (by decide) (by unfold inr; omega) (fun c98 => ?_) (fun c98 => ?_)
      · exact JJ172 v144_1 y144_8 y144_9 y144_7 y144_10 y144_5 y144_6 y144_22 y144_62 y144_11 y144_17 y144_18 y144_19 y144_20 y144_21 y144_47 y144_48 y144_49 y144_50 y144_51 y144_52 y144_53 y144_54 y144_16 y144_55 _ _ ls hM (lv_sub hl [0, 1] rfl) (by omega) (by first | omega | (simp only [wr_at]; omega) | assumption) (by first | omega | (simp only [wr_at]; omega) | assumption) (by first | omega | (simp only [wr_at]; omega) | assumption) (by first | omega | (simp only [wr_at]; omega) | assumption) (by first | omega | (simp only [wr_at]; omega) | assumption) (by first | omega | (simp only [wr_at]; omega) | assumption) (by first | omega | (simp only [wr_at]; omega) | assumption) (by first | assumption | exact APe_rfl | exact APe_trans (by assumption) (by assumption) (by omega)) (by first | assumption | exact TXI_neg (by assumption) (by omega)) (by first | omega | (simp only [wr_at]; omega) | assumption) (by first | assumption | omega | (simp only [wr_at]; omega)) (by first | assumption | (intro hq; exfalso; omega) | (intro hq; have hz := ‹_ = 0 → _ ∧ _ ∧ _ ∧ _ = _ + 1 ∧ _ ∧ _› hq; exact UTI_ask (p_6 (by omega)) (by assumption) (by omega) hz.2.2.2.1 hz.2.2.2.2.1 hz.2.2.2.2.2) | (intro hq; exact UTI_step (‹_ = 0 → UTI _ _ _ _ _› (by omega)) (by first | assumption | exact APe_rfl) (by omega)))
      · refine lv_aload_n B.1 B.2.1 dX12_readUse_160 rfl (lv_at hl 0 rfl) ?_
        refine m_callv (n := 0) (rest := []) B hM hA hl.1 (k_next l D dA h0 ad (up f [(8, y144_8), (9, y144_9), (7, y144_7), (10, y144_10), (5, y144_5), (6, y144_6), (22, y144_22), (62, y144_62)]) (up g [(11, y144_11)]) (up A [(17, y144_17), (18, y144_18), (19, y144_19), (20, y144_20), (21, y144_21), (47, y144_47), (48, y144_48), (49, y144_49), (50, y144_50), (51, y144_51), (52, y144_52), (53, y144_53), (54, y144_54)]) (up L [(16, y144_16), (55, y144_55)])   (show (y144_9) ≤ 3001 from by first | omega | (simp only [wr_at]; omega) | assumption)) rfl ok_next nm_next ⟨rfl, rfl⟩ ⟨Nat.le_of_ble_eq_true rfl, Nat.le_of_ble_eq_true rfl⟩ dX12_readUse_161 rfl rfl (Nat.le_of_ble_eq_true rfl) ⟨Nat.zero_le _, Nat.zero_le _⟩ (fun σr99 H locs hp100 hM => ?_)
        obtain ⟨x101, x102, x103, x104, w105, rfl, hp100⟩ := hp100
        replace hp100 : ((y144_9) ≤ (x101) ∨ (x101) = (f 4)) ∧ (0 ≤ (x101) ∧ (x101) ≤ (f 4) ∧ (x101) ≤ (x102) ∧ (x102) ≤ (f 4) + 1 ∧ ((x103) = 0 ↔ (x101) = (f 4)) ∧ (2 ≤ (x103) → (x101) < (x102) ∧ (x102) ≤ (f 4)) ∧ ((x103) = 5 → (x101) + 2 ≤ (x102) ∧ (x102) ≤ (x101) + 32)) := hp100
        obtain ⟨hp100_0, hp100_1⟩ := hp100
        simp only [up_up] at hM
        replace hM : MWd D dA h0 ad (mF dA h0 ad (f, g, A, L) s.heap.size) s.heap ((up f [(8, x101), (9, x102), (7, x103), (10, x104), (5, y144_5), (6, y144_6), (22, y144_22), (62, y144_62)]), (up g [(11, w105)]), (up A [(17, y144_17), (18, y144_18), (19, y144_19), (20, y144_20), (21, y144_21), (47, y144_47), (48, y144_48), (49, y144_49), (50, y144_50), (51, y144_51), (52, y144_52), (53, y144_53), (54, y144_54)]), (up L [(16, y144_16), (55, y144_55)])) H locs := hM
        have r106 : (0 : Int) ≤ x101 ∧ x101 ≤ 3001 := hM.2.2.2.1 8
        have r107 : (0 : Int) ≤ x102 ∧ x102 ≤ 3002 := hM.2.2.2.1 9
        have r108 : (0 : Int) ≤ x103 ∧ x103 ≤ 6 := hM.2.2.2.1 7
        have r109 : (-2147483648 : Int) ≤ x104 ∧ x104 ≤ 2147483647 := hM.2.2.2.1 10
        refine lv_aload_n B.1 B.2.1 dX12_readUse_164 rfl (lv_at hl 0 rfl) ?_
        refine q_con B dX12_readUse_165 ?_
        refine q_con B dX12_readUse_166 ?_
        refine q_con B dX12_readUse_167 ?_
        refine lv_iload_n B.1 B.2.1 dX12_readUse_168 rfl (lv_at hl 1 rfl) ?_
        refine m_callv (n := 4) (rest := []) B hM hA hl.1 (k_ask l D dA h0 ad (up f [(8, x101), (9, x102), (7, x103), (10, x104), (5, y144_5), (6, y144_6), (22, y144_22), (62, y144_62)]) (up g [(11, w105)]) (up A [(17, y144_17), (18, y144_18), (19, y144_19), (20, y144_20), (21, y144_21), (47, y144_47), (48, y144_48), (49, y144_49), (50, y144_50), (51, y144_51), (52, y144_52), (53, y144_53), (54, y144_54)]) (up L [(16, y144_16), (55, y144_55)]) 1 (-1) 4 v144_1 (by omega) (by omega) (by omega) (by omega) (show (0 ≤ (x101) ∧ (x101) ≤ (f 4) ∧ (x101) ≤ (x102) ∧ (x102) ≤ (f 4) + 1 ∧ ((x103) = 0 ↔ (x101) = (f 4)) ∧ (2 ≤ (x103) → (x101) < (x102) ∧ (x102) ≤ (f 4)) ∧ ((x103) = 5 → (x101) + 2 ≤ (x102) ∧ (x102) ≤ (x101) + 32)) from by first | omega | (simp only [wr_at]; omega) | assumption) (show 2 * (y144_22) ≤ (x101) from by first | omega | (simp only [wr_at]; omega) | assumption) (show 0 ≤ (1) from by first | omega | (simp only [wr_at]; omega) | assumption) (show (1) ≤ 5 from by first | omega | (simp only [wr_at]; omega) | assumption) (show -1 ≤ (-1) from by first | omega | (simp only [wr_at]; omega) | assumption) (show (-1) ≤ 16 from by first | omega | (simp only [wr_at]; omega) | assumption) (show 0 ≤ (4) from by first | omega | (simp only [wr_at]; omega) | assumption) (show (4) ≤ 5 from by first | omega | (simp only [wr_at]; omega) | assumption) (show 0 ≤ (v144_1) from by first | omega | (simp only [wr_at]; omega) | assumption) (show (v144_1) ≤ 3199 from by first | omega | (simp only [wr_at]; omega) | assumption) (show ((x103) = 2 → ((4) = 0 → (v144_1) < 18 ∧ (1) = 1) ∧ ((4) = 1 → (v144_1) < 96 ∧ (1) = 1) ∧ ((4) = 3 → (v144_1) < 400) ∧ ((4) = 4 → (1) = 1)) from by first | omega | (simp only [wr_at]; omega) | assumption) (show AIp (y144_22) y144_18 y144_20 y144_21 from by first | omega | (simp only [wr_at]; omega) | assumption)) rfl ok_ask nm_ask ⟨rfl, rfl⟩ ⟨Nat.le_of_ble_eq_true rfl, Nat.le_of_ble_eq_true rfl⟩ dX12_readUse_169 rfl rfl (Nat.le_of_ble_eq_true rfl) ⟨Nat.zero_le _, Nat.zero_le _⟩ (fun σr110 H locs hp111 hM => ?_)
        obtain ⟨x112, x113, x114, x115, x116, x117, x118, w119, b120, b121, b122, b123, b124, b125, rfl, hp111⟩ := hp111
        replace hp111 : ((0 ≤ (x112) ∧ (x112) ≤ (f 4) ∧ (x112) ≤ (x113) ∧ (x113) ≤ (f 4) + 1 ∧ ((x114) = 0 ↔ (x112) = (f 4)) ∧ (2 ≤ (x114) → (x112) < (x113) ∧ (x113) ≤ (f 4)) ∧ ((x114) = 5 → (x112) + 2 ≤ (x113) ∧ (x113) ≤ (x112) + 32))) ∧ (x101) ≤ (x112) ∧ ((x116) = 0 → (y144_5) = 0 ∧ (x101) + 1 ≤ (x112) ∧ (x103) = 2 ∧ (x118) = (y144_22) + 1 ∧ b123 ((y144_22)).toNat = (4) ∧ b124 ((y144_22)).toNat = (v144_1)) ∧ 2 * (x118) ≤ (x112) + 1 ∧ (y144_22) ≤ (x118) ∧ AIp (x118) b121 b123 b124 ∧ APe (y144_22) y144_20 y144_21 b123 b124 := hp111
        obtain ⟨hp111_0, hp111_1, hp111_2, hp111_3, hp111_4, hp111_5, hp111_6⟩ := hp111
        simp only [up_up] at hM
        replace hM : MWd D dA h0 ad (mF dA h0 ad (f, g, A, L) s.heap.size) s.heap ((up f [(8, x112), (9, x113), (7, x114), (10, x115), (5, x116), (6, x117), (22, x118), (62, y144_62)]), (up g [(11, w119)]), (up A [(17, b120), (18, b121), (19, b122), (20, b123), (21, b124), (47, y144_47), (48, y144_48), (49, y144_49), (50, y144_50), (51, y144_51), (52, y144_52), (53, y144_53), (54, y144_54)]), (up L [(16, b125), (55, y144_55)])) H locs := hM
        have r126 : (0 : Int) ≤ x112 ∧ x112 ≤ 3001 := hM.2.2.2.1 8
        have r127 : (0 : Int) ≤ x113 ∧ x113 ≤ 3002 := hM.2.2.2.1 9
        have r128 : (0 : Int) ≤ x114 ∧ x114 ≤ 6 := hM.2.2.2.1 7
        have r129 : (-2147483648 : Int) ≤ x115 ∧ x115 ≤ 2147483647 := hM.2.2.2.1 10
        have r130 : (-2147483648 : Int) ≤ x116 ∧ x116 ≤ 2147483647 := hM.2.2.2.1 5
        have r131 : (-2147483648 : Int) ≤ x117 ∧ x117 ≤ 2147483647 := hM.2.2.2.1 6
        have r132 : (0 : Int) ≤ x118 ∧ x118 ≤ 1600 := hM.2.2.2.1 22
        exact JJ172 v144_1 x112 x113 x114 x115 x116 x117 x118 y144_62 w119 b120 b121 b122 b123 b124 y144_47 y144_48 y144_49 y144_50 y144_51 y144_52 y144_53 y144_54 b125 y144_55 _ _ ls hM (lv_sub hl [0, 1] rfl) (by omega) (by first | omega | (simp only [wr_at]; omega) | assumption) (by first | omega | (simp only [wr_at]; omega) | assumption) (by first | omega | (simp only [wr_at]; omega) | assumption) (by first | omega | (simp only [wr_at]; omega) | assumption) (by first | omega | (simp only [wr_at]; omega) | assumption) (by first | omega | (simp only [wr_at]; omega) | assumption) (by first | omega | (simp only [wr_at]; omega) | assumption) (by first | assumption | exact APe_rfl | exact APe_trans (by assumption) (by assumption) (by omega)) (by first | assumption | exact TXI_neg (by assumption) (by omega)) (by first | omega | (simp only [wr_at]; omega) | assumption) (by first | assumption | omega | (simp only [wr_at]; omega)) (by first | assumption | (intro hq; exfalso; omega) | (intro hq; have hz := ‹_ = 0 → _ ∧ _ ∧ _ ∧ _ = _ + 1 ∧ _ ∧ _› hq; exact UTI_ask (p_6 (by omega)) (by assumption) (by omega) hz.2.2.2.1 hz.2.2.2.2.1 hz.2.2.2.2.2) | (intro hq; exact UTI_step (‹_ = 0 → UTI _ _ _ _ _› (by omega)) (by first | assumption | exact APe_rfl) (by omega)))
  have JJ95 : ∀ (v95_1 : Int) (y95_8 : Int) (y95_9 : Int) (y95_7 : Int) (y95_10 : Int) (y95_5 : Int) (y95_6 : Int) (y95_22 : Int) (y95_62 : Int) (y95_11 : Int64) (y95_17 : Nat → Int) (y95_18 : Nat → Int) (y95_19 : Nat → Int) (y95_20 : Nat → Int) (y95_21 : Nat → Int) (y95_47 : Nat → Int) (y95_48 : Nat → Int) (y95_49 : Nat → Int) (y95_50 : Nat → Int) (y95_51 : Nat → Int) (y95_52 : Nat → Int) (y95_53 : Nat → Int) (y95_54 : Nat → Int) (y95_16 : Nat → Int64) (y95_55 : Nat → Int64) (H : Heap) (locs : List Loc) (ls : Array Slot), (MWd D dA h0 ad (mF dA h0 ad (f, g, A, L) s.heap.size) s.heap ((up f [(8, y95_8), (9, y95_9), (7, y95_7), (10, y95_10), (5, y95_5), (6, y95_6), (22, y95_22), (62, y95_62)]), (up g [(11, y95_11)]), (up A [(17, y95_17), (18, y95_18), (19, y95_19), (20, y95_20), (21, y95_21), (47, y95_47), (48, y95_48), (49, y95_49), (50, y95_50), (51, y95_51), (52, y95_52), (53, y95_53), (54, y95_54)]), (up L [(16, y95_16), (55, y95_55)])) H locs) → lv_has ls 2 [(0, .ref h0), (1, .int (II v95_1))] → ((-2147483648 : Int) ≤ v95_1 ∧ v95_1 ≤ 2147483647) → ((0 ≤ (y95_8) ∧ (y95_8) ≤ (f 4) ∧ (y95_8) ≤ (y95_9) ∧ (y95_9) ≤ (f 4) + 1 ∧ ((y95_7) = 0 ↔ (y95_8) = (f 4)) ∧ (2 ≤ (y95_7) → (y95_8) < (y95_9) ∧ (y95_9) ≤ (f 4)) ∧ ((y95_7) = 5 → (y95_8) + 2 ≤ (y95_9) ∧ (y95_9) ≤ (y95_8) + 32))) → ((f 8) ≤ (y95_8)) → (((y95_5) = 0 → (f 5) = 0 ∧ (f 8) + 1 ≤ (y95_8) ∧ (y95_62) ≤ (y95_22))) → (2 * (y95_22) ≤ (y95_8) + 1) → ((y95_62) = (f 62) + 1) → ((f 22) ≤ (y95_22)) → (AIp (y95_22) y95_18 y95_20 y95_21) → (APe (f 22) (A 20) (A 21) y95_20 y95_21) → (TXI y95_51 y95_52) → ((v95_1) = 1600 * (f 3) + (f 62)) → (y95_52 ((v95_1)).toNat ≤ 0) → (((y95_5) = 0 → UTI (f 3) ((f 62) + 1) (y95_22) y95_20 y95_21)) → W p l e ({ frames := 5, cells := 0, slots := 0, locals := 109 }) s m args below meth c H locs 0 0 (MQ below (mQi D dA h0 ad (f, g, A, L) s.heap.size PST) args s 0 0 (mF dA h0 ad (f, g, A, L) s.heap.size)) (F0 m 95 ls []) := by
    intro v95_1 y95_8 y95_9 y95_7 y95_10 y95_5 y95_6 y95_22 y95_62 y95_11 y95_17 y95_18 y95_19 y95_20 y95_21 y95_47 y95_48 y95_49 y95_50 y95_51 y95_52 y95_53 y95_54 y95_16 y95_55 H locs ls hM hl hJJ95_0 hJJ95_1 hJJ95_2 hJJ95_3 hJJ95_4 hJJ95_5 hJJ95_6 hJJ95_7 hJJ95_8 hJJ95_9 hJJ95_10 hJJ95_11 hJJ95_12
    have r133 : (0 : Int) ≤ y95_8 ∧ y95_8 ≤ 3001 := hM.2.2.2.1 8
    have r134 : (0 : Int) ≤ y95_9 ∧ y95_9 ≤ 3002 := hM.2.2.2.1 9
    have r135 : (0 : Int) ≤ y95_7 ∧ y95_7 ≤ 6 := hM.2.2.2.1 7
    have r136 : (-2147483648 : Int) ≤ y95_10 ∧ y95_10 ≤ 2147483647 := hM.2.2.2.1 10
    have r137 : (-2147483648 : Int) ≤ y95_5 ∧ y95_5 ≤ 2147483647 := hM.2.2.2.1 5
    have r138 : (-2147483648 : Int) ≤ y95_6 ∧ y95_6 ≤ 2147483647 := hM.2.2.2.1 6
    have r139 : (0 : Int) ≤ y95_22 ∧ y95_22 ≤ 1600 := hM.2.2.2.1 22
    have r140 : (0 : Int) ≤ y95_62 ∧ y95_62 ≤ 1590 := hM.2.2.2.1 62
    refine lv_aload_n B.1 B.2.1 dX12_readUse_95 rfl (lv_at hl 0 rfl) ?_
    refine m_calli (n := 0) (rest := []) B hM hA hl.1 (k_isGood l D dA h0 ad (up f [(8, y95_8), (9, y95_9), (7, y95_7), (10, y95_10), (5, y95_5), (6, y95_6), (22, y95_22), (62, y95_62)]) (up g [(11, y95_11)]) (up A [(17, y95_17), (18, y95_18), (19, y95_19), (20, y95_20), (21, y95_21), (47, y95_47), (48, y95_48), (49, y95_49), (50, y95_50), (51, y95_51), (52, y95_52), (53, y95_53), (54, y95_54)]) (up L [(16, y95_16), (55, y95_55)])   ) rfl ok_isGood nm_isGood ⟨rfl, rfl⟩ ⟨Nat.le_of_ble_eq_true rfl, Nat.le_of_ble_eq_true rfl⟩ dX12_readUse_96 rfl rfl (Nat.le_of_ble_eq_true rfl) ⟨Nat.zero_le _, Nat.zero_le _⟩ (fun r141 σr141 H locs ir141 hp142 hM => ?_)
    obtain ⟨rfl, hp142⟩ := hp142
    unfold inr at ir141
    replace hp142 : 0 ≤ r141 ∧ r141 ≤ 1 ∧ (r141 = 1 ↔ (y95_5) = 0) := hp142
    obtain ⟨hp142_0, hp142_1, hp142_2⟩ := hp142
    refine q_ieq (tgt := 144) B dX12_readUse_99 (by decide) (by unfold inr; omega) (fun c143 => ?_) (fun c143 => ?_)
    · exact JJ144 v95_1 y95_8 y95_9 y95_7 y95_10 y95_5 y95_6 y95_22 y95_62 y95_11 y95_17 y95_18 y95_19 y95_20 y95_21 y95_47 y95_48 y95_49 y95_50 y95_51 y95_52 y95_53 y95_54 y95_16 y95_55 _ _ ls hM (lv_sub hl [0, 1] rfl) (by omega) (by first | omega | (simp only [wr_at]; omega) | assumption) (by first | omega | (simp only [wr_at]; omega) | assumption) (by first | omega | (simp only [wr_at]; omega) | assumption) (by first | omega | (simp only [wr_at]; omega) | assumption) (by first | omega | (simp only [wr_at]; omega) | assumption) (by first | omega | (simp only [wr_at]; omega) | assumption) (by first | omega | (simp only [wr_at]; omega) | assumption) (by first | assumption | exact APe_rfl | exact APe_trans (by assumption) (by assumption) (by omega)) (by first | assumption | exact TXI_neg (by assumption) (by omega)) (by first | omega | (simp only [wr_at]; omega) | assumption) (by first | assumption | omega | (simp only [wr_at]; omega)) (by first | assumption | (intro hq; exfalso; omega) | (intro hq; have hz := ‹_ = 0 → _ ∧ _ ∧ _ ∧ _ = _ + 1 ∧ _ ∧ _› hq; exact UTI_ask (p_6 (by omega)) (by assumption) (by omega) hz.2.2.2.1 hz.2.2.2.2.1 hz.2.2.2.2.2) | (intro hq; exact UTI_step (‹_ = 0 → UTI _ _ _ _ _› (by omega)) (by first | assumption | exact APe_rfl) (by omega)))
    · refine lv_aload_n B.1 B.2.1 dX12_readUse_102 rfl (lv_at hl 0 rfl) ?_
      refine q_bip B dX12_readUse_103 (by decide) ?_
      refine m_calli (n := 1) (rest := []) B hM hA hl.1 (k_isSign l D dA h0 ad (up f [(8, y95_8), (9, y95_9), (7, y95_7), (10, y95_10), (5, y95_5), (6, y95_6), (22, y95_22), (62, y95_62)]) (up g [(11, y95_11)]) (up A [(17, y95_17), (18, y95_18), (19, y95_19), (20, y95_20), (21, y95_21), (47, y95_47), (48, y95_48), (49, y95_49), (50, y95_50), (51, y95_51), (52, y95_52), (53, y95_53), (54, y95_54)]) (up L [(16, y95_16), (55, y95_55)]) 33 (by omega) (show (0 ≤ (y95_8) ∧ (y95_8) ≤ (f 4) ∧ (y95_8) ≤ (y95_9) ∧ (y95_9) ≤ (f 4) + 1 ∧ ((y95_7) = 0 ↔ (y95_8) = (f 4)) ∧ (2 ≤ (y95_7) → (y95_8) < (y95_9) ∧ (y95_9) ≤ (f 4)) ∧ ((y95_7) = 5 → (y95_8) + 2 ≤ (y95_9) ∧ (y95_9) ≤ (y95_8) + 32)) from by first | omega | (simp only [wr_at]; omega) | assumption)) rfl ok_isSign nm_isSign ⟨rfl, rfl⟩ ⟨Nat.le_of_ble_eq_true rfl, Nat.le_of_ble_eq_true rfl⟩ dX12_readUse_105 rfl rfl (Nat.le_of_ble_eq_true rfl) ⟨Nat.zero_le _, Nat.zero_le _⟩ (fun r144 σr144 H locs ir144 hp145 hM => ?_)
      obtain ⟨rfl, hp145⟩ := hp145
      unfold inr at ir144
      replace hp145 : 0 ≤ r144 ∧ r144 ≤ 1 ∧ (r144 = 1 ↔ (y95_7) = 6 ∧ sgn ((A 2)) (f 3) (f 4) (y95_8) = (33)) := hp145
      obtain ⟨hp145_0, hp145_1, hp145_2⟩ := hp145
      refine q_ine (tgt := 120) B dX12_readUse_108 (by decide) (by unfold inr; omega) (fun c146 => ?_) (fun c146 => ?_)
      · refine lv_aload_n B.1 B.2.1 dX12_readUse_120 rfl (lv_at hl 0 rfl) ?_
        refine m_geta (k := 48) B hM (by decide) rfl fl238 dX12_readUse_121 ?_
        refine lv_iload_n B.1 B.2.1 dX12_readUse_124 rfl (lv_at hl 1 rfl) ?_
        refine lv_aload_n B.1 B.2.1 dX12_readUse_125 rfl (lv_at hl 0 rfl) ?_
        refine q_bip B dX12_readUse_126 (by decide) ?_
        refine m_calli (n := 1) (rest := [.int (II v95_1), .ref (ad 48)]) B hM hA hl.1 (k_isSign l D dA h0 ad (up f [(8, y95_8), (9, y95_9), (7, y95_7), (10, y95_10), (5, y95_5), (6, y95_6), (22, y95_22), (62, y95_62)]) (up g [(11, y95_11)]) (up A [(17, y95_17), (18, y95_18), (19, y95_19), (20, y95_20), (21, y95_21), (47, y95_47), (48, y95_48), (49, y95_49), (50, y95_50), (51, y95_51), (52, y95_52), (53, y95_53), (54, y95_54)]) (up L [(16, y95_16), (55, y95_55)]) 33 (by omega) (show (0 ≤ (y95_8) ∧ (y95_8) ≤ (f 4) ∧ (y95_8) ≤ (y95_9) ∧ (y95_9) ≤ (f 4) + 1 ∧ ((y95_7) = 0 ↔ (y95_8) = (f 4)) ∧ (2 ≤ (y95_7) → (y95_8) < (y95_9) ∧ (y95_9) ≤ (f 4)) ∧ ((y95_7) = 5 → (y95_8) + 2 ≤ (y95_9) ∧ (y95_9) ≤ (y95_8) + 32)) from by first | omega | (simp only [wr_at]; omega) | assumption)) rfl ok_isSign nm_isSign ⟨rfl, rfl⟩ ⟨Nat.le_of_ble_eq_true rfl, Nat.le_of_ble_eq_true rfl⟩ dX12_readUse_128 rfl rfl (Nat.le_of_ble_eq_true rfl) ⟨Nat.zero_le _, Nat.zero_le _⟩ (fun r147 σr147 H locs ir147 hp148 hM => ?_)
        obtain ⟨rfl, hp148⟩ := hp148
        unfold inr at ir147
        replace hp148 : 0 ≤ r147 ∧ r147 ≤ 1 ∧ (r147 = 1 ↔ (y95_7) = 6 ∧ sgn ((A 2)) (f 3) (f 4) (y95_8) = (33)) := hp148
        obtain ⟨hp148_0, hp148_1, hp148_2⟩ := hp148
        refine q_ieq (tgt := 138) B dX12_readUse_131 (by decide) (by unfold inr; omega) (fun c149 => ?_) (fun c149 => ?_)
        · refine q_con B dX12_readUse_138 ?_
          refine m_ist (k := 48) (i := 36) (n := 3200) B hM rfl rfl rfl (by decide) dX12_readUse_139 (by omega) (by omega) (show (-1 : Int) ≤ 1 from by first | omega | (simp only [wr_at]; omega)) (show 1 ≤ (1 : Int) from by first | omega | (simp only [wr_at]; omega)) (u1_up A [(17, y95_17), (18, y95_18), (19, y95_19), (20, y95_20), (21, y95_21), (47, y95_47), (48, y95_48), (49, y95_49), (50, y95_50), (51, y95_51), (52, y95_52), (53, y95_53), (54, y95_54)] 48 (wr y95_48 v95_1 1)) (fun H locs hM => ?_)
          replace hM : MWd D dA h0 ad (mF dA h0 ad (f, g, A, L) s.heap.size) s.heap ((up f [(8, y95_8), (9, y95_9), (7, y95_7), (10, y95_10), (5, y95_5), (6, y95_6), (22, y95_22), (62, y95_62)]), (up g [(11, y95_11)]), (up A [(17, y95_17), (18, y95_18), (19, y95_19), (20, y95_20), (21, y95_21), (47, y95_47), (48, (wr y95_48 v95_1 1)), (49, y95_49), (50, y95_50), (51, y95_51), (52, y95_52), (53, y95_53), (54, y95_54)]), (up L [(16, y95_16), (55, y95_55)])) H locs := hM
          refine lv_aload_n B.1 B.2.1 dX12_readUse_140 rfl (lv_at hl 0 rfl) ?_
          refine m_callv (n := 0) (rest := []) B hM hA hl.1 (k_next l D dA h0 ad (up f [(8, y95_8), (9, y95_9), (7, y95_7), (10, y95_10), (5, y95_5), (6, y95_6), (22, y95_22), (62, y95_62)]) (up g [(11, y95_11)]) (up A [(17, y95_17), (18, y95_18), (19, y95_19), (20, y95_20), (21, y95_21), (47, y95_47), (48, (wr y95_48 v95_1 1)), (49, y95_49), (50, y95_50), (51, y95_51), (52, y95_52), (53, y95_53), (54, y95_54)]) (up L [(16, y95_16), (55, y95_55)])   (show (y95_9) ≤ 3001 from by first | omega | (simp only [wr_at]; omega) | assumption)) rfl ok_next nm_next ⟨rfl, rfl⟩ ⟨Nat.le_of_ble_eq_true rfl, Nat.le_of_ble_eq_true rfl⟩ dX12_readUse_141 rfl rfl (Nat.le_of_ble_eq_true rfl) ⟨Nat.zero_le _, Nat.zero_le _⟩ (fun σr150 H locs hp151 hM => ?_)
          obtain ⟨x152, x153, x154, x155, w156, rfl, hp151⟩ := hp151
          replace hp151 : ((y95_9) ≤ (x152) ∨ (x152) = (f 4)) ∧ (0 ≤ (x152) ∧ (x152) ≤ (f 4) ∧ (x152) ≤ (x153) ∧ (x153) ≤ (f 4) + 1 ∧ ((x154) = 0 ↔ (x152) = (f 4)) ∧ (2 ≤ (x154) → (x152) < (x153) ∧ (x153) ≤ (f 4)) ∧ ((x154) = 5 → (x152) + 2 ≤ (x153) ∧ (x153) ≤ (x152) + 32)) := hp151
          obtain ⟨hp151_0, hp151_1⟩ := hp151
          simp only [up_up] at hM
          replace hM : MWd D dA h0 ad (mF dA h0 ad (f, g, A, L) s.heap.size) s.heap ((up f [(8, x152), (9, x153), (7, x154), (10, x155), (5, y95_5), (6, y95_6), (22, y95_22), (62, y95_62)]), (up g [(11, w156)]), (up A [(17, y95_17), (18, y95_18), (19, y95_19), (20, y95_20), (21, y95_21), (47, y95_47), (48, (wr y95_48 v95_1 1)), (49, y95_49), (50, y95_50), (51, y95_51), (52, y95_52), (53, y95_53), (54, y95_54)]), (up L [(16, y95_16), (55, y95_55)])) H locs := hM
          have r157 : (0 : Int) ≤ x152 ∧ x152 ≤ 3001 := hM.2.2.2.1 8
          have r158 : (0 : Int) ≤ x153 ∧ x153 ≤ 3002 := hM.2.2.2.1 9
          have r159 : (0 : Int) ≤ x154 ∧ x154 ≤ 6 := hM.2.2.2.1 7
          have r160 : (-2147483648 : Int) ≤ x155 ∧ x155 ≤ 2147483647 := hM.2.2.2.1 10
          exact JJ144 v95_1 x152 x153 x154 x155 y95_5 y95_6 y95_22 y95_62 w156 y95_17 y95_18 y95_19 y95_20 y95_21 y95_47 ((wr y95_48 v95_1 1)) y95_49 y95_50 y95_51 y95_52 y95_53 y95_54 y95_16 y95_55 _ _ ls hM (lv_sub hl [0, 1] rfl) (by omega) (by first | omega | (simp only [wr_at]; omega) | assumption) (by first | omega | (simp only [wr_at]; omega) | assumption) (by first | omega | (simp only [wr_at]; omega) | assumption) (by first | omega | (simp only [wr_at]; omega) | assumption) (by first | omega | (simp only [wr_at]; omega) | assumption) (by first | omega | (simp only [wr_at]; omega) | assumption) (by first | omega | (simp only [wr_at]; omega) | assumption) (by first | assumption | exact APe_rfl | exact APe_trans (by assumption) (by assumption) (by omega)) (by first | assumption | exact TXI_neg (by assumption) (by omega)) (by first | omega | (simp only [wr_at]; omega) | assumption) (by first | assumption | omega | (simp only [wr_at]; omega)) (by first | assumption | (intro hq; exfalso; omega) | (intro hq; have hz := ‹_ = 0 → _ ∧ _ ∧ _ ∧ _ = _ + 1 ∧ _ ∧ _› hq; exact UTI_ask (p_6 (by omega)) (by assumption) (by omega) hz.2.2.2.1 hz.2.2.2.2.1 hz.2.2.2.2.2) | (intro hq; exact UTI_step (‹_ = 0 → UTI _ _ _ _ _› (by omega)) (by first | assumption | exact APe_rfl) (by omega)))
        · refine q_con B dX12_readUse_134 ?_
          refine lv_goto (tgt := 139) B.1 B.2.1 dX12_readUse_135 (by decide) ?_
          refine m_ist (k := 48) (i := 36) (n := 3200) B hM rfl rfl rfl (by decide) dX12_readUse_139 (by omega) (by omega) (show (-1 : Int) ≤ 0 from by first | omega | (simp only [wr_at]; omega)) (show 0 ≤ (1 : Int) from by first | omega | (simp only [wr_at]; omega)) (u1_up A [(17, y95_17), (18, y95_18), (19, y95_19), (20, y95_20), (21, y95_21), (47, y95_47), (48, y95_48), (49, y95_49), (50, y95_50), (51, y95_51), (52, y95_52), (53, y95_53), (54, y95_54)] 48 (wr y95_48 v95_1 0)) (fun H locs hM => ?_)
          replace hM : MWd D dA h0 ad (mF dA h0 ad (f, g, A, L) s.heap.size) s.heap ((up f [(8, y95_8), (9, y95_9), (7, y95_7), (10, y95_10), (5, y95_5), (6, y95_6), (22, y95_22), (62, y95_62)]), (up g [(11, y95_11)]), (up A [(17, y95_17), (18, y95_18), (19, y95_19), (20, y95_20), (21, y95_21), (47, y95_47), (48, (wr y95_48 v95_1 0)), (49, y95_49), (50, y95_50), (51, y95_51), (52, y95_52), (53, y95_53), (54, y95_54)]), (up L [(16, y95_16), (55, y95_55)])) H locs := hM
          refine lv_aload_n B.1 B.2.1 dX12_readUse_140 rfl (lv_at hl 0 rfl) ?_
          refine m_callv (n := 0) (rest := []) B hM hA hl.1 (k_next l D dA h0 ad (up f [(8, y95_8), (9, y95_9), (7, y95_7), (10, y95_10), (5, y95_5), (6, y95_6), (22, y95_22), (62, y95_62)]) (up g [(11, y95_11)]) (up A [(17, y95_17), (18, y95_18), (19, y95_19), (20, y95_20), (21, y95_21), (47, y95_47), (48, (wr y95_48 v95_1 0)), (49, y95_49), (50, y95_50), (51, y95_51), (52, y95_52), (53, y95_53), (54, y95_54)]) (up L [(16, y95_16), (55, y95_55)])   (show (y95_9) ≤ 3001 from by first | omega | (simp only [wr_at]; omega) | assumption)) rfl ok_next nm_next ⟨rfl, rfl⟩ ⟨Nat.le_of_ble_eq_true rfl, Nat.le_of_ble_eq_true rfl⟩ dX12_readUse_141 rfl rfl (Nat.le_of_ble_eq_true rfl) ⟨Nat.zero_le _, Nat.zero_le _⟩ (fun σr161 H locs hp162 hM => ?_)
          obtain ⟨x163, x164, x165, x166, w167, rfl, hp162⟩ := hp162
          replace hp162 : ((y95_9) ≤ (x163) ∨ (x163) = (f 4)) ∧ (0 ≤ (x163) ∧ (x163) ≤ (f 4) ∧ (x163) ≤ (x164) ∧ (x164) ≤ (f 4) + 1 ∧ ((x165) = 0 ↔ (x163) = (f 4)) ∧ (2 ≤ (x165) → (x163) < (x164) ∧ (x164) ≤ (f 4)) ∧ ((x165) = 5 → (x163) + 2 ≤ (x164) ∧ (x164) ≤ (x163) + 32)) := hp162
          obtain ⟨hp162_0, hp162_1⟩ := hp162
          simp only [up_up] at hM
          replace hM : MWd D dA h0 ad (mF dA h0 ad (f, g, A, L) s.heap.size) s.heap ((up f [(8, x163), (9, x164), (7, x165), (10, x166), (5, y95_5), (6, y95_6), (22, y95_22), (62, y95_62)]), (up g [(11, w167)]), (up A [(17, y95_17), (18, y95_18), (19, y95_19), (20, y95_20), (21, y95_21), (47, y95_47), (48, (wr y95_48 v95_1 0)), (49, y95_49), (50, y95_50), (51, y95_51), (52, y95_52), (53, y95_53), (54, y95_54)]), (up L [(16, y95_16), (55, y95_55)])) H locs := hM
          have r168 : (0 : Int) ≤ x163 ∧ x163 ≤ 3001 := hM.2.2.2.1 8
          have r169 : (0 : Int) ≤ x164 ∧ x164 ≤ 3002 := hM.2.2.2.1 9
          have r170 : (0 : Int) ≤ x165 ∧ x165 ≤ 6 := hM.2.2.2.1 7
          have r171 : (-2147483648 : Int) ≤ x166 ∧ x166 ≤ 2147483647 := hM.2.2.2.1 10
          exact JJ144 v95_1 x163 x164 x165 x166 y95_5 y95_6 y95_22 y95_62 w167 y95_17 y95_18 y95_19 y95_20 y95_21 y95_47 ((wr y95_48 v95_1 0)) y95_49 y95_50 y95_51 y95_52 y95_53 y95_54 y95_16 y95_55 _ _ ls hM (lv_sub hl [0, 1] rfl) (by omega) (by first | omega | (simp only [wr_at]; omega) | assumption) (by first | omega | (simp only [wr_at]; omega) | assumption) (by first | omega | (simp only [wr_at]; omega) | assumption) (by first | omega | (simp only [wr_at]; omega) | assumption) (by first | omega | (simp only [wr_at]; omega) | assumption) (by first | omega | (simp only [wr_at]; omega) | assumption) (by first | omega | (simp only [wr_at]; omega) | assumption) (by first | assumption | exact APe_rfl | exact APe_trans (by assumption) (by assumption) (by omega)) (by first | assumption | exact TXI_neg (by assumption) (by omega)) (by first | omega | (simp only [wr_at]; omega) | assumption) (by first | assumption | omega | (simp only [wr_at]; omega)) (by first | assumption | (intro hq; exfalso; omega) | (intro hq; have hz := ‹_ = 0 → _ ∧ _ ∧ _ ∧ _ = _ + 1 ∧ _ ∧ _› hq; exact UTI_ask (p_6 (by omega)) (by assumption) (by omega) hz.2.2.2.1 hz.2.2.2.2.1 hz.2.2.2.2.2) | (intro hq; exact UTI_step (‹_ = 0 → UTI _ _ _ _ _› (by omega)) (by first | assumption | exact APe_rfl) (by omega)))
      · refine lv_aload_n B.1 B.2.1 dX12_readUse_111 rfl (lv_at hl 0 rfl) ?_
        refine q_bip B dX12_readUse_112 (by decide) ?_
        refine m_calli (n := 1) (rest := []) B hM hA hl.1 (k_isSign l D dA h0 ad (up f [(8, y95_8), (9, y95_9), (7, y95_7), (10, y95_10), (5, y95_5), (6, y95_6), (22, y95_22), (62, y95_62)]) (up g [(11, y95_11)]) (up A [(17, y95_17), (18, y95_18), (19, y95_19), (20, y95_20), (21, y95_21), (47, y95_47), (48, y95_48), (49, y95_49), (50, y95_50), (51, y95_51), (52, y95_52), (53, y95_53), (54, y95_54)]) (up L [(16, y95_16), (55, y95_55)]) 63 (by omega) (show (0 ≤ (y95_8) ∧ (y95_8) ≤ (f 4) ∧ (y95_8) ≤ (y95_9) ∧ (y95_9) ≤ (f 4) + 1 ∧ ((y95_7) = 0 ↔ (y95_8) = (f 4)) ∧ (2 ≤ (y95_7) → (y95_8) < (y95_9) ∧ (y95_9) ≤ (f 4)) ∧ ((y95_7) = 5 → (y95_8) + 2 ≤ (y95_9) ∧ (y95_9) ≤ (y95_8) + 32)) from by first | omega | (simp only [wr_at]; omega) | assumption)) rfl ok_isSign nm_isSign ⟨rfl, rfl⟩ ⟨Nat.le_of_ble_eq_true rfl, Nat.le_of_ble_eq_true rfl⟩ dX12_readUse_114 rfl rfl (Nat.le_of_ble_eq_true rfl) ⟨Nat.zero_le _, Nat.zero_le _⟩ (fun r172 σr172 H locs ir172 hp173 hM => ?_)
        obtain ⟨rfl, hp173⟩ := hp173
        unfold inr at ir172
        replace hp173 : 0 ≤ r172 ∧ r172 ≤ 1 ∧ (r172 = 1 ↔ (y95_7) = 6 ∧ sgn ((A 2)) (f 3) (f 4) (y95_8) = (63)) := hp173
        obtain ⟨hp173_0, hp173_1, hp173_2⟩ := hp173
        refine q_ieq (tgt := 144) B dX12_readUse_117 (by decide) (by unfold inr; omega) (fun c174 => ?_) (fun c174 => ?_)
        · exact JJ144 v95_1 y95_8 y95_9 y95_7 y95_10 y95_5 y95_6 y95_22 y95_62 y95_11 y95_17 y95_18 y95_19 y95_20 y95_21 y95_47 y95_48 y95_49 y95_50 y95_51 y95_52 y95_53 y95_54 y95_16 y95_55 _ _ ls hM (lv_sub hl [0, 1] rfl) (by omega) (by first | omega | (simp only [wr_at]; omega) | assumption) (by first | omega | (simp only [wr_at]; omega) | assumption) (by first | omega | (simp only [wr_at]; omega) | assumption) (by first | omega | (simp only [wr_at]; omega) | assumption) (by first | omega | (simp only [wr_at]; omega) | assumption) (by first | omega | (simp only [wr_at]; omega) | assumption) (by first | omega | (simp only [wr_at]; omega) | assumption) (by first | assumption | exact APe_rfl | exact APe_trans (by assumption) (by assumption) (by omega)) (by first | assumption | exact TXI_neg (by assumption) (by omega)) (by first | omega | (simp only [wr_at]; omega) | assumption) (by first | assumption | omega | (simp only [wr_at]; omega)) (by first | assumption | (intro hq; exfalso; omega) | (intro hq; have hz := ‹_ = 0 → _ ∧ _ ∧ _ ∧ _ = _ + 1 ∧ _ ∧ _› hq; exact UTI_ask (p_6 (by omega)) (by assumption) (by omega) hz.2.2.2.1 hz.2.2.2.2.1 hz.2.2.2.2.2) | (intro hq; exact UTI_step (‹_ = 0 → UTI _ _ _ _ _› (by omega)) (by first | assumption | exact APe_rfl) (by omega)))
        · refine lv_aload_n B.1 B.2.1 dX12_readUse_120 rfl (lv_at hl 0 rfl) ?_
          refine m_geta (k := 48) B hM (by decide) rfl fl238 dX12_readUse_121 ?_
          refine lv_iload_n B.1 B.2.1 dX12_readUse_124 rfl (lv_at hl 1 rfl) ?_
          refine lv_aload_n B.1 B.2.1 dX12_readUse_125 rfl (lv_at hl 0 rfl) ?_
          refine q_bip B dX12_readUse_126 (by decide) ?_
          refine m_calli (n := 1) (rest := [.int (II v95_1), .ref (ad 48)]) B hM hA hl.1 (k_isSign l D dA h0 ad (up f [(8, y95_8), (9, y95_9), (7, y95_7), (10, y95_10), (5, y95_5), (6, y95_6), (22, y95_22), (62, y95_62)]) (up g [(11, y95_11)]) (up A [(17, y95_17), (18, y95_18), (19, y95_19), (20, y95_20), (21, y95_21), (47, y95_47), (48, y95_48), (49, y95_49), (50, y95_50), (51, y95_51), (52, y95_52), (53, y95_53), (54, y95_54)]) (up L [(16, y95_16), (55, y95_55)]) 33 (by omega) (show (0 ≤ (y95_8) ∧ (y95_8) ≤ (f 4) ∧ (y95_8) ≤ (y95_9) ∧ (y95_9) ≤ (f 4) + 1 ∧ ((y95_7) = 0 ↔ (y95_8) = (f 4)) ∧ (2 ≤ (y95_7) → (y95_8) < (y95_9) ∧ (y95_9) ≤ (f 4)) ∧ ((y95_7) = 5 → (y95_8) + 2 ≤ (y95_9) ∧ (y95_9) ≤ (y95_8) + 32)) from by first | omega | (simp only [wr_at]; omega) | assumption)) rfl ok_isSign nm_isSign ⟨rfl, rfl⟩ ⟨Nat.le_of_ble_eq_true rfl, Nat.le_of_ble_eq_true rfl⟩ dX12_readUse_128 rfl rfl (Nat.le_of_ble_eq_true rfl) ⟨Nat.zero_le _, Nat.zero_le _⟩ (fun r175 σr175 H locs ir175 hp176 hM => ?_)
          obtain ⟨rfl, hp176⟩ := hp176
          unfold inr at ir175
          replace hp176 : 0 ≤ r175 ∧ r175 ≤ 1 ∧ (r175 = 1 ↔ (y95_7) = 6 ∧ sgn ((A 2)) (f 3) (f 4) (y95_8) = (33)) := hp176
          obtain ⟨hp176_0, hp176_1, hp176_2⟩ := hp176
          refine q_ieq (tgt := 138) B dX12_readUse_131 (by decide) (by unfold inr; omega) (fun c177 => ?_) (fun c177 => ?_)
          · refine q_con B dX12_readUse_138 ?_
            refine m_ist (k := 48) (i := 36) (n := 3200) B hM rfl rfl rfl (by decide) dX12_readUse_139 (by omega) (by omega) (show (-1 : Int) ≤ 1 from by first | omega | (simp only [wr_at]; omega)) (show 1 ≤ (1 : Int) from by first | omega | (simp only [wr_at]; omega)) (u1_up A [(17, y95_17), (18, y95_18), (19, y95_19), (20, y95_20), (21, y95_21), (47, y95_47), (48, y95_48), (49, y95_49), (50, y95_50), (51, y95_51), (52, y95_52), (53, y95_53), (54, y95_54)] 48 (wr y95_48 v95_1 1)) (fun H locs hM => ?_)
            replace hM : MWd D dA h0 ad (mF dA h0 ad (f, g, A, L) s.heap.size) s.heap ((up f [(8, y95_8), (9, y95_9), (7, y95_7), (10, y95_10), (5, y95_5), (6, y95_6), (22, y95_22), (62, y95_62)]), (up g [(11, y95_11)]), (up A [(17, y95_17), (18, y95_18), (19, y95_19), (20, y95_20), (21, y95_21), (47, y95_47), (48, (wr y95_48 v95_1 1)), (49, y95_49), (50, y95_50), (51, y95_51), (52, y95_52), (53, y95_53), (54, y95_54)]), (up L [(16, y95_16), (55, y95_55)])) H locs := hM
            refine lv_aload_n B.1 B.2.1 dX12_readUse_140 rfl (lv_at hl 0 rfl) ?_
            refine m_callv (n := 0) (rest := []) B hM hA hl.1 (k_next l D dA h0 ad (up f [(8, y95_8), (9, y95_9), (7, y95_7), (10, y95_10), (5, y95_5), (6, y95_6), (22, y95_22), (62, y95_62)]) (up g [(11, y95_11)]) (up A [(17, y95_17), (18, y95_18), (19, y95_19), (20, y95_20), (21, y95_21), (47, y95_47), (48, (wr y95_48 v95_1 1)), (49, y95_49), (50, y95_50), (51, y95_51), (52, y95_52), (53, y95_53), (54, y95_54)]) (up L [(16, y95_16), (55, y95_55)])   (show (y95_9) ≤ 3001 from by first | omega | (simp only [wr_at]; omega) | assumption)) rfl ok_next nm_next ⟨rfl, rfl⟩ ⟨Nat.le_of_ble_eq_true rfl, Nat.le_of_ble_eq_true rfl⟩ dX12_readUse_141 rfl rfl (Nat.le_of_ble_eq_true rfl) ⟨Nat.zero_le _, Nat.zero_le _⟩ (fun σr178 H locs hp179 hM => ?_)
            obtain ⟨x180, x181, x182, x183, w184, rfl, hp179⟩ := hp179
            replace hp179 : ((y95_9) ≤ (x180) ∨ (x180) = (f 4)) ∧ (0 ≤ (x180) ∧ (x180) ≤ (f 4) ∧ (x180) ≤ (x181) ∧ (x181) ≤ (f 4) + 1 ∧ ((x182) = 0 ↔ (x180) = (f 4)) ∧ (2 ≤ (x182) → (x180) < (x181) ∧ (x181) ≤ (f 4)) ∧ ((x182) = 5 → (x180) + 2 ≤ (x181) ∧ (x181) ≤ (x180) + 32)) := hp179
            obtain ⟨hp179_0, hp179_1⟩ := hp179
            simp only [up_up] at hM
            replace hM : MWd D dA h0 ad (mF dA h0 ad (f, g, A, L) s.heap.size) s.heap ((up f [(8, x180), (9, x181), (7, x182), (10, x183), (5, y95_5), (6, y95_6), (22, y95_22), (62, y95_62)]), (up g [(11, w184)]), (up A [(17, y95_17), (18, y95_18), (19, y95_19), (20, y95_20), (21, y95_21), (47, y95_47), (48, (wr y95_48 v95_1 1)), (49, y95_49), (50, y95_50), (51, y95_51), (52, y95_52), (53, y95_53), (54, y95_54)]), (up L [(16, y95_16), (55, y95_55)])) H locs := hM
            have r185 : (0 : Int) ≤ x180 ∧ x180 ≤ 3001 := hM.2.2.2.1 8
            have r186 : (0 : Int) ≤ x181 ∧ x181 ≤ 3002 := hM.2.2.2.1 9
            have r187 : (0 : Int) ≤ x182 ∧ x182 ≤ 6 := hM.2.2.2.1 7
            have r188 : (-2147483648 : Int) ≤ x183 ∧ x183 ≤ 2147483647 := hM.2.2.2.1 10
            exact JJ144 v95_1 x180 x181 x182 x183 y95_5 y95_6 y95_22 y95_62 w184 y95_17 y95_18 y95_19 y95_20 y95_21 y95_47 ((wr y95_48 v95_1 1)) y95_49 y95_50 y95_51 y95_52 y95_53 y95_54 y95_16 y95_55 _ _ ls hM (lv_sub hl [0, 1] rfl) (by omega) (by first | omega | (simp only [wr_at]; omega) | assumption) (by first | omega | (simp only [wr_at]; omega) | assumption) (by first | omega | (simp only [wr_at]; omega) | assumption) (by first | omega | (simp only [wr_at]; omega) | assumption) (by first | omega | (simp only [wr_at]; omega) | assumption) (by first | omega | (simp only [wr_at]; omega) | assumption) (by first | omega | (simp only [wr_at]; omega) | assumption) (by first | assumption | exact APe_rfl | exact APe_trans (by assumption) (by assumption) (by omega)) (by first | assumption | exact TXI_neg (by assumption) (by omega)) (by first | omega | (simp only [wr_at]; omega) | assumption) (by first | assumption | omega | (simp only [wr_at]; omega)) (by first | assumption | (intro hq; exfalso; omega) | (intro hq; have hz := ‹_ = 0 → _ ∧ _ ∧ _ ∧ _ = _ + 1 ∧ _ ∧ _› hq; exact UTI_ask (p_6 (by omega)) (by assumption) (by omega) hz.2.2.2.1 hz.2.2.2.2.1 hz.2.2.2.2.2) | (intro hq; exact UTI_step (‹_ = 0 → UTI _ _ _ _ _› (by omega)) (by first | assumption | exact APe_rfl) (by omega)))
          · refine q_con B dX12_readUse_134 ?_
            refine lv_goto (tgt := 139) B.1 B.2.1 dX12_readUse_135 (by decide) ?_
            refine m_ist (k := 48) (i := 36) (n := 3200) B hM rfl rfl rfl (by decide) dX12_readUse_139 (by omega) (by omega) (show (-1 : Int) ≤ 0 from by first | omega | (simp only [wr_at]; omega)) (show 0 ≤ (1 : Int) from by first | omega | (simp only [wr_at]; omega)) (u1_up A [(17, y95_17), (18, y95_18), (19, y95_19), (20, y95_20), (21, y95_21), (47, y95_47), (48, y95_48), (49, y95_49), (50, y95_50), (51, y95_51), (52, y95_52), (53, y95_53), (54, y95_54)] 48 (wr y95_48 v95_1 0)) (fun H locs hM => ?_)
            replace hM : MWd D dA h0 ad (mF dA h0 ad (f, g, A, L) s.heap.size) s.heap ((up f [(8, y95_8), (9, y95_9), (7, y95_7), (10, y95_10), (5, y95_5), (6, y95_6), (22, y95_22), (62, y95_62)]), (up g [(11, y95_11)]), (up A [(17, y95_17), (18, y95_18), (19, y95_19), (20, y95_20), (21, y95_21), (47, y95_47), (48, (wr y95_48 v95_1 0)), (49, y95_49), (50, y95_50), (51, y95_51), (52, y95_52), (53, y95_53), (54, y95_54)]), (up L [(16, y95_16), (55, y95_55)])) H locs := hM
            refine lv_aload_n B.1 B.2.1 dX12_readUse_140 rfl (lv_at hl 0 rfl) ?_
            refine m_callv (n := 0) (rest := []) B hM hA hl.1 (k_next l D dA h0 ad (up f [(8, y95_8), (9, y95_9), (7, y95_7), (10, y95_10), (5, y95_5), (6, y95_6), (22, y95_22), (62, y95_62)]) (up g [(11, y95_11)]) (up A [(17, y95_17), (18, y95_18), (19, y95_19), (20, y95_20), (21, y95_21), (47, y95_47), (48, (wr y95_48 v95_1 0)), (49, y95_49), (50, y95_50), (51, y95_51), (52, y95_52), (53, y95_53), (54, y95_54)]) (up L [(16, y95_16), (55, y95_55)])   (show (y95_9) ≤ 3001 from by first | omega | (simp only [wr_at]; omega) | assumption)) rfl ok_next nm_next ⟨rfl, rfl⟩ ⟨Nat.le_of_ble_eq_true rfl, Nat.le_of_ble_eq_true rfl⟩ dX12_readUse_141 rfl rfl (Nat.le_of_ble_eq_true rfl) ⟨Nat.zero_le _, Nat.zero_le _⟩ (fun σr189 H locs hp190 hM => ?_)
            obtain ⟨x191, x192, x193, x194, w195, rfl, hp190⟩ := hp190
            replace hp190 : ((y95_9) ≤ (x191) ∨ (x191) = (f 4)) ∧ (0 ≤ (x191) ∧ (x191) ≤ (f 4) ∧ (x191) ≤ (x192) ∧ (x192) ≤ (f 4) + 1 ∧ ((x193) = 0 ↔ (x191) = (f 4)) ∧ (2 ≤ (x193) → (x191) < (x192) ∧ (x192) ≤ (f 4)) ∧ ((x193) = 5 → (x191) + 2 ≤ (x192) ∧ (x192) ≤ (x191) + 32)) := hp190
            obtain ⟨hp190_0, hp190_1⟩ := hp190
            simp only [up_up] at hM
            replace hM : MWd D dA h0 ad (mF dA h0 ad (f, g, A, L) s.heap.size) s.heap ((up f [(8, x191), (9, x192), (7, x193), (10, x194), (5, y95_5), (6, y95_6), (22, y95_22), (62, y95_62)]), (up g [(11, w195)]), (up A [(17, y95_17), (18, y95_18), (19, y95_19), (20, y95_20), (21, y95_21), (47, y95_47), (48, (wr y95_48 v95_1 0)), (49, y95_49), (50, y95_50), (51, y95_51), (52, y95_52), (53, y95_53), (54, y95_54)]), (up L [(16, y95_16), (55, y95_55)])) H locs := hM
            have r196 : (0 : Int) ≤ x191 ∧ x191 ≤ 3001 := hM.2.2.2.1 8
            have r197 : (0 : Int) ≤ x192 ∧ x192 ≤ 3002 := hM.2.2.2.1 9
            have r198 : (0 : Int) ≤ x193 ∧ x193 ≤ 6 := hM.2.2.2.1 7
            have r199 : (-2147483648 : Int) ≤ x194 ∧ x194 ≤ 2147483647 := hM.2.2.2.1 10
            exact JJ144 v95_1 x191 x192 x193 x194 y95_5 y95_6 y95_22 y95_62 w195 y95_17 y95_18 y95_19 y95_20 y95_21 y95_47 ((wr y95_48 v95_1 0)) y95_49 y95_50 y95_51 y95_52 y95_53 y95_54 y95_16 y95_55 _ _ ls hM (lv_sub hl [0, 1] rfl) (by omega) (by first | omega | (simp only [wr_at]; omega) | assumption) (by first | omega | (simp only [wr_at]; omega) | assumption) (by first | omega | (simp only [wr_at]; omega) | assumption) (by first | omega | (simp only [wr_at]; omega) | assumption) (by first | omega | (simp only [wr_at]; omega) | assumption) (by first | omega | (simp only [wr_at]; omega) | assumption) (by first | omega | (simp only [wr_at]; omega) | assumption) (by first | assumption | exact APe_rfl | exact APe_trans (by assumption) (by assumption) (by omega)) (by first | assumption | exact TXI_neg (by assumption) (by omega)) (by first | omega | (simp only [wr_at]; omega) | assumption) (by first | assumption | omega | (simp only [wr_at]; omega)) (by first | assumption | (intro hq; exfalso; omega) | (intro hq; have hz := ‹_ = 0 → _ ∧ _ ∧ _ ∧ _ = _ + 1 ∧ _ ∧ _› hq; exact UTI_ask (p_6 (by omega)) (by assumption) (by omega) hz.2.2.2.1 hz.2.2.2.2.1 hz.2.2.2.2.2) | (intro hq; exact UTI_step (‹_ = 0 → UTI _ _ _ _ _› (by omega)) (by first | assumption | exact APe_rfl) (by omega)))
  refine q_sip B dX12_readUse_0 (by decide) ?_
  refine lv_aload_n B.1 B.2.1 dX12_readUse_3 rfl (lv_at hl 0 rfl) ?_
  refine m_get (k := 3) (v := f 3) B hM (by decide) rfl fl11 dX12_readUse_4 rfl ?_
  refine q_mul B dX12_readUse_7 ?_
  refine lv_aload_n B.1 B.2.1 dX12_readUse_8 rfl (lv_at hl 0 rfl) ?_
  refine m_get (k := 62) (v := f 62) B hM (by decide) rfl fl418 dX12_readUse_9 rfl ?_
  refine q_add B dX12_readUse_12 ?_
  refine lv_istore_n (lv' := [(1, .int (II ((1600 * (f 3)) + (f 62)))), (0, .ref h0)]) B.1 B.2.1 dX12_readUse_13 rfl hl (by decide) rfl (fun ls hl => ?_)
  refine lv_aload_n B.1 B.2.1 dX12_readUse_14 rfl (lv_at hl 1 rfl) ?_
  refine lv_dup B.1 B.2.1 dX12_readUse_15 rfl ?_
  refine m_get (k := 62) (v := f 62) B hM (by decide) rfl fl418 dX12_readUse_16 rfl ?_
  refine q_con B dX12_readUse_19 ?_
  refine q_add B dX12_readUse_20 ?_
  refine m_put (k := 62) B hM (by decide) rfl fl418 rfl dX12_readUse_21 rfl rfl (show (0 : Int) ≤ (f 62) + 1 from by first | omega | (simp only [wr_at]; omega)) (show (f 62) + 1 ≤ (1590 : Int) from by first | omega | (simp only [wr_at]; omega)) (u1_up f [(8, f 8), (9, f 9), (7, f 7), (10, f 10), (5, f 5), (6, f 6), (22, f 22), (62, f 62)] 62 ((f 62) + 1)) (fun H locs hM => ?_)
  replace hM : MWd D dA h0 ad (mF dA h0 ad (f, g, A, L) s.heap.size) s.heap ((up f [(8, f 8), (9, f 9), (7, f 7), (10, f 10), (5, f 5), (6, f 6), (22, f 22), (62, (f 62) + 1)]), (up g [(11, g 11)]), (up A [(17, (A 17)), (18, (A 18)), (19, (A 19)), (20, (A 20)), (21, (A 21)), (47, (A 47)), (48, (A 48)), (49, (A 49)), (50, (A 50)), (51, (A 51)), (52, (A 52)), (53, (A 53)), (54, (A 54))]), (up L [(16, (L 16)), (55, (L 55))])) H locs := hM
  refine lv_aload_n B.1 B.2.1 dX12_readUse_24 rfl (lv_at hl 1 rfl) ?_
  refine q_con B dX12_readUse_25 ?_
  refine q_con B dX12_readUse_26 ?_
  refine q_con B dX12_readUse_27 ?_
  refine lv_iload_n B.1 B.2.1 dX12_readUse_28 rfl (lv_at hl 0 rfl) ?_
  refine m_callv (n := 4) (rest := []) B hM hA hl.1 (k_ask l D dA h0 ad (up f [(8, f 8), (9, f 9), (7, f 7), (10, f 10), (5, f 5), (6, f 6), (22, f 22), (62, (f 62) + 1)]) (up g [(11, g 11)]) (up A [(17, (A 17)), (18, (A 18)), (19, (A 19)), (20, (A 20)), (21, (A 21)), (47, (A 47)), (48, (A 48)), (49, (A 49)), (50, (A 50)), (51, (A 51)), (52, (A 52)), (53, (A 53)), (54, (A 54))]) (up L [(16, (L 16)), (55, (L 55))]) 0 (-1) 5 ((1600 * (f 3)) + (f 62)) (by omega) (by omega) (by omega) (by omega) (show (0 ≤ (f 8) ∧ (f 8) ≤ (f 4) ∧ (f 8) ≤ (f 9) ∧ (f 9) ≤ (f 4) + 1 ∧ ((f 7) = 0 ↔ (f 8) = (f 4)) ∧ (2 ≤ (f 7) → (f 8) < (f 9) ∧ (f 9) ≤ (f 4)) ∧ ((f 7) = 5 → (f 8) + 2 ≤ (f 9) ∧ (f 9) ≤ (f 8) + 32)) from by first | omega | (simp only [wr_at]; omega) | assumption) (show 2 * (f 22) ≤ (f 8) from by first | omega | (simp only [wr_at]; omega) | assumption) (show 0 ≤ (0) from by first | omega | (simp only [wr_at]; omega) | assumption) (show (0) ≤ 5 from by first | omega | (simp only [wr_at]; omega) | assumption) (show -1 ≤ (-1) from by first | omega | (simp only [wr_at]; omega) | assumption) (show (-1) ≤ 16 from by first | omega | (simp only [wr_at]; omega) | assumption) (show 0 ≤ (5) from by first | omega | (simp only [wr_at]; omega) | assumption) (show (5) ≤ 5 from by first | omega | (simp only [wr_at]; omega) | assumption) (show 0 ≤ ((1600 * (f 3)) + (f 62)) from by first | omega | (simp only [wr_at]; omega) | assumption) (show ((1600 * (f 3)) + (f 62)) ≤ 3199 from by first | omega | (simp only [wr_at]; omega) | assumption) (show ((f 7) = 2 → ((5) = 0 → ((1600 * (f 3)) + (f 62)) < 18 ∧ (0) = 1) ∧ ((5) = 1 → ((1600 * (f 3)) + (f 62)) < 96 ∧ (0) = 1) ∧ ((5) = 3 → ((1600 * (f 3)) + (f 62)) < 400) ∧ ((5) = 4 → (0) = 1)) from by first | omega | (simp only [wr_at]; omega) | assumption) (show AIp (f 22) (A 18) (A 20) (A 21) from by first | omega | (simp only [wr_at]; omega) | assumption)) rfl ok_ask nm_ask ⟨rfl, rfl⟩ ⟨Nat.le_of_ble_eq_true rfl, Nat.le_of_ble_eq_true rfl⟩ dX12_readUse_29 rfl rfl (Nat.le_of_ble_eq_true rfl) ⟨Nat.zero_le _, Nat.zero_le _⟩ (fun σr200 H locs hp201 hM => ?_)
  obtain ⟨x202, x203, x204, x205, x206, x207, x208, w209, b210, b211, b212, b213, b214, b215, rfl, hp201⟩ := hp201
  replace hp201 : ((0 ≤ (x202) ∧ (x202) ≤ (f 4) ∧ (x202) ≤ (x203) ∧ (x203) ≤ (f 4) + 1 ∧ ((x204) = 0 ↔ (x202) = (f 4)) ∧ (2 ≤ (x204) → (x202) < (x203) ∧ (x203) ≤ (f 4)) ∧ ((x204) = 5 → (x202) + 2 ≤ (x203) ∧ (x203) ≤ (x202) + 32))) ∧ (f 8) ≤ (x202) ∧ ((x206) = 0 → (f 5) = 0 ∧ (f 8) + 1 ≤ (x202) ∧ (f 7) = 2 ∧ (x208) = (f 22) + 1 ∧ b213 ((f 22)).toNat = (5) ∧ b214 ((f 22)).toNat = ((1600 * (f 3)) + (f 62))) ∧ 2 * (x208) ≤ (x202) + 1 ∧ (f 22) ≤ (x208) ∧ AIp (x208) b211 b213 b214 ∧ APe (f 22) (A 20) (A 21) b213 b214 := hp201
  obtain ⟨hp201_0, hp201_1, hp201_2, hp201_3, hp201_4, hp201_5, hp201_6⟩ := hp201
  simp only [up_up] at hM
  replace hM : MWd D dA h0 ad (mF dA h0 ad (f, g, A, L) s.heap.size) s.heap ((up f [(8, x202), (9, x203), (7, x204), (10, x205), (5, x206), (6, x207), (22, x208), (62, (f 62) + 1)]), (up g [(11, w209)]), (up A [(17, b210), (18, b211), (19, b212), (20, b213), (21, b214), (47, (A 47)), (48, (A 48)), (49, (A 49)), (50, (A 50)), (51, (A 51)), (52, (A 52)), (53, (A 53)), (54, (A 54))]), (up L [(16, b215), (55, (L 55))])) H locs := hM
  have r216 : (0 : Int) ≤ x202 ∧ x202 ≤ 3001 := hM.2.2.2.1 8
  have r217 : (0 : Int) ≤ x203 ∧ x203 ≤ 3002 := hM.2.2.2.1 9
  have r218 : (0 : Int) ≤ x204 ∧ x204 ≤ 6 := hM.2.2.2.1 7
  have r219 : (-2147483648 : Int) ≤ x205 ∧ x205 ≤ 2147483647 := hM.2.2.2.1 10
  have r220 : (-2147483648 : Int) ≤ x206 ∧ x206 ≤ 2147483647 := hM.2.2.2.1 5
  have r221 : (-2147483648 : Int) ≤ x207 ∧ x207 ≤ 2147483647 := hM.2.2.2.1 6
  have r222 : (0 : Int) ≤ x208 ∧ x208 ≤ 1600 := hM.2.2.2.1 22
  refine lv_aload_n B.1 B.2.1 dX12_readUse_32 rfl (lv_at hl 1 rfl) ?_
  refine m_geta (k := 47) B hM (by decide) rfl fl235 dX12_readUse_33 ?_
  refine lv_iload_n B.1 B.2.1 dX12_readUse_36 rfl (lv_at hl 0 rfl) ?_
  refine q_con B dX12_readUse_37 ?_
  refine m_ist (k := 47) (i := 35) (n := 3200) B hM rfl rfl rfl (by decide) dX12_readUse_38 (by omega) (by omega) (show (0 : Int) ≤ 0 from by first | omega | (simp only [wr_at]; omega)) (show 0 ≤ (4 : Int) from by first | omega | (simp only [wr_at]; omega)) (u1_up A [(17, b210), (18, b211), (19, b212), (20, b213), (21, b214), (47, (A 47)), (48, (A 48)), (49, (A 49)), (50, (A 50)), (51, (A 51)), (52, (A 52)), (53, (A 53)), (54, (A 54))] 47 (wr (A 47) ((1600 * (f 3)) + (f 62)) 0)) (fun H locs hM => ?_)
  replace hM : MWd D dA h0 ad (mF dA h0 ad (f, g, A, L) s.heap.size) s.heap ((up f [(8, x202), (9, x203), (7, x204), (10, x205), (5, x206), (6, x207), (22, x208), (62, (f 62) + 1)]), (up g [(11, w209)]), (up A [(17, b210), (18, b211), (19, b212), (20, b213), (21, b214), (47, (wr (A 47) ((1600 * (f 3)) + (f 62)) 0)), (48, (A 48)), (49, (A 49)), (50, (A 50)), (51, (A 51)), (52, (A 52)), (53, (A 53)), (54, (A 54))]), (up L [(16, b215), (55, (L 55))])) H locs := hM
  refine lv_aload_n B.1 B.2.1 dX12_readUse_39 rfl (lv_at hl 1 rfl) ?_
  refine m_geta (k := 48) B hM (by decide) rfl fl238 dX12_readUse_40 ?_
  refine lv_iload_n B.1 B.2.1 dX12_readUse_43 rfl (lv_at hl 0 rfl) ?_
  refine q_con B dX12_readUse_44 ?_
  refine m_ist (k := 48) (i := 36) (n := 3200) B hM rfl rfl rfl (by decide) dX12_readUse_45 (by omega) (by omega) (show (-1 : Int) ≤ -1 from by first | omega | (simp only [wr_at]; omega)) (show -1 ≤ (1 : Int) from by first | omega | (simp only [wr_at]; omega)) (u1_up A [(17, b210), (18, b211), (19, b212), (20, b213), (21, b214), (47, (wr (A 47) ((1600 * (f 3)) + (f 62)) 0)), (48, (A 48)), (49, (A 49)), (50, (A 50)), (51, (A 51)), (52, (A 52)), (53, (A 53)), (54, (A 54))] 48 (wr (A 48) ((1600 * (f 3)) + (f 62)) (-1))) (fun H locs hM => ?_)
  replace hM : MWd D dA h0 ad (mF dA h0 ad (f, g, A, L) s.heap.size) s.heap ((up f [(8, x202), (9, x203), (7, x204), (10, x205), (5, x206), (6, x207), (22, x208), (62, (f 62) + 1)]), (up g [(11, w209)]), (up A [(17, b210), (18, b211), (19, b212), (20, b213), (21, b214), (47, (wr (A 47) ((1600 * (f 3)) + (f 62)) 0)), (48, (wr (A 48) ((1600 * (f 3)) + (f 62)) (-1))), (49, (A 49)), (50, (A 50)), (51, (A 51)), (52, (A 52)), (53, (A 53)), (54, (A 54))]), (up L [(16, b215), (55, (L 55))])) H locs := hM
  refine lv_aload_n B.1 B.2.1 dX12_readUse_46 rfl (lv_at hl 1 rfl) ?_
  refine m_geta (k := 49) B hM (by decide) rfl fl241 dX12_readUse_47 ?_
  refine lv_iload_n B.1 B.2.1 dX12_readUse_50 rfl (lv_at hl 0 rfl) ?_
  refine q_con B dX12_readUse_51 ?_
  refine m_ist (k := 49) (i := 37) (n := 3200) B hM rfl rfl rfl (by decide) dX12_readUse_52 (by omega) (by omega) (show (-1 : Int) ≤ -1 from by first | omega | (simp only [wr_at]; omega)) (show -1 ≤ (7 : Int) from by first | omega | (simp only [wr_at]; omega)) (u1_up A [(17, b210), (18, b211), (19, b212), (20, b213), (21, b214), (47, (wr (A 47) ((1600 * (f 3)) + (f 62)) 0)), (48, (wr (A 48) ((1600 * (f 3)) + (f 62)) (-1))), (49, (A 49)), (50, (A 50)), (51, (A 51)), (52, (A 52)), (53, (A 53)), (54, (A 54))] 49 (wr (A 49) ((1600 * (f 3)) + (f 62)) (-1))) (fun H locs hM => ?_)
  replace hM : MWd D dA h0 ad (mF dA h0 ad (f, g, A, L) s.heap.size) s.heap ((up f [(8, x202), (9, x203), (7, x204), (10, x205), (5, x206), (6, x207), (22, x208), (62, (f 62) + 1)]), (up g [(11, w209)]), (up A [(17, b210), (18, b211), (19, b212), (20, b213), (21, b214), (47, (wr (A 47) ((1600 * (f 3)) + (f 62)) 0)), (48, (wr (A 48) ((1600 * (f 3)) + (f 62)) (-1))), (49, (wr (A 49) ((1600 * (f 3)) + (f 62)) (-1))), (50, (A 50)), (51, (A 51)), (52, (A 52)), (53, (A 53)), (54, (A 54))]), (up L [(16, b215), (55, (L 55))])) H locs := hM
  refine lv_aload_n B.1 B.2.1 dX12_readUse_53 rfl (lv_at hl 1 rfl) ?_
  refine m_geta (k := 50) B hM (by decide) rfl fl244 dX12_readUse_54 ?_
  refine lv_iload_n B.1 B.2.1 dX12_readUse_57 rfl (lv_at hl 0 rfl) ?_
  refine q_con B dX12_readUse_58 ?_
  refine m_ist (k := 50) (i := 38) (n := 3200) B hM rfl rfl rfl (by decide) dX12_readUse_59 (by omega) (by omega) (show (-2147483648 : Int) ≤ 0 from by first | omega | (simp only [wr_at]; omega)) (show 0 ≤ (2147483647 : Int) from by first | omega | (simp only [wr_at]; omega)) (u1_up A [(17, b210), (18, b211), (19, b212), (20, b213), (21, b214), (47, (wr (A 47) ((1600 * (f 3)) + (f 62)) 0)), (48, (wr (A 48) ((1600 * (f 3)) + (f 62)) (-1))), (49, (wr (A 49) ((1600 * (f 3)) + (f 62)) (-1))), (50, (A 50)), (51, (A 51)), (52, (A 52)), (53, (A 53)), (54, (A 54))] 50 (wr (A 50) ((1600 * (f 3)) + (f 62)) 0)) (fun H locs hM => ?_)
  replace hM : MWd D dA h0 ad (mF dA h0 ad (f, g, A, L) s.heap.size) s.heap ((up f [(8, x202), (9, x203), (7, x204), (10, x205), (5, x206), (6, x207), (22, x208), (62, (f 62) + 1)]), (up g [(11, w209)]), (up A [(17, b210), (18, b211), (19, b212), (20, b213), (21, b214), (47, (wr (A 47) ((1600 * (f 3)) + (f 62)) 0)), (48, (wr (A 48) ((1600 * (f 3)) + (f 62)) (-1))), (49, (wr (A 49) ((1600 * (f 3)) + (f 62)) (-1))), (50, (wr (A 50) ((1600 * (f 3)) + (f 62)) 0)), (51, (A 51)), (52, (A 52)), (53, (A 53)), (54, (A 54))]), (up L [(16, b215), (55, (L 55))])) H locs := hM
  refine lv_aload_n B.1 B.2.1 dX12_readUse_60 rfl (lv_at hl 1 rfl) ?_
  refine m_geta (k := 53) B hM (by decide) rfl fl253 dX12_readUse_61 ?_
  refine lv_iload_n B.1 B.2.1 dX12_readUse_64 rfl (lv_at hl 0 rfl) ?_
  refine q_con B dX12_readUse_65 ?_
  refine m_zst (k := 53) (i := 41) (n := 3200) B hM rfl rfl rfl (by decide) dX12_readUse_66 (by omega) (by omega) (by omega) (show (0 : Int) ≤ 0 from by first | omega | (simp only [wr_at]; omega)) (show 0 ≤ (1 : Int) from by first | omega | (simp only [wr_at]; omega)) (u1_up A [(17, b210), (18, b211), (19, b212), (20, b213), (21, b214), (47, (wr (A 47) ((1600 * (f 3)) + (f 62)) 0)), (48, (wr (A 48) ((1600 * (f 3)) + (f 62)) (-1))), (49, (wr (A 49) ((1600 * (f 3)) + (f 62)) (-1))), (50, (wr (A 50) ((1600 * (f 3)) + (f 62)) 0)), (51, (A 51)), (52, (A 52)), (53, (A 53)), (54, (A 54))] 53 (wr (A 53) ((1600 * (f 3)) + (f 62)) 0)) (fun H locs hM => ?_)
  replace hM : MWd D dA h0 ad (mF dA h0 ad (f, g, A, L) s.heap.size) s.heap ((up f [(8, x202), (9, x203), (7, x204), (10, x205), (5, x206), (6, x207), (22, x208), (62, (f 62) + 1)]), (up g [(11, w209)]), (up A [(17, b210), (18, b211), (19, b212), (20, b213), (21, b214), (47, (wr (A 47) ((1600 * (f 3)) + (f 62)) 0)), (48, (wr (A 48) ((1600 * (f 3)) + (f 62)) (-1))), (49, (wr (A 49) ((1600 * (f 3)) + (f 62)) (-1))), (50, (wr (A 50) ((1600 * (f 3)) + (f 62)) 0)), (51, (A 51)), (52, (A 52)), (53, (wr (A 53) ((1600 * (f 3)) + (f 62)) 0)), (54, (A 54))]), (up L [(16, b215), (55, (L 55))])) H locs := hM
  refine lv_aload_n B.1 B.2.1 dX12_readUse_67 rfl (lv_at hl 1 rfl) ?_
  refine m_geta (k := 52) B hM (by decide) rfl fl250 dX12_readUse_68 ?_
  refine lv_iload_n B.1 B.2.1 dX12_readUse_71 rfl (lv_at hl 0 rfl) ?_
  refine q_con B dX12_readUse_72 ?_
  refine m_ist (k := 52) (i := 40) (n := 3200) B hM rfl rfl rfl (by decide) dX12_readUse_73 (by omega) (by omega) (show (-1 : Int) ≤ -1 from by first | omega | (simp only [wr_at]; omega)) (show -1 ≤ (30 : Int) from by first | omega | (simp only [wr_at]; omega)) (u1_up A [(17, b210), (18, b211), (19, b212), (20, b213), (21, b214), (47, (wr (A 47) ((1600 * (f 3)) + (f 62)) 0)), (48, (wr (A 48) ((1600 * (f 3)) + (f 62)) (-1))), (49, (wr (A 49) ((1600 * (f 3)) + (f 62)) (-1))), (50, (wr (A 50) ((1600 * (f 3)) + (f 62)) 0)), (51, (A 51)), (52, (A 52)), (53, (wr (A 53) ((1600 * (f 3)) + (f 62)) 0)), (54, (A 54))] 52 (wr (A 52) ((1600 * (f 3)) + (f 62)) (-1))) (fun H locs hM => ?_)
  replace hM : MWd D dA h0 ad (mF dA h0 ad (f, g, A, L) s.heap.size) s.heap ((up f [(8, x202), (9, x203), (7, x204), (10, x205), (5, x206), (6, x207), (22, x208), (62, (f 62) + 1)]), (up g [(11, w209)]), (up A [(17, b210), (18, b211), (19, b212), (20, b213), (21, b214), (47, (wr (A 47) ((1600 * (f 3)) + (f 62)) 0)), (48, (wr (A 48) ((1600 * (f 3)) + (f 62)) (-1))), (49, (wr (A 49) ((1600 * (f 3)) + (f 62)) (-1))), (50, (wr (A 50) ((1600 * (f 3)) + (f 62)) 0)), (51, (A 51)), (52, (wr (A 52) ((1600 * (f 3)) + (f 62)) (-1))), (53, (wr (A 53) ((1600 * (f 3)) + (f 62)) 0)), (54, (A 54))]), (up L [(16, b215), (55, (L 55))])) H locs := hM
  refine lv_aload_n B.1 B.2.1 dX12_readUse_74 rfl (lv_at hl 1 rfl) ?_
  refine m_calli (n := 0) (rest := []) B hM hA hl.1 (k_isGood l D dA h0 ad (up f [(8, x202), (9, x203), (7, x204), (10, x205), (5, x206), (6, x207), (22, x208), (62, (f 62) + 1)]) (up g [(11, w209)]) (up A [(17, b210), (18, b211), (19, b212), (20, b213), (21, b214), (47, (wr (A 47) ((1600 * (f 3)) + (f 62)) 0)), (48, (wr (A 48) ((1600 * (f 3)) + (f 62)) (-1))), (49, (wr (A 49) ((1600 * (f 3)) + (f 62)) (-1))), (50, (wr (A 50) ((1600 * (f 3)) + (f 62)) 0)), (51, (A 51)), (52, (wr (A 52) ((1600 * (f 3)) + (f 62)) (-1))), (53, (wr (A 53) ((1600 * (f 3)) + (f 62)) 0)), (54, (A 54))]) (up L [(16, b215), (55, (L 55))])   ) rfl ok_isGood nm_isGood ⟨rfl, rfl⟩ ⟨Nat.le_of_ble_eq_true rfl, Nat.le_of_ble_eq_true rfl⟩ dX12_readUse_75 rfl rfl (Nat.le_of_ble_eq_true rfl) ⟨Nat.zero_le _, Nat.zero_le _⟩ (fun r223 σr223 H locs ir223 hp224 hM => ?_)
  obtain ⟨rfl, hp224⟩ := hp224
  unfold inr at ir223
  replace hp224 : 0 ≤ r223 ∧ r223 ≤ 1 ∧ (r223 = 1 ↔ (x206) = 0) := hp224
  obtain ⟨hp224_0, hp224_1, hp224_2⟩ := hp224
  refine q_ieq (tgt := 95) B dX12_readUse_78 (by decide) (by unfold inr; omega) (fun c225 => ?_) (fun c225 => ?_)
  · exact JJ95 ((1600 * (f 3)) + (f 62)) x202 x203 x204 x205 x206 x207 x208 ((f 62) + 1) w209 b210 b211 b212 b213 b214 ((wr (A 47) ((1600 * (f 3)) + (f 62)) 0)) ((wr (A 48) ((1600 * (f 3)) + (f 62)) (-1))) ((wr (A 49) ((1600 * (f 3)) + (f 62)) (-1))) ((wr (A 50) ((1600 * (f 3)) + (f 62)) 0)) ((A 51)) ((wr (A 52) ((1600 * (f 3)) + (f 62)) (-1))) ((wr (A 53) ((1600 * (f 3)) + (f 62)) 0)) ((A 54)) b215 ((L 55)) _ _ ls hM (lv_sub hl [1, 0] rfl) (by omega) (by first | omega | (simp only [wr_at]; omega) | assumption) (by first | omega | (simp only [wr_at]; omega) | assumption) (by first | omega | (simp only [wr_at]; omega) | assumption) (by first | omega | (simp only [wr_at]; omega) | assumption) (by first | omega | (simp only [wr_at]; omega) | assumption) (by first | omega | (simp only [wr_at]; omega) | assumption) (by first | omega | (simp only [wr_at]; omega) | assumption) (by first | assumption | exact APe_rfl | exact APe_trans (by assumption) (by assumption) (by omega)) (by first | assumption | exact TXI_neg (by assumption) (by omega)) (by first | omega | (simp only [wr_at]; omega) | assumption) (by first | assumption | omega | (simp only [wr_at]; omega)) (by first | assumption | (intro hq; exfalso; omega) | (intro hq; have hz := ‹_ = 0 → _ ∧ _ ∧ _ ∧ _ = _ + 1 ∧ _ ∧ _› hq; exact UTI_ask (p_6 (by omega)) (by assumption) (by omega) hz.2.2.2.1 hz.2.2.2.2.1 hz.2.2.2.2.2) | (intro hq; exact UTI_step (‹_ = 0 → UTI _ _ _ _ _› (by omega)) (by first | assumption | exact APe_rfl) (by omega)))
  · refine lv_aload_n B.1 B.2.1 dX12_readUse_81 rfl (lv_at hl 1 rfl) ?_
    refine q_bip B dX12_readUse_82 (by decide) ?_
    refine m_calli (n := 1) (rest := []) B hM hA hl.1 (k_isSign l D dA h0 ad (up f [(8, x202), (9, x203), (7, x204), (10, x205), (5, x206), (6, x207), (22, x208), (62, (f 62) + 1)]) (up g [(11, w209)]) (up A [(17, b210), (18, b211), (19, b212), (20, b213), (21, b214), (47, (wr (A 47) ((1600 * (f 3)) + (f 62)) 0)), (48, (wr (A 48) ((1600 * (f 3)) + (f 62)) (-1))), (49, (wr (A 49) ((1600 * (f 3)) + (f 62)) (-1))), (50, (wr (A 50) ((1600 * (f 3)) + (f 62)) 0)), (51, (A 51)), (52, (wr (A 52) ((1600 * (f 3)) + (f 62)) (-1))), (53, (wr (A 53) ((1600 * (f 3)) + (f 62)) 0)), (54, (A 54))]) (up L [(16, b215), (55, (L 55))]) 40 (by omega) (show (0 ≤ (x202) ∧ (x202) ≤ (f 4) ∧ (x202) ≤ (x203) ∧ (x203) ≤ (f 4) + 1 ∧ ((x204) = 0 ↔ (x202) = (f 4)) ∧ (2 ≤ (x204) → (x202) < (x203) ∧ (x203) ≤ (f 4)) ∧ ((x204) = 5 → (x202) + 2 ≤ (x203) ∧ (x203) ≤ (x202) + 32)) from by first | omega | (simp only [wr_at]; omega) | assumption)) rfl ok_isSign nm_isSign ⟨rfl, rfl⟩ ⟨Nat.le_of_ble_eq_true rfl, Nat.le_of_ble_eq_true rfl⟩ dX12_readUse_84 rfl rfl (Nat.le_of_ble_eq_true rfl) ⟨Nat.zero_le _, Nat.zero_le _⟩ (fun r226 σr226 H locs ir226 hp227 hM => ?_)
    obtain ⟨rfl, hp227⟩ := hp227
    unfold inr at ir226
    replace hp227 : 0 ≤ r226 ∧ r226 ≤ 1 ∧ (r226 = 1 ↔ (x204) = 6 ∧ sgn ((A 2)) (f 3) (f 4) (x202) = (40)) := hp227
    obtain ⟨hp227_0, hp227_1, hp227_2⟩ := hp227
    refine q_ieq (tgt := 95) B dX12_readUse_87 (by decide) (by unfold inr; omega) (fun c228 => ?_) (fun c228 => ?_)
    · exact JJ95 ((1600 * (f 3)) + (f 62)) x202 x203 x204 x205 x206 x207 x208 ((f 62) + 1) w209 b210 b211 b212 b213 b214 ((wr (A 47) ((1600 * (f 3)) + (f 62)) 0)) ((wr (A 48) ((1600 * (f 3)) + (f 62)) (-1))) ((wr (A 49) ((1600 * (f 3)) + (f 62)) (-1))) ((wr (A 50) ((1600 * (f 3)) + (f 62)) 0)) ((A 51)) ((wr (A 52) ((1600 * (f 3)) + (f 62)) (-1))) ((wr (A 53) ((1600 * (f 3)) + (f 62)) 0)) ((A 54)) b215 ((L 55)) _ _ ls hM (lv_sub hl [1, 0] rfl) (by omega) (by first | omega | (simp only [wr_at]; omega) | assumption) (by first | omega | (simp only [wr_at]; omega) | assumption) (by first | omega | (simp only [wr_at]; omega) | assumption) (by first | omega | (simp only [wr_at]; omega) | assumption) (by first | omega | (simp only [wr_at]; omega) | assumption) (by first | omega | (simp only [wr_at]; omega) | assumption) (by first | omega | (simp only [wr_at]; omega) | assumption) (by first | assumption | exact APe_rfl | exact APe_trans (by assumption) (by assumption) (by omega)) (by first | assumption | exact TXI_neg (by assumption) (by omega)) (by first | omega | (simp only [wr_at]; omega) | assumption) (by first | assumption | omega | (simp only [wr_at]; omega)) (by first | assumption | (intro hq; exfalso; omega) | (intro hq; have hz := ‹_ = 0 → _ ∧ _ ∧ _ ∧ _ = _ + 1 ∧ _ ∧ _› hq; exact UTI_ask (p_6 (by omega)) (by assumption) (by omega) hz.2.2.2.1 hz.2.2.2.2.1 hz.2.2.2.2.2) | (intro hq; exact UTI_step (‹_ = 0 → UTI _ _ _ _ _› (by omega)) (by first | assumption | exact APe_rfl) (by omega)))
    · refine lv_aload_n B.1 B.2.1 dX12_readUse_90 rfl (lv_at hl 1 rfl) ?_
      refine lv_iload_n B.1 B.2.1 dX12_readUse_91 rfl (lv_at hl 0 rfl) ?_
      refine m_callv (n := 1) (rest := []) B hM hA hl.1 (k_readArgs l D dA h0 ad (up f [(8, x202), (9, x203), (7, x204), (10, x205), (5, x206), (6, x207), (22, x208), (62, (f 62) + 1)]) (up g [(11, w209)]) (up A [(17, b210), (18, b211), (19, b212), (20, b213), (21, b214), (47, (wr (A 47) ((1600 * (f 3)) + (f 62)) 0)), (48, (wr (A 48) ((1600 * (f 3)) + (f 62)) (-1))), (49, (wr (A 49) ((1600 * (f 3)) + (f 62)) (-1))), (50, (wr (A 50) ((1600 * (f 3)) + (f 62)) 0)), (51, (A 51)), (52, (wr (A 52) ((1600 * (f 3)) + (f 62)) (-1))), (53, (wr (A 53) ((1600 * (f 3)) + (f 62)) 0)), (54, (A 54))]) (up L [(16, b215), (55, (L 55))]) ((1600 * (f 3)) + (f 62)) (by omega) (show (0 ≤ (x202) ∧ (x202) ≤ (f 4) ∧ (x202) ≤ (x203) ∧ (x203) ≤ (f 4) + 1 ∧ ((x204) = 0 ↔ (x202) = (f 4)) ∧ (2 ≤ (x204) → (x202) < (x203) ∧ (x203) ≤ (f 4)) ∧ ((x204) = 5 → (x202) + 2 ≤ (x203) ∧ (x203) ≤ (x202) + 32)) from by first | omega | (simp only [wr_at]; omega) | assumption) (show (x204) = 6 from by first | omega | (simp only [wr_at]; omega) | assumption) (show 0 ≤ ((1600 * (f 3)) + (f 62)) from by first | omega | (simp only [wr_at]; omega) | assumption) (show ((1600 * (f 3)) + (f 62)) ≤ 3199 from by first | omega | (simp only [wr_at]; omega) | assumption)) rfl ok_readArgs nm_readArgs ⟨rfl, rfl⟩ ⟨Nat.le_of_ble_eq_true rfl, Nat.le_of_ble_eq_true rfl⟩ dX12_readUse_92 rfl rfl (Nat.le_of_ble_eq_true rfl) ⟨Nat.zero_le _, Nat.zero_le _⟩ (fun σr229 H locs hp230 hM => ?_)
      obtain ⟨x231, x232, x233, x234, x235, x236, w237, b238, b239, b240, rfl, hp230⟩ := hp230
      replace hp230 : ((0 ≤ (x231) ∧ (x231) ≤ (f 4) ∧ (x231) ≤ (x232) ∧ (x232) ≤ (f 4) + 1 ∧ ((x233) = 0 ↔ (x231) = (f 4)) ∧ (2 ≤ (x233) → (x231) < (x232) ∧ (x232) ≤ (f 4)) ∧ ((x233) = 5 → (x231) + 2 ≤ (x232) ∧ (x232) ≤ (x231) + 32))) ∧ (x202) ≤ (x231) ∧ ((x235) = 0 → (x206) = 0 ∧ (x202) + 1 ≤ (x231)) := hp230
      obtain ⟨hp230_0, hp230_1, hp230_2⟩ := hp230
      simp only [up_up] at hM
      replace hM : MWd D dA h0 ad (mF dA h0 ad (f, g, A, L) s.heap.size) s.heap ((up f [(8, x231), (9, x232), (7, x233), (10, x234), (5, x235), (6, x236), (22, x208), (62, (f 62) + 1)]), (up g [(11, w237)]), (up A [(17, b210), (18, b211), (19, b212), (20, b213), (21, b214), (47, b238), (48, (wr (A 48) ((1600 * (f 3)) + (f 62)) (-1))), (49, (wr (A 49) ((1600 * (f 3)) + (f 62)) (-1))), (50, (wr (A 50) ((1600 * (f 3)) + (f 62)) 0)), (51, (A 51)), (52, (wr (A 52) ((1600 * (f 3)) + (f 62)) (-1))), (53, (wr (A 53) ((1600 * (f 3)) + (f 62)) 0)), (54, b239)]), (up L [(16, b215), (55, b240)])) H locs := hM
      have r241 : (0 : Int) ≤ x231 ∧ x231 ≤ 3001 := hM.2.2.2.1 8
      have r242 : (0 : Int) ≤ x232 ∧ x232 ≤ 3002 := hM.2.2.2.1 9
      have r243 : (0 : Int) ≤ x233 ∧ x233 ≤ 6 := hM.2.2.2.1 7
      have r244 : (-2147483648 : Int) ≤ x234 ∧ x234 ≤ 2147483647 := hM.2.2.2.1 10
      have r245 : (-2147483648 : Int) ≤ x235 ∧ x235 ≤ 2147483647 := hM.2.2.2.1 5
      have r246 : (-2147483648 : Int) ≤ x236 ∧ x236 ≤ 2147483647 := hM.2.2.2.1 6
      exact JJ95 ((1600 * (f 3)) + (f 62)) x231 x232 x233 x234 x235 x236 x208 ((f 62) + 1) w237 b210 b211 b212 b213 b214 b238 ((wr (A 48) ((1600 * (f 3)) + (f 62)) (-1))) ((wr (A 49) ((1600 * (f 3)) + (f 62)) (-1))) ((wr (A 50) ((1600 * (f 3)) + (f 62)) 0)) ((A 51)) ((wr (A 52) ((1600 * (f 3)) + (f 62)) (-1))) ((wr (A 53) ((1600 * (f 3)) + (f 62)) 0)) b239 b215 b240 _ _ ls hM (lv_sub hl [1, 0] rfl) (by omega) (by first | omega | (simp only [wr_at]; omega) | assumption) (by first | omega | (simp only [wr_at]; omega) | assumption) (by first | omega | (simp only [wr_at]; omega) | assumption) (by first | omega | (simp only [wr_at]; omega) | assumption) (by first | omega | (simp only [wr_at]; omega) | assumption) (by first | omega | (simp only [wr_at]; omega) | assumption) (by first | omega | (simp only [wr_at]; omega) | assumption) (by first | assumption | exact APe_rfl | exact APe_trans (by assumption) (by assumption) (by omega)) (by first | assumption | exact TXI_neg (by assumption) (by omega)) (by first | omega | (simp only [wr_at]; omega) | assumption) (by first | assumption | omega | (simp only [wr_at]; omega)) (by first | assumption | (intro hq; exfalso; omega) | (intro hq; have hz := ‹_ = 0 → _ ∧ _ ∧ _ ∧ _ = _ + 1 ∧ _ ∧ _› hq; exact UTI_ask (p_6 (by omega)) (by assumption) (by omega) hz.2.2.2.1 hz.2.2.2.2.1 hz.2.2.2.2.2) | (intro hq; exact UTI_step (‹_ = 0 → UTI _ _ _ _ _› (by omega)) (by first | assumption | exact APe_rfl) (by omega)))
set_option maxHeartbeats 4000000 in
set_option maxRecDepth 20000 in
theorem k_readUses (l : Launch) (D : va_G) (dA : Nat → ClassId) (h0 : Nat) (ad : Nat → Nat) (f : Nat → Int) (g : Nat → Int64) (A : Nat → Nat → Int) (L : Nat → Nat → Int64) (a_had : Int) (i_had : (-2147483648 : Int) ≤ a_had ∧ a_had ≤ 2147483647) (p_0 : 0 ≤ (a_had)) (p_1 : (a_had) ≤ 8) (p_2 : (0 ≤ (f 8) ∧ (f 8) ≤ (f 4) ∧ (f 8) ≤ (f 9) ∧ (f 9) ≤ (f 4) + 1 ∧ ((f 7) = 0 ↔ (f 8) = (f 4)) ∧ (2 ≤ (f 7) → (f 8) < (f 9) ∧ (f 9) ≤ (f 4)) ∧ ((f 7) = 5 → (f 8) + 2 ≤ (f 9) ∧ (f 9) ≤ (f 8) + 32))) (p_3 : 2 * (f 22) ≤ (f 8)) (p_4 : ((f 5) = 0 → (f 62) ≤ (f 22))) (p_5 : (f 62) ≤ 1540) (p_6 : AIp (f 22) (A 18) (A 20) (A 21)) (p_7 : TXI (A 51) (A 52)) (p_8 : ((f 5) = 0 → UTI (f 3) (f 62) (f 22) (A 20) (A 21))) : MCi l yX12_readUses cX12_readUses 5 (some .int) ({ frames := 6, cells := 0, slots := 0, locals := 130 }) D dA h0 ad (f, g, A, L) [.int (II a_had)] (fun (r : Int) (σ : MS) => ∃ n8 : Int, ∃ n9 : Int, ∃ n7 : Int, ∃ n10 : Int, ∃ n5 : Int, ∃ n6 : Int, ∃ n22 : Int, ∃ n62 : Int, ∃ n11 : Int64, ∃ b17 : Nat → Int, ∃ b18 : Nat → Int, ∃ b19 : Nat → Int, ∃ b20 : Nat → Int, ∃ b21 : Nat → Int, ∃ b47 : Nat → Int, ∃ b48 : Nat → Int, ∃ b49 : Nat → Int, ∃ b50 : Nat → Int, ∃ b51 : Nat → Int, ∃ b52 : Nat → Int, ∃ b53 : Nat → Int, ∃ b54 : Nat → Int, ∃ b16 : Nat → Int64, ∃ b55 : Nat → Int64, σ = ((up f [(8, n8), (9, n9), (7, n7), (10, n10), (5, n5), (6, n6), (22, n22), (62, n62)]), (up g [(11, n11)]), (up A [(17, b17), (18, b18), (19, b19), (20, b20), (21, b21), (47, b47), (48, b48), (49, b49), (50, b50), (51, b51), (52, b52), (53, b53), (54, b54)]), (up L [(16, b16), (55, b55)])) ∧ (0 ≤ r ∧ (a_had) + r ≤ 8 ∧ ((0 ≤ (n8) ∧ (n8) ≤ (f 4) ∧ (n8) ≤ (n9) ∧ (n9) ≤ (f 4) + 1 ∧ ((n7) = 0 ↔ (n8) = (f 4)) ∧ (2 ≤ (n7) → (n8) < (n9) ∧ (n9) ≤ (f 4)) ∧ ((n7) = 5 → (n8) + 2 ≤ (n9) ∧ (n9) ≤ (n8) + 32))) ∧ (f 8) ≤ (n8) ∧ ((n5) = 0 → (f 5) = 0 ∧ (f 8) + 1 ≤ (n8) ∧ (n62) ≤ (n22) ∧ 1 ≤ r ∧ 2 * (n22) ≤ (n8)) ∧ 2 * (n22) ≤ (n8) + 1 ∧ (n62) = (f 62) + r ∧ (f 22) ≤ (n22) ∧ AIp (n22) b18 b20 b21 ∧ APe (f 22) (A 20) (A 21) b20 b21 ∧ TXI b51 b52 ∧ ((n5) = 0 → UTI (f 3) (n62) (n22) b20 b21))) := by
  generalize hPST : (fun (r : Int) (σ : MS) => ∃ n8 : Int, ∃ n9 : Int, ∃ n7 : Int, ∃ n10 : Int, ∃ n5 : Int, ∃ n6 : Int, ∃ n22 : Int, ∃ n62 : Int, ∃ n11 : Int64, ∃ b17 : Nat → Int, ∃ b18 : Nat → Int, ∃ b19 : Nat → Int, ∃ b20 : Nat → Int, ∃ b21 : Nat → Int, ∃ b47 : Nat → Int, ∃ b48 : Nat → Int, ∃ b49 : Nat → Int, ∃ b50 : Nat → Int, ∃ b51 : Nat → Int, ∃ b52 : Nat → Int, ∃ b53 : Nat → Int, ∃ b54 : Nat → Int, ∃ b16 : Nat → Int64, ∃ b55 : Nat → Int64, σ = ((up f [(8, n8), (9, n9), (7, n7), (10, n10), (5, n5), (6, n6), (22, n22), (62, n62)]), (up g [(11, n11)]), (up A [(17, b17), (18, b18), (19, b19), (20, b20), (21, b21), (47, b47), (48, b48), (49, b49), (50, b50), (51, b51), (52, b52), (53, b53), (54, b54)]), (up L [(16, b16), (55, b55)])) ∧ (0 ≤ r ∧ (a_had) + r ≤ 8 ∧ ((0 ≤ (n8) ∧ (n8) ≤ (f 4) ∧ (n8) ≤ (n9) ∧ (n9) ≤ (f 4) + 1 ∧ ((n7) = 0 ↔ (n8) = (f 4)) ∧ (2 ≤ (n7) → (n8) < (n9) ∧ (n9) ≤ (f 4)) ∧ ((n7) = 5 → (n8) + 2 ≤ (n9) ∧ (n9) ≤ (n8) + 32))) ∧ (f 8) ≤ (n8) ∧ ((n5) = 0 → (f 5) = 0 ∧ (f 8) + 1 ≤ (n8) ∧ (n62) ≤ (n22) ∧ 1 ≤ r ∧ 2 * (n22) ≤ (n8)) ∧ 2 * (n22) ≤ (n8) + 1 ∧ (n62) = (f 62) + r ∧ (f 22) ≤ (n22) ∧ AIp (n22) b18 b20 b21 ∧ APe (f 22) (A 20) (A 21) b20 b21 ∧ TXI b51 b52 ∧ ((n5) = 0 → UTI (f 3) (n62) (n22) b20 b21))) = PST
  refine m_enter (by decide) rfl (Nat.le_of_ble_eq_true rfl) (fun p e s m args below meth c ls B hM hl => ?_)
  have hA : ∀ q, s.heap.size ≤ q → mF dA h0 ad (f, g, A, L) s.heap.size q := fun q h => Or.inr h
  have hM : MWd D dA h0 ad (mF dA h0 ad (f, g, A, L) s.heap.size) s.heap ((up f [(8, f 8), (9, f 9), (7, f 7), (10, f 10), (5, f 5), (6, f 6), (22, f 22), (62, f 62)]), (up g [(11, g 11)]), (up A [(17, (A 17)), (18, (A 18)), (19, (A 19)), (20, (A 20)), (21, (A 21)), (47, (A 47)), (48, (A 48)), (49, (A 49)), (50, (A 50)), (51, (A 51)), (52, (A 52)), (53, (A 53)), (54, (A 54))]), (up L [(16, (L 16)), (55, (L 55))])) s.heap [] := MW_pad hM (up_self f [8, 9, 7, 10, 5, 6, 22, 62]) (up_self g [11]) (up_self A [17, 18, 19, 20, 21, 47, 48, 49, 50, 51, 52, 53, 54]) (up_self L [16, 55])
  have hl : lv_has ls 5 [(0, .ref h0), (1, .int (II a_had))] := hl
  have r1 : (0 : Int) ≤ f 3 ∧ f 3 ≤ 1 := hM.2.2.2.1 3
  have r2 : (0 : Int) ≤ f 4 ∧ f 4 ≤ 3000 := hM.2.2.2.1 4
  have r3 : (0 : Int) ≤ f 7 ∧ f 7 ≤ 6 := hM.2.2.2.1 7
  have r4 : (0 : Int) ≤ f 8 ∧ f 8 ≤ 3001 := hM.2.2.2.1 8
  have r5 : (0 : Int) ≤ f 9 ∧ f 9 ≤ 3002 := hM.2.2.2.1 9
  have r6 : (0 : Int) ≤ f 22 ∧ f 22 ≤ 1600 := hM.2.2.2.1 22
  have r7 : (0 : Int) ≤ f 62 ∧ f 62 ≤ 1590 := hM.2.2.2.1 62
  have LL4 : ∀ N : Nat, ∀ (v4_2 : Int) (v4_3 : Int) (y4_8 : Int) (y4_9 : Int) (y4_7 : Int) (y4_10 : Int) (y4_5 : Int) (y4_6 : Int) (y4_22 : Int) (y4_62 : Int) (y4_11 : Int64) (y4_17 : Nat → Int) (y4_18 : Nat → Int) (y4_19 : Nat → Int) (y4_20 : Nat → Int) (y4_21 : Nat → Int) (y4_47 : Nat → Int) (y4_48 : Nat → Int) (y4_49 : Nat → Int) (y4_50 : Nat → Int) (y4_51 : Nat → Int) (y4_52 : Nat → Int) (y4_53 : Nat → Int) (y4_54 : Nat → Int) (y4_16 : Nat → Int64) (y4_55 : Nat → Int64) (H : Heap) (locs : List Loc) (ls : Array Slot), (MWd D dA h0 ad (mF dA h0 ad (f, g, A, L) s.heap.size) s.heap ((up f [(8, y4_8), (9, y4_9), (7, y4_7), (10, y4_10), (5, y4_5), (6, y4_6), (22, y4_22), (62, y4_62)]), (up g [(11, y4_11)]), (up A [(17, y4_17), (18, y4_18), (19, y4_19), (20, y4_20), (21, y4_21), (47, y4_47), (48, y4_48), (49, y4_49), (50, y4_50), (51, y4_51), (52, y4_52), (53, y4_53), (54, y4_54)]), (up L [(16, y4_16), (55, y4_55)])) H locs) → lv_has ls 5 [(0, .ref h0), (1, .int (II a_had)), (2, .int (II v4_2)), (3, .int (II v4_3))] → ((-2147483648 : Int) ≤ v4_2 ∧ v4_2 ≤ 2147483647) → ((-2147483648 : Int) ≤ v4_3 ∧ v4_3 ≤ 2147483647) → ((0 ≤ (y4_8) ∧ (y4_8) ≤ (f 4) ∧ (y4_8) ≤ (y4_9) ∧ (y4_9) ≤ (f 4) + 1 ∧ ((y4_7) = 0 ↔ (y4_8) = (f 4)) ∧ (2 ≤ (y4_7) → (y4_8) < (y4_9) ∧ (y4_9) ≤ (f 4)) ∧ ((y4_7) = 5 → (y4_8) + 2 ≤ (y4_9) ∧ (y4_9) ≤ (y4_8) + 32))) → ((f 8) ≤ (y4_8)) → (0 ≤ (v4_2)) → ((a_had) + (v4_2) ≤ 8) → (0 ≤ (v4_3)) → ((v4_3) ≤ 1) → (((y4_5) = 0 → (f 5) = 0 ∧ (y4_62) ≤ (y4_22) ∧ ((v4_3) = 1 → 2 * (y4_22) ≤ (y4_8)) ∧ ((v4_3) = 0 → 1 ≤ (v4_2) ∧ (f 8) + 1 ≤ (y4_8)))) → (2 * (y4_22) ≤ (y4_8) + 1) → ((y4_62) = (f 62) + (v4_2)) → ((f 22) ≤ (y4_22)) → (AIp (y4_22) y4_18 y4_20 y4_21) → (APe (f 22) (A 20) (A 21) y4_20 y4_21) → (TXI y4_51 y4_52) → (((y4_5) = 0 → UTI (f 3) (y4_62) (y4_22) y4_20 y4_21)) → (0 ≤ 9 - (v4_2)) → (9 - (v4_2) < (N : Int)) → W p l e ({ frames := 6, cells := 0, slots := 0, locals := 130 }) s m args below meth c H locs 0 0 (MQ below (mQi D dA h0 ad (f, g, A, L) s.heap.size PST) args s 0 0 (mF dA h0 ad (f, g, A, L) s.heap.size)) (F0 m 4 ls []) := by
    intro N
    induction N with
    | zero => intro v4_2 v4_3 y4_8 y4_9 y4_7 y4_10 y4_5 y4_6 y4_22 y4_62 y4_11 y4_17 y4_18 y4_19 y4_20 y4_21 y4_47 y4_48 y4_49 y4_50 y4_51 y4_52 y4_53 y4_54 y4_16 y4_55 H locs ls hM hl hLL4_0 hLL4_1 hLL4_2 hLL4_3 hLL4_4 hLL4_5 hLL4_6 hLL4_7 hLL4_8 hLL4_9 hLL4_10 hLL4_11 hLL4_12 hLL4_13 hLL4_14 hLL4_15 hLL4_16 hN; exfalso; omega
    | succ N IH4 =>
      intro v4_2 v4_3 y4_8 y4_9 y4_7 y4_10 y4_5 y4_6 y4_22 y4_62 y4_11 y4_17 y4_18 y4_19 y4_20 y4_21 y4_47 y4_48 y4_49 y4_50 y4_51 y4_52 y4_53 y4_54 y4_16 y4_55 H locs ls hM hl hLL4_0 hLL4_1 hLL4_2 hLL4_3 hLL4_4 hLL4_5 hLL4_6 hLL4_7 hLL4_8 hLL4_9 hLL4_10 hLL4_11 hLL4_12 hLL4_13 hLL4_14 hLL4_15 hLL4_16 hN
      have r8 : (0 : Int) ≤ y4_8 ∧ y4_8 ≤ 3001 := hM.2.2.2.1 8
      have r9 : (0 : Int) ≤ y4_9 ∧ y4_9 ≤ 3002 := hM.2.2.2.1 9
      have r10 : (0 : Int) ≤ y4_7 ∧ y4_7 ≤ 6 := hM.2.2.2.1 7
      have r11 : (-2147483648 : Int) ≤ y4_10 ∧ y4_10 ≤ 2147483647 := hM.2.2.2.1 10
      have r12 : (-2147483648 : Int) ≤ y4_5 ∧ y4_5 ≤ 2147483647 := hM.2.2.2.1 5
      have r13 : (-2147483648 : Int) ≤ y4_6 ∧ y4_6 ≤ 2147483647 := hM.2.2.2.1 6
      have r14 : (0 : Int) ≤ y4_22 ∧ y4_22 ≤ 1600 := hM.2.2.2.1 22
      have r15 : (0 : Int) ≤ y4_62 ∧ y4_62 ≤ 1590 := hM.2.2.2.1 62
      refine lv_iload_n B.1 B.2.1 dX12_readUses_4 rfl (lv_at hl 3 rfl) ?_
      refine q_ieq (tgt := 78) B dX12_readUses_5 (by decide) (by unfold inr; omega) (fun c16 => ?_) (fun c16 => ?_)
      · refine lv_aload_n B.1 B.2.1 dX12_readUses_78 rfl (lv_at hl 0 rfl) ?_
        refine m_calli (n := 0) (rest := []) B hM hA hl.1 (k_isGood l D dA h0 ad (up f [(8, y4_8), (9, y4_9), (7, y4_7), (10, y4_10), (5, y4_5), (6, y4_6), (22, y4_22), (62, y4_62)]) (up g [(11, y4_11)]) (up A [(17, y4_17), (18, y4_18), (19, y4_19), (20, y4_20), (21, y4_21), (47, y4_47), (48, y4_48), (49, y4_49), (50, y4_50), (51, y4_51), (52, y4_52), (53, y4_53), (54, y4_54)]) (up L [(16, y4_16), (55, y4_55)])   ) rfl ok_isGood nm_isGood ⟨rfl, rfl⟩ ⟨Nat.le_of_ble_eq_true rfl, Nat.le_of_ble_eq_true rfl⟩ dX12_readUses_79 rfl rfl (Nat.le_of_ble_eq_true rfl) ⟨Nat.zero_le _, Nat.zero_le _⟩ (fun r17 σr17 H locs ir17 hp18 hM => ?_)
        obtain ⟨rfl, hp18⟩ := hp18
        unfold inr at ir17
        replace hp18 : 0 ≤ r17 ∧ r17 ≤ 1 ∧ (r17 = 1 ↔ (y4_5) = 0) := hp18
        obtain ⟨hp18_0, hp18_1, hp18_2⟩ := hp18
        refine q_ieq (tgt := 91) B dX12_readUses_82 (by decide) (by unfold inr; omega) (fun c19 => ?_) (fun c19 => ?_)
        · refine lv_iload_n B.1 B.2.1 dX12_readUses_91 rfl (lv_at hl 2 rfl) ?_
          subst hPST
          exact m_iret B hM dX12_readUses_92 (by unfold inr; omega) ⟨y4_8, y4_9, y4_7, y4_10, y4_5, y4_6, y4_22, y4_62, y4_11, y4_17, y4_18, y4_19, y4_20, y4_21, y4_47, y4_48, y4_49, y4_50, y4_51, y4_52, y4_53, y4_54, y4_16, y4_55, rfl, by (exact ⟨by omega, by omega, by omega, by omega, by omega, by omega, by omega, by omega, by assumption, by assumption, by assumption, by first | assumption | (intro hq; exfalso; omega) | (intro hq; exact (‹_ = 0 → UTI _ _ _ _ _› (by omega)))⟩)⟩
        · refine lv_aload_n B.1 B.2.1 dX12_readUses_85 rfl (lv_at hl 0 rfl) ?_
          refine q_bip B dX12_readUses_86 (by decide) ?_
          refine m_callv (n := 1) (rest := []) B hM hA hl.1 (k_must l D dA h0 ad (up f [(8, y4_8), (9, y4_9), (7, y4_7), (10, y4_10), (5, y4_5), (6, y4_6), (22, y4_22), (62, y4_62)]) (up g [(11, y4_11)]) (up A [(17, y4_17), (18, y4_18), (19, y4_19), (20, y4_20), (21, y4_21), (47, y4_47), (48, y4_48), (49, y4_49), (50, y4_50), (51, y4_51), (52, y4_52), (53, y4_53), (54, y4_54)]) (up L [(16, y4_16), (55, y4_55)]) 59 (by omega) (show (0 ≤ (y4_8) ∧ (y4_8) ≤ (f 4) ∧ (y4_8) ≤ (y4_9) ∧ (y4_9) ≤ (f 4) + 1 ∧ ((y4_7) = 0 ↔ (y4_8) = (f 4)) ∧ (2 ≤ (y4_7) → (y4_8) < (y4_9) ∧ (y4_9) ≤ (f 4)) ∧ ((y4_7) = 5 → (y4_8) + 2 ≤ (y4_9) ∧ (y4_9) ≤ (y4_8) + 32)) from by first | omega | (simp only [wr_at]; omega) | assumption)) rfl ok_must nm_must ⟨rfl, rfl⟩ ⟨Nat.le_of_ble_eq_true rfl, Nat.le_of_ble_eq_true rfl⟩ dX12_readUses_88 rfl rfl (Nat.le_of_ble_eq_true rfl) ⟨Nat.zero_le _, Nat.zero_le _⟩ (fun σr20 H locs hp21 hM => ?_)
          obtain ⟨x22, x23, x24, x25, x26, x27, w28, rfl, hp21⟩ := hp21
          replace hp21 : ((0 ≤ (x22) ∧ (x22) ≤ (f 4) ∧ (x22) ≤ (x23) ∧ (x23) ≤ (f 4) + 1 ∧ ((x24) = 0 ↔ (x22) = (f 4)) ∧ (2 ≤ (x24) → (x22) < (x23) ∧ (x23) ≤ (f 4)) ∧ ((x24) = 5 → (x22) + 2 ≤ (x23) ∧ (x23) ≤ (x22) + 32))) ∧ (y4_8) ≤ (x22) ∧ ((x26) = 0 → (y4_5) = 0 ∧ (y4_8) + 1 ≤ (x22) ∧ (y4_9) ≤ (x22)) := hp21
          obtain ⟨hp21_0, hp21_1, hp21_2⟩ := hp21
          simp only [up_up] at hM
          replace hM : MWd D dA h0 ad (mF dA h0 ad (f, g, A, L) s.heap.size) s.heap ((up f [(8, x22), (9, x23), (7, x24), (10, x25), (5, x26), (6, x27), (22, y4_22), (62, y4_62)]), (up g [(11, w28)]), (up A [(17, y4_17), (18, y4_18), (19, y4_19), (20, y4_20), (21, y4_21), (47, y4_47), (48, y4_48), (49, y4_49), (50, y4_50), (51, y4_51), (52, y4_52), (53, y4_53), (54, y4_54)]), (up L [(16, y4_16), (55, y4_55)])) H locs := hM
          have r29 : (0 : Int) ≤ x22 ∧ x22 ≤ 3001 := hM.2.2.2.1 8
          have r30 : (0 : Int) ≤ x23 ∧ x23 ≤ 3002 := hM.2.2.2.1 9
          have r31 : (0 : Int) ≤ x24 ∧ x24 ≤ 6 := hM.2.2.2.1 7
          have r32 : (-2147483648 : Int) ≤ x25 ∧ x25 ≤ 2147483647 := hM.2.2.2.1 10
          have r33 : (-2147483648 : Int) ≤ x26 ∧ x26 ≤ 2147483647 := hM.2.2.2.1 5
          have r34 : (-2147483648 : Int) ≤ x27 ∧ x27 ≤ 2147483647 := hM.2.2.2.1 6
          refine lv_iload_n B.1 B.2.1 dX12_readUses_91 rfl (lv_at hl 2 rfl) ?_
          subst hPST
          exact m_iret B hM dX12_readUses_92 (by unfold inr; omega) ⟨x22, x23, x24, x25, x26, x27, y4_22, y4_62, w28, y4_17, y4_18, y4_19, y4_20, y4_21, y4_47, y4_48, y4_49, y4_50, y4_51, y4_52, y4_53, y4_54, y4_16, y4_55, rfl, by (exact ⟨by omega, by omega, by omega, by omega, by omega, by omega, by omega, by omega, by assumption, by assumption, by assumption, by first | assumption | (intro hq; exfalso; omega) | (intro hq; exact (‹_ = 0 → UTI _ _ _ _ _› (by omega)))⟩)⟩
      · refine lv_aload_n B.1 B.2.1 dX12_readUses_8 rfl (lv_at hl 0 rfl) ?_
        refine m_calli (n := 0) (rest := []) B hM hA hl.1 (k_isGood l D dA h0 ad (up f [(8, y4_8), (9, y4_9), (7, y4_7), (10, y4_10), (5, y4_5), (6, y4_6), (22, y4_22), (62, y4_62)]) (up g [(11, y4_11)]) (up A [(17, y4_17), (18, y4_18), (19, y4_19), (20, y4_20), (21, y4_21), (47, y4_47), (48, y4_48), (49, y4_49), (50, y4_50), (51, y4_51), (52, y4_52), (53, y4_53), (54, y4_54)]) (up L [(16, y4_16), (55, y4_55)])   ) rfl ok_isGood nm_isGood ⟨rfl, rfl⟩ ⟨Nat.le_of_ble_eq_true rfl, Nat.le_of_ble_eq_true rfl⟩ dX12_readUses_9 rfl rfl (Nat.le_of_ble_eq_true rfl) ⟨Nat.zero_le _, Nat.zero_le _⟩ (fun r35 σr35 H locs ir35 hp36 hM => ?_)
        obtain ⟨rfl, hp36⟩ := hp36
        unfold inr at ir35
        replace hp36 : 0 ≤ r35 ∧ r35 ≤ 1 ∧ (r35 = 1 ↔ (y4_5) = 0) := hp36
        obtain ⟨hp36_0, hp36_1, hp36_2⟩ := hp36
        refine q_ieq (tgt := 78) B dX12_readUses_12 (by decide) (by unfold inr; omega) (fun c37 => ?_) (fun c37 => ?_)
        · refine lv_aload_n B.1 B.2.1 dX12_readUses_78 rfl (lv_at hl 0 rfl) ?_
          refine m_calli (n := 0) (rest := []) B hM hA hl.1 (k_isGood l D dA h0 ad (up f [(8, y4_8), (9, y4_9), (7, y4_7), (10, y4_10), (5, y4_5), (6, y4_6), (22, y4_22), (62, y4_62)]) (up g [(11, y4_11)]) (up A [(17, y4_17), (18, y4_18), (19, y4_19), (20, y4_20), (21, y4_21), (47, y4_47), (48, y4_48), (49, y4_49), (50, y4_50), (51, y4_51), (52, y4_52), (53, y4_53), (54, y4_54)]) (up L [(16, y4_16), (55, y4_55)])   ) rfl ok_isGood nm_isGood ⟨rfl, rfl⟩ ⟨Nat.le_of_ble_eq_true rfl, Nat.le_of_ble_eq_true rfl⟩ dX12_readUses_79 rfl rfl (Nat.le_of_ble_eq_true rfl) ⟨Nat.zero_le _, Nat.zero_le _⟩ (fun r38 σr38 H locs ir38 hp39 hM => ?_)
          obtain ⟨rfl, hp39⟩ := hp39
          unfold inr at ir38
          replace hp39 : 0 ≤ r38 ∧ r38 ≤ 1 ∧ (r38 = 1 ↔ (y4_5) = 0) := hp39
          obtain ⟨hp39_0, hp39_1, hp39_2⟩ := hp39
          refine q_ieq (tgt := 91) B dX12_readUses_82 (by decide) (by unfold inr; omega) (fun c40 => ?_) (fun c40 => ?_)
          · refine lv_iload_n B.1 B.2.1 dX12_readUses_91 rfl (lv_at hl 2 rfl) ?_
            subst hPST
            exact m_iret B hM dX12_readUses_92 (by unfold inr; omega) ⟨y4_8, y4_9, y4_7, y4_10, y4_5, y4_6, y4_22, y4_62, y4_11, y4_17, y4_18, y4_19, y4_20, y4_21, y4_47, y4_48, y4_49, y4_50, y4_51, y4_52, y4_53, y4_54, y4_16, y4_55, rfl, by (exact ⟨by omega, by omega, by omega, by omega, by omega, by omega, by omega, by omega, by assumption, by assumption, by assumption, by first | assumption | (intro hq; exfalso; omega) | (intro hq; exact (‹_ = 0 → UTI _ _ _ _ _› (by omega)))⟩)⟩
          · refine lv_aload_n B.1 B.2.1 dX12_readUses_85 rfl (lv_at hl 0 rfl) ?_
            refine q_bip B dX12_readUses_86 (by decide) ?_
            refine m_callv (n := 1) (rest := []) B hM hA hl.1 (k_must l D dA h0 ad (up f [(8, y4_8), (9, y4_9), (7, y4_7), (10, y4_10), (5, y4_5), (6, y4_6), (22, y4_22), (62, y4_62)]) (up g [(11, y4_11)]) (up A [(17, y4_17), (18, y4_18), (19, y4_19), (20, y4_20), (21, y4_21), (47, y4_47), (48, y4_48), (49, y4_49), (50, y4_50), (51, y4_51), (52, y4_52), (53, y4_53), (54, y4_54)]) (up L [(16, y4_16), (55, y4_55)]) 59 (by omega) (show (0 ≤ (y4_8) ∧ (y4_8) ≤ (f 4) ∧ (y4_8) ≤ (y4_9) ∧ (y4_9) ≤ (f 4) + 1 ∧ ((y4_7) = 0 ↔ (y4_8) = (f 4)) ∧ (2 ≤ (y4_7) → (y4_8) < (y4_9) ∧ (y4_9) ≤ (f 4)) ∧ ((y4_7) = 5 → (y4_8) + 2 ≤ (y4_9) ∧ (y4_9) ≤ (y4_8) + 32)) from by first | omega | (simp only [wr_at]; omega) | assumption)) rfl ok_must nm_must ⟨rfl, rfl⟩ ⟨Nat.le_of_ble_eq_true rfl, Nat.le_of_ble_eq_true rfl⟩ dX12_readUses_88 rfl rfl (Nat.le_of_ble_eq_true rfl) ⟨Nat.zero_le _, Nat.zero_le _⟩ (fun σr41 H locs hp42 hM => ?_)
            obtain ⟨x43, x44, x45, x46, x47, x48, w49, rfl, hp42⟩ := hp42
            replace hp42 : ((0 ≤ (x43) ∧ (x43) ≤ (f 4) ∧ (x43) ≤ (x44) ∧ (x44) ≤ (f 4) + 1 ∧ ((x45) = 0 ↔ (x43) = (f 4)) ∧ (2 ≤ (x45) → (x43) < (x44) ∧ (x44) ≤ (f 4)) ∧ ((x45) = 5 → (x43) + 2 ≤ (x44) ∧ (x44) ≤ (x43) + 32))) ∧ (y4_8) ≤ (x43) ∧ ((x47) = 0 → (y4_5) = 0 ∧ (y4_8) + 1 ≤ (x43) ∧ (y4_9) ≤ (x43)) := hp42
            obtain ⟨hp42_0, hp42_1, hp42_2⟩ := hp42
            simp only [up_up] at hM
            replace hM : MWd D dA h0 ad (mF dA h0 ad (f, g, A, L) s.heap.size) s.heap ((up f [(8, x43), (9, x44), (7, x45), (10, x46), (5, x47), (6, x48), (22, y4_22), (62, y4_62)]), (up g [(11, w49)]), (up A [(17, y4_17), (18, y4_18), (19, y4_19), (20, y4_20), (21, y4_21), (47, y4_47), (48, y4_48), (49, y4_49), (50, y4_50), (51, y4_51), (52, y4_52), (53, y4_53), (54, y4_54)]), (up L [(16, y4_16), (55, y4_55)])) H locs := hM
            have r50 : (0 : Int) ≤ x43 ∧ x43 ≤ 3001 := hM.2.2.2.1 8
            have r51 : (0 : Int) ≤ x44 ∧ x44 ≤ 3002 := hM.2.2.2.1 9
            have r52 : (0 : Int) ≤ x45 ∧ x45 ≤ 6 := hM.2.2.2.1 7
            have r53 : (-2147483648 : Int) ≤ x46 ∧ x46 ≤ 2147483647 := hM.2.2.2.1 10
            have r54 : (-2147483648 : Int) ≤ x47 ∧ x47 ≤ 2147483647 := hM.2.2.2.1 5
            have r55 : (-2147483648 : Int) ≤ x48 ∧ x48 ≤ 2147483647 := hM.2.2.2.1 6
            refine lv_iload_n B.1 B.2.1 dX12_readUses_91 rfl (lv_at hl 2 rfl) ?_
            subst hPST
            exact m_iret B hM dX12_readUses_92 (by unfold inr; omega) ⟨x43, x44, x45, x46, x47, x48, y4_22, y4_62, w49, y4_17, y4_18, y4_19, y4_20, y4_21, y4_47, y4_48, y4_49, y4_50, y4_51, y4_52, y4_53, y4_54, y4_16, y4_55, rfl, by (exact ⟨by omega, by omega, by omega, by omega, by omega, by omega, by omega, by omega, by assumption, by assumption, by assumption, by first | assumption | (intro hq; exfalso; omega) | (intro hq; exact (‹_ = 0 → UTI _ _ _ _ _› (by omega)))⟩)⟩
        · refine lv_iload_n B.1 B.2.1 dX12_readUses_15 rfl (lv_at hl 1 rfl) ?_
          refine lv_iload_n B.1 B.2.1 dX12_readUses_16 rfl (lv_at hl 2 rfl) ?_
          refine q_add B dX12_readUses_17 ?_
          refine q_bip B dX12_readUses_18 (by decide) ?_
          refine q_cne (tgt := 27) B dX12_readUses_20 (by decide) (by unfold inr; omega) (by unfold inr; omega) (fun c56 => ?_) (fun c56 => ?_)
          · refine lv_aload_n B.1 B.2.1 dX12_readUses_27 rfl (lv_at hl 0 rfl) ?_
            refine m_calli (n := 0) (rest := []) B hM hA hl.1 (k_isGood l D dA h0 ad (up f [(8, y4_8), (9, y4_9), (7, y4_7), (10, y4_10), (5, y4_5), (6, y4_6), (22, y4_22), (62, y4_62)]) (up g [(11, y4_11)]) (up A [(17, y4_17), (18, y4_18), (19, y4_19), (20, y4_20), (21, y4_21), (47, y4_47), (48, y4_48), (49, y4_49), (50, y4_50), (51, y4_51), (52, y4_52), (53, y4_53), (54, y4_54)]) (up L [(16, y4_16), (55, y4_55)])   ) rfl ok_isGood nm_isGood ⟨rfl, rfl⟩ ⟨Nat.le_of_ble_eq_true rfl, Nat.le_of_ble_eq_true rfl⟩ dX12_readUses_28 rfl rfl (Nat.le_of_ble_eq_true rfl) ⟨Nat.zero_le _, Nat.zero_le _⟩ (fun r57 σr57 H locs ir57 hp58 hM => ?_)
            obtain ⟨rfl, hp58⟩ := hp58
            unfold inr at ir57
            replace hp58 : 0 ≤ r57 ∧ r57 ≤ 1 ∧ (r57 = 1 ↔ (y4_5) = 0) := hp58
            obtain ⟨hp58_0, hp58_1, hp58_2⟩ := hp58
            refine q_ine (tgt := 36) B dX12_readUses_31 (by decide) (by unfold inr; omega) (fun c59 => ?_) (fun c59 => ?_)
            · refine lv_aload_n B.1 B.2.1 dX12_readUses_36 rfl (lv_at hl 0 rfl) ?_
              refine m_calli (n := 0) (rest := []) B hM hA hl.1 (k_readUse l D dA h0 ad (up f [(8, y4_8), (9, y4_9), (7, y4_7), (10, y4_10), (5, y4_5), (6, y4_6), (22, y4_22), (62, y4_62)]) (up g [(11, y4_11)]) (up A [(17, y4_17), (18, y4_18), (19, y4_19), (20, y4_20), (21, y4_21), (47, y4_47), (48, y4_48), (49, y4_49), (50, y4_50), (51, y4_51), (52, y4_52), (53, y4_53), (54, y4_54)]) (up L [(16, y4_16), (55, y4_55)])   (show (0 ≤ (y4_8) ∧ (y4_8) ≤ (f 4) ∧ (y4_8) ≤ (y4_9) ∧ (y4_9) ≤ (f 4) + 1 ∧ ((y4_7) = 0 ↔ (y4_8) = (f 4)) ∧ (2 ≤ (y4_7) → (y4_8) < (y4_9) ∧ (y4_9) ≤ (f 4)) ∧ ((y4_7) = 5 → (y4_8) + 2 ≤ (y4_9) ∧ (y4_9) ≤ (y4_8) + 32)) from by first | omega | (simp only [wr_at]; omega) | assumption) (show 2 * (y4_22) ≤ (y4_8) from by first | omega | (simp only [wr_at]; omega) | assumption) (show ((y4_5) = 0 → (y4_62) ≤ (y4_22)) from by first | omega | (simp only [wr_at]; omega) | assumption) (show (y4_62) ≤ 1550 from by first | omega | (simp only [wr_at]; omega) | assumption) (show AIp (y4_22) y4_18 y4_20 y4_21 from by first | omega | (simp only [wr_at]; omega) | assumption) (show TXI y4_51 y4_52 from by first | omega | (simp only [wr_at]; omega) | assumption) (show ((y4_5) = 0 → UTI (f 3) (y4_62) (y4_22) y4_20 y4_21) from by first | omega | (simp only [wr_at]; omega) | assumption)) rfl ok_readUse nm_readUse ⟨rfl, rfl⟩ ⟨Nat.le_of_ble_eq_true rfl, Nat.le_of_ble_eq_true rfl⟩ dX12_readUses_37 rfl rfl (Nat.le_of_ble_eq_true rfl) ⟨Nat.zero_le _, Nat.zero_le _⟩ (fun r60 σr60 H locs ir60 hp61 hM => ?_)
              obtain ⟨x62, x63, x64, x65, x66, x67, x68, x69, w70, b71, b72, b73, b74, b75, b76, b77, b78, b79, b80, b81, b82, b83, b84, b85, rfl, hp61⟩ := hp61
              unfold inr at ir60
              replace hp61 : r60 = 1600 * (f 3) + (y4_62) ∧ ((0 ≤ (x62) ∧ (x62) ≤ (f 4) ∧ (x62) ≤ (x63) ∧ (x63) ≤ (f 4) + 1 ∧ ((x64) = 0 ↔ (x62) = (f 4)) ∧ (2 ≤ (x64) → (x62) < (x63) ∧ (x63) ≤ (f 4)) ∧ ((x64) = 5 → (x62) + 2 ≤ (x63) ∧ (x63) ≤ (x62) + 32))) ∧ (y4_8) ≤ (x62) ∧ ((x66) = 0 → (y4_5) = 0 ∧ (y4_8) + 1 ≤ (x62) ∧ (x69) ≤ (x68)) ∧ 2 * (x68) ≤ (x62) + 1 ∧ (x69) = (y4_62) + 1 ∧ (y4_22) ≤ (x68) ∧ AIp (x68) b72 b74 b75 ∧ APe (y4_22) y4_20 y4_21 b74 b75 ∧ TXI b80 b81 ∧ ((x66) = 0 → UTI (f 3) (x69) (x68) b74 b75) := hp61
              obtain ⟨hp61_0, hp61_1, hp61_2, hp61_3, hp61_4, hp61_5, hp61_6, hp61_7, hp61_8, hp61_9, hp61_10⟩ := hp61
              simp only [up_up] at hM
              replace hM : MWd D dA h0 ad (mF dA h0 ad (f, g, A, L) s.heap.size) s.heap ((up f [(8, x62), (9, x63), (7, x64), (10, x65), (5, x66), (6, x67), (22, x68), (62, x69)]), (up g [(11, w70)]), (up A [(17, b71), (18, b72), (19, b73), (20, b74), (21, b75), (47, b76), (48, b77), (49, b78), (50, b79), (51, b80), (52, b81), (53, b82), (54, b83)]), (up L [(16, b84), (55, b85)])) H locs := hM
              have r86 : (0 : Int) ≤ x62 ∧ x62 ≤ 3001 := hM.2.2.2.1 8
              have r87 : (0 : Int) ≤ x63 ∧ x63 ≤ 3002 := hM.2.2.2.1 9
              have r88 : (0 : Int) ≤ x64 ∧ x64 ≤ 6 := hM.2.2.2.1 7
              have r89 : (-2147483648 : Int) ≤ x65 ∧ x65 ≤ 2147483647 := hM.2.2.2.1 10
              have r90 : (-2147483648 : Int) ≤ x66 ∧ x66 ≤ 2147483647 := hM.2.2.2.1 5
              have r91 : (-2147483648 : Int) ≤ x67 ∧ x67 ≤ 2147483647 := hM.2.2.2.1 6
              have r92 : (0 : Int) ≤ x68 ∧ x68 ≤ 1600 := hM.2.2.2.1 22
              have r93 : (0 : Int) ≤ x69 ∧ x69 ≤ 1590 := hM.2.2.2.1 62
              refine lv_istore (lv' := [(4, .int (II r60)), (0, .ref h0), (1, .int (II a_had)), (2, .int (II v4_2)), (3, .int (II v4_3))]) B.1 B.2.1 dX12_readUses_40 hl (by decide) rfl (fun ls hl => ?_)
              refine q_inc (k := 3) (x := v4_2) (lv' := [(2, .int (II (v4_2 + 1))), (4, .int (II r60)), (0, .ref h0), (1, .int (II a_had)), (3, .int (II v4_3))]) B dX12_readUses_42 hl rfl (by decide) rfl (fun ls hl => ?_)
              refine lv_aload_n B.1 B.2.1 dX12_readUses_45 rfl (lv_at hl 2 rfl) ?_
              refine m_calli (n := 0) (rest := []) B hM hA hl.1 (k_isGood l D dA h0 ad (up f [(8, x62), (9, x63), (7, x64), (10, x65), (5, x66), (6, x67), (22, x68), (62, x69)]) (up g [(11, w70)]) (up A [(17, b71), (18, b72), (19, b73), (20, b74), (21, b75), (47, b76), (48, b77), (49, b78), (50, b79), (51, b80), (52, b81), (53, b82), (54, b83)]) (up L [(16, b84), (55, b85)])   ) rfl ok_isGood nm_isGood ⟨rfl, rfl⟩ ⟨Nat.le_of_ble_eq_true rfl, Nat.le_of_ble_eq_true rfl⟩ dX12_readUses_46 rfl rfl (Nat.le_of_ble_eq_true rfl) ⟨Nat.zero_le _, Nat.zero_le _⟩ (fun r94 σr94 H locs ir94 hp95 hM => ?_)
              obtain ⟨rfl, hp95⟩ := hp95
              unfold inr at ir94
              replace hp95 : 0 ≤ r94 ∧ r94 ≤ 1 ∧ (r94 = 1 ↔ (x66) = 0) := hp95
              obtain ⟨hp95_0, hp95_1, hp95_2⟩ := hp95
              refine q_ieq (tgt := 65) B dX12_readUses_49 (by decide) (by unfold inr; omega) (fun c96 => ?_) (fun c96 => ?_)
              · refine q_con B dX12_readUses_65 ?_
                refine lv_istore_n (lv' := [(3, .int (II 0)), (2, .int (II (v4_2 + 1))), (4, .int (II r60)), (0, .ref h0), (1, .int (II a_had))]) B.1 B.2.1 dX12_readUses_66 rfl hl (by decide) rfl (fun ls hl => ?_)
                refine lv_iload_n B.1 B.2.1 dX12_readUses_67 rfl (lv_at hl 0 rfl) ?_
                refine q_ieq (tgt := 75) B dX12_readUses_68 (by decide) (by unfold inr; omega) (fun _ => ?_) (fun c97 => absurd c97 (by omega))
                refine lv_goto (tgt := 4) B.1 B.2.1 dX12_readUses_75 (by decide) ?_
                exact IH4 (v4_2 + 1) 0 x62 x63 x64 x65 x66 x67 x68 x69 w70 b71 b72 b73 b74 b75 b76 b77 b78 b79 b80 b81 b82 b83 b84 b85 _ _ ls hM (lv_sub hl [3, 4, 1, 0] rfl) (by omega) (by omega) (by first | omega | (simp only [wr_at]; omega) | assumption) (by first | omega | (simp only [wr_at]; omega) | assumption) (by first | omega | (simp only [wr_at]; omega) | assumption) (by first | omega | (simp only [wr_at]; omega) | assumption) (by first | omega | (simp only [wr_at]; omega) | assumption) (by first | omega | (simp only [wr_at]; omega) | assumption) (by first | omega | (simp only [wr_at]; omega) | assumption) (by first | omega | (simp only [wr_at]; omega) | assumption) (by first | omega | (simp only [wr_at]; omega) | assumption) (by first | omega | (simp only [wr_at]; omega) | assumption) (by first | omega | (simp only [wr_at]; omega) | assumption) (by first | assumption | exact APe_rfl | exact APe_trans (by assumption) (by assumption) (by omega)) (by first | omega | (simp only [wr_at]; omega) | assumption) (by first | assumption | (intro hq; exfalso; omega) | (intro hq; exact (‹_ = 0 → UTI _ _ _ _ _› (by omega)))) (by first | omega | (simp only [wr_at]; omega) | assumption) (by first | omega | (simp only [wr_at]; omega) | assumption)
              · refine lv_aload_n B.1 B.2.1 dX12_readUses_52 rfl (lv_at hl 2 rfl) ?_
                refine q_bip B dX12_readUses_53 (by decide) ?_
                refine m_calli (n := 1) (rest := []) B hM hA hl.1 (k_isSign l D dA h0 ad (up f [(8, x62), (9, x63), (7, x64), (10, x65), (5, x66), (6, x67), (22, x68), (62, x69)]) (up g [(11, w70)]) (up A [(17, b71), (18, b72), (19, b73), (20, b74), (21, b75), (47, b76), (48, b77), (49, b78), (50, b79), (51, b80), (52, b81), (53, b82), (54, b83)]) (up L [(16, b84), (55, b85)]) 44 (by omega) (show (0 ≤ (x62) ∧ (x62) ≤ (f 4) ∧ (x62) ≤ (x63) ∧ (x63) ≤ (f 4) + 1 ∧ ((x64) = 0 ↔ (x62) = (f 4)) ∧ (2 ≤ (x64) → (x62) < (x63) ∧ (x63) ≤ (f 4)) ∧ ((x64) = 5 → (x62) + 2 ≤ (x63) ∧ (x63) ≤ (x62) + 32)) from by first | omega | (simp only [wr_at]; omega) | assumption)) rfl ok_isSign nm_isSign ⟨rfl, rfl⟩ ⟨Nat.le_of_ble_eq_true rfl, Nat.le_of_ble_eq_true rfl⟩ dX12_readUses_55 rfl rfl (Nat.le_of_ble_eq_true rfl) ⟨Nat.zero_le _, Nat.zero_le _⟩ (fun r98 σr98 H locs ir98 hp99 hM => ?_)
                obtain ⟨rfl, hp99⟩ := hp99
                unfold inr at ir98
                replace hp99 : 0 ≤ r98 ∧ r98 ≤ 1 ∧ (r98 = 1 ↔ (x64) = 6 ∧ sgn ((A 2)) (f 3) (f 4) (x62) = (44)) := hp99
                obtain ⟨hp99_0, hp99_1, hp99_2⟩ := hp99
                refine q_ieq (tgt := 65) B dX12_readUses_58 (by decide) (by unfold inr; omega) (fun c100 => ?_) (fun c100 => ?_)
                · refine q_con B dX12_readUses_65 ?_
                  refine lv_istore_n (lv' := [(3, .int (II 0)), (2, .int (II (v4_2 + 1))), (4, .int (II r60)), (0, .ref h0), (1, .int (II a_had))]) B.1 B.2.1 dX12_readUses_66 rfl hl (by decide) rfl (fun ls hl => ?_)
                  refine lv_iload_n B.1 B.2.1 dX12_readUses_67 rfl (lv_at hl 0 rfl) ?_
                  refine q_ieq (tgt := 75) B dX12_readUses_68 (by decide) (by unfold inr; omega) (fun _ => ?_) (fun c101 => absurd c101 (by omega))
                  refine lv_goto (tgt := 4) B.1 B.2.1 dX12_readUses_75 (by decide) ?_
                  exact IH4 (v4_2 + 1) 0 x62 x63 x64 x65 x66 x67 x68 x69 w70 b71 b72 b73 b74 b75 b76 b77 b78 b79 b80 b81 b82 b83 b84 b85 _ _ ls hM (lv_sub hl [3, 4, 1, 0] rfl) (by omega) (by omega) (by first | omega | (simp only [wr_at]; omega) | assumption) (by first | omega | (simp only [wr_at]; omega) | assumption) (by first | omega | (simp only [wr_at]; omega) | assumption) (by first | omega | (simp only [wr_at]; omega) | assumption) (by first | omega | (simp only [wr_at]; omega) | assumption) (by first | omega | (simp only [wr_at]; omega) | assumption) (by first | omega | (simp only [wr_at]; omega) | assumption) (by first | omega | (simp only [wr_at]; omega) | assumption) (by first | omega | (simp only [wr_at]; omega) | assumption) (by first | omega | (simp only [wr_at]; omega) | assumption) (by first | omega | (simp only [wr_at]; omega) | assumption) (by first | assumption | exact APe_rfl | exact APe_trans (by assumption) (by assumption) (by omega)) (by first | omega | (simp only [wr_at]; omega) | assumption) (by first | assumption | (intro hq; exfalso; omega) | (intro hq; exact (‹_ = 0 → UTI _ _ _ _ _› (by omega)))) (by first | omega | (simp only [wr_at]; omega) | assumption) (by first | omega | (simp only [wr_at]; omega) | assumption)
                · refine q_con B dX12_readUses_61 ?_
                  refine lv_goto (tgt := 66) B.1 B.2.1 dX12_readUses_62 (by decide) ?_
                  refine lv_istore_n (lv' := [(3, .int (II 1)), (2, .int (II (v4_2 + 1))), (4, .int (II r60)), (0, .ref h0), (1, .int (II a_had))]) B.1 B.2.1 dX12_readUses_66 rfl hl (by decide) rfl (fun ls hl => ?_)
                  refine lv_iload_n B.1 B.2.1 dX12_readUses_67 rfl (lv_at hl 0 rfl) ?_
                  refine q_ieq (tgt := 75) B dX12_readUses_68 (by decide) (by unfold inr; omega) (fun c102 => absurd c102 (by omega)) (fun _ => ?_)
                  refine lv_aload_n B.1 B.2.1 dX12_readUses_71 rfl (lv_at hl 3 rfl) ?_
                  refine m_callv (n := 0) (rest := []) B hM hA hl.1 (k_next l D dA h0 ad (up f [(8, x62), (9, x63), (7, x64), (10, x65), (5, x66), (6, x67), (22, x68), (62, x69)]) (up g [(11, w70)]) (up A [(17, b71), (18, b72), (19, b73), (20, b74), (21, b75), (47, b76), (48, b77), (49, b78), (50, b79), (51, b80), (52, b81), (53, b82), (54, b83)]) (up L [(16, b84), (55, b85)])   (show (x63) ≤ 3001 from by first | omega | (simp only [wr_at]; omega) | assumption)) rfl ok_next nm_next ⟨rfl, rfl⟩ ⟨Nat.le_of_ble_eq_true rfl, Nat.le_of_ble_eq_true rfl⟩ dX12_readUses_72 rfl rfl (Nat.le_of_ble_eq_true rfl) ⟨Nat.zero_le _, Nat.zero_le _⟩ (fun σr103 H locs hp104 hM => ?_)
                  obtain ⟨x105, x106, x107, x108, w109, rfl, hp104⟩ := hp104
                  replace hp104 : ((x63) ≤ (x105) ∨ (x105) = (f 4)) ∧ (0 ≤ (x105) ∧ (x105) ≤ (f 4) ∧ (x105) ≤ (x106) ∧ (x106) ≤ (f 4) + 1 ∧ ((x107) = 0 ↔ (x105) = (f 4)) ∧ (2 ≤ (x107) → (x105) < (x106) ∧ (x106) ≤ (f 4)) ∧ ((x107) = 5 → (x105) + 2 ≤ (x106) ∧ (x106) ≤ (x105) + 32)) := hp104
                  obtain ⟨hp104_0, hp104_1⟩ := hp104
                  simp only [up_up] at hM
                  replace hM : MWd D dA h0 ad (mF dA h0 ad (f, g, A, L) s.heap.size) s.heap ((up f [(8, x105), (9, x106), (7, x107), (10, x108), (5, x66), (6, x67), (22, x68), (62, x69)]), (up g [(11, w109)]), (up A [(17, b71), (18, b72), (19, b73), (20, b74), (21, b75), (47, b76), (48, b77), (49, b78), (50, b79), (51, b80), (52, b81), (53, b82), (54, b83)]), (up L [(16, b84), (55, b85)])) H locs := hM
                  have r110 : (0 : Int) ≤ x105 ∧ x105 ≤ 3001 := hM.2.2.2.1 8
                  have r111 : (0 : Int) ≤ x106 ∧ x106 ≤ 3002 := hM.2.2.2.1 9
                  have r112 : (0 : Int) ≤ x107 ∧ x107 ≤ 6 := hM.2.2.2.1 7
                  have r113 : (-2147483648 : Int) ≤ x108 ∧ x108 ≤ 2147483647 := hM.2.2.2.1 10
                  refine lv_goto (tgt := 4) B.1 B.2.1 dX12_readUses_75 (by decide) ?_
                  exact IH4 (v4_2 + 1) 1 x105 x106 x107 x108 x66 x67 x68 x69 w109 b71 b72 b73 b74 b75 b76 b77 b78 b79 b80 b81 b82 b83 b84 b85 _ _ ls hM (lv_sub hl [3, 4, 1, 0] rfl) (by omega) (by omega) (by first | omega | (simp only [wr_at]; omega) | assumption) (by first | omega | (simp only [wr_at]; omega) | assumption) (by first | omega | (simp only [wr_at]; omega) | assumption) (by first | omega | (simp only [wr_at]; omega) | assumption) (by first | omega | (simp only [wr_at]; omega) | assumption) (by first | omega | (simp only [wr_at]; omega) | assumption) (by first | omega | (simp only [wr_at]; omega) | assumption) (by first | omega | (simp only [wr_at]; omega) | assumption) (by first | omega | (simp only [wr_at]; omega) | assumption) (by first | omega | (simp only [wr_at]; omega) | assumption) (by first | omega | (simp only [wr_at]; omega) | assumption) (by first | assumption | exact APe_rfl | exact APe_trans (by assumption) (by assumption) (by omega)) (by first | omega | (simp only [wr_at]; omega) | assumption) (by first | assumption | (intro hq; exfalso; omega) | (intro hq; exact (‹_ = 0 → UTI _ _ _ _ _› (by omega)))) (by first | omega | (simp only [wr_at]; omega) | assumption) (by first | omega | (simp only [wr_at]; omega) | assumption)
            · refine lv_iload_n B.1 B.2.1 dX12_readUses_34 rfl (lv_at hl 2 rfl) ?_
              subst hPST
              exact m_iret B hM dX12_readUses_35 (by unfold inr; omega) ⟨y4_8, y4_9, y4_7, y4_10, y4_5, y4_6, y4_22, y4_62, y4_11, y4_17, y4_18, y4_19, y4_20, y4_21, y4_47, y4_48, y4_49, y4_50, y4_51, y4_52, y4_53, y4_54, y4_16, y4_55, rfl, by (exact ⟨by omega, by omega, by omega, by omega, by omega, by omega, by omega, by omega, by assumption, by assumption, by assumption, by first | assumption | (intro hq; exfalso; omega) | (intro hq; exact (‹_ = 0 → UTI _ _ _ _ _› (by omega)))⟩)⟩
          · refine lv_aload_n B.1 B.2.1 dX12_readUses_23 rfl (lv_at hl 0 rfl) ?_
            refine m_callv (n := 0) (rest := []) B hM hA hl.1 (k_wrong2 l D dA h0 ad (up f [(8, y4_8), (9, y4_9), (7, y4_7), (10, y4_10), (5, y4_5), (6, y4_6), (22, y4_22), (62, y4_62)]) (up g [(11, y4_11)]) (up A [(17, y4_17), (18, y4_18), (19, y4_19), (20, y4_20), (21, y4_21), (47, y4_47), (48, y4_48), (49, y4_49), (50, y4_50), (51, y4_51), (52, y4_52), (53, y4_53), (54, y4_54)]) (up L [(16, y4_16), (55, y4_55)])   ) rfl ok_wrong2 nm_wrong2 ⟨rfl, rfl⟩ ⟨Nat.le_of_ble_eq_true rfl, Nat.le_of_ble_eq_true rfl⟩ dX12_readUses_24 rfl rfl (Nat.le_of_ble_eq_true rfl) ⟨Nat.zero_le _, Nat.zero_le _⟩ (fun σr114 H locs hp115 hM => ?_)
            obtain ⟨x116, x117, rfl, hp115⟩ := hp115
            replace hp115 : (x116) ≠ 0 := hp115
            simp only [up_up] at hM
            replace hM : MWd D dA h0 ad (mF dA h0 ad (f, g, A, L) s.heap.size) s.heap ((up f [(8, y4_8), (9, y4_9), (7, y4_7), (10, y4_10), (5, x116), (6, x117), (22, y4_22), (62, y4_62)]), (up g [(11, y4_11)]), (up A [(17, y4_17), (18, y4_18), (19, y4_19), (20, y4_20), (21, y4_21), (47, y4_47), (48, y4_48), (49, y4_49), (50, y4_50), (51, y4_51), (52, y4_52), (53, y4_53), (54, y4_54)]), (up L [(16, y4_16), (55, y4_55)])) H locs := hM
            have r118 : (-2147483648 : Int) ≤ x116 ∧ x116 ≤ 2147483647 := hM.2.2.2.1 5
            have r119 : (-2147483648 : Int) ≤ x117 ∧ x117 ≤ 2147483647 := hM.2.2.2.1 6
            refine lv_aload_n B.1 B.2.1 dX12_readUses_27 rfl (lv_at hl 0 rfl) ?_
            refine m_calli (n := 0) (rest := []) B hM hA hl.1 (k_isGood l D dA h0 ad (up f [(8, y4_8), (9, y4_9), (7, y4_7), (10, y4_10), (5, x116), (6, x117), (22, y4_22), (62, y4_62)]) (up g [(11, y4_11)]) (up A [(17, y4_17), (18, y4_18), (19, y4_19), (20, y4_20), (21, y4_21), (47, y4_47), (48, y4_48), (49, y4_49), (50, y4_50), (51, y4_51), (52, y4_52), (53, y4_53), (54, y4_54)]) (up L [(16, y4_16), (55, y4_55)])   ) rfl ok_isGood nm_isGood ⟨rfl, rfl⟩ ⟨Nat.le_of_ble_eq_true rfl, Nat.le_of_ble_eq_true rfl⟩ dX12_readUses_28 rfl rfl (Nat.le_of_ble_eq_true rfl) ⟨Nat.zero_le _, Nat.zero_le _⟩ (fun r120 σr120 H locs ir120 hp121 hM => ?_)
            obtain ⟨rfl, hp121⟩ := hp121
            unfold inr at ir120
            replace hp121 : 0 ≤ r120 ∧ r120 ≤ 1 ∧ (r120 = 1 ↔ (x116) = 0) := hp121
            obtain ⟨hp121_0, hp121_1, hp121_2⟩ := hp121
            refine q_ine (tgt := 36) B dX12_readUses_31 (by decide) (by unfold inr; omega) (fun c122 => ?_) (fun c122 => ?_)
            · refine lv_aload_n B.1 B.2.1 dX12_readUses_36 rfl (lv_at hl 0 rfl) ?_
              refine m_calli (n := 0) (rest := []) B hM hA hl.1 (k_readUse l D dA h0 ad (up f [(8, y4_8), (9, y4_9), (7, y4_7), (10, y4_10), (5, x116), (6, x117), (22, y4_22), (62, y4_62)]) (up g [(11, y4_11)]) (up A [(17, y4_17), (18, y4_18), (19, y4_19), (20, y4_20), (21, y4_21), (47, y4_47), (48, y4_48), (49, y4_49), (50, y4_50), (51, y4_51), (52, y4_52), (53, y4_53), (54, y4_54)]) (up L [(16, y4_16), (55, y4_55)])   (show (0 ≤ (y4_8) ∧ (y4_8) ≤ (f 4) ∧ (y4_8) ≤ (y4_9) ∧ (y4_9) ≤ (f 4) + 1 ∧ ((y4_7) = 0 ↔ (y4_8) = (f 4)) ∧ (2 ≤ (y4_7) → (y4_8) < (y4_9) ∧ (y4_9) ≤ (f 4)) ∧ ((y4_7) = 5 → (y4_8) + 2 ≤ (y4_9) ∧ (y4_9) ≤ (y4_8) + 32)) from by first | omega | (simp only [wr_at]; omega) | assumption) (show 2 * (y4_22) ≤ (y4_8) from by first | omega | (simp only [wr_at]; omega) | assumption) (show ((x116) = 0 → (y4_62) ≤ (y4_22)) from by first | omega | (simp only [wr_at]; omega) | assumption) (show (y4_62) ≤ 1550 from by first | omega | (simp only [wr_at]; omega) | assumption) (show AIp (y4_22) y4_18 y4_20 y4_21 from by first | omega | (simp only [wr_at]; omega) | assumption) (show TXI y4_51 y4_52 from by first | omega | (simp only [wr_at]; omega) | assumption) (show ((x116) = 0 → UTI (f 3) (y4_62) (y4_22) y4_20 y4_21) from by first | omega | (simp only [wr_at]; omega) | assumption)) rfl ok_readUse nm_readUse ⟨rfl, rfl⟩ ⟨Nat.le_of_ble_eq_true rfl, Nat.le_of_ble_eq_true rfl⟩ dX12_readUses_37 rfl rfl (Nat.le_of_ble_eq_true rfl) ⟨Nat.zero_le _, Nat.zero_le _⟩ (fun r123 σr123 H locs ir123 hp124 hM => ?_)
              obtain ⟨x125, x126, x127, x128, x129, x130, x131, x132, w133, b134, b135, b136, b137, b138, b139, b140, b141, b142, b143, b144, b145, b146, b147, b148, rfl, hp124⟩ := hp124
              unfold inr at ir123
              replace hp124 : r123 = 1600 * (f 3) + (y4_62) ∧ ((0 ≤ (x125) ∧ (x125) ≤ (f 4) ∧ (x125) ≤ (x126) ∧ (x126) ≤ (f 4) + 1 ∧ ((x127) = 0 ↔ (x125) = (f 4)) ∧ (2 ≤ (x127) → (x125) < (x126) ∧ (x126) ≤ (f 4)) ∧ ((x127) = 5 → (x125) + 2 ≤ (x126) ∧ (x126) ≤ (x125) + 32))) ∧ (y4_8) ≤ (x125) ∧ ((x129) = 0 → (x116) = 0 ∧ (y4_8) + 1 ≤ (x125) ∧ (x132) ≤ (x131)) ∧ 2 * (x131) ≤ (x125) + 1 ∧ (x132) = (y4_62) + 1 ∧ (y4_22) ≤ (x131) ∧ AIp (x131) b135 b137 b138 ∧ APe (y4_22) y4_20 y4_21 b137 b138 ∧ TXI b143 b144 ∧ ((x129) = 0 → UTI (f 3) (x132) (x131) b137 b138) := hp124
              obtain ⟨hp124_0, hp124_1, hp124_2, hp124_3, hp124_4, hp124_5, hp124_6, hp124_7, hp124_8, hp124_9, hp124_10⟩ := hp124
              simp only [up_up] at hM
              replace hM : MWd D dA h0 ad (mF dA h0 ad (f, g, A, L) s.heap.size) s.heap ((up f [(8, x125), (9, x126), (7, x127), (10, x128), (5, x129), (6, x130), (22, x131), (62, x132)]), (up g [(11, w133)]), (up A [(17, b134), (18, b135), (19, b136), (20, b137), (21, b138), (47, b139), (48, b140), (49, b141), (50, b142), (51, b143), (52, b144), (53, b145), (54, b146)]), (up L [(16, b147), (55, b148)])) H locs := hM
              have r149 : (0 : Int) ≤ x125 ∧ x125 ≤ 3001 := hM.2.2.2.1 8
              have r150 : (0 : Int) ≤ x126 ∧ x126 ≤ 3002 := hM.2.2.2.1 9
              have r151 : (0 : Int) ≤ x127 ∧ x127 ≤ 6 := hM.2.2.2.1 7
              have r152 : (-2147483648 : Int) ≤ x128 ∧ x128 ≤ 2147483647 := hM.2.2.2.1 10
              have r153 : (-2147483648 : Int) ≤ x129 ∧ x129 ≤ 2147483647 := hM.2.2.2.1 5
              have r154 : (-2147483648 : Int) ≤ x130 ∧ x130 ≤ 2147483647 := hM.2.2.2.1 6
              have r155 : (0 : Int) ≤ x131 ∧ x131 ≤ 1600 := hM.2.2.2.1 22
              have r156 : (0 : Int) ≤ x132 ∧ x132 ≤ 1590 := hM.2.2.2.1 62
              refine lv_istore (lv' := [(4, .int (II r123)), (0, .ref h0), (1, .int (II a_had)), (2, .int (II v4_2)), (3, .int (II v4_3))]) B.1 B.2.1 dX12_readUses_40 hl (by decide) rfl (fun ls hl => ?_)
              refine q_inc (k := 3) (x := v4_2) (lv' := [(2, .int (II (v4_2 + 1))), (4, .int (II r123)), (0, .ref h0), (1, .int (II a_had)), (3, .int (II v4_3))]) B dX12_readUses_42 hl rfl (by decide) rfl (fun ls hl => ?_)
              refine lv_aload_n B.1 B.2.1 dX12_readUses_45 rfl (lv_at hl 2 rfl) ?_
              refine m_calli (n := 0) (rest := []) B hM hA hl.1 (k_isGood l D dA h0 ad (up f [(8, x125), (9, x126), (7, x127), (10, x128), (5, x129), (6, x130), (22, x131), (62, x132)]) (up g [(11, w133)]) (up A [(17, b134), (18, b135), (19, b136), (20, b137), (21, b138), (47, b139), (48, b140), (49, b141), (50, b142), (51, b143), (52, b144), (53, b145), (54, b146)]) (up L [(16, b147), (55, b148)])   ) rfl ok_isGood nm_isGood ⟨rfl, rfl⟩ ⟨Nat.le_of_ble_eq_true rfl, Nat.le_of_ble_eq_true rfl⟩ dX12_readUses_46 rfl rfl (Nat.le_of_ble_eq_true rfl) ⟨Nat.zero_le _, Nat.zero_le _⟩ (fun r157 σr157 H locs ir157 hp158 hM => ?_)
              obtain ⟨rfl, hp158⟩ := hp158
              unfold inr at ir157
              replace hp158 : 0 ≤ r157 ∧ r157 ≤ 1 ∧ (r157 = 1 ↔ (x129) = 0) := hp158
              obtain ⟨hp158_0, hp158_1, hp158_2⟩ := hp158
              refine q_ieq (tgt := 65) B dX12_readUses_49 (by decide) (by unfold inr; omega) (fun c159 => ?_) (fun c159 => ?_)
              · refine q_con B dX12_readUses_65 ?_
                refine lv_istore_n (lv' := [(3, .int (II 0)), (2, .int (II (v4_2 + 1))), (4, .int (II r123)), (0, .ref h0), (1, .int (II a_had))]) B.1 B.2.1 dX12_readUses_66 rfl hl (by decide) rfl (fun ls hl => ?_)
                refine lv_iload_n B.1 B.2.1 dX12_readUses_67 rfl (lv_at hl 0 rfl) ?_
                refine q_ieq (tgt := 75) B dX12_readUses_68 (by decide) (by unfold inr; omega) (fun _ => ?_) (fun c160 => absurd c160 (by omega))
                refine lv_goto (tgt := 4) B.1 B.2.1 dX12_readUses_75 (by decide) ?_
                exact IH4 (v4_2 + 1) 0 x125 x126 x127 x128 x129 x130 x131 x132 w133 b134 b135 b136 b137 b138 b139 b140 b141 b142 b143 b144 b145 b146 b147 b148 _ _ ls hM (lv_sub hl [3, 4, 1, 0] rfl) (by omega) (by omega) (by first | omega | (simp only [wr_at]; omega) | assumption) (by first | omega | (simp only [wr_at]; omega) | assumption) (by first | omega | (simp only [wr_at]; omega) | assumption) (by first | omega | (simp only [wr_at]; omega) | assumption) (by first | omega | (simp only [wr_at]; omega) | assumption) (by first | omega | (simp only [wr_at]; omega) | assumption) (by first | omega | (simp only [wr_at]; omega) | assumption) (by first | omega | (simp only [wr_at]; omega) | assumption) (by first | omega | (simp only [wr_at]; omega) | assumption) (by first | omega | (simp only [wr_at]; omega) | assumption) (by first | omega | (simp only [wr_at]; omega) | assumption) (by first | assumption | exact APe_rfl | exact APe_trans (by assumption) (by assumption) (by omega)) (by first | omega | (simp only [wr_at]; omega) | assumption) (by first | assumption | (intro hq; exfalso; omega) | (intro hq; exact (‹_ = 0 → UTI _ _ _ _ _› (by omega)))) (by first | omega | (simp only [wr_at]; omega) | assumption) (by first | omega | (simp only [wr_at]; omega) | assumption)
              · refine lv_aload_n B.1 B.2.1 dX12_readUses_52 rfl (lv_at hl 2 rfl) ?_
                refine q_bip B dX12_readUses_53 (by decide) ?_
                refine m_calli (n := 1) (rest := []) B hM hA hl.1 (k_isSign l D dA h0 ad (up f [(8, x125), (9, x126), (7, x127), (10, x128), (5, x129), (6, x130), (22, x131), (62, x132)]) (up g [(11, w133)]) (up A [(17, b134), (18, b135), (19, b136), (20, b137), (21, b138), (47, b139), (48, b140), (49, b141), (50, b142), (51, b143), (52, b144), (53, b145), (54, b146)]) (up L [(16, b147), (55, b148)]) 44 (by omega) (show (0 ≤ (x125) ∧ (x125) ≤ (f 4) ∧ (x125) ≤ (x126) ∧ (x126) ≤ (f 4) + 1 ∧ ((x127) = 0 ↔ (x125) = (f 4)) ∧ (2 ≤ (x127) → (x125) < (x126) ∧ (x126) ≤ (f 4)) ∧ ((x127) = 5 → (x125) + 2 ≤ (x126) ∧ (x126) ≤ (x125) + 32)) from by first | omega | (simp only [wr_at]; omega) | assumption)) rfl ok_isSign nm_isSign ⟨rfl, rfl⟩ ⟨Nat.le_of_ble_eq_true rfl, Nat.le_of_ble_eq_true rfl⟩ dX12_readUses_55 rfl rfl (Nat.le_of_ble_eq_true rfl) ⟨Nat.zero_le _, Nat.zero_le _⟩ (fun r161 σr161 H locs ir161 hp162 hM => ?_)
                obtain ⟨rfl, hp162⟩ := hp162
                unfold inr at ir161
                replace hp162 : 0 ≤ r161 ∧ r161 ≤ 1 ∧ (r161 = 1 ↔ (x127) = 6 ∧ sgn ((A 2)) (f 3) (f 4) (x125) = (44)) := hp162
                obtain ⟨hp162_0, hp162_1, hp162_2⟩ := hp162
                refine q_ieq (tgt := 65) B dX12_readUses_58 (by decide) (by unfold inr; omega) (fun c163 => ?_) (fun c163 => ?_)
                · refine q_con B dX12_readUses_65 ?_
                  refine lv_istore_n (lv' := [(3, .int (II 0)), (2, .int (II (v4_2 + 1))), (4, .int (II r123)), (0, .ref h0), (1, .int (II a_had))]) B.1 B.2.1 dX12_readUses_66 rfl hl (by decide) rfl (fun ls hl => ?_)
                  refine lv_iload_n B.1 B.2.1 dX12_readUses_67 rfl (lv_at hl 0 rfl) ?_
                  refine q_ieq (tgt := 75) B dX12_readUses_68 (by decide) (by unfold inr; omega) (fun _ => ?_) (fun c164 => absurd c164 (by omega))
                  refine lv_goto (tgt := 4) B.1 B.2.1 dX12_readUses_75 (by decide) ?_
                  exact IH4 (v4_2 + 1) 0 x125 x126 x127 x128 x129 x130 x131 x132 w133 b134 b135 b136 b137 b138 b139 b140 b141 b142 b143 b144 b145 b146 b147 b148 _ _ ls hM (lv_sub hl [3, 4, 1, 0] rfl) (by omega) (by omega) (by first | omega | (simp only [wr_at]; omega) | assumption) (by first | omega | (simp only [wr_at]; omega) | assumption) (by first | omega | (simp only [wr_at]; omega) | assumption) (by first | omega | (simp only [wr_at]; omega) | assumption) (by first | omega | (simp only [wr_at]; omega) | assumption) (by first | omega | (simp only [wr_at]; omega) | assumption) (by first | omega | (simp only [wr_at]; omega) | assumption) (by first | omega | (simp only [wr_at]; omega) | assumption) (by first | omega | (simp only [wr_at]; omega) | assumption) (by first | omega | (simp only [wr_at]; omega) | assumption) (by first | omega | (simp only [wr_at]; omega) | assumption) (by first | assumption | exact APe_rfl | exact APe_trans (by assumption) (by assumption) (by omega)) (by first | omega | (simp only [wr_at]; omega) | assumption) (by first | assumption | (intro hq; exfalso; omega) | (intro hq; exact (‹_ = 0 → UTI _ _ _ _ _› (by omega)))) (by first | omega | (simp only [wr_at]; omega) | assumption) (by first | omega | (simp only [wr_at]; omega) | assumption)
                · refine q_con B dX12_readUses_61 ?_
                  refine lv_goto (tgt := 66) B.1 B.2.1 dX12_readUses_62 (by decide) ?_
                  refine lv_istore_n (lv' := [(3, .int (II 1)), (2, .int (II (v4_2 + 1))), (4, .int (II r123)), (0, .ref h0), (1, .int (II a_had))]) B.1 B.2.1 dX12_readUses_66 rfl hl (by decide) rfl (fun ls hl => ?_)
                  refine lv_iload_n B.1 B.2.1 dX12_readUses_67 rfl (lv_at hl 0 rfl) ?_
                  refine q_ieq (tgt := 75) B dX12_readUses_68 (by decide) (by unfold inr; omega) (fun c165 => absurd c165 (by omega)) (fun _ => ?_)
                  refine lv_aload_n B.1 B.2.1 dX12_readUses_71 rfl (lv_at hl 3 rfl) ?_
                  refine m_callv (n := 0) (rest := []) B hM hA hl.1 (k_next l D dA h0 ad (up f [(8, x125), (9, x126), (7, x127), (10, x128), (5, x129), (6, x130), (22, x131), (62, x132)]) (up g [(11, w133)]) (up A [(17, b134), (18, b135), (19, b136), (20, b137), (21, b138), (47, b139), (48, b140), (49, b141), (50, b142), (51, b143), (52, b144), (53, b145), (54, b146)]) (up L [(16, b147), (55, b148)])   (show (x126) ≤ 3001 from by first | omega | (simp only [wr_at]; omega) | assumption)) rfl ok_next nm_next ⟨rfl, rfl⟩ ⟨Nat.le_of_ble_eq_true rfl, Nat.le_of_ble_eq_true rfl⟩ dX12_readUses_72 rfl rfl (Nat.le_of_ble_eq_true rfl) ⟨Nat.zero_le _, Nat.zero_le _⟩ (fun σr166 H locs hp167 hM => ?_)
                  obtain ⟨x168, x169, x170, x171, w172, rfl, hp167⟩ := hp167
                  replace hp167 : ((x126) ≤ (x168) ∨ (x168) = (f 4)) ∧ (0 ≤ (x168) ∧ (x168) ≤ (f 4) ∧ (x168) ≤ (x169) ∧ (x169) ≤ (f 4) + 1 ∧ ((x170) = 0 ↔ (x168) = (f 4)) ∧ (2 ≤ (x170) → (x168) < (x169) ∧ (x169) ≤ (f 4)) ∧ ((x170) = 5 → (x168) + 2 ≤ (x169) ∧ (x169) ≤ (x168) + 32)) := hp167
                  obtain ⟨hp167_0, hp167_1⟩ := hp167
                  simp only [up_up] at hM
                  replace hM : MWd D dA h0 ad (mF dA h0 ad (f, g, A, L) s.heap.size) s.heap ((up f [(8, x168), (9, x169), (7, x170), (10, x171), (5, x129), (6, x130), (22, x131), (62, x132)]), (up g [(11, w172)]), (up A [(17, b134), (18, b135), (19, b136), (20, b137), (21, b138), (47, b139), (48, b140), (49, b141), (50, b142), (51, b143), (52, b144), (53, b145), (54, b146)]), (up L [(16, b147), (55, b148)])) H locs := hM
                  have r173 : (0 : Int) ≤ x168 ∧ x168 ≤ 3001 := hM.2.2.2.1 8
                  have r174 : (0 : Int) ≤ x169 ∧ x169 ≤ 3002 := hM.2.2.2.1 9
                  have r175 : (0 : Int) ≤ x170 ∧ x170 ≤ 6 := hM.2.2.2.1 7
                  have r176 : (-2147483648 : Int) ≤ x171 ∧ x171 ≤ 2147483647 := hM.2.2.2.1 10
                  refine lv_goto (tgt := 4) B.1 B.2.1 dX12_readUses_75 (by decide) ?_
                  exact IH4 (v4_2 + 1) 1 x168 x169 x170 x171 x129 x130 x131 x132 w172 b134 b135 b136 b137 b138 b139 b140 b141 b142 b143 b144 b145 b146 b147 b148 _ _ ls hM (lv_sub hl [3, 4, 1, 0] rfl) (by omega) (by omega) (by first | omega | (simp only [wr_at]; omega) | assumption) (by first | omega | (simp only [wr_at]; omega) | assumption) (by first | omega | (simp only [wr_at]; omega) | assumption) (by first | omega | (simp only [wr_at]; omega) | assumption) (by first | omega | (simp only [wr_at]; omega) | assumption) (by first | omega | (simp only [wr_at]; omega) | assumption) (by first | omega | (simp only [wr_at]; omega) | assumption) (by first | omega | (simp only [wr_at]; omega) | assumption) (by first | omega | (simp only [wr_at]; omega) | assumption) (by first | omega | (simp only [wr_at]; omega) | assumption) (by first | omega | (simp only [wr_at]; omega) | assumption) (by first | assumption | exact APe_rfl | exact APe_trans (by assumption) (by assumption) (by omega)) (by first | omega | (simp only [wr_at]; omega) | assumption) (by first | assumption | (intro hq; exfalso; omega) | (intro hq; exact (‹_ = 0 → UTI _ _ _ _ _› (by omega)))) (by first | omega | (simp only [wr_at]; omega) | assumption) (by first | omega | (simp only [wr_at]; omega) | assumption)
            · refine lv_iload_n B.1 B.2.1 dX12_readUses_34 rfl (lv_at hl 2 rfl) ?_
              subst hPST
              exact m_iret B hM dX12_readUses_35 (by unfold inr; omega) ⟨y4_8, y4_9, y4_7, y4_10, x116, x117, y4_22, y4_62, y4_11, y4_17, y4_18, y4_19, y4_20, y4_21, y4_47, y4_48, y4_49, y4_50, y4_51, y4_52, y4_53, y4_54, y4_16, y4_55, rfl, by (exact ⟨by omega, by omega, by omega, by omega, by omega, by omega, by omega, by omega, by assumption, by assumption, by assumption, by first | assumption | (intro hq; exfalso; omega) | (intro hq; exact (‹_ = 0 → UTI _ _ _ _ _› (by omega)))⟩)⟩
  refine q_con B dX12_readUses_0 ?_
  refine lv_istore_n (lv' := [(2, .int (II 0)), (0, .ref h0), (1, .int (II a_had))]) B.1 B.2.1 dX12_readUses_1 rfl hl (by decide) rfl (fun ls hl => ?_)
  refine q_con B dX12_readUses_2 ?_
  refine lv_istore_n (lv' := [(3, .int (II 1)), (2, .int (II 0)), (0, .ref h0), (1, .int (II a_had))]) B.1 B.2.1 dX12_readUses_3 rfl hl (by decide) rfl (fun ls hl => ?_)
  exact LL4 (Int.toNat (9 - (0) + 1)) 0 1 (f 8) (f 9) (f 7) (f 10) (f 5) (f 6) (f 22) (f 62) (g 11) ((A 17)) ((A 18)) ((A 19)) ((A 20)) ((A 21)) ((A 47)) ((A 48)) ((A 49)) ((A 50)) ((A 51)) ((A 52)) ((A 53)) ((A 54)) ((L 16)) ((L 55)) _ _ ls hM (lv_sub hl [2, 3, 1, 0] rfl) (by omega) (by omega) (by first | omega | (simp only [wr_at]; omega) | assumption) (by first | omega | (simp only [wr_at]; omega) | assumption) (by first | omega | (simp only [wr_at]; omega) | assumption) (by first | omega | (simp only [wr_at]; omega) | assumption) (by first | omega | (simp only [wr_at]; omega) | assumption) (by first | omega | (simp only [wr_at]; omega) | assumption) (by first | omega | (simp only [wr_at]; omega) | assumption) (by first | omega | (simp only [wr_at]; omega) | assumption) (by first | omega | (simp only [wr_at]; omega) | assumption) (by first | omega | (simp only [wr_at]; omega) | assumption) (by first | omega | (simp only [wr_at]; omega) | assumption) (by first | assumption | exact APe_rfl | exact APe_trans (by assumption) (by assumption) (by omega)) (by first | omega | (simp only [wr_at]; omega) | assumption) (by first | assumption | (intro hq; exfalso; omega) | (intro hq; exact (‹_ = 0 → UTI _ _ _ _ _› (by omega)))) (by first | omega | (simp only [wr_at]; omega) | assumption) (by first | omega | (simp only [wr_at]; omega) | assumption)
set_option maxHeartbeats 4000000 in
set_option maxRecDepth 20000 in
theorem k_memberOf (l : Launch) (D : va_G) (dA : Nat → ClassId) (h0 : Nat) (ad : Nat → Nat) (f : Nat → Int) (g : Nat → Int64) (A : Nat → Nat → Int) (L : Nat → Nat → Int64) (a_k : Int) (a_v : Int64) (i_k : (-2147483648 : Int) ≤ a_k ∧ a_k ≤ 2147483647) (p_0 : 0 ≤ (a_k)) (p_1 : (a_k) < 32) : MCi l yX12_memberOf cX12_memberOf 5 (some .int) ({ frames := 0, cells := 0, slots := 0, locals := 0 }) D dA h0 ad (f, g, A, L) [.int (II a_k), .long a_v] (fun (r : Int) (σ : MS) => σ = (f, g, A, L) ∧ (-1 ≤ r ∧ r < (A 37) ((a_k)).toNat)) := by
  generalize hPST : (fun (r : Int) (σ : MS) => σ = (f, g, A, L) ∧ (-1 ≤ r ∧ r < (A 37) ((a_k)).toNat)) = PST
  refine m_enter (by decide) rfl (Nat.le_of_ble_eq_true rfl) (fun p e s m args below meth c ls B hM hl => ?_)
  have hA : ∀ q, s.heap.size ≤ q → mF dA h0 ad (f, g, A, L) s.heap.size q := fun q h => Or.inr h
  have hl : lv_has ls 5 [(0, .ref h0), (1, .int (II a_k)), (2, .long a_v)] := hl
  have LL3 : ∀ N : Nat, ∀ (v3_4 : Int) (H : Heap) (locs : List Loc) (ls : Array Slot), (MWd D dA h0 ad (mF dA h0 ad (f, g, A, L) s.heap.size) s.heap (f, g, A, L) H locs) → lv_has ls 5 [(0, .ref h0), (1, .int (II a_k)), (2, .long a_v), (4, .int (II v3_4))] → ((-2147483648 : Int) ≤ v3_4 ∧ v3_4 ≤ 2147483647) → (0 ≤ (v3_4)) → ((v3_4) ≤ (A 37) ((a_k)).toNat) → (0 ≤ (A 37) ((a_k)).toNat) → ((A 37) ((a_k)).toNat ≤ 12) → (0 ≤ (A 37) ((a_k)).toNat - (v3_4)) → ((A 37) ((a_k)).toNat - (v3_4) < (N : Int)) → W p l e ({ frames := 0, cells := 0, slots := 0, locals := 0 }) s m args below meth c H locs 0 0 (MQ below (mQi D dA h0 ad (f, g, A, L) s.heap.size PST) args s 0 0 (mF dA h0 ad (f, g, A, L) s.heap.size)) (F0 m 3 ls []) := by
    intro N
    induction N with
    | zero => intro v3_4 H locs ls hM hl hLL3_0 hLL3_1 hLL3_2 hLL3_3 hLL3_4 hLL3_5 hN; exfalso; omega
    | succ N IH3 =>
      intro v3_4 H locs ls hM hl hLL3_0 hLL3_1 hLL3_2 hLL3_3 hLL3_4 hLL3_5 hN
      refine lv_iload B.1 B.2.1 dX12_memberOf_3 (lv_at hl 3 rfl) ?_
      refine lv_aload_n B.1 B.2.1 dX12_memberOf_5 rfl (lv_at hl 0 rfl) ?_
      refine m_geta (k := 37) B hM (by decide) rfl fl205 dX12_memberOf_6 ?_
      refine lv_iload_n B.1 B.2.1 dX12_memberOf_9 rfl (lv_at hl 1 rfl) ?_
      refine m_ild (k := 37) (i := 25) (n := 32) (z := a_k) (v := (A 37) a_k.toNat) B hM rfl rfl rfl (by decide) dX12_memberOf_10 (by omega) (by omega) rfl ?_
      have r1 : (0 : Int) ≤ (A 37) a_k.toNat ∧ (A 37) a_k.toNat ≤ 12 := hM.2.2.2.2 37 a_k.toNat
      refine q_cge (tgt := 45) B dX12_memberOf_11 (by decide) (by unfold inr; omega) (by unfold inr; omega) (fun c2 => ?_) (fun c2 => ?_)
      · refine q_con B dX12_memberOf_45 ?_
        subst hPST
        exact m_iret B hM dX12_memberOf_46 (by unfold inr; omega) ⟨rfl, by omega⟩
      · refine lv_aload_n B.1 B.2.1 dX12_memberOf_14 rfl (lv_at hl 0 rfl) ?_
        refine m_geta (k := 41) B hM (by decide) rfl fl217 dX12_memberOf_15 ?_
        refine lv_aload_n B.1 B.2.1 dX12_memberOf_18 rfl (lv_at hl 0 rfl) ?_
        refine m_geta (k := 38) B hM (by decide) rfl fl208 dX12_memberOf_19 ?_
        refine q_bip B dX12_memberOf_22 (by decide) ?_
        refine lv_iload_n B.1 B.2.1 dX12_memberOf_24 rfl (lv_at hl 1 rfl) ?_
        refine q_mul B dX12_memberOf_25 ?_
        refine lv_iload B.1 B.2.1 dX12_memberOf_26 (lv_at hl 3 rfl) ?_
        refine q_add B dX12_memberOf_28 ?_
        refine m_ild (k := 38) (i := 26) (n := 384) (z := (12 * a_k) + v3_4) (v := (A 38) ((12 * a_k) + v3_4).toNat) B hM rfl rfl rfl (by decide) dX12_memberOf_29 (by omega) (by omega) rfl ?_
        have r3 : (0 : Int) ≤ (A 38) ((12 * a_k) + v3_4).toNat ∧ (A 38) ((12 * a_k) + v3_4).toNat ≤ 399 := hM.2.2.2.2 38 ((12 * a_k) + v3_4).toNat
        refine m_lld (k := 41) (i := 29) (n := 400) (z := (A 38) ((12 * a_k) + v3_4).toNat) (v := (L 41) ((A 38) ((12 * a_k) + v3_4).toNat).toNat) B hM rfl rfl rfl (by decide) dX12_memberOf_30 (by omega) (by omega) rfl ?_
        refine lv_lload_n B.1 B.2.1 dX12_memberOf_31 rfl (lv_at hl 2 rfl) ?_
        refine q_lcmp B dX12_memberOf_32 (fun x4 lx4 ux4 ex4 => ?_)
        refine q_ine (tgt := 39) B dX12_memberOf_33 (by decide) (by unfold inr; omega) (fun c5 => ?_) (fun c5 => ?_)
        · refine q_inc (k := 3) (x := v3_4) (lv' := [(4, .int (II (v3_4 + 1))), (0, .ref h0), (1, .int (II a_k)), (2, .long a_v)]) B dX12_memberOf_39 hl rfl (by decide) rfl (fun ls hl => ?_)
          refine lv_goto (tgt := 3) B.1 B.2.1 dX12_memberOf_42 (by decide) ?_
          exact IH3 (v3_4 + 1) _ _ ls hM (lv_sub hl [1, 2, 3, 0] rfl) (by omega) (by first | omega | (simp only [wr_at]; omega) | assumption) (by first | omega | (simp only [wr_at]; omega) | assumption) (by first | omega | (simp only [wr_at]; omega) | assumption) (by first | omega | (simp only [wr_at]; omega) | assumption) (by first | omega | (simp only [wr_at]; omega) | assumption) (by first | omega | (simp only [wr_at]; omega) | assumption)
        · refine lv_iload B.1 B.2.1 dX12_memberOf_36 (lv_at hl 3 rfl) ?_
          subst hPST
          exact m_iret B hM dX12_memberOf_38 (by unfold inr; omega) ⟨rfl, by omega⟩
  have hk12 : (0 : Int) ≤ (A 37) ((a_k)).toNat ∧ (A 37) ((a_k)).toNat ≤ 12 := hM.2.2.2.2 37 ((a_k)).toNat
  refine q_con B dX12_memberOf_0 ?_
  refine lv_istore (lv' := [(4, .int (II 0)), (0, .ref h0), (1, .int (II a_k)), (2, .long a_v)]) B.1 B.2.1 dX12_memberOf_1 hl (by decide) rfl (fun ls hl => ?_)
  exact LL3 (Int.toNat ((A 37) ((a_k)).toNat - (0) + 1)) 0 _ _ ls hM (lv_sub hl [1, 2, 3, 0] rfl) (by omega) (by first | omega | (simp only [wr_at]; omega) | assumption) (by first | omega | (simp only [wr_at]; omega) | assumption) (by first | omega | (simp only [wr_at]; omega) | assumption) (by first | omega | (simp only [wr_at]; omega) | assumption) (by first | omega | (simp only [wr_at]; omega) | assumption) (by first | omega | (simp only [wr_at]; omega) | assumption)
