/-- only one place of a row has changed -/
def Fr1 (a a' : Nat → Int) (z : Int) : Prop := ∀ j : Nat, j ≠ z.toNat → a' j = a j
theorem Fr1_rfl {a : Nat → Int} {z : Int} : Fr1 a a z := fun _ _ => rfl
theorem Fr1_wr {a a' : Nat → Int} {z v : Int} (h : Fr1 a a' z) : Fr1 a (wr a' z v) z := fun j hj => (wr_ne hj).trans (h j hj)
/-- what a step does to the pile -/
def dl (op : Int) : Int := if op = 110 ∨ op = 118 ∨ op = 97 ∨ op = 98 then 1 else if op = 126 then 0 else -1
theorem dl_push {op : Int} (h : op = 110 ∨ op = 118 ∨ op = 97 ∨ op = 98) : dl op = 1 := if_pos h
theorem dl_not {op : Int} (h : op = 126) : dl op = 0 := by subst h; rfl
theorem dl_bin {op : Int} (h : ¬ (op = 110 ∨ op = 118 ∨ op = 97 ∨ op = 98)) (h2 : op ≠ 126) : dl op = -1 := by
  unfold dl; rw [if_neg h, if_neg h2]
def canOp (op d : Int) : Prop := ((op = 110 ∨ op = 118 ∨ op = 97 ∨ op = 98) → d < 16) ∧ (op = 126 → 0 < d) ∧ (¬ (op = 110 ∨ op = 118 ∨ op = 97 ∨ op = 98) → op ≠ 126 → 1 < d)
def dep (o : Nat → Int) (p : Nat) : Nat → Int
  | 0 => 0
  | n + 1 => dep o p n + dl (o (p + n))
def okS (o : Nat → Int) (p n : Nat) : Prop := ∀ i, i < n → canOp (o (p + i)) (dep o p i)
theorem dep_congr {o o' : Nat → Int} {p : Nat} : ∀ n, (∀ i, i < n → o' (p + i) = o (p + i)) → dep o' p n = dep o p n
  | 0, _ => rfl
  | n + 1, h => by
    show dep o' p n + dl (o' (p + n)) = dep o p n + dl (o (p + n))
    rw [dep_congr n (fun i hi => h i (by omega)), h n (by omega)]
theorem okS_congr {o o' : Nat → Int} {p n : Nat} (h : ∀ i, i < n → o' (p + i) = o (p + i)) (k : okS o p n) : okS o' p n := by
  intro i hi
  rw [h i hi, dep_congr i (fun j hj => h j (by omega))]
  exact k i hi
theorem dep_range {o : Nat → Int} {p : Nat} : ∀ n, okS o p n → 0 ≤ dep o p n ∧ dep o p n ≤ 16
  | 0, _ => ⟨by show (0 : Int) ≤ 0; omega, by show (0 : Int) ≤ 16; omega⟩
  | n + 1, h => by
    have h1 := dep_range n (fun i hi => h i (by omega))
    obtain ⟨c1, c2, c3⟩ := h n (by omega)
    show 0 ≤ dep o p n + dl (o (p + n)) ∧ dep o p n + dl (o (p + n)) ≤ 16
    by_cases e : o (p + n) = 110 ∨ o (p + n) = 118 ∨ o (p + n) = 97 ∨ o (p + n) = 98
    · rw [dl_push e]; have := c1 e; omega
    · by_cases e2 : o (p + n) = 126
      · rw [dl_not e2]; have := c2 e2; omega
      · rw [dl_bin e e2]; have := c3 e e2; omega
theorem dep_wr {o : Nat → Int} {b v : Int} {p n : Nat} (hb : b.toNat = p + n) : dep (wr o b v) p (n + 1) = dep o p n + dl v := by
  show dep (wr o b v) p n + dl (wr o b v (p + n)) = _
  rw [dep_congr n (fun i hi => wr_ne (by omega)), ← hb, wr_at]
theorem okS_wr {o : Nat → Int} {b v : Int} {p n : Nat} (hb : b.toNat = p + n) (h : okS o p n) (hc : canOp v (dep o p n)) : okS (wr o b v) p (n + 1) := by
  intro i hi
  by_cases e : i = n
  · subst e
    rw [dep_congr i (fun j hj => wr_ne (by omega)), ← hb, wr_at]
    exact hc
  · rw [wr_ne (by omega), dep_congr i (fun j hj => wr_ne (by omega))]
    exact h i (by omega)
/-- steps are written behind those that stand, in this half -/
def FrS (b st : Int) (o o' : Nat → Int) : Prop := ∀ j : Nat, ((j : Int) < 1500 * b + st ∨ 1500 * b + 1500 ≤ (j : Int)) → o' j = o j
theorem FrS_rfl {b st : Int} {o : Nat → Int} : FrS b st o o := fun _ _ => rfl
theorem FrS_wr {b st z v : Int} {o o' : Nat → Int} (h : FrS b st o o') (h1 : 1500 * b + st ≤ z) (h2 : z < 1500 * b + 1500) (h3 : 0 ≤ z) : FrS b st o (wr o' z v) := fun j hj => (wr_ne (by omega)).trans (h j hj)
theorem FrS_trans {b st st' : Int} {o o' o2 : Nat → Int} (h : FrS b st o o') (h1 : FrS b st' o' o2) (h2 : st ≤ st') : FrS b st o o2 := fun j hj => (h1 j (by omega)).trans (h j hj)
theorem FrS_okS {b st : Int} {o o' : Nat → Int} {p n : Nat} (h : FrS b st o o') (hp : (p : Int) + n ≤ 1500 * b + st) (k : okS o p n) : okS o' p n := okS_congr (fun i hi => h (p + i) (Or.inl (by omega))) k
/-- where the walk through steps stands -/
def SpI (o : Nat → Int) (b st0 st pile : Int) : Prop := pile = dep o (1500 * b + st0).toNat (st - st0).toNat ∧ okS o (1500 * b + st0).toNat (st - st0).toNat
theorem SpI_0 {o : Nat → Int} {b st : Int} : SpI o b st st 0 := by
  unfold SpI
  rw [show (st - st).toNat = 0 by omega]
  exact ⟨rfl, fun i hi => absurd hi (Nat.not_lt_zero i)⟩
theorem SpI_push {o : Nat → Int} {b st0 st pile op d : Int} (h : SpI o b st0 st pile) (hb : 0 ≤ b) (h0 : 0 ≤ st0) (h1 : st0 ≤ st) (hc : canOp op pile) (hd : d = dl op) : SpI (wr o (1500 * b + st) op) b st0 (st + 1) (pile + d) := by
  obtain ⟨e, k⟩ := h
  unfold SpI
  rw [show (st + 1 - st0).toNat = (st - st0).toNat + 1 by omega]
  have hb2 : (1500 * b + st).toNat = (1500 * b + st0).toNat + (st - st0).toNat := by omega
  rw [dep_wr hb2, ← e, hd]
  exact ⟨rfl, okS_wr hb2 k (by rw [← e]; exact hc)⟩
set_option maxHeartbeats 4000000 in
set_option maxRecDepth 20000 in
theorem k_readGroup (l : Launch) (D : va_G) (dA : Nat → ClassId) (h0 : Nat) (ad : Nat → Nat) (f : Nat → Int) (g : Nat → Int64) (A : Nat → Nat → Int) (L : Nat → Nat → Int64) (p_0 : (0 ≤ (f 8) ∧ (f 8) ≤ (f 4) ∧ (f 9) ≤ (f 4) + 1 ∧ ((f 7) = 0 ↔ (f 8) = (f 4)) ∧ (2 ≤ (f 7) → (f 8) < (f 9) ∧ (f 9) ≤ (f 4)) ∧ ((f 7) = 5 → (f 8) + 2 ≤ (f 9) ∧ (f 9) ≤ (f 8) + 32))) (p_1 : (f 56) ≤ 6) (p_2 : (f 15) ≤ 62) (p_3 : 2 * (f 22) ≤ (f 8)) (p_4 : NIp (f 15) (f 3) (A 13) (A 14)) (p_5 : AIp (f 22) (A 18) (A 20) (A 21)) : MCv l yX12_readGroup cX12_readGroup 4 ({ frames := 4, cells := 0, slots := 0, locals := 89 }) D dA h0 ad (f, g, A, L) [] (fun σ => ∃ n8 : Int, ∃ n9 : Int, ∃ n7 : Int, ∃ n10 : Int, ∃ n5 : Int, ∃ n6 : Int, ∃ n15 : Int, ∃ n22 : Int, ∃ n56 : Int, ∃ n11 : Int64, ∃ b13 : Nat → Int, ∃ b14 : Nat → Int, ∃ b17 : Nat → Int, ∃ b18 : Nat → Int, ∃ b19 : Nat → Int, ∃ b20 : Nat → Int, ∃ b21 : Nat → Int, ∃ b23 : Nat → Int, ∃ b12 : Nat → Int64, ∃ b16 : Nat → Int64, σ = ((up f [(8, n8), (9, n9), (7, n7), (10, n10), (5, n5), (6, n6), (15, n15), (22, n22), (56, n56)]), (up g [(11, n11)]), (up A [(13, b13), (14, b14), (17, b17), (18, b18), (19, b19), (20, b20), (21, b21), (23, b23)]), (up L [(12, b12), (16, b16)])) ∧ (((0 ≤ (n8) ∧ (n8) ≤ (f 4) ∧ (n9) ≤ (f 4) + 1 ∧ ((n7) = 0 ↔ (n8) = (f 4)) ∧ (2 ≤ (n7) → (n8) < (n9) ∧ (n9) ≤ (f 4)) ∧ ((n7) = 5 → (n8) + 2 ≤ (n9) ∧ (n9) ≤ (n8) + 32))) ∧ (f 8) ≤ (n8) ∧ ((n5) = 0 → (f 5) = 0 ∧ (f 8) + 1 ≤ (n8) ∧ (n15) = (f 15) + 1 ∧ (n56) = (f 56) + 1 ∧ 2 * (n22) ≤ (n8)) ∧ (f 15) ≤ (n15) ∧ (n15) ≤ (f 15) + 1 ∧ 2 * (n22) ≤ (n8) + 1 ∧ (f 22) ≤ (n22) ∧ NIp (n15) (f 3) b13 b14 ∧ AIp (n22) b18 b20 b21 ∧ APe (f 22) (A 20) (A 21) b20 b21)) := by
  generalize hPST : (fun σ => ∃ n8 : Int, ∃ n9 : Int, ∃ n7 : Int, ∃ n10 : Int, ∃ n5 : Int, ∃ n6 : Int, ∃ n15 : Int, ∃ n22 : Int, ∃ n56 : Int, ∃ n11 : Int64, ∃ b13 : Nat → Int, ∃ b14 : Nat → Int, ∃ b17 : Nat → Int, ∃ b18 : Nat → Int, ∃ b19 : Nat → Int, ∃ b20 : Nat → Int, ∃ b21 : Nat → Int, ∃ b23 : Nat → Int, ∃ b12 : Nat → Int64, ∃ b16 : Nat → Int64, σ = ((up f [(8, n8), (9, n9), (7, n7), (10, n10), (5, n5), (6, n6), (15, n15), (22, n22), (56, n56)]), (up g [(11, n11)]), (up A [(13, b13), (14, b14), (17, b17), (18, b18), (19, b19), (20, b20), (21, b21), (23, b23)]), (up L [(12, b12), (16, b16)])) ∧ (((0 ≤ (n8) ∧ (n8) ≤ (f 4) ∧ (n9) ≤ (f 4) + 1 ∧ ((n7) = 0 ↔ (n8) = (f 4)) ∧ (2 ≤ (n7) → (n8) < (n9) ∧ (n9) ≤ (f 4)) ∧ ((n7) = 5 → (n8) + 2 ≤ (n9) ∧ (n9) ≤ (n8) + 32))) ∧ (f 8) ≤ (n8) ∧ ((n5) = 0 → (f 5) = 0 ∧ (f 8) + 1 ≤ (n8) ∧ (n15) = (f 15) + 1 ∧ (n56) = (f 56) + 1 ∧ 2 * (n22) ≤ (n8)) ∧ (f 15) ≤ (n15) ∧ (n15) ≤ (f 15) + 1 ∧ 2 * (n22) ≤ (n8) + 1 ∧ (f 22) ≤ (n22) ∧ NIp (n15) (f 3) b13 b14 ∧ AIp (n22) b18 b20 b21 ∧ APe (f 22) (A 20) (A 21) b20 b21)) = PST
  refine m_enterv (by decide) rfl (Nat.le_of_ble_eq_true rfl) (fun p e s m args below meth c ls B hM hl => ?_)
  have hA : ∀ q, s.heap.size ≤ q → mF dA h0 ad (f, g, A, L) s.heap.size q := fun q h => Or.inr h
  have hM : MWd D dA h0 ad (mF dA h0 ad (f, g, A, L) s.heap.size) s.heap ((up f [(8, f 8), (9, f 9), (7, f 7), (10, f 10), (5, f 5), (6, f 6), (15, f 15), (22, f 22), (56, f 56)]), (up g [(11, g 11)]), (up A [(13, (A 13)), (14, (A 14)), (17, (A 17)), (18, (A 18)), (19, (A 19)), (20, (A 20)), (21, (A 21)), (23, (A 23))]), (up L [(12, (L 12)), (16, (L 16))])) s.heap [] := MW_pad hM (up_self f [8, 9, 7, 10, 5, 6, 15, 22, 56]) (up_self g [11]) (up_self A [13, 14, 17, 18, 19, 20, 21, 23]) (up_self L [12, 16])
  have hl : lv_has ls 4 [(0, .ref h0)] := hl
  have LL61 : ∀ N : Nat, ∀ (v61_1 : Int) (v61_2 : Int) (v61_3 : Int) (y61_8 : Int) (y61_9 : Int) (y61_7 : Int) (y61_10 : Int) (y61_5 : Int) (y61_6 : Int) (y61_15 : Int) (y61_22 : Int) (y61_56 : Int) (y61_11 : Int64) (y61_13 : Nat → Int) (y61_14 : Nat → Int) (y61_17 : Nat → Int) (y61_18 : Nat → Int) (y61_19 : Nat → Int) (y61_20 : Nat → Int) (y61_21 : Nat → Int) (y61_23 : Nat → Int) (y61_12 : Nat → Int64) (y61_16 : Nat → Int64) (H : Heap) (locs : List Loc) (ls : Array Slot), (MWd D dA h0 ad (mF dA h0 ad (f, g, A, L) s.heap.size) s.heap ((up f [(8, y61_8), (9, y61_9), (7, y61_7), (10, y61_10), (5, y61_5), (6, y61_6), (15, y61_15), (22, y61_22), (56, y61_56)]), (up g [(11, y61_11)]), (up A [(13, y61_13), (14, y61_14), (17, y61_17), (18, y61_18), (19, y61_19), (20, y61_20), (21, y61_21), (23, y61_23)]), (up L [(12, y61_12), (16, y61_16)])) H locs) → lv_has ls 4 [(0, .ref h0), (1, .int (II v61_1)), (2, .int (II v61_2)), (3, .int (II v61_3))] → ((-2147483648 : Int) ≤ v61_1 ∧ v61_1 ≤ 2147483647) → ((-2147483648 : Int) ≤ v61_2 ∧ v61_2 ≤ 2147483647) → ((-2147483648 : Int) ≤ v61_3 ∧ v61_3 ≤ 2147483647) → ((0 ≤ (y61_8) ∧ (y61_8) ≤ (f 4) ∧ (y61_9) ≤ (f 4) + 1 ∧ ((y61_7) = 0 ↔ (y61_8) = (f 4)) ∧ (2 ≤ (y61_7) → (y61_8) < (y61_9) ∧ (y61_9) ≤ (f 4)) ∧ ((y61_7) = 5 → (y61_8) + 2 ≤ (y61_9) ∧ (y61_9) ≤ (y61_8) + 32))) → ((f 8) ≤ (y61_8)) → ((v61_1) = (f 56) + 1) → (0 ≤ (v61_2)) → ((v61_2) ≤ 9) → (((v61_2) = 9 → (y61_5) ≠ 0)) → (0 ≤ (v61_3)) → ((v61_3) ≤ 1) → (((v61_3) = 1 → (y61_7) = 6 ∧ 2 * (y61_22) ≤ (y61_8) + 1)) → (((y61_5) = 0 → (f 5) = 0 ∧ (f 8) + 1 ≤ (y61_8) ∧ (y61_15) = (f 15) + 1 ∧ (y61_56) = (f 56) + 1)) → ((f 15) ≤ (y61_15)) → ((y61_15) ≤ (f 15) + 1) → (2 * (y61_22) ≤ (y61_8) + 1) → ((f 22) ≤ (y61_22)) → (NIp (y61_15) (f 3) y61_13 y61_14) → (AIp (y61_22) y61_18 y61_20 y61_21) → (APe (f 22) (A 20) (A 21) y61_20 y61_21) → (0 ≤ 10 - (v61_2)) → (10 - (v61_2) < (N : Int)) → W p l e ({ frames := 4, cells := 0, slots := 0, locals := 89 }) s m args below meth c H locs 0 0 (MQ below (mQv D dA h0 ad (f, g, A, L) s.heap.size PST) args s 0 0 (mF dA h0 ad (f, g, A, L) s.heap.size)) (F0 m 61 ls []) := by
    intro N
    induction N with
    | zero => intro v61_1 v61_2 v61_3 y61_8 y61_9 y61_7 y61_10 y61_5 y61_6 y61_15 y61_22 y61_56 y61_11 y61_13 y61_14 y61_17 y61_18 y61_19 y61_20 y61_21 y61_23 y61_12 y61_16 H locs ls hM hl hLL61_0 hLL61_1 hLL61_2 hLL61_3 hLL61_4 hLL61_5 hLL61_6 hLL61_7 hLL61_8 hLL61_9 hLL61_10 hLL61_11 hLL61_12 hLL61_13 hLL61_14 hLL61_15 hLL61_16 hLL61_17 hLL61_18 hLL61_19 hLL61_20 hN; exfalso; omega
    | succ N IH61 =>
      intro v61_1 v61_2 v61_3 y61_8 y61_9 y61_7 y61_10 y61_5 y61_6 y61_15 y61_22 y61_56 y61_11 y61_13 y61_14 y61_17 y61_18 y61_19 y61_20 y61_21 y61_23 y61_12 y61_16 H locs ls hM hl hLL61_0 hLL61_1 hLL61_2 hLL61_3 hLL61_4 hLL61_5 hLL61_6 hLL61_7 hLL61_8 hLL61_9 hLL61_10 hLL61_11 hLL61_12 hLL61_13 hLL61_14 hLL61_15 hLL61_16 hLL61_17 hLL61_18 hLL61_19 hLL61_20 hN
      have JJ94 : ∀ (v94_1 : Int) (v94_2 : Int) (y94_8 : Int) (y94_9 : Int) (y94_7 : Int) (y94_10 : Int) (y94_5 : Int) (y94_6 : Int) (y94_15 : Int) (y94_22 : Int) (y94_56 : Int) (y94_11 : Int64) (y94_13 : Nat → Int) (y94_14 : Nat → Int) (y94_17 : Nat → Int) (y94_18 : Nat → Int) (y94_19 : Nat → Int) (y94_20 : Nat → Int) (y94_21 : Nat → Int) (y94_23 : Nat → Int) (y94_12 : Nat → Int64) (y94_16 : Nat → Int64) (H : Heap) (locs : List Loc) (ls : Array Slot), (MWd D dA h0 ad (mF dA h0 ad (f, g, A, L) s.heap.size) s.heap ((up f [(8, y94_8), (9, y94_9), (7, y94_7), (10, y94_10), (5, y94_5), (6, y94_6), (15, y94_15), (22, y94_22), (56, y94_56)]), (up g [(11, y94_11)]), (up A [(13, y94_13), (14, y94_14), (17, y94_17), (18, y94_18), (19, y94_19), (20, y94_20), (21, y94_21), (23, y94_23)]), (up L [(12, y94_12), (16, y94_16)])) H locs) → lv_has ls 4 [(0, .ref h0), (1, .int (II v61_1)), (1, .int (II v94_1)), (2, .int (II v94_2))] → ((-2147483648 : Int) ≤ v94_1 ∧ v94_1 ≤ 2147483647) → ((-2147483648 : Int) ≤ v94_2 ∧ v94_2 ≤ 2147483647) → ((0 ≤ (y94_8) ∧ (y94_8) ≤ (f 4) ∧ (y94_9) ≤ (f 4) + 1 ∧ ((y94_7) = 0 ↔ (y94_8) = (f 4)) ∧ (2 ≤ (y94_7) → (y94_8) < (y94_9) ∧ (y94_9) ≤ (f 4)) ∧ ((y94_7) = 5 → (y94_8) + 2 ≤ (y94_9) ∧ (y94_9) ≤ (y94_8) + 32))) → ((y61_8) + 1 ≤ (y94_8)) → ((f 8) ≤ (y94_8)) → ((v61_1) = (f 56) + 1) → (0 ≤ (v94_2)) → ((v94_2) ≤ 8) → (((v94_2) = 8 → (y94_7) = 2 → (y94_5) ≠ 0)) → (((y94_5) = 0 → (f 5) = 0 ∧ (f 8) + 1 ≤ (y94_8) ∧ (y94_15) = (f 15) + 1 ∧ (y94_56) = (f 56) + 1)) → ((f 15) ≤ (y94_15)) → ((y94_15) ≤ (f 15) + 1) → (2 * (y94_22) ≤ (y94_8)) → ((f 22) ≤ (y94_22)) → (NIp (y94_15) (f 3) y94_13 y94_14) → (AIp (y94_22) y94_18 y94_20 y94_21) → (APe (f 22) (A 20) (A 21) y94_20 y94_21) → W p l e ({ frames := 4, cells := 0, slots := 0, locals := 89 }) s m args below meth c H locs 0 0 (MQ below (mQv D dA h0 ad (f, g, A, L) s.heap.size PST) args s 0 0 (mF dA h0 ad (f, g, A, L) s.heap.size)) (F0 m 94 ls []) := by
        intro v94_1 v94_2 y94_8 y94_9 y94_7 y94_10 y94_5 y94_6 y94_15 y94_22 y94_56 y94_11 y94_13 y94_14 y94_17 y94_18 y94_19 y94_20 y94_21 y94_23 y94_12 y94_16 H locs ls hM hl hJJ94_0 hJJ94_1 hJJ94_2 hJJ94_3 hJJ94_4 hJJ94_5 hJJ94_6 hJJ94_7 hJJ94_8 hJJ94_9 hJJ94_10 hJJ94_11 hJJ94_12 hJJ94_13 hJJ94_14 hJJ94_15 hJJ94_16
        have r1 : (0 : Int) ≤ y94_8 ∧ y94_8 ≤ 3001 := hM.2.2.2.1 8
        have r2 : (0 : Int) ≤ y94_9 ∧ y94_9 ≤ 3002 := hM.2.2.2.1 9
        have r3 : (0 : Int) ≤ y94_7 ∧ y94_7 ≤ 6 := hM.2.2.2.1 7
        have r4 : (-2147483648 : Int) ≤ y94_10 ∧ y94_10 ≤ 2147483647 := hM.2.2.2.1 10
        have r5 : (-2147483648 : Int) ≤ y94_5 ∧ y94_5 ≤ 2147483647 := hM.2.2.2.1 5
        have r6 : (-2147483648 : Int) ≤ y94_6 ∧ y94_6 ≤ 2147483647 := hM.2.2.2.1 6
        have r7 : (0 : Int) ≤ y94_15 ∧ y94_15 ≤ 64 := hM.2.2.2.1 15
        have r8 : (0 : Int) ≤ y94_22 ∧ y94_22 ≤ 1600 := hM.2.2.2.1 22
        have r9 : (0 : Int) ≤ y94_56 ∧ y94_56 ≤ 7 := hM.2.2.2.1 56
        refine lv_aload_n B.1 B.2.1 dX12_readGroup_94 rfl (lv_at hl 0 rfl) ?_
        refine m_calli (n := 0) (rest := []) B hM hA hl.1 (k_isGood l D dA h0 ad (up f [(8, y94_8), (9, y94_9), (7, y94_7), (10, y94_10), (5, y94_5), (6, y94_6), (15, y94_15), (22, y94_22), (56, y94_56)]) (up g [(11, y94_11)]) (up A [(13, y94_13), (14, y94_14), (17, y94_17), (18, y94_18), (19, y94_19), (20, y94_20), (21, y94_21), (23, y94_23)]) (up L [(12, y94_12), (16, y94_16)])   ) rfl ok_isGood nm_isGood ⟨rfl, rfl⟩ ⟨Nat.le_of_ble_eq_true rfl, Nat.le_of_ble_eq_true rfl⟩ dX12_readGroup_95 rfl rfl (Nat.le_of_ble_eq_true rfl) ⟨Nat.zero_le _, Nat.zero_le _⟩ (fun r10 σr10 H locs ir10 hp11 hM => ?_)
        obtain ⟨rfl, hp11⟩ := hp11
        unfold inr at ir10
        have hp11 : 0 ≤ r10 ∧ r10 ≤ 1 ∧ (r10 = 1 ↔ (y94_5) = 0) := hp11
        refine q_ieq (tgt := 117) B dX12_readGroup_98 (by decide) (by unfold inr; omega) (fun c12 => ?_) (fun c12 => ?_)
        · refine q_inc (k := 3) (x := v94_2) (lv' := [(2, .int (II (v94_2 + 1))), (0, .ref h0), (1, .int (II v61_1)), (1, .int (II v94_1))]) B dX12_readGroup_117 hl rfl (by decide) rfl (fun ls hl => ?_)
          refine lv_aload_n B.1 B.2.1 dX12_readGroup_120 rfl (lv_at hl 1 rfl) ?_
          refine m_calli (n := 0) (rest := []) B hM hA hl.1 (k_isGood l D dA h0 ad (up f [(8, y94_8), (9, y94_9), (7, y94_7), (10, y94_10), (5, y94_5), (6, y94_6), (15, y94_15), (22, y94_22), (56, y94_56)]) (up g [(11, y94_11)]) (up A [(13, y94_13), (14, y94_14), (17, y94_17), (18, y94_18), (19, y94_19), (20, y94_20), (21, y94_21), (23, y94_23)]) (up L [(12, y94_12), (16, y94_16)])   ) rfl ok_isGood nm_isGood ⟨rfl, rfl⟩ ⟨Nat.le_of_ble_eq_true rfl, Nat.le_of_ble_eq_true rfl⟩ dX12_readGroup_121 rfl rfl (Nat.le_of_ble_eq_true rfl) ⟨Nat.zero_le _, Nat.zero_le _⟩ (fun r13 σr13 H locs ir13 hp14 hM => ?_)
          obtain ⟨rfl, hp14⟩ := hp14
          unfold inr at ir13
          have hp14 : 0 ≤ r13 ∧ r13 ≤ 1 ∧ (r13 = 1 ↔ (y94_5) = 0) := hp14
          refine q_ieq (tgt := 140) B dX12_readGroup_124 (by decide) (by unfold inr; omega) (fun c15 => ?_) (fun c15 => ?_)
          · refine q_con B dX12_readGroup_140 ?_
            refine lv_istore_n (lv' := [(3, .int (II 0)), (2, .int (II (v94_2 + 1))), (0, .ref h0), (1, .int (II v61_1)), (1, .int (II v94_1))]) B.1 B.2.1 dX12_readGroup_141 rfl hl (by decide) rfl (fun ls hl => ?_)
            refine lv_goto (tgt := 61) B.1 B.2.1 dX12_readGroup_142 (by decide) ?_
            exact IH61 v94_1 (v94_2 + 1) 0 y94_8 y94_9 y94_7 y94_10 y94_5 y94_6 y94_15 y94_22 y94_56 y94_11 y94_13 y94_14 y94_17 y94_18 y94_19 y94_20 y94_21 y94_23 y94_12 y94_16 _ _ ls hM (lv_sub hl [2, 3, 1, 0] rfl) (by omega) (by omega) (by omega) (by first | omega | (simp only [wr_at]; omega) | assumption) (by first | omega | (simp only [wr_at]; omega) | assumption) (by first | omega | (simp only [wr_at]; omega) | assumption) (by first | omega | (simp only [wr_at]; omega) | assumption) (by first | omega | (simp only [wr_at]; omega) | assumption) (by first | omega | (simp only [wr_at]; omega) | assumption) (by first | omega | (simp only [wr_at]; omega) | assumption) (by first | omega | (simp only [wr_at]; omega) | assumption) (by first | omega | (simp only [wr_at]; omega) | assumption) (by first | omega | (simp only [wr_at]; omega) | assumption) (by first | omega | (simp only [wr_at]; omega) | assumption) (by first | omega | (simp only [wr_at]; omega) | assumption) (by first | omega | (simp only [wr_at]; omega) | assumption) (by first | omega | (simp only [wr_at]; omega) | assumption) (by first | omega | (simp only [wr_at]; omega) | assumption) (by first | omega | (simp only [wr_at]; omega) | assumption) (by first | assumption | exact APe_rfl | exact APe_trans (by assumption) (by assumption) (by omega)) (by first | omega | (simp only [wr_at]; omega) | assumption) (by first | omega | (simp only [wr_at]; omega) | assumption)
          · refine lv_aload_n B.1 B.2.1 dX12_readGroup_127 rfl (lv_at hl 1 rfl) ?_
            refine q_bip B dX12_readGroup_128 (by decide) ?_
            refine m_calli (n := 1) (rest := []) B hM hA hl.1 (k_isSign l D dA h0 ad (up f [(8, y94_8), (9, y94_9), (7, y94_7), (10, y94_10), (5, y94_5), (6, y94_6), (15, y94_15), (22, y94_22), (56, y94_56)]) (up g [(11, y94_11)]) (up A [(13, y94_13), (14, y94_14), (17, y94_17), (18, y94_18), (19, y94_19), (20, y94_20), (21, y94_21), (23, y94_23)]) (up L [(12, y94_12), (16, y94_16)]) 44 (by omega) (by first | omega | (simp only [wr_at]; omega) | assumption)) rfl ok_isSign nm_isSign ⟨rfl, rfl⟩ ⟨Nat.le_of_ble_eq_true rfl, Nat.le_of_ble_eq_true rfl⟩ dX12_readGroup_130 rfl rfl (Nat.le_of_ble_eq_true rfl) ⟨Nat.zero_le _, Nat.zero_le _⟩ (fun r16 σr16 H locs ir16 hp17 hM => ?_)
            obtain ⟨rfl, hp17⟩ := hp17
            unfold inr at ir16
            have hp17 : 0 ≤ r16 ∧ r16 ≤ 1 ∧ (r16 = 1 ↔ (y94_7) = 6 ∧ sgn ((A 2)) (f 3) (f 4) (y94_8) = (44)) := hp17
            refine q_ieq (tgt := 140) B dX12_readGroup_133 (by decide) (by unfold inr; omega) (fun c18 => ?_) (fun c18 => ?_)
            · refine q_con B dX12_readGroup_140 ?_
              refine lv_istore_n (lv' := [(3, .int (II 0)), (2, .int (II (v94_2 + 1))), (0, .ref h0), (1, .int (II v61_1)), (1, .int (II v94_1))]) B.1 B.2.1 dX12_readGroup_141 rfl hl (by decide) rfl (fun ls hl => ?_)
              refine lv_goto (tgt := 61) B.1 B.2.1 dX12_readGroup_142 (by decide) ?_
              exact IH61 v94_1 (v94_2 + 1) 0 y94_8 y94_9 y94_7 y94_10 y94_5 y94_6 y94_15 y94_22 y94_56 y94_11 y94_13 y94_14 y94_17 y94_18 y94_19 y94_20 y94_21 y94_23 y94_12 y94_16 _ _ ls hM (lv_sub hl [2, 3, 1, 0] rfl) (by omega) (by omega) (by omega) (by first | omega | (simp only [wr_at]; omega) | assumption) (by first | omega | (simp only [wr_at]; omega) | assumption) (by first | omega | (simp only [wr_at]; omega) | assumption) (by first | omega | (simp only [wr_at]; omega) | assumption) (by first | omega | (simp only [wr_at]; omega) | assumption) (by first | omega | (simp only [wr_at]; omega) | assumption) (by first | omega | (simp only [wr_at]; omega) | assumption) (by first | omega | (simp only [wr_at]; omega) | assumption) (by first | omega | (simp only [wr_at]; omega) | assumption) (by first | omega | (simp only [wr_at]; omega) | assumption) (by first | omega | (simp only [wr_at]; omega) | assumption) (by first | omega | (simp only [wr_at]; omega) | assumption) (by first | omega | (simp only [wr_at]; omega) | assumption) (by first | omega | (simp only [wr_at]; omega) | assumption) (by first | omega | (simp only [wr_at]; omega) | assumption) (by first | omega | (simp only [wr_at]; omega) | assumption) (by first | assumption | exact APe_rfl | exact APe_trans (by assumption) (by assumption) (by omega)) (by first | omega | (simp only [wr_at]; omega) | assumption) (by first | omega | (simp only [wr_at]; omega) | assumption)
            · refine q_con B dX12_readGroup_136 ?_
              refine lv_goto (tgt := 141) B.1 B.2.1 dX12_readGroup_137 (by decide) ?_
              refine lv_istore_n (lv' := [(3, .int (II 1)), (2, .int (II (v94_2 + 1))), (0, .ref h0), (1, .int (II v61_1)), (1, .int (II v94_1))]) B.1 B.2.1 dX12_readGroup_141 rfl hl (by decide) rfl (fun ls hl => ?_)
              refine lv_goto (tgt := 61) B.1 B.2.1 dX12_readGroup_142 (by decide) ?_
              exact IH61 v94_1 (v94_2 + 1) 1 y94_8 y94_9 y94_7 y94_10 y94_5 y94_6 y94_15 y94_22 y94_56 y94_11 y94_13 y94_14 y94_17 y94_18 y94_19 y94_20 y94_21 y94_23 y94_12 y94_16 _ _ ls hM (lv_sub hl [2, 3, 1, 0] rfl) (by omega) (by omega) (by omega) (by first | omega | (simp only [wr_at]; omega) | assumption) (by first | omega | (simp only [wr_at]; omega) | assumption) (by first | omega | (simp only [wr_at]; omega) | assumption) (by first | omega | (simp only [wr_at]; omega) | assumption) (by first | omega | (simp only [wr_at]; omega) | assumption) (by first | omega | (simp only [wr_at]; omega) | assumption) (by first | omega | (simp only [wr_at]; omega) | assumption) (by first | omega | (simp only [wr_at]; omega) | assumption) (by first | omega | (simp only [wr_at]; omega) | assumption) (by first | omega | (simp only [wr_at]; omega) | assumption) (by first | omega | (simp only [wr_at]; omega) | assumption) (by first | omega | (simp only [wr_at]; omega) | assumption) (by first | omega | (simp only [wr_at]; omega) | assumption) (by first | omega | (simp only [wr_at]; omega) | assumption) (by first | omega | (simp only [wr_at]; omega) | assumption) (by first | omega | (simp only [wr_at]; omega) | assumption) (by first | assumption | exact APe_rfl | exact APe_trans (by assumption) (by assumption) (by omega)) (by first | omega | (simp only [wr_at]; omega) | assumption) (by first | omega | (simp only [wr_at]; omega) | assumption)
        · refine lv_aload_n B.1 B.2.1 dX12_readGroup_101 rfl (lv_at hl 0 rfl) ?_
          refine q_con B dX12_readGroup_102 ?_
          refine lv_iload_n B.1 B.2.1 dX12_readGroup_103 rfl (lv_at hl 1 rfl) ?_
          refine q_con B dX12_readGroup_104 ?_
          refine q_bip B dX12_readGroup_105 (by decide) ?_
          refine lv_aload_n B.1 B.2.1 dX12_readGroup_107 rfl (lv_at hl 0 rfl) ?_
          refine m_get (k := 3) (v := f 3) B hM (by decide) rfl fl11 dX12_readGroup_108 rfl ?_
          have r19 : (0 : Int) ≤ f 3 ∧ f 3 ≤ 1 := hM.2.2.2.1 3
          refine q_mul B dX12_readGroup_111 ?_
          refine lv_iload_n B.1 B.2.1 dX12_readGroup_112 rfl (lv_at hl 1 rfl) ?_
          refine q_add B dX12_readGroup_113 ?_
          refine m_callv (n := 4) (rest := []) B hM hA hl.1 (k_ask l D dA h0 ad (up f [(8, y94_8), (9, y94_9), (7, y94_7), (10, y94_10), (5, y94_5), (6, y94_6), (15, y94_15), (22, y94_22), (56, y94_56)]) (up g [(11, y94_11)]) (up A [(13, y94_13), (14, y94_14), (17, y94_17), (18, y94_18), (19, y94_19), (20, y94_20), (21, y94_21), (23, y94_23)]) (up L [(12, y94_12), (16, y94_16)]) 1 v61_1 0 ((9 * (f 3)) + v61_1) (by omega) (by omega) (by omega) (by omega) (by first | omega | (simp only [wr_at]; omega) | assumption) (by first | omega | (simp only [wr_at]; omega) | assumption) (by first | omega | (simp only [wr_at]; omega) | assumption) (by first | omega | (simp only [wr_at]; omega) | assumption) (by first | omega | (simp only [wr_at]; omega) | assumption) (by first | omega | (simp only [wr_at]; omega) | assumption) (by first | omega | (simp only [wr_at]; omega) | assumption) (by first | omega | (simp only [wr_at]; omega) | assumption) (by first | omega | (simp only [wr_at]; omega) | assumption) (by first | omega | (simp only [wr_at]; omega) | assumption) (by first | omega | (simp only [wr_at]; omega) | assumption) (by first | omega | (simp only [wr_at]; omega) | assumption)) rfl ok_ask nm_ask ⟨rfl, rfl⟩ ⟨Nat.le_of_ble_eq_true rfl, Nat.le_of_ble_eq_true rfl⟩ dX12_readGroup_114 rfl rfl (Nat.le_of_ble_eq_true rfl) ⟨Nat.zero_le _, Nat.zero_le _⟩ (fun σr20 H locs hp21 hM => ?_)
          obtain ⟨x22, x23, x24, x25, x26, x27, x28, w29, b30, b31, b32, b33, b34, b35, rfl, hp21⟩ := hp21
          have hp21 : ((0 ≤ (x22) ∧ (x22) ≤ (f 4) ∧ (x23) ≤ (f 4) + 1 ∧ ((x24) = 0 ↔ (x22) = (f 4)) ∧ (2 ≤ (x24) → (x22) < (x23) ∧ (x23) ≤ (f 4)) ∧ ((x24) = 5 → (x22) + 2 ≤ (x23) ∧ (x23) ≤ (x22) + 32))) ∧ (y94_8) ≤ (x22) ∧ ((x26) = 0 → (y94_5) = 0 ∧ (y94_8) + 1 ≤ (x22) ∧ (y94_7) = 2 ∧ (x28) = (y94_22) + 1 ∧ b33 ((y94_22)).toNat = (0) ∧ b34 ((y94_22)).toNat = ((9 * (f 3)) + v61_1)) ∧ 2 * (x28) ≤ (x22) + 1 ∧ (y94_22) ≤ (x28) ∧ AIp (x28) b31 b33 b34 ∧ APe (y94_22) y94_20 y94_21 b33 b34 := hp21
          simp only [up_up] at hM
          have hM : MWd D dA h0 ad (mF dA h0 ad (f, g, A, L) s.heap.size) s.heap ((up f [(8, x22), (9, x23), (7, x24), (10, x25), (5, x26), (6, x27), (15, y94_15), (22, x28), (56, y94_56)]), (up g [(11, w29)]), (up A [(13, y94_13), (14, y94_14), (17, b30), (18, b31), (19, b32), (20, b33), (21, b34), (23, y94_23)]), (up L [(12, y94_12), (16, b35)])) H locs := hM
          have r36 : (0 : Int) ≤ x22 ∧ x22 ≤ 3001 := hM.2.2.2.1 8
          have r37 : (0 : Int) ≤ x23 ∧ x23 ≤ 3002 := hM.2.2.2.1 9
          have r38 : (0 : Int) ≤ x24 ∧ x24 ≤ 6 := hM.2.2.2.1 7
          have r39 : (-2147483648 : Int) ≤ x25 ∧ x25 ≤ 2147483647 := hM.2.2.2.1 10
          have r40 : (-2147483648 : Int) ≤ x26 ∧ x26 ≤ 2147483647 := hM.2.2.2.1 5
          have r41 : (-2147483648 : Int) ≤ x27 ∧ x27 ≤ 2147483647 := hM.2.2.2.1 6
          have r42 : (0 : Int) ≤ x28 ∧ x28 ≤ 1600 := hM.2.2.2.1 22
          refine q_inc (k := 3) (x := v94_2) (lv' := [(2, .int (II (v94_2 + 1))), (0, .ref h0), (1, .int (II v61_1)), (1, .int (II v94_1))]) B dX12_readGroup_117 hl rfl (by decide) rfl (fun ls hl => ?_)
          refine lv_aload_n B.1 B.2.1 dX12_readGroup_120 rfl (lv_at hl 1 rfl) ?_
          refine m_calli (n := 0) (rest := []) B hM hA hl.1 (k_isGood l D dA h0 ad (up f [(8, x22), (9, x23), (7, x24), (10, x25), (5, x26), (6, x27), (15, y94_15), (22, x28), (56, y94_56)]) (up g [(11, w29)]) (up A [(13, y94_13), (14, y94_14), (17, b30), (18, b31), (19, b32), (20, b33), (21, b34), (23, y94_23)]) (up L [(12, y94_12), (16, b35)])   ) rfl ok_isGood nm_isGood ⟨rfl, rfl⟩ ⟨Nat.le_of_ble_eq_true rfl, Nat.le_of_ble_eq_true rfl⟩ dX12_readGroup_121 rfl rfl (Nat.le_of_ble_eq_true rfl) ⟨Nat.zero_le _, Nat.zero_le _⟩ (fun r43 σr43 H locs ir43 hp44 hM => ?_)
          obtain ⟨rfl, hp44⟩ := hp44
          unfold inr at ir43
          have hp44 : 0 ≤ r43 ∧ r43 ≤ 1 ∧ (r43 = 1 ↔ (x26) = 0) := hp44
          refine q_ieq (tgt := 140) B dX12_readGroup_124 (by decide) (by unfold inr; omega) (fun c45 => ?_) (fun c45 => ?_)
          · refine q_con B dX12_readGroup_140 ?_
            refine lv_istore_n (lv' := [(3, .int (II 0)), (2, .int (II (v94_2 + 1))), (0, .ref h0), (1, .int (II v61_1)), (1, .int (II v94_1))]) B.1 B.2.1 dX12_readGroup_141 rfl hl (by decide) rfl (fun ls hl => ?_)
            refine lv_goto (tgt := 61) B.1 B.2.1 dX12_readGroup_142 (by decide) ?_
            exact IH61 v94_1 (v94_2 + 1) 0 x22 x23 x24 x25 x26 x27 y94_15 x28 y94_56 w29 y94_13 y94_14 b30 b31 b32 b33 b34 y94_23 y94_12 b35 _ _ ls hM (lv_sub hl [2, 3, 1, 0] rfl) (by omega) (by omega) (by omega) (by first | omega | (simp only [wr_at]; omega) | assumption) (by first | omega | (simp only [wr_at]; omega) | assumption) (by first | omega | (simp only [wr_at]; omega) | assumption) (by first | omega | (simp only [wr_at]; omega) | assumption) (by first | omega | (simp only [wr_at]; omega) | assumption) (by first | omega | (simp only [wr_at]; omega) | assumption) (by first | omega | (simp only [wr_at]; omega) | assumption) (by first | omega | (simp only [wr_at]; omega) | assumption) (by first | omega | (simp only [wr_at]; omega) | assumption) (by first | omega | (simp only [wr_at]; omega) | assumption) (by first | omega | (simp only [wr_at]; omega) | assumption) (by first | omega | (simp only [wr_at]; omega) | assumption) (by first | omega | (simp only [wr_at]; omega) | assumption) (by first | omega | (simp only [wr_at]; omega) | assumption) (by first | omega | (simp only [wr_at]; omega) | assumption) (by first | omega | (simp only [wr_at]; omega) | assumption) (by first | assumption | exact APe_rfl | exact APe_trans (by assumption) (by assumption) (by omega)) (by first | omega | (simp only [wr_at]; omega) | assumption) (by first | omega | (simp only [wr_at]; omega) | assumption)
          · refine lv_aload_n B.1 B.2.1 dX12_readGroup_127 rfl (lv_at hl 1 rfl) ?_
            refine q_bip B dX12_readGroup_128 (by decide) ?_
            refine m_calli (n := 1) (rest := []) B hM hA hl.1 (k_isSign l D dA h0 ad (up f [(8, x22), (9, x23), (7, x24), (10, x25), (5, x26), (6, x27), (15, y94_15), (22, x28), (56, y94_56)]) (up g [(11, w29)]) (up A [(13, y94_13), (14, y94_14), (17, b30), (18, b31), (19, b32), (20, b33), (21, b34), (23, y94_23)]) (up L [(12, y94_12), (16, b35)]) 44 (by omega) (by first | omega | (simp only [wr_at]; omega) | assumption)) rfl ok_isSign nm_isSign ⟨rfl, rfl⟩ ⟨Nat.le_of_ble_eq_true rfl, Nat.le_of_ble_eq_true rfl⟩ dX12_readGroup_130 rfl rfl (Nat.le_of_ble_eq_true rfl) ⟨Nat.zero_le _, Nat.zero_le _⟩ (fun r46 σr46 H locs ir46 hp47 hM => ?_)
            obtain ⟨rfl, hp47⟩ := hp47
            unfold inr at ir46
            have hp47 : 0 ≤ r46 ∧ r46 ≤ 1 ∧ (r46 = 1 ↔ (x24) = 6 ∧ sgn ((A 2)) (f 3) (f 4) (x22) = (44)) := hp47
            refine q_ieq (tgt := 140) B dX12_readGroup_133 (by decide) (by unfold inr; omega) (fun c48 => ?_) (fun c48 => ?_)
            · refine q_con B dX12_readGroup_140 ?_
              refine lv_istore_n (lv' := [(3, .int (II 0)), (2, .int (II (v94_2 + 1))), (0, .ref h0), (1, .int (II v61_1)), (1, .int (II v94_1))]) B.1 B.2.1 dX12_readGroup_141 rfl hl (by decide) rfl (fun ls hl => ?_)
              refine lv_goto (tgt := 61) B.1 B.2.1 dX12_readGroup_142 (by decide) ?_
              exact IH61 v94_1 (v94_2 + 1) 0 x22 x23 x24 x25 x26 x27 y94_15 x28 y94_56 w29 y94_13 y94_14 b30 b31 b32 b33 b34 y94_23 y94_12 b35 _ _ ls hM (lv_sub hl [2, 3, 1, 0] rfl) (by omega) (by omega) (by omega) (by first | omega | (simp only [wr_at]; omega) | assumption) (by first | omega | (simp only [wr_at]; omega) | assumption) (by first | omega | (simp only [wr_at]; omega) | assumption) (by first | omega | (simp only [wr_at]; omega) | assumption) (by first | omega | (simp only [wr_at]; omega) | assumption) (by first | omega | (simp only [wr_at]; omega) | assumption) (by first | omega | (simp only [wr_at]; omega) | assumption) (by first | omega | (simp only [wr_at]; omega) | assumption) (by first | omega | (simp only [wr_at]; omega) | assumption) (by first | omega | (simp only [wr_at]; omega) | assumption) (by first | omega | (simp only [wr_at]; omega) | assumption) (by first | omega | (simp only [wr_at]; omega) | assumption) (by first | omega | (simp only [wr_at]; omega) | assumption) (by first | omega | (simp only [wr_at]; omega) | assumption) (by first | omega | (simp only [wr_at]; omega) | assumption) (by first | omega | (simp only [wr_at]; omega) | assumption) (by first | assumption | exact APe_rfl | exact APe_trans (by assumption) (by assumption) (by omega)) (by first | omega | (simp only [wr_at]; omega) | assumption) (by first | omega | (simp only [wr_at]; omega) | assumption)
            · refine q_con B dX12_readGroup_136 ?_
              refine lv_goto (tgt := 141) B.1 B.2.1 dX12_readGroup_137 (by decide) ?_
              refine lv_istore_n (lv' := [(3, .int (II 1)), (2, .int (II (v94_2 + 1))), (0, .ref h0), (1, .int (II v61_1)), (1, .int (II v94_1))]) B.1 B.2.1 dX12_readGroup_141 rfl hl (by decide) rfl (fun ls hl => ?_)
              refine lv_goto (tgt := 61) B.1 B.2.1 dX12_readGroup_142 (by decide) ?_
              exact IH61 v94_1 (v94_2 + 1) 1 x22 x23 x24 x25 x26 x27 y94_15 x28 y94_56 w29 y94_13 y94_14 b30 b31 b32 b33 b34 y94_23 y94_12 b35 _ _ ls hM (lv_sub hl [2, 3, 1, 0] rfl) (by omega) (by omega) (by omega) (by first | omega | (simp only [wr_at]; omega) | assumption) (by first | omega | (simp only [wr_at]; omega) | assumption) (by first | omega | (simp only [wr_at]; omega) | assumption) (by first | omega | (simp only [wr_at]; omega) | assumption) (by first | omega | (simp only [wr_at]; omega) | assumption) (by first | omega | (simp only [wr_at]; omega) | assumption) (by first | omega | (simp only [wr_at]; omega) | assumption) (by first | omega | (simp only [wr_at]; omega) | assumption) (by first | omega | (simp only [wr_at]; omega) | assumption) (by first | omega | (simp only [wr_at]; omega) | assumption) (by first | omega | (simp only [wr_at]; omega) | assumption) (by first | omega | (simp only [wr_at]; omega) | assumption) (by first | omega | (simp only [wr_at]; omega) | assumption) (by first | omega | (simp only [wr_at]; omega) | assumption) (by first | omega | (simp only [wr_at]; omega) | assumption) (by first | omega | (simp only [wr_at]; omega) | assumption) (by first | assumption | exact APe_rfl | exact APe_trans (by assumption) (by assumption) (by omega)) (by first | omega | (simp only [wr_at]; omega) | assumption) (by first | omega | (simp only [wr_at]; omega) | assumption)
      have r49 : (0 : Int) ≤ y61_8 ∧ y61_8 ≤ 3001 := hM.2.2.2.1 8
      have r50 : (0 : Int) ≤ y61_9 ∧ y61_9 ≤ 3002 := hM.2.2.2.1 9
      have r51 : (0 : Int) ≤ y61_7 ∧ y61_7 ≤ 6 := hM.2.2.2.1 7
      have r52 : (-2147483648 : Int) ≤ y61_10 ∧ y61_10 ≤ 2147483647 := hM.2.2.2.1 10
      have r53 : (-2147483648 : Int) ≤ y61_5 ∧ y61_5 ≤ 2147483647 := hM.2.2.2.1 5
      have r54 : (-2147483648 : Int) ≤ y61_6 ∧ y61_6 ≤ 2147483647 := hM.2.2.2.1 6
      have r55 : (0 : Int) ≤ y61_15 ∧ y61_15 ≤ 64 := hM.2.2.2.1 15
      have r56 : (0 : Int) ≤ y61_22 ∧ y61_22 ≤ 1600 := hM.2.2.2.1 22
      have r57 : (0 : Int) ≤ y61_56 ∧ y61_56 ≤ 7 := hM.2.2.2.1 56
      refine lv_iload_n B.1 B.2.1 dX12_readGroup_61 rfl (lv_at hl 3 rfl) ?_
      refine q_ieq (tgt := 145) B dX12_readGroup_62 (by decide) (by unfold inr; omega) (fun c58 => ?_) (fun c58 => ?_)
      · refine lv_aload_n B.1 B.2.1 dX12_readGroup_145 rfl (lv_at hl 0 rfl) ?_
        refine m_calli (n := 0) (rest := []) B hM hA hl.1 (k_isGood l D dA h0 ad (up f [(8, y61_8), (9, y61_9), (7, y61_7), (10, y61_10), (5, y61_5), (6, y61_6), (15, y61_15), (22, y61_22), (56, y61_56)]) (up g [(11, y61_11)]) (up A [(13, y61_13), (14, y61_14), (17, y61_17), (18, y61_18), (19, y61_19), (20, y61_20), (21, y61_21), (23, y61_23)]) (up L [(12, y61_12), (16, y61_16)])   ) rfl ok_isGood nm_isGood ⟨rfl, rfl⟩ ⟨Nat.le_of_ble_eq_true rfl, Nat.le_of_ble_eq_true rfl⟩ dX12_readGroup_146 rfl rfl (Nat.le_of_ble_eq_true rfl) ⟨Nat.zero_le _, Nat.zero_le _⟩ (fun r59 σr59 H locs ir59 hp60 hM => ?_)
        obtain ⟨rfl, hp60⟩ := hp60
        unfold inr at ir59
        have hp60 : 0 ≤ r59 ∧ r59 ≤ 1 ∧ (r59 = 1 ↔ (y61_5) = 0) := hp60
        refine q_ieq (tgt := 158) B dX12_readGroup_149 (by decide) (by unfold inr; omega) (fun c61 => ?_) (fun c61 => ?_)
        · subst hPST
          exact m_vret B hM dX12_readGroup_158 ⟨y61_8, y61_9, y61_7, y61_10, y61_5, y61_6, y61_15, y61_22, y61_56, y61_11, y61_13, y61_14, y61_17, y61_18, y61_19, y61_20, y61_21, y61_23, y61_12, y61_16, rfl, by (refine ⟨by omega, by omega, by omega, by omega, by omega, by omega, by omega, by assumption, by assumption, ?_⟩; first | assumption | exact APe_rfl | exact APe_trans (by assumption) (by assumption) (by omega))⟩
        · refine lv_aload_n B.1 B.2.1 dX12_readGroup_152 rfl (lv_at hl 0 rfl) ?_
          refine q_bip B dX12_readGroup_153 (by decide) ?_
          refine m_callv (n := 1) (rest := []) B hM hA hl.1 (k_must l D dA h0 ad (up f [(8, y61_8), (9, y61_9), (7, y61_7), (10, y61_10), (5, y61_5), (6, y61_6), (15, y61_15), (22, y61_22), (56, y61_56)]) (up g [(11, y61_11)]) (up A [(13, y61_13), (14, y61_14), (17, y61_17), (18, y61_18), (19, y61_19), (20, y61_20), (21, y61_21), (23, y61_23)]) (up L [(12, y61_12), (16, y61_16)]) 59 (by omega) (by first | omega | (simp only [wr_at]; omega) | assumption)) rfl ok_must nm_must ⟨rfl, rfl⟩ ⟨Nat.le_of_ble_eq_true rfl, Nat.le_of_ble_eq_true rfl⟩ dX12_readGroup_155 rfl rfl (Nat.le_of_ble_eq_true rfl) ⟨Nat.zero_le _, Nat.zero_le _⟩ (fun σr62 H locs hp63 hM => ?_)
          obtain ⟨x64, x65, x66, x67, x68, x69, w70, rfl, hp63⟩ := hp63
          have hp63 : ((0 ≤ (x64) ∧ (x64) ≤ (f 4) ∧ (x65) ≤ (f 4) + 1 ∧ ((x66) = 0 ↔ (x64) = (f 4)) ∧ (2 ≤ (x66) → (x64) < (x65) ∧ (x65) ≤ (f 4)) ∧ ((x66) = 5 → (x64) + 2 ≤ (x65) ∧ (x65) ≤ (x64) + 32))) ∧ (y61_8) ≤ (x64) ∧ ((x68) = 0 → (y61_5) = 0 ∧ (y61_8) + 1 ≤ (x64) ∧ (y61_9) ≤ (x64)) := hp63
          simp only [up_up] at hM
          have hM : MWd D dA h0 ad (mF dA h0 ad (f, g, A, L) s.heap.size) s.heap ((up f [(8, x64), (9, x65), (7, x66), (10, x67), (5, x68), (6, x69), (15, y61_15), (22, y61_22), (56, y61_56)]), (up g [(11, w70)]), (up A [(13, y61_13), (14, y61_14), (17, y61_17), (18, y61_18), (19, y61_19), (20, y61_20), (21, y61_21), (23, y61_23)]), (up L [(12, y61_12), (16, y61_16)])) H locs := hM
          have r71 : (0 : Int) ≤ x64 ∧ x64 ≤ 3001 := hM.2.2.2.1 8
          have r72 : (0 : Int) ≤ x65 ∧ x65 ≤ 3002 := hM.2.2.2.1 9
          have r73 : (0 : Int) ≤ x66 ∧ x66 ≤ 6 := hM.2.2.2.1 7
          have r74 : (-2147483648 : Int) ≤ x67 ∧ x67 ≤ 2147483647 := hM.2.2.2.1 10
          have r75 : (-2147483648 : Int) ≤ x68 ∧ x68 ≤ 2147483647 := hM.2.2.2.1 5
          have r76 : (-2147483648 : Int) ≤ x69 ∧ x69 ≤ 2147483647 := hM.2.2.2.1 6
          subst hPST
          exact m_vret B hM dX12_readGroup_158 ⟨x64, x65, x66, x67, x68, x69, y61_15, y61_22, y61_56, w70, y61_13, y61_14, y61_17, y61_18, y61_19, y61_20, y61_21, y61_23, y61_12, y61_16, rfl, by (refine ⟨by omega, by omega, by omega, by omega, by omega, by omega, by omega, by assumption, by assumption, ?_⟩; first | assumption | exact APe_rfl | exact APe_trans (by assumption) (by assumption) (by omega))⟩
      · refine lv_aload_n B.1 B.2.1 dX12_readGroup_65 rfl (lv_at hl 0 rfl) ?_
        refine m_calli (n := 0) (rest := []) B hM hA hl.1 (k_isGood l D dA h0 ad (up f [(8, y61_8), (9, y61_9), (7, y61_7), (10, y61_10), (5, y61_5), (6, y61_6), (15, y61_15), (22, y61_22), (56, y61_56)]) (up g [(11, y61_11)]) (up A [(13, y61_13), (14, y61_14), (17, y61_17), (18, y61_18), (19, y61_19), (20, y61_20), (21, y61_21), (23, y61_23)]) (up L [(12, y61_12), (16, y61_16)])   ) rfl ok_isGood nm_isGood ⟨rfl, rfl⟩ ⟨Nat.le_of_ble_eq_true rfl, Nat.le_of_ble_eq_true rfl⟩ dX12_readGroup_66 rfl rfl (Nat.le_of_ble_eq_true rfl) ⟨Nat.zero_le _, Nat.zero_le _⟩ (fun r77 σr77 H locs ir77 hp78 hM => ?_)
        obtain ⟨rfl, hp78⟩ := hp78
        unfold inr at ir77
        have hp78 : 0 ≤ r77 ∧ r77 ≤ 1 ∧ (r77 = 1 ↔ (y61_5) = 0) := hp78
        refine q_ieq (tgt := 145) B dX12_readGroup_69 (by decide) (by unfold inr; omega) (fun c79 => ?_) (fun c79 => ?_)
        · refine lv_aload_n B.1 B.2.1 dX12_readGroup_145 rfl (lv_at hl 0 rfl) ?_
          refine m_calli (n := 0) (rest := []) B hM hA hl.1 (k_isGood l D dA h0 ad (up f [(8, y61_8), (9, y61_9), (7, y61_7), (10, y61_10), (5, y61_5), (6, y61_6), (15, y61_15), (22, y61_22), (56, y61_56)]) (up g [(11, y61_11)]) (up A [(13, y61_13), (14, y61_14), (17, y61_17), (18, y61_18), (19, y61_19), (20, y61_20), (21, y61_21), (23, y61_23)]) (up L [(12, y61_12), (16, y61_16)])   ) rfl ok_isGood nm_isGood ⟨rfl, rfl⟩ ⟨Nat.le_of_ble_eq_true rfl, Nat.le_of_ble_eq_true rfl⟩ dX12_readGroup_146 rfl rfl (Nat.le_of_ble_eq_true rfl) ⟨Nat.zero_le _, Nat.zero_le _⟩ (fun r80 σr80 H locs ir80 hp81 hM => ?_)
          obtain ⟨rfl, hp81⟩ := hp81
          unfold inr at ir80
          have hp81 : 0 ≤ r80 ∧ r80 ≤ 1 ∧ (r80 = 1 ↔ (y61_5) = 0) := hp81
          refine q_ieq (tgt := 158) B dX12_readGroup_149 (by decide) (by unfold inr; omega) (fun c82 => ?_) (fun c82 => ?_)
          · subst hPST
            exact m_vret B hM dX12_readGroup_158 ⟨y61_8, y61_9, y61_7, y61_10, y61_5, y61_6, y61_15, y61_22, y61_56, y61_11, y61_13, y61_14, y61_17, y61_18, y61_19, y61_20, y61_21, y61_23, y61_12, y61_16, rfl, by (refine ⟨by omega, by omega, by omega, by omega, by omega, by omega, by omega, by assumption, by assumption, ?_⟩; first | assumption | exact APe_rfl | exact APe_trans (by assumption) (by assumption) (by omega))⟩
          · refine lv_aload_n B.1 B.2.1 dX12_readGroup_152 rfl (lv_at hl 0 rfl) ?_
            refine q_bip B dX12_readGroup_153 (by decide) ?_
            refine m_callv (n := 1) (rest := []) B hM hA hl.1 (k_must l D dA h0 ad (up f [(8, y61_8), (9, y61_9), (7, y61_7), (10, y61_10), (5, y61_5), (6, y61_6), (15, y61_15), (22, y61_22), (56, y61_56)]) (up g [(11, y61_11)]) (up A [(13, y61_13), (14, y61_14), (17, y61_17), (18, y61_18), (19, y61_19), (20, y61_20), (21, y61_21), (23, y61_23)]) (up L [(12, y61_12), (16, y61_16)]) 59 (by omega) (by first | omega | (simp only [wr_at]; omega) | assumption)) rfl ok_must nm_must ⟨rfl, rfl⟩ ⟨Nat.le_of_ble_eq_true rfl, Nat.le_of_ble_eq_true rfl⟩ dX12_readGroup_155 rfl rfl (Nat.le_of_ble_eq_true rfl) ⟨Nat.zero_le _, Nat.zero_le _⟩ (fun σr83 H locs hp84 hM => ?_)
            obtain ⟨x85, x86, x87, x88, x89, x90, w91, rfl, hp84⟩ := hp84
            have hp84 : ((0 ≤ (x85) ∧ (x85) ≤ (f 4) ∧ (x86) ≤ (f 4) + 1 ∧ ((x87) = 0 ↔ (x85) = (f 4)) ∧ (2 ≤ (x87) → (x85) < (x86) ∧ (x86) ≤ (f 4)) ∧ ((x87) = 5 → (x85) + 2 ≤ (x86) ∧ (x86) ≤ (x85) + 32))) ∧ (y61_8) ≤ (x85) ∧ ((x89) = 0 → (y61_5) = 0 ∧ (y61_8) + 1 ≤ (x85) ∧ (y61_9) ≤ (x85)) := hp84
            simp only [up_up] at hM
            have hM : MWd D dA h0 ad (mF dA h0 ad (f, g, A, L) s.heap.size) s.heap ((up f [(8, x85), (9, x86), (7, x87), (10, x88), (5, x89), (6, x90), (15, y61_15), (22, y61_22), (56, y61_56)]), (up g [(11, w91)]), (up A [(13, y61_13), (14, y61_14), (17, y61_17), (18, y61_18), (19, y61_19), (20, y61_20), (21, y61_21), (23, y61_23)]), (up L [(12, y61_12), (16, y61_16)])) H locs := hM
            have r92 : (0 : Int) ≤ x85 ∧ x85 ≤ 3001 := hM.2.2.2.1 8
            have r93 : (0 : Int) ≤ x86 ∧ x86 ≤ 3002 := hM.2.2.2.1 9
            have r94 : (0 : Int) ≤ x87 ∧ x87 ≤ 6 := hM.2.2.2.1 7
            have r95 : (-2147483648 : Int) ≤ x88 ∧ x88 ≤ 2147483647 := hM.2.2.2.1 10
            have r96 : (-2147483648 : Int) ≤ x89 ∧ x89 ≤ 2147483647 := hM.2.2.2.1 5
            have r97 : (-2147483648 : Int) ≤ x90 ∧ x90 ≤ 2147483647 := hM.2.2.2.1 6
            subst hPST
            exact m_vret B hM dX12_readGroup_158 ⟨x85, x86, x87, x88, x89, x90, y61_15, y61_22, y61_56, w91, y61_13, y61_14, y61_17, y61_18, y61_19, y61_20, y61_21, y61_23, y61_12, y61_16, rfl, by (refine ⟨by omega, by omega, by omega, by omega, by omega, by omega, by omega, by assumption, by assumption, ?_⟩; first | assumption | exact APe_rfl | exact APe_trans (by assumption) (by assumption) (by omega))⟩
        · refine lv_aload_n B.1 B.2.1 dX12_readGroup_72 rfl (lv_at hl 0 rfl) ?_
          refine m_callv (n := 0) (rest := []) B hM hA hl.1 (k_next l D dA h0 ad (up f [(8, y61_8), (9, y61_9), (7, y61_7), (10, y61_10), (5, y61_5), (6, y61_6), (15, y61_15), (22, y61_22), (56, y61_56)]) (up g [(11, y61_11)]) (up A [(13, y61_13), (14, y61_14), (17, y61_17), (18, y61_18), (19, y61_19), (20, y61_20), (21, y61_21), (23, y61_23)]) (up L [(12, y61_12), (16, y61_16)])   (by first | omega | (simp only [wr_at]; omega) | assumption)) rfl ok_next nm_next ⟨rfl, rfl⟩ ⟨Nat.le_of_ble_eq_true rfl, Nat.le_of_ble_eq_true rfl⟩ dX12_readGroup_73 rfl rfl (Nat.le_of_ble_eq_true rfl) ⟨Nat.zero_le _, Nat.zero_le _⟩ (fun σr98 H locs hp99 hM => ?_)
          obtain ⟨x100, x101, x102, x103, w104, rfl, hp99⟩ := hp99
          have hp99 : ((f 9) ≤ (x100) ∨ (x100) = (f 4)) ∧ (0 ≤ (x100) ∧ (x100) ≤ (f 4) ∧ (x101) ≤ (f 4) + 1 ∧ ((x102) = 0 ↔ (x100) = (f 4)) ∧ (2 ≤ (x102) → (x100) < (x101) ∧ (x101) ≤ (f 4)) ∧ ((x102) = 5 → (x100) + 2 ≤ (x101) ∧ (x101) ≤ (x100) + 32)) := hp99
          simp only [up_up] at hM
          have hM : MWd D dA h0 ad (mF dA h0 ad (f, g, A, L) s.heap.size) s.heap ((up f [(8, x100), (9, x101), (7, x102), (10, x103), (5, y61_5), (6, y61_6), (15, y61_15), (22, y61_22), (56, y61_56)]), (up g [(11, w104)]), (up A [(13, y61_13), (14, y61_14), (17, y61_17), (18, y61_18), (19, y61_19), (20, y61_20), (21, y61_21), (23, y61_23)]), (up L [(12, y61_12), (16, y61_16)])) H locs := hM
          have r105 : (0 : Int) ≤ x100 ∧ x100 ≤ 3001 := hM.2.2.2.1 8
          have r106 : (0 : Int) ≤ x101 ∧ x101 ≤ 3002 := hM.2.2.2.1 9
          have r107 : (0 : Int) ≤ x102 ∧ x102 ≤ 6 := hM.2.2.2.1 7
          have r108 : (-2147483648 : Int) ≤ x103 ∧ x103 ≤ 2147483647 := hM.2.2.2.1 10
          refine lv_iload_n B.1 B.2.1 dX12_readGroup_76 rfl (lv_at hl 2 rfl) ?_
          refine q_bip B dX12_readGroup_77 (by decide) ?_
          refine q_cne (tgt := 94) B dX12_readGroup_79 (by decide) (by unfold inr; omega) (by unfold inr; omega) (fun c109 => ?_) (fun c109 => ?_)
          · exact JJ94 v61_1 v61_2 x100 x101 x102 x103 y61_5 y61_6 y61_15 y61_22 y61_56 w104 y61_13 y61_14 y61_17 y61_18 y61_19 y61_20 y61_21 y61_23 y61_12 y61_16 _ _ ls hM (lv_sub hl [0, 1, 1, 2] rfl) (by omega) (by omega) (by first | omega | (simp only [wr_at]; omega) | assumption) (by first | omega | (simp only [wr_at]; omega) | assumption) (by first | omega | (simp only [wr_at]; omega) | assumption) (by first | omega | (simp only [wr_at]; omega) | assumption) (by first | omega | (simp only [wr_at]; omega) | assumption) (by first | omega | (simp only [wr_at]; omega) | assumption) (by first | omega | (simp only [wr_at]; omega) | assumption) (by first | omega | (simp only [wr_at]; omega) | assumption) (by first | omega | (simp only [wr_at]; omega) | assumption) (by first | omega | (simp only [wr_at]; omega) | assumption) (by first | omega | (simp only [wr_at]; omega) | assumption) (by first | omega | (simp only [wr_at]; omega) | assumption) (by first | omega | (simp only [wr_at]; omega) | assumption) (by first | omega | (simp only [wr_at]; omega) | assumption) (by first | assumption | exact APe_rfl | exact APe_trans (by assumption) (by assumption) (by omega))
          · refine lv_aload_n B.1 B.2.1 dX12_readGroup_82 rfl (lv_at hl 0 rfl) ?_
            refine m_get (k := 7) (v := x102) B hM (by decide) rfl fl66 dX12_readGroup_83 rfl ?_
            refine q_con B dX12_readGroup_86 ?_
            refine q_cne (tgt := 94) B dX12_readGroup_87 (by decide) (by unfold inr; omega) (by unfold inr; omega) (fun c110 => ?_) (fun c110 => ?_)
            · exact JJ94 v61_1 v61_2 x100 x101 x102 x103 y61_5 y61_6 y61_15 y61_22 y61_56 w104 y61_13 y61_14 y61_17 y61_18 y61_19 y61_20 y61_21 y61_23 y61_12 y61_16 _ _ ls hM (lv_sub hl [0, 1, 1, 2] rfl) (by omega) (by omega) (by first | omega | (simp only [wr_at]; omega) | assumption) (by first | omega | (simp only [wr_at]; omega) | assumption) (by first | omega | (simp only [wr_at]; omega) | assumption) (by first | omega | (simp only [wr_at]; omega) | assumption) (by first | omega | (simp only [wr_at]; omega) | assumption) (by first | omega | (simp only [wr_at]; omega) | assumption) (by first | omega | (simp only [wr_at]; omega) | assumption) (by first | omega | (simp only [wr_at]; omega) | assumption) (by first | omega | (simp only [wr_at]; omega) | assumption) (by first | omega | (simp only [wr_at]; omega) | assumption) (by first | omega | (simp only [wr_at]; omega) | assumption) (by first | omega | (simp only [wr_at]; omega) | assumption) (by first | omega | (simp only [wr_at]; omega) | assumption) (by first | omega | (simp only [wr_at]; omega) | assumption) (by first | assumption | exact APe_rfl | exact APe_trans (by assumption) (by assumption) (by omega))
            · refine lv_aload_n B.1 B.2.1 dX12_readGroup_90 rfl (lv_at hl 0 rfl) ?_
              refine m_callv (n := 0) (rest := []) B hM hA hl.1 (k_wrong2 l D dA h0 ad (up f [(8, x100), (9, x101), (7, x102), (10, x103), (5, y61_5), (6, y61_6), (15, y61_15), (22, y61_22), (56, y61_56)]) (up g [(11, w104)]) (up A [(13, y61_13), (14, y61_14), (17, y61_17), (18, y61_18), (19, y61_19), (20, y61_20), (21, y61_21), (23, y61_23)]) (up L [(12, y61_12), (16, y61_16)])   ) rfl ok_wrong2 nm_wrong2 ⟨rfl, rfl⟩ ⟨Nat.le_of_ble_eq_true rfl, Nat.le_of_ble_eq_true rfl⟩ dX12_readGroup_91 rfl rfl (Nat.le_of_ble_eq_true rfl) ⟨Nat.zero_le _, Nat.zero_le _⟩ (fun σr111 H locs hp112 hM => ?_)
              obtain ⟨x113, x114, rfl, hp112⟩ := hp112
              have hp112 : (x113) ≠ 0 := hp112
              simp only [up_up] at hM
              have hM : MWd D dA h0 ad (mF dA h0 ad (f, g, A, L) s.heap.size) s.heap ((up f [(8, x100), (9, x101), (7, x102), (10, x103), (5, x113), (6, x114), (15, y61_15), (22, y61_22), (56, y61_56)]), (up g [(11, w104)]), (up A [(13, y61_13), (14, y61_14), (17, y61_17), (18, y61_18), (19, y61_19), (20, y61_20), (21, y61_21), (23, y61_23)]), (up L [(12, y61_12), (16, y61_16)])) H locs := hM
              have r115 : (-2147483648 : Int) ≤ x113 ∧ x113 ≤ 2147483647 := hM.2.2.2.1 5
              have r116 : (-2147483648 : Int) ≤ x114 ∧ x114 ≤ 2147483647 := hM.2.2.2.1 6
              exact JJ94 v61_1 v61_2 x100 x101 x102 x103 x113 x114 y61_15 y61_22 y61_56 w104 y61_13 y61_14 y61_17 y61_18 y61_19 y61_20 y61_21 y61_23 y61_12 y61_16 _ _ ls hM (lv_sub hl [0, 1, 1, 2] rfl) (by omega) (by omega) (by first | omega | (simp only [wr_at]; omega) | assumption) (by first | omega | (simp only [wr_at]; omega) | assumption) (by first | omega | (simp only [wr_at]; omega) | assumption) (by first | omega | (simp only [wr_at]; omega) | assumption) (by first | omega | (simp only [wr_at]; omega) | assumption) (by first | omega | (simp only [wr_at]; omega) | assumption) (by first | omega | (simp only [wr_at]; omega) | assumption) (by first | omega | (simp only [wr_at]; omega) | assumption) (by first | omega | (simp only [wr_at]; omega) | assumption) (by first | omega | (simp only [wr_at]; omega) | assumption) (by first | omega | (simp only [wr_at]; omega) | assumption) (by first | omega | (simp only [wr_at]; omega) | assumption) (by first | omega | (simp only [wr_at]; omega) | assumption) (by first | omega | (simp only [wr_at]; omega) | assumption) (by first | assumption | exact APe_rfl | exact APe_trans (by assumption) (by assumption) (by omega))
  refine lv_aload_n B.1 B.2.1 dX12_readGroup_0 rfl (lv_at hl 0 rfl) ?_
  refine m_get (k := 56) (v := f 56) B hM (by decide) rfl fl439 dX12_readGroup_1 rfl ?_
  have r117 : (0 : Int) ≤ f 56 ∧ f 56 ≤ 7 := hM.2.2.2.1 56
  refine q_con B dX12_readGroup_4 ?_
  refine q_add B dX12_readGroup_5 ?_
  refine lv_istore_n (lv' := [(1, .int (II ((f 56) + 1))), (0, .ref h0)]) B.1 B.2.1 dX12_readGroup_6 rfl hl (by decide) rfl (fun ls hl => ?_)
  refine lv_aload_n B.1 B.2.1 dX12_readGroup_7 rfl (lv_at hl 1 rfl) ?_
  refine q_con B dX12_readGroup_8 ?_
  refine lv_iload_n B.1 B.2.1 dX12_readGroup_9 rfl (lv_at hl 0 rfl) ?_
  refine m_callv (n := 2) (rest := []) B hM hA hl.1 (k_tell l D dA h0 ad (up f [(8, f 8), (9, f 9), (7, f 7), (10, f 10), (5, f 5), (6, f 6), (15, f 15), (22, f 22), (56, f 56)]) (up g [(11, g 11)]) (up A [(13, (A 13)), (14, (A 14)), (17, (A 17)), (18, (A 18)), (19, (A 19)), (20, (A 20)), (21, (A 21)), (23, (A 23))]) (up L [(12, (L 12)), (16, (L 16))]) 1 ((f 56) + 1) (by omega) (by omega) (by first | omega | (simp only [wr_at]; omega) | assumption) (by first | omega | (simp only [wr_at]; omega) | assumption) (by first | omega | (simp only [wr_at]; omega) | assumption) (by first | omega | (simp only [wr_at]; omega) | assumption) (by first | omega | (simp only [wr_at]; omega) | assumption) (by first | omega | (simp only [wr_at]; omega) | assumption) (by first | omega | (simp only [wr_at]; omega) | assumption) (by first | omega | (simp only [wr_at]; omega) | assumption)) rfl ok_tell nm_tell ⟨rfl, rfl⟩ ⟨Nat.le_of_ble_eq_true rfl, Nat.le_of_ble_eq_true rfl⟩ dX12_readGroup_10 rfl rfl (Nat.le_of_ble_eq_true rfl) ⟨Nat.zero_le _, Nat.zero_le _⟩ (fun σr118 H locs hp119 hM => ?_)
  obtain ⟨x120, x121, x122, x123, x124, x125, x126, w127, b128, b129, b130, rfl, hp119⟩ := hp119
  have hp119 : ((0 ≤ (x120) ∧ (x120) ≤ (f 4) ∧ (x121) ≤ (f 4) + 1 ∧ ((x122) = 0 ↔ (x120) = (f 4)) ∧ (2 ≤ (x122) → (x120) < (x121) ∧ (x121) ≤ (f 4)) ∧ ((x122) = 5 → (x120) + 2 ≤ (x121) ∧ (x121) ≤ (x120) + 32))) ∧ (f 8) ≤ (x120) ∧ ((x124) = 0 → (f 5) = 0 ∧ (f 8) + 1 ≤ (x120) ∧ (x126) = (f 15) + 1) ∧ (f 15) ≤ (x126) ∧ (x126) ≤ (f 15) + 1 ∧ NIp (x126) (f 3) b128 b129 := hp119
  simp only [up_up] at hM
  have hM : MWd D dA h0 ad (mF dA h0 ad (f, g, A, L) s.heap.size) s.heap ((up f [(8, x120), (9, x121), (7, x122), (10, x123), (5, x124), (6, x125), (15, x126), (22, f 22), (56, f 56)]), (up g [(11, w127)]), (up A [(13, b128), (14, b129), (17, (A 17)), (18, (A 18)), (19, (A 19)), (20, (A 20)), (21, (A 21)), (23, (A 23))]), (up L [(12, b130), (16, (L 16))])) H locs := hM
  have r131 : (0 : Int) ≤ x120 ∧ x120 ≤ 3001 := hM.2.2.2.1 8
  have r132 : (0 : Int) ≤ x121 ∧ x121 ≤ 3002 := hM.2.2.2.1 9
  have r133 : (0 : Int) ≤ x122 ∧ x122 ≤ 6 := hM.2.2.2.1 7
  have r134 : (-2147483648 : Int) ≤ x123 ∧ x123 ≤ 2147483647 := hM.2.2.2.1 10
  have r135 : (-2147483648 : Int) ≤ x124 ∧ x124 ≤ 2147483647 := hM.2.2.2.1 5
  have r136 : (-2147483648 : Int) ≤ x125 ∧ x125 ≤ 2147483647 := hM.2.2.2.1 6
  have r137 : (0 : Int) ≤ x126 ∧ x126 ≤ 64 := hM.2.2.2.1 15
  refine lv_aload_n B.1 B.2.1 dX12_readGroup_13 rfl (lv_at hl 1 rfl) ?_
  refine m_calli (n := 0) (rest := []) B hM hA hl.1 (k_isGood l D dA h0 ad (up f [(8, x120), (9, x121), (7, x122), (10, x123), (5, x124), (6, x125), (15, x126), (22, f 22), (56, f 56)]) (up g [(11, w127)]) (up A [(13, b128), (14, b129), (17, (A 17)), (18, (A 18)), (19, (A 19)), (20, (A 20)), (21, (A 21)), (23, (A 23))]) (up L [(12, b130), (16, (L 16))])   ) rfl ok_isGood nm_isGood ⟨rfl, rfl⟩ ⟨Nat.le_of_ble_eq_true rfl, Nat.le_of_ble_eq_true rfl⟩ dX12_readGroup_14 rfl rfl (Nat.le_of_ble_eq_true rfl) ⟨Nat.zero_le _, Nat.zero_le _⟩ (fun r138 σr138 H locs ir138 hp139 hM => ?_)
  obtain ⟨rfl, hp139⟩ := hp139
  unfold inr at ir138
  have hp139 : 0 ≤ r138 ∧ r138 ≤ 1 ∧ (r138 = 1 ↔ (x124) = 0) := hp139
  refine q_ine (tgt := 21) B dX12_readGroup_17 (by decide) (by unfold inr; omega) (fun c140 => ?_) (fun c140 => ?_)
  · refine lv_aload_n B.1 B.2.1 dX12_readGroup_21 rfl (lv_at hl 1 rfl) ?_
    refine lv_dup B.1 B.2.1 dX12_readGroup_22 rfl ?_
    refine m_get (k := 56) (v := f 56) B hM (by decide) rfl fl439 dX12_readGroup_23 rfl ?_
    refine q_con B dX12_readGroup_26 ?_
    refine q_add B dX12_readGroup_27 ?_
    refine m_put (k := 56) B hM (by decide) rfl fl439 rfl dX12_readGroup_28 rfl rfl (show (0 : Int) ≤ (f 56) + 1 by omega) (show (f 56) + 1 ≤ (7 : Int) by omega) (u1_up f [(8, x120), (9, x121), (7, x122), (10, x123), (5, x124), (6, x125), (15, x126), (22, f 22), (56, f 56)] 56 ((f 56) + 1)) (fun H locs hM => ?_)
    have hM : MWd D dA h0 ad (mF dA h0 ad (f, g, A, L) s.heap.size) s.heap ((up f [(8, x120), (9, x121), (7, x122), (10, x123), (5, x124), (6, x125), (15, x126), (22, f 22), (56, (f 56) + 1)]), (up g [(11, w127)]), (up A [(13, b128), (14, b129), (17, (A 17)), (18, (A 18)), (19, (A 19)), (20, (A 20)), (21, (A 21)), (23, (A 23))]), (up L [(12, b130), (16, (L 16))])) H locs := hM
    refine lv_aload_n B.1 B.2.1 dX12_readGroup_31 rfl (lv_at hl 1 rfl) ?_
    refine m_geta (k := 23) B hM (by decide) rfl fl163 dX12_readGroup_32 ?_
    refine q_bip B dX12_readGroup_35 (by decide) ?_
    refine lv_aload_n B.1 B.2.1 dX12_readGroup_37 rfl (lv_at hl 1 rfl) ?_
    refine m_get (k := 3) (v := f 3) B hM (by decide) rfl fl11 dX12_readGroup_38 rfl ?_
    have r141 : (0 : Int) ≤ f 3 ∧ f 3 ≤ 1 := hM.2.2.2.1 3
    refine q_mul B dX12_readGroup_41 ?_
    refine lv_iload_n B.1 B.2.1 dX12_readGroup_42 rfl (lv_at hl 0 rfl) ?_
    refine q_add B dX12_readGroup_43 ?_
    refine q_con B dX12_readGroup_44 ?_
    refine lv_iload_n B.1 B.2.1 dX12_readGroup_45 rfl (lv_at hl 0 rfl) ?_
    refine q_shl B dX12_readGroup_46 (fun x142 ix142 => ?_)
    unfold inr at ix142
    refine m_ist (k := 23) (i := 11) (n := 18) B hM rfl rfl rfl (by decide) dX12_readGroup_47 (by omega) (by omega) (show (-2147483648 : Int) ≤ x142 by omega) (show x142 ≤ (2147483647 : Int) by omega) (u1_up A [(13, b128), (14, b129), (17, (A 17)), (18, (A 18)), (19, (A 19)), (20, (A 20)), (21, (A 21)), (23, (A 23))] 23 (wr (A 23) ((9 * (f 3)) + ((f 56) + 1)) x142)) (fun H locs hM => ?_)
    have hM : MWd D dA h0 ad (mF dA h0 ad (f, g, A, L) s.heap.size) s.heap ((up f [(8, x120), (9, x121), (7, x122), (10, x123), (5, x124), (6, x125), (15, x126), (22, f 22), (56, (f 56) + 1)]), (up g [(11, w127)]), (up A [(13, b128), (14, b129), (17, (A 17)), (18, (A 18)), (19, (A 19)), (20, (A 20)), (21, (A 21)), (23, (wr (A 23) ((9 * (f 3)) + ((f 56) + 1)) x142))]), (up L [(12, b130), (16, (L 16))])) H locs := hM
    refine lv_aload_n B.1 B.2.1 dX12_readGroup_48 rfl (lv_at hl 1 rfl) ?_
    refine q_bip B dX12_readGroup_49 (by decide) ?_
    refine m_calli (n := 1) (rest := []) B hM hA hl.1 (k_isSign l D dA h0 ad (up f [(8, x120), (9, x121), (7, x122), (10, x123), (5, x124), (6, x125), (15, x126), (22, f 22), (56, (f 56) + 1)]) (up g [(11, w127)]) (up A [(13, b128), (14, b129), (17, (A 17)), (18, (A 18)), (19, (A 19)), (20, (A 20)), (21, (A 21)), (23, (wr (A 23) ((9 * (f 3)) + ((f 56) + 1)) x142))]) (up L [(12, b130), (16, (L 16))]) 58 (by omega) (by first | omega | (simp only [wr_at]; omega) | assumption)) rfl ok_isSign nm_isSign ⟨rfl, rfl⟩ ⟨Nat.le_of_ble_eq_true rfl, Nat.le_of_ble_eq_true rfl⟩ dX12_readGroup_51 rfl rfl (Nat.le_of_ble_eq_true rfl) ⟨Nat.zero_le _, Nat.zero_le _⟩ (fun r143 σr143 H locs ir143 hp144 hM => ?_)
    obtain ⟨rfl, hp144⟩ := hp144
    unfold inr at ir143
    have hp144 : 0 ≤ r143 ∧ r143 ≤ 1 ∧ (r143 = 1 ↔ (x122) = 6 ∧ sgn ((A 2)) (f 3) (f 4) (x120) = (58)) := hp144
    refine q_ieq (tgt := 145) B dX12_readGroup_54 (by decide) (by unfold inr; omega) (fun c145 => ?_) (fun c145 => ?_)
    · refine lv_aload_n B.1 B.2.1 dX12_readGroup_145 rfl (lv_at hl 1 rfl) ?_
      refine m_calli (n := 0) (rest := []) B hM hA hl.1 (k_isGood l D dA h0 ad (up f [(8, x120), (9, x121), (7, x122), (10, x123), (5, x124), (6, x125), (15, x126), (22, f 22), (56, (f 56) + 1)]) (up g [(11, w127)]) (up A [(13, b128), (14, b129), (17, (A 17)), (18, (A 18)), (19, (A 19)), (20, (A 20)), (21, (A 21)), (23, (wr (A 23) ((9 * (f 3)) + ((f 56) + 1)) x142))]) (up L [(12, b130), (16, (L 16))])   ) rfl ok_isGood nm_isGood ⟨rfl, rfl⟩ ⟨Nat.le_of_ble_eq_true rfl, Nat.le_of_ble_eq_true rfl⟩ dX12_readGroup_146 rfl rfl (Nat.le_of_ble_eq_true rfl) ⟨Nat.zero_le _, Nat.zero_le _⟩ (fun r146 σr146 H locs ir146 hp147 hM => ?_)
      obtain ⟨rfl, hp147⟩ := hp147
      unfold inr at ir146
      have hp147 : 0 ≤ r146 ∧ r146 ≤ 1 ∧ (r146 = 1 ↔ (x124) = 0) := hp147
      refine q_ieq (tgt := 158) B dX12_readGroup_149 (by decide) (by unfold inr; omega) (fun c148 => ?_) (fun c148 => ?_)
      · subst hPST
        exact m_vret B hM dX12_readGroup_158 ⟨x120, x121, x122, x123, x124, x125, x126, (f 22), ((f 56) + 1), w127, b128, b129, ((A 17)), ((A 18)), ((A 19)), ((A 20)), ((A 21)), ((wr (A 23) ((9 * (f 3)) + ((f 56) + 1)) x142)), b130, ((L 16)), rfl, by (refine ⟨by omega, by omega, by omega, by omega, by omega, by omega, by omega, by assumption, by assumption, ?_⟩; first | assumption | exact APe_rfl | exact APe_trans (by assumption) (by assumption) (by omega))⟩
      · refine lv_aload_n B.1 B.2.1 dX12_readGroup_152 rfl (lv_at hl 1 rfl) ?_
        refine q_bip B dX12_readGroup_153 (by decide) ?_
        refine m_callv (n := 1) (rest := []) B hM hA hl.1 (k_must l D dA h0 ad (up f [(8, x120), (9, x121), (7, x122), (10, x123), (5, x124), (6, x125), (15, x126), (22, f 22), (56, (f 56) + 1)]) (up g [(11, w127)]) (up A [(13, b128), (14, b129), (17, (A 17)), (18, (A 18)), (19, (A 19)), (20, (A 20)), (21, (A 21)), (23, (wr (A 23) ((9 * (f 3)) + ((f 56) + 1)) x142))]) (up L [(12, b130), (16, (L 16))]) 59 (by omega) (by first | omega | (simp only [wr_at]; omega) | assumption)) rfl ok_must nm_must ⟨rfl, rfl⟩ ⟨Nat.le_of_ble_eq_true rfl, Nat.le_of_ble_eq_true rfl⟩ dX12_readGroup_155 rfl rfl (Nat.le_of_ble_eq_true rfl) ⟨Nat.zero_le _, Nat.zero_le _⟩ (fun σr149 H locs hp150 hM => ?_)
        obtain ⟨x151, x152, x153, x154, x155, x156, w157, rfl, hp150⟩ := hp150
        have hp150 : ((0 ≤ (x151) ∧ (x151) ≤ (f 4) ∧ (x152) ≤ (f 4) + 1 ∧ ((x153) = 0 ↔ (x151) = (f 4)) ∧ (2 ≤ (x153) → (x151) < (x152) ∧ (x152) ≤ (f 4)) ∧ ((x153) = 5 → (x151) + 2 ≤ (x152) ∧ (x152) ≤ (x151) + 32))) ∧ (x120) ≤ (x151) ∧ ((x155) = 0 → (x124) = 0 ∧ (x120) + 1 ≤ (x151) ∧ (x121) ≤ (x151)) := hp150
        simp only [up_up] at hM
        have hM : MWd D dA h0 ad (mF dA h0 ad (f, g, A, L) s.heap.size) s.heap ((up f [(8, x151), (9, x152), (7, x153), (10, x154), (5, x155), (6, x156), (15, x126), (22, f 22), (56, (f 56) + 1)]), (up g [(11, w157)]), (up A [(13, b128), (14, b129), (17, (A 17)), (18, (A 18)), (19, (A 19)), (20, (A 20)), (21, (A 21)), (23, (wr (A 23) ((9 * (f 3)) + ((f 56) + 1)) x142))]), (up L [(12, b130), (16, (L 16))])) H locs := hM
        have r158 : (0 : Int) ≤ x151 ∧ x151 ≤ 3001 := hM.2.2.2.1 8
        have r159 : (0 : Int) ≤ x152 ∧ x152 ≤ 3002 := hM.2.2.2.1 9
        have r160 : (0 : Int) ≤ x153 ∧ x153 ≤ 6 := hM.2.2.2.1 7
        have r161 : (-2147483648 : Int) ≤ x154 ∧ x154 ≤ 2147483647 := hM.2.2.2.1 10
        have r162 : (-2147483648 : Int) ≤ x155 ∧ x155 ≤ 2147483647 := hM.2.2.2.1 5
        have r163 : (-2147483648 : Int) ≤ x156 ∧ x156 ≤ 2147483647 := hM.2.2.2.1 6
        subst hPST
        exact m_vret B hM dX12_readGroup_158 ⟨x151, x152, x153, x154, x155, x156, x126, (f 22), ((f 56) + 1), w157, b128, b129, ((A 17)), ((A 18)), ((A 19)), ((A 20)), ((A 21)), ((wr (A 23) ((9 * (f 3)) + ((f 56) + 1)) x142)), b130, ((L 16)), rfl, by (refine ⟨by omega, by omega, by omega, by omega, by omega, by omega, by omega, by assumption, by assumption, ?_⟩; first | assumption | exact APe_rfl | exact APe_trans (by assumption) (by assumption) (by omega))⟩
    · refine q_con B dX12_readGroup_57 ?_
      refine lv_istore_n (lv' := [(2, .int (II 0)), (1, .int (II ((f 56) + 1))), (0, .ref h0)]) B.1 B.2.1 dX12_readGroup_58 rfl hl (by decide) rfl (fun ls hl => ?_)
      refine q_con B dX12_readGroup_59 ?_
      refine lv_istore_n (lv' := [(3, .int (II 1)), (2, .int (II 0)), (1, .int (II ((f 56) + 1))), (0, .ref h0)]) B.1 B.2.1 dX12_readGroup_60 rfl hl (by decide) rfl (fun ls hl => ?_)
      exact LL61 (10 - (0) + 1).toNat ((f 56) + 1) 0 1 x120 x121 x122 x123 x124 x125 x126 (f 22) ((f 56) + 1) w127 b128 b129 ((A 17)) ((A 18)) ((A 19)) ((A 20)) ((A 21)) ((wr (A 23) ((9 * (f 3)) + ((f 56) + 1)) x142)) b130 ((L 16)) _ _ ls hM (lv_sub hl [3, 2, 1, 0] rfl) (by omega) (by omega) (by omega) (by first | omega | (simp only [wr_at]; omega) | assumption) (by first | omega | (simp only [wr_at]; omega) | assumption) (by first | omega | (simp only [wr_at]; omega) | assumption) (by first | omega | (simp only [wr_at]; omega) | assumption) (by first | omega | (simp only [wr_at]; omega) | assumption) (by first | omega | (simp only [wr_at]; omega) | assumption) (by first | omega | (simp only [wr_at]; omega) | assumption) (by first | omega | (simp only [wr_at]; omega) | assumption) (by first | omega | (simp only [wr_at]; omega) | assumption) (by first | omega | (simp only [wr_at]; omega) | assumption) (by first | omega | (simp only [wr_at]; omega) | assumption) (by first | omega | (simp only [wr_at]; omega) | assumption) (by first | omega | (simp only [wr_at]; omega) | assumption) (by first | omega | (simp only [wr_at]; omega) | assumption) (by first | omega | (simp only [wr_at]; omega) | assumption) (by first | omega | (simp only [wr_at]; omega) | assumption) (by first | assumption | exact APe_rfl | exact APe_trans (by assumption) (by assumption) (by omega)) (by first | omega | (simp only [wr_at]; omega) | assumption) (by first | omega | (simp only [wr_at]; omega) | assumption)
  · subst hPST
    exact m_vret B hM dX12_readGroup_20 ⟨x120, x121, x122, x123, x124, x125, x126, (f 22), (f 56), w127, b128, b129, ((A 17)), ((A 18)), ((A 19)), ((A 20)), ((A 21)), ((A 23)), b130, ((L 16)), rfl, by (refine ⟨by omega, by omega, by omega, by omega, by omega, by omega, by omega, by assumption, by assumption, ?_⟩; first | assumption | exact APe_rfl | exact APe_trans (by assumption) (by assumption) (by omega))⟩
set_option maxHeartbeats 4000000 in
set_option maxRecDepth 20000 in
theorem k_readChain (l : Launch) (D : va_G) (dA : Nat → ClassId) (h0 : Nat) (ad : Nat → Nat) (f : Nat → Int) (g : Nat → Int64) (A : Nat → Nat → Int) (L : Nat → Nat → Int64) (p_0 : (0 ≤ (f 8) ∧ (f 8) ≤ (f 4) ∧ (f 9) ≤ (f 4) + 1 ∧ ((f 7) = 0 ↔ (f 8) = (f 4)) ∧ (2 ≤ (f 7) → (f 8) < (f 9) ∧ (f 9) ≤ (f 4)) ∧ ((f 7) = 5 → (f 8) + 2 ≤ (f 9) ∧ (f 9) ≤ (f 8) + 32))) (p_1 : (f 57) ≤ 5) (p_2 : (f 15) ≤ 62) (p_3 : 2 * (f 22) ≤ (f 8)) (p_4 : NIp (f 15) (f 3) (A 13) (A 14)) (p_5 : AIp (f 22) (A 18) (A 20) (A 21)) : MCv l yX12_readChain cX12_readChain 4 ({ frames := 4, cells := 0, slots := 0, locals := 89 }) D dA h0 ad (f, g, A, L) [] (fun σ => ∃ n8 : Int, ∃ n9 : Int, ∃ n7 : Int, ∃ n10 : Int, ∃ n5 : Int, ∃ n6 : Int, ∃ n15 : Int, ∃ n22 : Int, ∃ n57 : Int, ∃ n11 : Int64, ∃ b13 : Nat → Int, ∃ b14 : Nat → Int, ∃ b17 : Nat → Int, ∃ b18 : Nat → Int, ∃ b19 : Nat → Int, ∃ b20 : Nat → Int, ∃ b21 : Nat → Int, ∃ b25 : Nat → Int, ∃ b12 : Nat → Int64, ∃ b16 : Nat → Int64, σ = ((up f [(8, n8), (9, n9), (7, n7), (10, n10), (5, n5), (6, n6), (15, n15), (22, n22), (57, n57)]), (up g [(11, n11)]), (up A [(13, b13), (14, b14), (17, b17), (18, b18), (19, b19), (20, b20), (21, b21), (25, b25)]), (up L [(12, b12), (16, b16)])) ∧ (((0 ≤ (n8) ∧ (n8) ≤ (f 4) ∧ (n9) ≤ (f 4) + 1 ∧ ((n7) = 0 ↔ (n8) = (f 4)) ∧ (2 ≤ (n7) → (n8) < (n9) ∧ (n9) ≤ (f 4)) ∧ ((n7) = 5 → (n8) + 2 ≤ (n9) ∧ (n9) ≤ (n8) + 32))) ∧ (f 8) ≤ (n8) ∧ ((n5) = 0 → (f 5) = 0 ∧ (f 8) + 1 ≤ (n8) ∧ (n15) = (f 15) + 1 ∧ (n57) = (f 57) + 1 ∧ 2 * (n22) ≤ (n8) ∧ b25 (6 * (f 3) + (f 57)).toNat ≤ 8) ∧ (f 15) ≤ (n15) ∧ (n15) ≤ (f 15) + 1 ∧ 2 * (n22) ≤ (n8) + 1 ∧ (f 22) ≤ (n22) ∧ Fr1 (A 25) b25 (6 * (f 3) + (f 57)) ∧ NIp (n15) (f 3) b13 b14 ∧ AIp (n22) b18 b20 b21 ∧ APe (f 22) (A 20) (A 21) b20 b21)) := by
  generalize hPST : (fun σ => ∃ n8 : Int, ∃ n9 : Int, ∃ n7 : Int, ∃ n10 : Int, ∃ n5 : Int, ∃ n6 : Int, ∃ n15 : Int, ∃ n22 : Int, ∃ n57 : Int, ∃ n11 : Int64, ∃ b13 : Nat → Int, ∃ b14 : Nat → Int, ∃ b17 : Nat → Int, ∃ b18 : Nat → Int, ∃ b19 : Nat → Int, ∃ b20 : Nat → Int, ∃ b21 : Nat → Int, ∃ b25 : Nat → Int, ∃ b12 : Nat → Int64, ∃ b16 : Nat → Int64, σ = ((up f [(8, n8), (9, n9), (7, n7), (10, n10), (5, n5), (6, n6), (15, n15), (22, n22), (57, n57)]), (up g [(11, n11)]), (up A [(13, b13), (14, b14), (17, b17), (18, b18), (19, b19), (20, b20), (21, b21), (25, b25)]), (up L [(12, b12), (16, b16)])) ∧ (((0 ≤ (n8) ∧ (n8) ≤ (f 4) ∧ (n9) ≤ (f 4) + 1 ∧ ((n7) = 0 ↔ (n8) = (f 4)) ∧ (2 ≤ (n7) → (n8) < (n9) ∧ (n9) ≤ (f 4)) ∧ ((n7) = 5 → (n8) + 2 ≤ (n9) ∧ (n9) ≤ (n8) + 32))) ∧ (f 8) ≤ (n8) ∧ ((n5) = 0 → (f 5) = 0 ∧ (f 8) + 1 ≤ (n8) ∧ (n15) = (f 15) + 1 ∧ (n57) = (f 57) + 1 ∧ 2 * (n22) ≤ (n8) ∧ b25 (6 * (f 3) + (f 57)).toNat ≤ 8) ∧ (f 15) ≤ (n15) ∧ (n15) ≤ (f 15) + 1 ∧ 2 * (n22) ≤ (n8) + 1 ∧ (f 22) ≤ (n22) ∧ Fr1 (A 25) b25 (6 * (f 3) + (f 57)) ∧ NIp (n15) (f 3) b13 b14 ∧ AIp (n22) b18 b20 b21 ∧ APe (f 22) (A 20) (A 21) b20 b21)) = PST
  refine m_enterv (by decide) rfl (Nat.le_of_ble_eq_true rfl) (fun p e s m args below meth c ls B hM hl => ?_)
  have hA : ∀ q, s.heap.size ≤ q → mF dA h0 ad (f, g, A, L) s.heap.size q := fun q h => Or.inr h
  have hM : MWd D dA h0 ad (mF dA h0 ad (f, g, A, L) s.heap.size) s.heap ((up f [(8, f 8), (9, f 9), (7, f 7), (10, f 10), (5, f 5), (6, f 6), (15, f 15), (22, f 22), (57, f 57)]), (up g [(11, g 11)]), (up A [(13, (A 13)), (14, (A 14)), (17, (A 17)), (18, (A 18)), (19, (A 19)), (20, (A 20)), (21, (A 21)), (25, (A 25))]), (up L [(12, (L 12)), (16, (L 16))])) s.heap [] := MW_pad hM (up_self f [8, 9, 7, 10, 5, 6, 15, 22, 57]) (up_self g [11]) (up_self A [13, 14, 17, 18, 19, 20, 21, 25]) (up_self L [12, 16])
  have hl : lv_has ls 4 [(0, .ref h0)] := hl
  have LL59 : ∀ N : Nat, ∀ (v59_1 : Int) (v59_2 : Int) (y59_8 : Int) (y59_9 : Int) (y59_7 : Int) (y59_10 : Int) (y59_5 : Int) (y59_6 : Int) (y59_15 : Int) (y59_22 : Int) (y59_57 : Int) (y59_11 : Int64) (y59_13 : Nat → Int) (y59_14 : Nat → Int) (y59_17 : Nat → Int) (y59_18 : Nat → Int) (y59_19 : Nat → Int) (y59_20 : Nat → Int) (y59_21 : Nat → Int) (y59_25 : Nat → Int) (y59_12 : Nat → Int64) (y59_16 : Nat → Int64) (H : Heap) (locs : List Loc) (ls : Array Slot), (MWd D dA h0 ad (mF dA h0 ad (f, g, A, L) s.heap.size) s.heap ((up f [(8, y59_8), (9, y59_9), (7, y59_7), (10, y59_10), (5, y59_5), (6, y59_6), (15, y59_15), (22, y59_22), (57, y59_57)]), (up g [(11, y59_11)]), (up A [(13, y59_13), (14, y59_14), (17, y59_17), (18, y59_18), (19, y59_19), (20, y59_20), (21, y59_21), (25, y59_25)]), (up L [(12, y59_12), (16, y59_16)])) H locs) → lv_has ls 4 [(0, .ref h0), (1, .int (II v59_1)), (2, .int (II v59_2))] → ((-2147483648 : Int) ≤ v59_1 ∧ v59_1 ≤ 2147483647) → ((-2147483648 : Int) ≤ v59_2 ∧ v59_2 ≤ 2147483647) → ((0 ≤ (y59_8) ∧ (y59_8) ≤ (f 4) ∧ (y59_9) ≤ (f 4) + 1 ∧ ((y59_7) = 0 ↔ (y59_8) = (f 4)) ∧ (2 ≤ (y59_7) → (y59_8) < (y59_9) ∧ (y59_9) ≤ (f 4)) ∧ ((y59_7) = 5 → (y59_8) + 2 ≤ (y59_9) ∧ (y59_9) ≤ (y59_8) + 32))) → ((f 8) ≤ (y59_8)) → ((v59_1) = (f 57)) → (0 ≤ y59_25 (6 * (f 3) + (v59_1)).toNat) → (y59_25 (6 * (f 3) + (v59_1)).toNat ≤ 9) → ((y59_25 (6 * (f 3) + (v59_1)).toNat = 9 → (y59_5) ≠ 0)) → (0 ≤ (v59_2)) → ((v59_2) ≤ 1) → (((v59_2) = 1 → (y59_5) = 0 → (y59_7) = 6)) → (((y59_5) = 0 → (f 5) = 0 ∧ (f 8) + 1 ≤ (y59_8) ∧ (y59_15) = (f 15) + 1 ∧ (y59_57) = (f 57) + 1)) → ((f 15) ≤ (y59_15)) → ((y59_15) ≤ (f 15) + 1) → (2 * (y59_22) ≤ (y59_8) + 1) → ((f 22) ≤ (y59_22)) → (Fr1 (A 25) y59_25 (6 * (f 3) + (v59_1))) → (NIp (y59_15) (f 3) y59_13 y59_14) → (AIp (y59_22) y59_18 y59_20 y59_21) → (APe (f 22) (A 20) (A 21) y59_20 y59_21) → (0 ≤ 10 - y59_25 (6 * (f 3) + (v59_1)).toNat) → (10 - y59_25 (6 * (f 3) + (v59_1)).toNat < (N : Int)) → W p l e ({ frames := 4, cells := 0, slots := 0, locals := 89 }) s m args below meth c H locs 0 0 (MQ below (mQv D dA h0 ad (f, g, A, L) s.heap.size PST) args s 0 0 (mF dA h0 ad (f, g, A, L) s.heap.size)) (F0 m 59 ls []) := by
    intro N
    induction N with
    | zero => intro v59_1 v59_2 y59_8 y59_9 y59_7 y59_10 y59_5 y59_6 y59_15 y59_22 y59_57 y59_11 y59_13 y59_14 y59_17 y59_18 y59_19 y59_20 y59_21 y59_25 y59_12 y59_16 H locs ls hM hl hLL59_0 hLL59_1 hLL59_2 hLL59_3 hLL59_4 hLL59_5 hLL59_6 hLL59_7 hLL59_8 hLL59_9 hLL59_10 hLL59_11 hLL59_12 hLL59_13 hLL59_14 hLL59_15 hLL59_16 hLL59_17 hLL59_18 hLL59_19 hLL59_20 hN; exfalso; omega
    | succ N IH59 =>
      intro v59_1 v59_2 y59_8 y59_9 y59_7 y59_10 y59_5 y59_6 y59_15 y59_22 y59_57 y59_11 y59_13 y59_14 y59_17 y59_18 y59_19 y59_20 y59_21 y59_25 y59_12 y59_16 H locs ls hM hl hLL59_0 hLL59_1 hLL59_2 hLL59_3 hLL59_4 hLL59_5 hLL59_6 hLL59_7 hLL59_8 hLL59_9 hLL59_10 hLL59_11 hLL59_12 hLL59_13 hLL59_14 hLL59_15 hLL59_16 hLL59_17 hLL59_18 hLL59_19 hLL59_20 hN
      have JJ107 : ∀ (v107_1 : Int) (v107_2 : Int) (v107_3 : Int) (y107_8 : Int) (y107_9 : Int) (y107_7 : Int) (y107_10 : Int) (y107_5 : Int) (y107_6 : Int) (y107_15 : Int) (y107_22 : Int) (y107_57 : Int) (y107_11 : Int64) (y107_13 : Nat → Int) (y107_14 : Nat → Int) (y107_17 : Nat → Int) (y107_18 : Nat → Int) (y107_19 : Nat → Int) (y107_20 : Nat → Int) (y107_21 : Nat → Int) (y107_25 : Nat → Int) (y107_12 : Nat → Int64) (y107_16 : Nat → Int64) (H : Heap) (locs : List Loc) (ls : Array Slot), (MWd D dA h0 ad (mF dA h0 ad (f, g, A, L) s.heap.size) s.heap ((up f [(8, y107_8), (9, y107_9), (7, y107_7), (10, y107_10), (5, y107_5), (6, y107_6), (15, y107_15), (22, y107_22), (57, y107_57)]), (up g [(11, y107_11)]), (up A [(13, y107_13), (14, y107_14), (17, y107_17), (18, y107_18), (19, y107_19), (20, y107_20), (21, y107_21), (25, y107_25)]), (up L [(12, y107_12), (16, y107_16)])) H locs) → lv_has ls 4 [(0, .ref h0), (1, .int (II v59_1)), (1, .int (II v107_1)), (2, .int (II v107_2)), (3, .int (II v107_3))] → ((-2147483648 : Int) ≤ v107_1 ∧ v107_1 ≤ 2147483647) → ((-2147483648 : Int) ≤ v107_2 ∧ v107_2 ≤ 2147483647) → ((-2147483648 : Int) ≤ v107_3 ∧ v107_3 ≤ 2147483647) → ((0 ≤ (y107_8) ∧ (y107_8) ≤ (f 4) ∧ (y107_9) ≤ (f 4) + 1 ∧ ((y107_7) = 0 ↔ (y107_8) = (f 4)) ∧ (2 ≤ (y107_7) → (y107_8) < (y107_9) ∧ (y107_9) ≤ (f 4)) ∧ ((y107_7) = 5 → (y107_8) + 2 ≤ (y107_9) ∧ (y107_9) ≤ (y107_8) + 32))) → ((y59_8) + 1 ≤ (y107_8)) → ((f 8) ≤ (y107_8)) → ((v59_1) = (f 57)) → ((v107_3) = 6 * (f 3) + (v59_1)) → (0 ≤ y107_25 (6 * (f 3) + (v59_1)).toNat) → (y107_25 (6 * (f 3) + (v59_1)).toNat = (y59_25) (6 * (f 3) + (v59_1)).toNat) → (y107_25 (6 * (f 3) + (v59_1)).toNat ≤ 8) → ((y107_25 (6 * (f 3) + (v59_1)).toNat = 8 → (y107_7) = 2 → (y107_5) ≠ 0)) → (((y107_5) = 0 → (f 5) = 0 ∧ (f 8) + 1 ≤ (y107_8) ∧ (y107_15) = (f 15) + 1 ∧ (y107_57) = (f 57) + 1)) → ((f 15) ≤ (y107_15)) → ((y107_15) ≤ (f 15) + 1) → (2 * (y107_22) ≤ (y107_8)) → ((f 22) ≤ (y107_22)) → (Fr1 (A 25) y107_25 (6 * (f 3) + (v59_1))) → (NIp (y107_15) (f 3) y107_13 y107_14) → (AIp (y107_22) y107_18 y107_20 y107_21) → (APe (f 22) (A 20) (A 21) y107_20 y107_21) → W p l e ({ frames := 4, cells := 0, slots := 0, locals := 89 }) s m args below meth c H locs 0 0 (MQ below (mQv D dA h0 ad (f, g, A, L) s.heap.size PST) args s 0 0 (mF dA h0 ad (f, g, A, L) s.heap.size)) (F0 m 107 ls []) := by
        intro v107_1 v107_2 v107_3 y107_8 y107_9 y107_7 y107_10 y107_5 y107_6 y107_15 y107_22 y107_57 y107_11 y107_13 y107_14 y107_17 y107_18 y107_19 y107_20 y107_21 y107_25 y107_12 y107_16 H locs ls hM hl hJJ107_0 hJJ107_1 hJJ107_2 hJJ107_3 hJJ107_4 hJJ107_5 hJJ107_6 hJJ107_7 hJJ107_8 hJJ107_9 hJJ107_10 hJJ107_11 hJJ107_12 hJJ107_13 hJJ107_14 hJJ107_15 hJJ107_16 hJJ107_17 hJJ107_18 hJJ107_19 hJJ107_20
        have r1 : (0 : Int) ≤ y107_8 ∧ y107_8 ≤ 3001 := hM.2.2.2.1 8
        have r2 : (0 : Int) ≤ y107_9 ∧ y107_9 ≤ 3002 := hM.2.2.2.1 9
        have r3 : (0 : Int) ≤ y107_7 ∧ y107_7 ≤ 6 := hM.2.2.2.1 7
        have r4 : (-2147483648 : Int) ≤ y107_10 ∧ y107_10 ≤ 2147483647 := hM.2.2.2.1 10
        have r5 : (-2147483648 : Int) ≤ y107_5 ∧ y107_5 ≤ 2147483647 := hM.2.2.2.1 5
        have r6 : (-2147483648 : Int) ≤ y107_6 ∧ y107_6 ≤ 2147483647 := hM.2.2.2.1 6
        have r7 : (0 : Int) ≤ y107_15 ∧ y107_15 ≤ 64 := hM.2.2.2.1 15
        have r8 : (0 : Int) ≤ y107_22 ∧ y107_22 ≤ 1600 := hM.2.2.2.1 22
        have r9 : (0 : Int) ≤ y107_57 ∧ y107_57 ≤ 6 := hM.2.2.2.1 57
        refine lv_aload_n B.1 B.2.1 dX12_readChain_107 rfl (lv_at hl 0 rfl) ?_
        refine m_calli (n := 0) (rest := []) B hM hA hl.1 (k_isGood l D dA h0 ad (up f [(8, y107_8), (9, y107_9), (7, y107_7), (10, y107_10), (5, y107_5), (6, y107_6), (15, y107_15), (22, y107_22), (57, y107_57)]) (up g [(11, y107_11)]) (up A [(13, y107_13), (14, y107_14), (17, y107_17), (18, y107_18), (19, y107_19), (20, y107_20), (21, y107_21), (25, y107_25)]) (up L [(12, y107_12), (16, y107_16)])   ) rfl ok_isGood nm_isGood ⟨rfl, rfl⟩ ⟨Nat.le_of_ble_eq_true rfl, Nat.le_of_ble_eq_true rfl⟩ dX12_readChain_108 rfl rfl (Nat.le_of_ble_eq_true rfl) ⟨Nat.zero_le _, Nat.zero_le _⟩ (fun r10 σr10 H locs ir10 hp11 hM => ?_)
        obtain ⟨rfl, hp11⟩ := hp11
        unfold inr at ir10
        have hp11 : 0 ≤ r10 ∧ r10 ≤ 1 ∧ (r10 = 1 ↔ (y107_5) = 0) := hp11
        refine q_ieq (tgt := 132) B dX12_readChain_111 (by decide) (by unfold inr; omega) (fun c12 => ?_) (fun c12 => ?_)
        · refine lv_aload_n B.1 B.2.1 dX12_readChain_132 rfl (lv_at hl 0 rfl) ?_
          refine m_geta (k := 25) B hM (by decide) rfl fl169 dX12_readChain_133 ?_
          refine lv_iload_n B.1 B.2.1 dX12_readChain_136 rfl (lv_at hl 4 rfl) ?_
          refine lv_dup2_11 B.1 B.2.1 dX12_readChain_137 rfl rfl ?_
          refine m_ild (k := 25) (i := 13) (n := 12) (z := v107_3) (v := y107_25 v107_3.toNat) B hM rfl rfl rfl (by decide) dX12_readChain_138 (by omega) (by omega) rfl ?_
          have r13 : (0 : Int) ≤ y107_25 v107_3.toNat ∧ y107_25 v107_3.toNat ≤ 9 := hM.2.2.2.2 25 v107_3.toNat
          refine q_con B dX12_readChain_139 ?_
          refine q_add B dX12_readChain_140 ?_
          refine m_ist (k := 25) (i := 13) (n := 12) B hM rfl rfl rfl (by decide) dX12_readChain_141 (by omega) (by omega) (show (0 : Int) ≤ (y107_25 v107_3.toNat) + 1 by omega) (show (y107_25 v107_3.toNat) + 1 ≤ (9 : Int) by omega) (u1_up A [(13, y107_13), (14, y107_14), (17, y107_17), (18, y107_18), (19, y107_19), (20, y107_20), (21, y107_21), (25, y107_25)] 25 (wr y107_25 v107_3 ((y107_25 v107_3.toNat) + 1))) (fun H locs hM => ?_)
          have hM : MWd D dA h0 ad (mF dA h0 ad (f, g, A, L) s.heap.size) s.heap ((up f [(8, y107_8), (9, y107_9), (7, y107_7), (10, y107_10), (5, y107_5), (6, y107_6), (15, y107_15), (22, y107_22), (57, y107_57)]), (up g [(11, y107_11)]), (up A [(13, y107_13), (14, y107_14), (17, y107_17), (18, y107_18), (19, y107_19), (20, y107_20), (21, y107_21), (25, (wr y107_25 v107_3 ((y107_25 v107_3.toNat) + 1)))]), (up L [(12, y107_12), (16, y107_16)])) H locs := hM
          refine lv_aload_n B.1 B.2.1 dX12_readChain_142 rfl (lv_at hl 0 rfl) ?_
          refine m_calli (n := 0) (rest := []) B hM hA hl.1 (k_isGood l D dA h0 ad (up f [(8, y107_8), (9, y107_9), (7, y107_7), (10, y107_10), (5, y107_5), (6, y107_6), (15, y107_15), (22, y107_22), (57, y107_57)]) (up g [(11, y107_11)]) (up A [(13, y107_13), (14, y107_14), (17, y107_17), (18, y107_18), (19, y107_19), (20, y107_20), (21, y107_21), (25, (wr y107_25 v107_3 ((y107_25 v107_3.toNat) + 1)))]) (up L [(12, y107_12), (16, y107_16)])   ) rfl ok_isGood nm_isGood ⟨rfl, rfl⟩ ⟨Nat.le_of_ble_eq_true rfl, Nat.le_of_ble_eq_true rfl⟩ dX12_readChain_143 rfl rfl (Nat.le_of_ble_eq_true rfl) ⟨Nat.zero_le _, Nat.zero_le _⟩ (fun r14 σr14 H locs ir14 hp15 hM => ?_)
          obtain ⟨rfl, hp15⟩ := hp15
          unfold inr at ir14
          have hp15 : 0 ≤ r14 ∧ r14 ≤ 1 ∧ (r14 = 1 ↔ (y107_5) = 0) := hp15
          refine q_ieq (tgt := 162) B dX12_readChain_146 (by decide) (by unfold inr; omega) (fun c16 => ?_) (fun c16 => ?_)
          · refine q_con B dX12_readChain_162 ?_
            refine lv_istore_n (lv' := [(2, .int (II 0)), (0, .ref h0), (1, .int (II v59_1)), (1, .int (II v107_1)), (3, .int (II v107_3))]) B.1 B.2.1 dX12_readChain_163 rfl hl (by decide) rfl (fun ls hl => ?_)
            refine lv_goto (tgt := 59) B.1 B.2.1 dX12_readChain_164 (by decide) ?_
            exact IH59 v107_1 0 y107_8 y107_9 y107_7 y107_10 y107_5 y107_6 y107_15 y107_22 y107_57 y107_11 y107_13 y107_14 y107_17 y107_18 y107_19 y107_20 y107_21 ((wr y107_25 v107_3 ((y107_25 v107_3.toNat) + 1))) y107_12 y107_16 _ _ ls hM (lv_sub hl [1, 2, 0] rfl) (by omega) (by omega) (by first | omega | (simp only [wr_at]; omega) | assumption) (by first | omega | (simp only [wr_at]; omega) | assumption) (by first | omega | (simp only [wr_at]; omega) | assumption) (by first | omega | (simp only [wr_at]; omega) | assumption) (by first | omega | (simp only [wr_at]; omega) | assumption) (by first | omega | (simp only [wr_at]; omega) | assumption) (by first | omega | (simp only [wr_at]; omega) | assumption) (by first | omega | (simp only [wr_at]; omega) | assumption) (by first | omega | (simp only [wr_at]; omega) | assumption) (by first | omega | (simp only [wr_at]; omega) | assumption) (by first | omega | (simp only [wr_at]; omega) | assumption) (by first | omega | (simp only [wr_at]; omega) | assumption) (by first | omega | (simp only [wr_at]; omega) | assumption) (by first | omega | (simp only [wr_at]; omega) | assumption) (by first | assumption | exact Fr1_wr Fr1_rfl | exact Fr1_wr (by assumption)) (by first | omega | (simp only [wr_at]; omega) | assumption) (by first | omega | (simp only [wr_at]; omega) | assumption) (by first | assumption | exact APe_rfl | exact APe_trans (by assumption) (by assumption) (by omega)) (by first | omega | (simp only [wr_at]; omega) | assumption) (by first | omega | (simp only [wr_at]; omega) | assumption)
          · refine lv_aload_n B.1 B.2.1 dX12_readChain_149 rfl (lv_at hl 0 rfl) ?_
            refine q_bip B dX12_readChain_150 (by decide) ?_
            refine m_calli (n := 1) (rest := []) B hM hA hl.1 (k_isSign l D dA h0 ad (up f [(8, y107_8), (9, y107_9), (7, y107_7), (10, y107_10), (5, y107_5), (6, y107_6), (15, y107_15), (22, y107_22), (57, y107_57)]) (up g [(11, y107_11)]) (up A [(13, y107_13), (14, y107_14), (17, y107_17), (18, y107_18), (19, y107_19), (20, y107_20), (21, y107_21), (25, (wr y107_25 v107_3 ((y107_25 v107_3.toNat) + 1)))]) (up L [(12, y107_12), (16, y107_16)]) 44 (by omega) (by first | omega | (simp only [wr_at]; omega) | assumption)) rfl ok_isSign nm_isSign ⟨rfl, rfl⟩ ⟨Nat.le_of_ble_eq_true rfl, Nat.le_of_ble_eq_true rfl⟩ dX12_readChain_152 rfl rfl (Nat.le_of_ble_eq_true rfl) ⟨Nat.zero_le _, Nat.zero_le _⟩ (fun r17 σr17 H locs ir17 hp18 hM => ?_)
            obtain ⟨rfl, hp18⟩ := hp18
            unfold inr at ir17
            have hp18 : 0 ≤ r17 ∧ r17 ≤ 1 ∧ (r17 = 1 ↔ (y107_7) = 6 ∧ sgn ((A 2)) (f 3) (f 4) (y107_8) = (44)) := hp18
            refine q_ieq (tgt := 162) B dX12_readChain_155 (by decide) (by unfold inr; omega) (fun c19 => ?_) (fun c19 => ?_)
            · refine q_con B dX12_readChain_162 ?_
              refine lv_istore_n (lv' := [(2, .int (II 0)), (0, .ref h0), (1, .int (II v59_1)), (1, .int (II v107_1)), (3, .int (II v107_3))]) B.1 B.2.1 dX12_readChain_163 rfl hl (by decide) rfl (fun ls hl => ?_)
              refine lv_goto (tgt := 59) B.1 B.2.1 dX12_readChain_164 (by decide) ?_
              exact IH59 v107_1 0 y107_8 y107_9 y107_7 y107_10 y107_5 y107_6 y107_15 y107_22 y107_57 y107_11 y107_13 y107_14 y107_17 y107_18 y107_19 y107_20 y107_21 ((wr y107_25 v107_3 ((y107_25 v107_3.toNat) + 1))) y107_12 y107_16 _ _ ls hM (lv_sub hl [1, 2, 0] rfl) (by omega) (by omega) (by first | omega | (simp only [wr_at]; omega) | assumption) (by first | omega | (simp only [wr_at]; omega) | assumption) (by first | omega | (simp only [wr_at]; omega) | assumption) (by first | omega | (simp only [wr_at]; omega) | assumption) (by first | omega | (simp only [wr_at]; omega) | assumption) (by first | omega | (simp only [wr_at]; omega) | assumption) (by first | omega | (simp only [wr_at]; omega) | assumption) (by first | omega | (simp only [wr_at]; omega) | assumption) (by first | omega | (simp only [wr_at]; omega) | assumption) (by first | omega | (simp only [wr_at]; omega) | assumption) (by first | omega | (simp only [wr_at]; omega) | assumption) (by first | omega | (simp only [wr_at]; omega) | assumption) (by first | omega | (simp only [wr_at]; omega) | assumption) (by first | omega | (simp only [wr_at]; omega) | assumption) (by first | assumption | exact Fr1_wr Fr1_rfl | exact Fr1_wr (by assumption)) (by first | omega | (simp only [wr_at]; omega) | assumption) (by first | omega | (simp only [wr_at]; omega) | assumption) (by first | assumption | exact APe_rfl | exact APe_trans (by assumption) (by assumption) (by omega)) (by first | omega | (simp only [wr_at]; omega) | assumption) (by first | omega | (simp only [wr_at]; omega) | assumption)
            · refine q_con B dX12_readChain_158 ?_
              refine lv_goto (tgt := 163) B.1 B.2.1 dX12_readChain_159 (by decide) ?_
              refine lv_istore_n (lv' := [(2, .int (II 1)), (0, .ref h0), (1, .int (II v59_1)), (1, .int (II v107_1)), (3, .int (II v107_3))]) B.1 B.2.1 dX12_readChain_163 rfl hl (by decide) rfl (fun ls hl => ?_)
              refine lv_goto (tgt := 59) B.1 B.2.1 dX12_readChain_164 (by decide) ?_
              exact IH59 v107_1 1 y107_8 y107_9 y107_7 y107_10 y107_5 y107_6 y107_15 y107_22 y107_57 y107_11 y107_13 y107_14 y107_17 y107_18 y107_19 y107_20 y107_21 ((wr y107_25 v107_3 ((y107_25 v107_3.toNat) + 1))) y107_12 y107_16 _ _ ls hM (lv_sub hl [1, 2, 0] rfl) (by omega) (by omega) (by first | omega | (simp only [wr_at]; omega) | assumption) (by first | omega | (simp only [wr_at]; omega) | assumption) (by first | omega | (simp only [wr_at]; omega) | assumption) (by first | omega | (simp only [wr_at]; omega) | assumption) (by first | omega | (simp only [wr_at]; omega) | assumption) (by first | omega | (simp only [wr_at]; omega) | assumption) (by first | omega | (simp only [wr_at]; omega) | assumption) (by first | omega | (simp only [wr_at]; omega) | assumption) (by first | omega | (simp only [wr_at]; omega) | assumption) (by first | omega | (simp only [wr_at]; omega) | assumption) (by first | omega | (simp only [wr_at]; omega) | assumption) (by first | omega | (simp only [wr_at]; omega) | assumption) (by first | omega | (simp only [wr_at]; omega) | assumption) (by first | omega | (simp only [wr_at]; omega) | assumption) (by first | assumption | exact Fr1_wr Fr1_rfl | exact Fr1_wr (by assumption)) (by first | omega | (simp only [wr_at]; omega) | assumption) (by first | omega | (simp only [wr_at]; omega) | assumption) (by first | assumption | exact APe_rfl | exact APe_trans (by assumption) (by assumption) (by omega)) (by first | omega | (simp only [wr_at]; omega) | assumption) (by first | omega | (simp only [wr_at]; omega) | assumption)
        · refine lv_aload_n B.1 B.2.1 dX12_readChain_114 rfl (lv_at hl 0 rfl) ?_
          refine q_con B dX12_readChain_115 ?_
          refine q_con B dX12_readChain_116 ?_
          refine q_con B dX12_readChain_117 ?_
          refine q_bip B dX12_readChain_118 (by decide) ?_
          refine lv_iload_n B.1 B.2.1 dX12_readChain_120 rfl (lv_at hl 4 rfl) ?_
          refine q_mul B dX12_readChain_121 ?_
          refine lv_aload_n B.1 B.2.1 dX12_readChain_122 rfl (lv_at hl 0 rfl) ?_
          refine m_geta (k := 25) B hM (by decide) rfl fl169 dX12_readChain_123 ?_
          refine lv_iload_n B.1 B.2.1 dX12_readChain_126 rfl (lv_at hl 4 rfl) ?_
          refine m_ild (k := 25) (i := 13) (n := 12) (z := v107_3) (v := y107_25 v107_3.toNat) B hM rfl rfl rfl (by decide) dX12_readChain_127 (by omega) (by omega) rfl ?_
          have r20 : (0 : Int) ≤ y107_25 v107_3.toNat ∧ y107_25 v107_3.toNat ≤ 9 := hM.2.2.2.2 25 v107_3.toNat
          refine q_add B dX12_readChain_128 ?_
          refine m_callv (n := 4) (rest := []) B hM hA hl.1 (k_ask l D dA h0 ad (up f [(8, y107_8), (9, y107_9), (7, y107_7), (10, y107_10), (5, y107_5), (6, y107_6), (15, y107_15), (22, y107_22), (57, y107_57)]) (up g [(11, y107_11)]) (up A [(13, y107_13), (14, y107_14), (17, y107_17), (18, y107_18), (19, y107_19), (20, y107_20), (21, y107_21), (25, y107_25)]) (up L [(12, y107_12), (16, y107_16)]) 1 (-1) 1 ((8 * v107_3) + (y107_25 v107_3.toNat)) (by omega) (by omega) (by omega) (by omega) (by first | omega | (simp only [wr_at]; omega) | assumption) (by first | omega | (simp only [wr_at]; omega) | assumption) (by first | omega | (simp only [wr_at]; omega) | assumption) (by first | omega | (simp only [wr_at]; omega) | assumption) (by first | omega | (simp only [wr_at]; omega) | assumption) (by first | omega | (simp only [wr_at]; omega) | assumption) (by first | omega | (simp only [wr_at]; omega) | assumption) (by first | omega | (simp only [wr_at]; omega) | assumption) (by first | omega | (simp only [wr_at]; omega) | assumption) (by first | omega | (simp only [wr_at]; omega) | assumption) (by first | omega | (simp only [wr_at]; omega) | assumption) (by first | omega | (simp only [wr_at]; omega) | assumption)) rfl ok_ask nm_ask ⟨rfl, rfl⟩ ⟨Nat.le_of_ble_eq_true rfl, Nat.le_of_ble_eq_true rfl⟩ dX12_readChain_129 rfl rfl (Nat.le_of_ble_eq_true rfl) ⟨Nat.zero_le _, Nat.zero_le _⟩ (fun σr21 H locs hp22 hM => ?_)
          obtain ⟨x23, x24, x25, x26, x27, x28, x29, w30, b31, b32, b33, b34, b35, b36, rfl, hp22⟩ := hp22
          have hp22 : ((0 ≤ (x23) ∧ (x23) ≤ (f 4) ∧ (x24) ≤ (f 4) + 1 ∧ ((x25) = 0 ↔ (x23) = (f 4)) ∧ (2 ≤ (x25) → (x23) < (x24) ∧ (x24) ≤ (f 4)) ∧ ((x25) = 5 → (x23) + 2 ≤ (x24) ∧ (x24) ≤ (x23) + 32))) ∧ (y107_8) ≤ (x23) ∧ ((x27) = 0 → (y107_5) = 0 ∧ (y107_8) + 1 ≤ (x23) ∧ (y107_7) = 2 ∧ (x29) = (y107_22) + 1 ∧ b34 ((y107_22)).toNat = (1) ∧ b35 ((y107_22)).toNat = ((8 * v107_3) + (y107_25 v107_3.toNat))) ∧ 2 * (x29) ≤ (x23) + 1 ∧ (y107_22) ≤ (x29) ∧ AIp (x29) b32 b34 b35 ∧ APe (y107_22) y107_20 y107_21 b34 b35 := hp22
          simp only [up_up] at hM
          have hM : MWd D dA h0 ad (mF dA h0 ad (f, g, A, L) s.heap.size) s.heap ((up f [(8, x23), (9, x24), (7, x25), (10, x26), (5, x27), (6, x28), (15, y107_15), (22, x29), (57, y107_57)]), (up g [(11, w30)]), (up A [(13, y107_13), (14, y107_14), (17, b31), (18, b32), (19, b33), (20, b34), (21, b35), (25, y107_25)]), (up L [(12, y107_12), (16, b36)])) H locs := hM
          have r37 : (0 : Int) ≤ x23 ∧ x23 ≤ 3001 := hM.2.2.2.1 8
          have r38 : (0 : Int) ≤ x24 ∧ x24 ≤ 3002 := hM.2.2.2.1 9
          have r39 : (0 : Int) ≤ x25 ∧ x25 ≤ 6 := hM.2.2.2.1 7
          have r40 : (-2147483648 : Int) ≤ x26 ∧ x26 ≤ 2147483647 := hM.2.2.2.1 10
          have r41 : (-2147483648 : Int) ≤ x27 ∧ x27 ≤ 2147483647 := hM.2.2.2.1 5
          have r42 : (-2147483648 : Int) ≤ x28 ∧ x28 ≤ 2147483647 := hM.2.2.2.1 6
          have r43 : (0 : Int) ≤ x29 ∧ x29 ≤ 1600 := hM.2.2.2.1 22
          refine lv_aload_n B.1 B.2.1 dX12_readChain_132 rfl (lv_at hl 0 rfl) ?_
          refine m_geta (k := 25) B hM (by decide) rfl fl169 dX12_readChain_133 ?_
          refine lv_iload_n B.1 B.2.1 dX12_readChain_136 rfl (lv_at hl 4 rfl) ?_
          refine lv_dup2_11 B.1 B.2.1 dX12_readChain_137 rfl rfl ?_
          refine m_ild (k := 25) (i := 13) (n := 12) (z := v107_3) (v := y107_25 v107_3.toNat) B hM rfl rfl rfl (by decide) dX12_readChain_138 (by omega) (by omega) rfl ?_
          refine q_con B dX12_readChain_139 ?_
          refine q_add B dX12_readChain_140 ?_
          refine m_ist (k := 25) (i := 13) (n := 12) B hM rfl rfl rfl (by decide) dX12_readChain_141 (by omega) (by omega) (show (0 : Int) ≤ (y107_25 v107_3.toNat) + 1 by omega) (show (y107_25 v107_3.toNat) + 1 ≤ (9 : Int) by omega) (u1_up A [(13, y107_13), (14, y107_14), (17, b31), (18, b32), (19, b33), (20, b34), (21, b35), (25, y107_25)] 25 (wr y107_25 v107_3 ((y107_25 v107_3.toNat) + 1))) (fun H locs hM => ?_)
          have hM : MWd D dA h0 ad (mF dA h0 ad (f, g, A, L) s.heap.size) s.heap ((up f [(8, x23), (9, x24), (7, x25), (10, x26), (5, x27), (6, x28), (15, y107_15), (22, x29), (57, y107_57)]), (up g [(11, w30)]), (up A [(13, y107_13), (14, y107_14), (17, b31), (18, b32), (19, b33), (20, b34), (21, b35), (25, (wr y107_25 v107_3 ((y107_25 v107_3.toNat) + 1)))]), (up L [(12, y107_12), (16, b36)])) H locs := hM
          refine lv_aload_n B.1 B.2.1 dX12_readChain_142 rfl (lv_at hl 0 rfl) ?_
          refine m_calli (n := 0) (rest := []) B hM hA hl.1 (k_isGood l D dA h0 ad (up f [(8, x23), (9, x24), (7, x25), (10, x26), (5, x27), (6, x28), (15, y107_15), (22, x29), (57, y107_57)]) (up g [(11, w30)]) (up A [(13, y107_13), (14, y107_14), (17, b31), (18, b32), (19, b33), (20, b34), (21, b35), (25, (wr y107_25 v107_3 ((y107_25 v107_3.toNat) + 1)))]) (up L [(12, y107_12), (16, b36)])   ) rfl ok_isGood nm_isGood ⟨rfl, rfl⟩ ⟨Nat.le_of_ble_eq_true rfl, Nat.le_of_ble_eq_true rfl⟩ dX12_readChain_143 rfl rfl (Nat.le_of_ble_eq_true rfl) ⟨Nat.zero_le _, Nat.zero_le _⟩ (fun r44 σr44 H locs ir44 hp45 hM => ?_)
          obtain ⟨rfl, hp45⟩ := hp45
          unfold inr at ir44
          have hp45 : 0 ≤ r44 ∧ r44 ≤ 1 ∧ (r44 = 1 ↔ (x27) = 0) := hp45
          refine q_ieq (tgt := 162) B dX12_readChain_146 (by decide) (by unfold inr; omega) (fun c46 => ?_) (fun c46 => ?_)
          · refine q_con B dX12_readChain_162 ?_
            refine lv_istore_n (lv' := [(2, .int (II 0)), (0, .ref h0), (1, .int (II v59_1)), (1, .int (II v107_1)), (3, .int (II v107_3))]) B.1 B.2.1 dX12_readChain_163 rfl hl (by decide) rfl (fun ls hl => ?_)
            refine lv_goto (tgt := 59) B.1 B.2.1 dX12_readChain_164 (by decide) ?_
            exact IH59 v107_1 0 x23 x24 x25 x26 x27 x28 y107_15 x29 y107_57 w30 y107_13 y107_14 b31 b32 b33 b34 b35 ((wr y107_25 v107_3 ((y107_25 v107_3.toNat) + 1))) y107_12 b36 _ _ ls hM (lv_sub hl [1, 2, 0] rfl) (by omega) (by omega) (by first | omega | (simp only [wr_at]; omega) | assumption) (by first | omega | (simp only [wr_at]; omega) | assumption) (by first | omega | (simp only [wr_at]; omega) | assumption) (by first | omega | (simp only [wr_at]; omega) | assumption) (by first | omega | (simp only [wr_at]; omega) | assumption) (by first | omega | (simp only [wr_at]; omega) | assumption) (by first | omega | (simp only [wr_at]; omega) | assumption) (by first | omega | (simp only [wr_at]; omega) | assumption) (by first | omega | (simp only [wr_at]; omega) | assumption) (by first | omega | (simp only [wr_at]; omega) | assumption) (by first | omega | (simp only [wr_at]; omega) | assumption) (by first | omega | (simp only [wr_at]; omega) | assumption) (by first | omega | (simp only [wr_at]; omega) | assumption) (by first | omega | (simp only [wr_at]; omega) | assumption) (by first | assumption | exact Fr1_wr Fr1_rfl | exact Fr1_wr (by assumption)) (by first | omega | (simp only [wr_at]; omega) | assumption) (by first | omega | (simp only [wr_at]; omega) | assumption) (by first | assumption | exact APe_rfl | exact APe_trans (by assumption) (by assumption) (by omega)) (by first | omega | (simp only [wr_at]; omega) | assumption) (by first | omega | (simp only [wr_at]; omega) | assumption)
          · refine lv_aload_n B.1 B.2.1 dX12_readChain_149 rfl (lv_at hl 0 rfl) ?_
            refine q_bip B dX12_readChain_150 (by decide) ?_
            refine m_calli (n := 1) (rest := []) B hM hA hl.1 (k_isSign l D dA h0 ad (up f [(8, x23), (9, x24), (7, x25), (10, x26), (5, x27), (6, x28), (15, y107_15), (22, x29), (57, y107_57)]) (up g [(11, w30)]) (up A [(13, y107_13), (14, y107_14), (17, b31), (18, b32), (19, b33), (20, b34), (21, b35), (25, (wr y107_25 v107_3 ((y107_25 v107_3.toNat) + 1)))]) (up L [(12, y107_12), (16, b36)]) 44 (by omega) (by first | omega | (simp only [wr_at]; omega) | assumption)) rfl ok_isSign nm_isSign ⟨rfl, rfl⟩ ⟨Nat.le_of_ble_eq_true rfl, Nat.le_of_ble_eq_true rfl⟩ dX12_readChain_152 rfl rfl (Nat.le_of_ble_eq_true rfl) ⟨Nat.zero_le _, Nat.zero_le _⟩ (fun r47 σr47 H locs ir47 hp48 hM => ?_)
            obtain ⟨rfl, hp48⟩ := hp48
            unfold inr at ir47
            have hp48 : 0 ≤ r47 ∧ r47 ≤ 1 ∧ (r47 = 1 ↔ (x25) = 6 ∧ sgn ((A 2)) (f 3) (f 4) (x23) = (44)) := hp48
            refine q_ieq (tgt := 162) B dX12_readChain_155 (by decide) (by unfold inr; omega) (fun c49 => ?_) (fun c49 => ?_)
            · refine q_con B dX12_readChain_162 ?_
              refine lv_istore_n (lv' := [(2, .int (II 0)), (0, .ref h0), (1, .int (II v59_1)), (1, .int (II v107_1)), (3, .int (II v107_3))]) B.1 B.2.1 dX12_readChain_163 rfl hl (by decide) rfl (fun ls hl => ?_)
              refine lv_goto (tgt := 59) B.1 B.2.1 dX12_readChain_164 (by decide) ?_
              exact IH59 v107_1 0 x23 x24 x25 x26 x27 x28 y107_15 x29 y107_57 w30 y107_13 y107_14 b31 b32 b33 b34 b35 ((wr y107_25 v107_3 ((y107_25 v107_3.toNat) + 1))) y107_12 b36 _ _ ls hM (lv_sub hl [1, 2, 0] rfl) (by omega) (by omega) (by first | omega | (simp only [wr_at]; omega) | assumption) (by first | omega | (simp only [wr_at]; omega) | assumption) (by first | omega | (simp only [wr_at]; omega) | assumption) (by first | omega | (simp only [wr_at]; omega) | assumption) (by first | omega | (simp only [wr_at]; omega) | assumption) (by first | omega | (simp only [wr_at]; omega) | assumption) (by first | omega | (simp only [wr_at]; omega) | assumption) (by first | omega | (simp only [wr_at]; omega) | assumption) (by first | omega | (simp only [wr_at]; omega) | assumption) (by first | omega | (simp only [wr_at]; omega) | assumption) (by first | omega | (simp only [wr_at]; omega) | assumption) (by first | omega | (simp only [wr_at]; omega) | assumption) (by first | omega | (simp only [wr_at]; omega) | assumption) (by first | omega | (simp only [wr_at]; omega) | assumption) (by first | assumption | exact Fr1_wr Fr1_rfl | exact Fr1_wr (by assumption)) (by first | omega | (simp only [wr_at]; omega) | assumption) (by first | omega | (simp only [wr_at]; omega) | assumption) (by first | assumption | exact APe_rfl | exact APe_trans (by assumption) (by assumption) (by omega)) (by first | omega | (simp only [wr_at]; omega) | assumption) (by first | omega | (simp only [wr_at]; omega) | assumption)
            · refine q_con B dX12_readChain_158 ?_
              refine lv_goto (tgt := 163) B.1 B.2.1 dX12_readChain_159 (by decide) ?_
              refine lv_istore_n (lv' := [(2, .int (II 1)), (0, .ref h0), (1, .int (II v59_1)), (1, .int (II v107_1)), (3, .int (II v107_3))]) B.1 B.2.1 dX12_readChain_163 rfl hl (by decide) rfl (fun ls hl => ?_)
              refine lv_goto (tgt := 59) B.1 B.2.1 dX12_readChain_164 (by decide) ?_
              exact IH59 v107_1 1 x23 x24 x25 x26 x27 x28 y107_15 x29 y107_57 w30 y107_13 y107_14 b31 b32 b33 b34 b35 ((wr y107_25 v107_3 ((y107_25 v107_3.toNat) + 1))) y107_12 b36 _ _ ls hM (lv_sub hl [1, 2, 0] rfl) (by omega) (by omega) (by first | omega | (simp only [wr_at]; omega) | assumption) (by first | omega | (simp only [wr_at]; omega) | assumption) (by first | omega | (simp only [wr_at]; omega) | assumption) (by first | omega | (simp only [wr_at]; omega) | assumption) (by first | omega | (simp only [wr_at]; omega) | assumption) (by first | omega | (simp only [wr_at]; omega) | assumption) (by first | omega | (simp only [wr_at]; omega) | assumption) (by first | omega | (simp only [wr_at]; omega) | assumption) (by first | omega | (simp only [wr_at]; omega) | assumption) (by first | omega | (simp only [wr_at]; omega) | assumption) (by first | omega | (simp only [wr_at]; omega) | assumption) (by first | omega | (simp only [wr_at]; omega) | assumption) (by first | omega | (simp only [wr_at]; omega) | assumption) (by first | omega | (simp only [wr_at]; omega) | assumption) (by first | assumption | exact Fr1_wr Fr1_rfl | exact Fr1_wr (by assumption)) (by first | omega | (simp only [wr_at]; omega) | assumption) (by first | omega | (simp only [wr_at]; omega) | assumption) (by first | assumption | exact APe_rfl | exact APe_trans (by assumption) (by assumption) (by omega)) (by first | omega | (simp only [wr_at]; omega) | assumption) (by first | omega | (simp only [wr_at]; omega) | assumption)
      have r50 : (0 : Int) ≤ y59_8 ∧ y59_8 ≤ 3001 := hM.2.2.2.1 8
      have r51 : (0 : Int) ≤ y59_9 ∧ y59_9 ≤ 3002 := hM.2.2.2.1 9
      have r52 : (0 : Int) ≤ y59_7 ∧ y59_7 ≤ 6 := hM.2.2.2.1 7
      have r53 : (-2147483648 : Int) ≤ y59_10 ∧ y59_10 ≤ 2147483647 := hM.2.2.2.1 10
      have r54 : (-2147483648 : Int) ≤ y59_5 ∧ y59_5 ≤ 2147483647 := hM.2.2.2.1 5
      have r55 : (-2147483648 : Int) ≤ y59_6 ∧ y59_6 ≤ 2147483647 := hM.2.2.2.1 6
      have r56 : (0 : Int) ≤ y59_15 ∧ y59_15 ≤ 64 := hM.2.2.2.1 15
      have r57 : (0 : Int) ≤ y59_22 ∧ y59_22 ≤ 1600 := hM.2.2.2.1 22
      have r58 : (0 : Int) ≤ y59_57 ∧ y59_57 ≤ 6 := hM.2.2.2.1 57
      refine lv_iload_n B.1 B.2.1 dX12_readChain_59 rfl (lv_at hl 2 rfl) ?_
      refine q_ieq (tgt := 167) B dX12_readChain_60 (by decide) (by unfold inr; omega) (fun c59 => ?_) (fun c59 => ?_)
      · refine lv_aload_n B.1 B.2.1 dX12_readChain_167 rfl (lv_at hl 0 rfl) ?_
        refine m_calli (n := 0) (rest := []) B hM hA hl.1 (k_isGood l D dA h0 ad (up f [(8, y59_8), (9, y59_9), (7, y59_7), (10, y59_10), (5, y59_5), (6, y59_6), (15, y59_15), (22, y59_22), (57, y59_57)]) (up g [(11, y59_11)]) (up A [(13, y59_13), (14, y59_14), (17, y59_17), (18, y59_18), (19, y59_19), (20, y59_20), (21, y59_21), (25, y59_25)]) (up L [(12, y59_12), (16, y59_16)])   ) rfl ok_isGood nm_isGood ⟨rfl, rfl⟩ ⟨Nat.le_of_ble_eq_true rfl, Nat.le_of_ble_eq_true rfl⟩ dX12_readChain_168 rfl rfl (Nat.le_of_ble_eq_true rfl) ⟨Nat.zero_le _, Nat.zero_le _⟩ (fun r60 σr60 H locs ir60 hp61 hM => ?_)
        obtain ⟨rfl, hp61⟩ := hp61
        unfold inr at ir60
        have hp61 : 0 ≤ r60 ∧ r60 ≤ 1 ∧ (r60 = 1 ↔ (y59_5) = 0) := hp61
        refine q_ieq (tgt := 180) B dX12_readChain_171 (by decide) (by unfold inr; omega) (fun c62 => ?_) (fun c62 => ?_)
        · subst hPST
          exact m_vret B hM dX12_readChain_180 ⟨y59_8, y59_9, y59_7, y59_10, y59_5, y59_6, y59_15, y59_22, y59_57, y59_11, y59_13, y59_14, y59_17, y59_18, y59_19, y59_20, y59_21, y59_25, y59_12, y59_16, rfl, by (refine ⟨by omega, by omega, by first | omega | (simp only [wr_at]; omega) | assumption, by omega, by omega, by omega, by omega, ?_, by assumption, by assumption, ?_⟩; first | assumption | exact Fr1_rfl | exact Fr1_wr Fr1_rfl; first | assumption | exact APe_rfl | exact APe_trans (by assumption) (by assumption) (by omega))⟩
        · refine lv_aload_n B.1 B.2.1 dX12_readChain_174 rfl (lv_at hl 0 rfl) ?_
          refine q_bip B dX12_readChain_175 (by decide) ?_
          refine m_callv (n := 1) (rest := []) B hM hA hl.1 (k_must l D dA h0 ad (up f [(8, y59_8), (9, y59_9), (7, y59_7), (10, y59_10), (5, y59_5), (6, y59_6), (15, y59_15), (22, y59_22), (57, y59_57)]) (up g [(11, y59_11)]) (up A [(13, y59_13), (14, y59_14), (17, y59_17), (18, y59_18), (19, y59_19), (20, y59_20), (21, y59_21), (25, y59_25)]) (up L [(12, y59_12), (16, y59_16)]) 59 (by omega) (by first | omega | (simp only [wr_at]; omega) | assumption)) rfl ok_must nm_must ⟨rfl, rfl⟩ ⟨Nat.le_of_ble_eq_true rfl, Nat.le_of_ble_eq_true rfl⟩ dX12_readChain_177 rfl rfl (Nat.le_of_ble_eq_true rfl) ⟨Nat.zero_le _, Nat.zero_le _⟩ (fun σr63 H locs hp64 hM => ?_)
          obtain ⟨x65, x66, x67, x68, x69, x70, w71, rfl, hp64⟩ := hp64
          have hp64 : ((0 ≤ (x65) ∧ (x65) ≤ (f 4) ∧ (x66) ≤ (f 4) + 1 ∧ ((x67) = 0 ↔ (x65) = (f 4)) ∧ (2 ≤ (x67) → (x65) < (x66) ∧ (x66) ≤ (f 4)) ∧ ((x67) = 5 → (x65) + 2 ≤ (x66) ∧ (x66) ≤ (x65) + 32))) ∧ (y59_8) ≤ (x65) ∧ ((x69) = 0 → (y59_5) = 0 ∧ (y59_8) + 1 ≤ (x65) ∧ (y59_9) ≤ (x65)) := hp64
          simp only [up_up] at hM
          have hM : MWd D dA h0 ad (mF dA h0 ad (f, g, A, L) s.heap.size) s.heap ((up f [(8, x65), (9, x66), (7, x67), (10, x68), (5, x69), (6, x70), (15, y59_15), (22, y59_22), (57, y59_57)]), (up g [(11, w71)]), (up A [(13, y59_13), (14, y59_14), (17, y59_17), (18, y59_18), (19, y59_19), (20, y59_20), (21, y59_21), (25, y59_25)]), (up L [(12, y59_12), (16, y59_16)])) H locs := hM
          have r72 : (0 : Int) ≤ x65 ∧ x65 ≤ 3001 := hM.2.2.2.1 8
          have r73 : (0 : Int) ≤ x66 ∧ x66 ≤ 3002 := hM.2.2.2.1 9
          have r74 : (0 : Int) ≤ x67 ∧ x67 ≤ 6 := hM.2.2.2.1 7
          have r75 : (-2147483648 : Int) ≤ x68 ∧ x68 ≤ 2147483647 := hM.2.2.2.1 10
          have r76 : (-2147483648 : Int) ≤ x69 ∧ x69 ≤ 2147483647 := hM.2.2.2.1 5
          have r77 : (-2147483648 : Int) ≤ x70 ∧ x70 ≤ 2147483647 := hM.2.2.2.1 6
          subst hPST
          exact m_vret B hM dX12_readChain_180 ⟨x65, x66, x67, x68, x69, x70, y59_15, y59_22, y59_57, w71, y59_13, y59_14, y59_17, y59_18, y59_19, y59_20, y59_21, y59_25, y59_12, y59_16, rfl, by (refine ⟨by omega, by omega, by first | omega | (simp only [wr_at]; omega) | assumption, by omega, by omega, by omega, by omega, ?_, by assumption, by assumption, ?_⟩; first | assumption | exact Fr1_rfl | exact Fr1_wr Fr1_rfl; first | assumption | exact APe_rfl | exact APe_trans (by assumption) (by assumption) (by omega))⟩
      · refine lv_aload_n B.1 B.2.1 dX12_readChain_63 rfl (lv_at hl 0 rfl) ?_
        refine m_calli (n := 0) (rest := []) B hM hA hl.1 (k_isGood l D dA h0 ad (up f [(8, y59_8), (9, y59_9), (7, y59_7), (10, y59_10), (5, y59_5), (6, y59_6), (15, y59_15), (22, y59_22), (57, y59_57)]) (up g [(11, y59_11)]) (up A [(13, y59_13), (14, y59_14), (17, y59_17), (18, y59_18), (19, y59_19), (20, y59_20), (21, y59_21), (25, y59_25)]) (up L [(12, y59_12), (16, y59_16)])   ) rfl ok_isGood nm_isGood ⟨rfl, rfl⟩ ⟨Nat.le_of_ble_eq_true rfl, Nat.le_of_ble_eq_true rfl⟩ dX12_readChain_64 rfl rfl (Nat.le_of_ble_eq_true rfl) ⟨Nat.zero_le _, Nat.zero_le _⟩ (fun r78 σr78 H locs ir78 hp79 hM => ?_)
        obtain ⟨rfl, hp79⟩ := hp79
        unfold inr at ir78
        have hp79 : 0 ≤ r78 ∧ r78 ≤ 1 ∧ (r78 = 1 ↔ (y59_5) = 0) := hp79
        refine q_ieq (tgt := 167) B dX12_readChain_67 (by decide) (by unfold inr; omega) (fun c80 => ?_) (fun c80 => ?_)
        · refine lv_aload_n B.1 B.2.1 dX12_readChain_167 rfl (lv_at hl 0 rfl) ?_
          refine m_calli (n := 0) (rest := []) B hM hA hl.1 (k_isGood l D dA h0 ad (up f [(8, y59_8), (9, y59_9), (7, y59_7), (10, y59_10), (5, y59_5), (6, y59_6), (15, y59_15), (22, y59_22), (57, y59_57)]) (up g [(11, y59_11)]) (up A [(13, y59_13), (14, y59_14), (17, y59_17), (18, y59_18), (19, y59_19), (20, y59_20), (21, y59_21), (25, y59_25)]) (up L [(12, y59_12), (16, y59_16)])   ) rfl ok_isGood nm_isGood ⟨rfl, rfl⟩ ⟨Nat.le_of_ble_eq_true rfl, Nat.le_of_ble_eq_true rfl⟩ dX12_readChain_168 rfl rfl (Nat.le_of_ble_eq_true rfl) ⟨Nat.zero_le _, Nat.zero_le _⟩ (fun r81 σr81 H locs ir81 hp82 hM => ?_)
          obtain ⟨rfl, hp82⟩ := hp82
          unfold inr at ir81
          have hp82 : 0 ≤ r81 ∧ r81 ≤ 1 ∧ (r81 = 1 ↔ (y59_5) = 0) := hp82
          refine q_ieq (tgt := 180) B dX12_readChain_171 (by decide) (by unfold inr; omega) (fun c83 => ?_) (fun c83 => ?_)
          · subst hPST
            exact m_vret B hM dX12_readChain_180 ⟨y59_8, y59_9, y59_7, y59_10, y59_5, y59_6, y59_15, y59_22, y59_57, y59_11, y59_13, y59_14, y59_17, y59_18, y59_19, y59_20, y59_21, y59_25, y59_12, y59_16, rfl, by (refine ⟨by omega, by omega, by first | omega | (simp only [wr_at]; omega) | assumption, by omega, by omega, by omega, by omega, ?_, by assumption, by assumption, ?_⟩; first | assumption | exact Fr1_rfl | exact Fr1_wr Fr1_rfl; first | assumption | exact APe_rfl | exact APe_trans (by assumption) (by assumption) (by omega))⟩
          · refine lv_aload_n B.1 B.2.1 dX12_readChain_174 rfl (lv_at hl 0 rfl) ?_
            refine q_bip B dX12_readChain_175 (by decide) ?_
            refine m_callv (n := 1) (rest := []) B hM hA hl.1 (k_must l D dA h0 ad (up f [(8, y59_8), (9, y59_9), (7, y59_7), (10, y59_10), (5, y59_5), (6, y59_6), (15, y59_15), (22, y59_22), (57, y59_57)]) (up g [(11, y59_11)]) (up A [(13, y59_13), (14, y59_14), (17, y59_17), (18, y59_18), (19, y59_19), (20, y59_20), (21, y59_21), (25, y59_25)]) (up L [(12, y59_12), (16, y59_16)]) 59 (by omega) (by first | omega | (simp only [wr_at]; omega) | assumption)) rfl ok_must nm_must ⟨rfl, rfl⟩ ⟨Nat.le_of_ble_eq_true rfl, Nat.le_of_ble_eq_true rfl⟩ dX12_readChain_177 rfl rfl (Nat.le_of_ble_eq_true rfl) ⟨Nat.zero_le _, Nat.zero_le _⟩ (fun σr84 H locs hp85 hM => ?_)
            obtain ⟨x86, x87, x88, x89, x90, x91, w92, rfl, hp85⟩ := hp85
            have hp85 : ((0 ≤ (x86) ∧ (x86) ≤ (f 4) ∧ (x87) ≤ (f 4) + 1 ∧ ((x88) = 0 ↔ (x86) = (f 4)) ∧ (2 ≤ (x88) → (x86) < (x87) ∧ (x87) ≤ (f 4)) ∧ ((x88) = 5 → (x86) + 2 ≤ (x87) ∧ (x87) ≤ (x86) + 32))) ∧ (y59_8) ≤ (x86) ∧ ((x90) = 0 → (y59_5) = 0 ∧ (y59_8) + 1 ≤ (x86) ∧ (y59_9) ≤ (x86)) := hp85
            simp only [up_up] at hM
            have hM : MWd D dA h0 ad (mF dA h0 ad (f, g, A, L) s.heap.size) s.heap ((up f [(8, x86), (9, x87), (7, x88), (10, x89), (5, x90), (6, x91), (15, y59_15), (22, y59_22), (57, y59_57)]), (up g [(11, w92)]), (up A [(13, y59_13), (14, y59_14), (17, y59_17), (18, y59_18), (19, y59_19), (20, y59_20), (21, y59_21), (25, y59_25)]), (up L [(12, y59_12), (16, y59_16)])) H locs := hM
            have r93 : (0 : Int) ≤ x86 ∧ x86 ≤ 3001 := hM.2.2.2.1 8
            have r94 : (0 : Int) ≤ x87 ∧ x87 ≤ 3002 := hM.2.2.2.1 9
            have r95 : (0 : Int) ≤ x88 ∧ x88 ≤ 6 := hM.2.2.2.1 7
            have r96 : (-2147483648 : Int) ≤ x89 ∧ x89 ≤ 2147483647 := hM.2.2.2.1 10
            have r97 : (-2147483648 : Int) ≤ x90 ∧ x90 ≤ 2147483647 := hM.2.2.2.1 5
            have r98 : (-2147483648 : Int) ≤ x91 ∧ x91 ≤ 2147483647 := hM.2.2.2.1 6
            subst hPST
            exact m_vret B hM dX12_readChain_180 ⟨x86, x87, x88, x89, x90, x91, y59_15, y59_22, y59_57, w92, y59_13, y59_14, y59_17, y59_18, y59_19, y59_20, y59_21, y59_25, y59_12, y59_16, rfl, by (refine ⟨by omega, by omega, by first | omega | (simp only [wr_at]; omega) | assumption, by omega, by omega, by omega, by omega, ?_, by assumption, by assumption, ?_⟩; first | assumption | exact Fr1_rfl | exact Fr1_wr Fr1_rfl; first | assumption | exact APe_rfl | exact APe_trans (by assumption) (by assumption) (by omega))⟩
        · refine lv_aload_n B.1 B.2.1 dX12_readChain_70 rfl (lv_at hl 0 rfl) ?_
          refine m_callv (n := 0) (rest := []) B hM hA hl.1 (k_next l D dA h0 ad (up f [(8, y59_8), (9, y59_9), (7, y59_7), (10, y59_10), (5, y59_5), (6, y59_6), (15, y59_15), (22, y59_22), (57, y59_57)]) (up g [(11, y59_11)]) (up A [(13, y59_13), (14, y59_14), (17, y59_17), (18, y59_18), (19, y59_19), (20, y59_20), (21, y59_21), (25, y59_25)]) (up L [(12, y59_12), (16, y59_16)])   (by first | omega | (simp only [wr_at]; omega) | assumption)) rfl ok_next nm_next ⟨rfl, rfl⟩ ⟨Nat.le_of_ble_eq_true rfl, Nat.le_of_ble_eq_true rfl⟩ dX12_readChain_71 rfl rfl (Nat.le_of_ble_eq_true rfl) ⟨Nat.zero_le _, Nat.zero_le _⟩ (fun σr99 H locs hp100 hM => ?_)
          obtain ⟨x101, x102, x103, x104, w105, rfl, hp100⟩ := hp100
          have hp100 : ((f 9) ≤ (x101) ∨ (x101) = (f 4)) ∧ (0 ≤ (x101) ∧ (x101) ≤ (f 4) ∧ (x102) ≤ (f 4) + 1 ∧ ((x103) = 0 ↔ (x101) = (f 4)) ∧ (2 ≤ (x103) → (x101) < (x102) ∧ (x102) ≤ (f 4)) ∧ ((x103) = 5 → (x101) + 2 ≤ (x102) ∧ (x102) ≤ (x101) + 32)) := hp100
          simp only [up_up] at hM
          have hM : MWd D dA h0 ad (mF dA h0 ad (f, g, A, L) s.heap.size) s.heap ((up f [(8, x101), (9, x102), (7, x103), (10, x104), (5, y59_5), (6, y59_6), (15, y59_15), (22, y59_22), (57, y59_57)]), (up g [(11, w105)]), (up A [(13, y59_13), (14, y59_14), (17, y59_17), (18, y59_18), (19, y59_19), (20, y59_20), (21, y59_21), (25, y59_25)]), (up L [(12, y59_12), (16, y59_16)])) H locs := hM
          have r106 : (0 : Int) ≤ x101 ∧ x101 ≤ 3001 := hM.2.2.2.1 8
          have r107 : (0 : Int) ≤ x102 ∧ x102 ≤ 3002 := hM.2.2.2.1 9
          have r108 : (0 : Int) ≤ x103 ∧ x103 ≤ 6 := hM.2.2.2.1 7
          have r109 : (-2147483648 : Int) ≤ x104 ∧ x104 ≤ 2147483647 := hM.2.2.2.1 10
          refine q_bip B dX12_readChain_74 (by decide) ?_
          refine lv_aload_n B.1 B.2.1 dX12_readChain_76 rfl (lv_at hl 0 rfl) ?_
          refine m_get (k := 3) (v := f 3) B hM (by decide) rfl fl11 dX12_readChain_77 rfl ?_
          have r110 : (0 : Int) ≤ f 3 ∧ f 3 ≤ 1 := hM.2.2.2.1 3
          refine q_mul B dX12_readChain_80 ?_
          refine lv_iload_n B.1 B.2.1 dX12_readChain_81 rfl (lv_at hl 1 rfl) ?_
          refine q_add B dX12_readChain_82 ?_
          refine lv_istore_n (lv' := [(3, .int (II ((6 * (f 3)) + v59_1))), (0, .ref h0), (1, .int (II v59_1)), (2, .int (II v59_2))]) B.1 B.2.1 dX12_readChain_83 rfl hl (by decide) rfl (fun ls hl => ?_)
          refine lv_aload_n B.1 B.2.1 dX12_readChain_84 rfl (lv_at hl 1 rfl) ?_
          refine m_geta (k := 25) B hM (by decide) rfl fl169 dX12_readChain_85 ?_
          refine lv_iload_n B.1 B.2.1 dX12_readChain_88 rfl (lv_at hl 0 rfl) ?_
          refine m_ild (k := 25) (i := 13) (n := 12) (z := (6 * (f 3)) + v59_1) (v := y59_25 ((6 * (f 3)) + v59_1).toNat) B hM rfl rfl rfl (by decide) dX12_readChain_89 (by omega) (by omega) rfl ?_
          have r111 : (0 : Int) ≤ y59_25 ((6 * (f 3)) + v59_1).toNat ∧ y59_25 ((6 * (f 3)) + v59_1).toNat ≤ 9 := hM.2.2.2.2 25 ((6 * (f 3)) + v59_1).toNat
          refine q_bip B dX12_readChain_90 (by decide) ?_
          refine q_cne (tgt := 107) B dX12_readChain_92 (by decide) (by unfold inr; omega) (by unfold inr; omega) (fun c112 => ?_) (fun c112 => ?_)
          · exact JJ107 v59_1 v59_2 ((6 * (f 3)) + v59_1) x101 x102 x103 x104 y59_5 y59_6 y59_15 y59_22 y59_57 w105 y59_13 y59_14 y59_17 y59_18 y59_19 y59_20 y59_21 y59_25 y59_12 y59_16 _ _ ls hM (lv_sub hl [1, 2, 2, 3, 0] rfl) (by omega) (by omega) (by omega) (by first | omega | (simp only [wr_at]; omega) | assumption) (by first | omega | (simp only [wr_at]; omega) | assumption) (by first | omega | (simp only [wr_at]; omega) | assumption) (by first | omega | (simp only [wr_at]; omega) | assumption) (by first | omega | (simp only [wr_at]; omega) | assumption) (by first | omega | (simp only [wr_at]; omega) | assumption) (by first | omega | (simp only [wr_at]; omega) | assumption) (by first | omega | (simp only [wr_at]; omega) | assumption) (by first | omega | (simp only [wr_at]; omega) | assumption) (by first | omega | (simp only [wr_at]; omega) | assumption) (by first | omega | (simp only [wr_at]; omega) | assumption) (by first | omega | (simp only [wr_at]; omega) | assumption) (by first | omega | (simp only [wr_at]; omega) | assumption) (by first | omega | (simp only [wr_at]; omega) | assumption) (by first | assumption | exact Fr1_wr (by assumption)) (by first | omega | (simp only [wr_at]; omega) | assumption) (by first | omega | (simp only [wr_at]; omega) | assumption) (by first | assumption | exact APe_rfl | exact APe_trans (by assumption) (by assumption) (by omega))
          · refine lv_aload_n B.1 B.2.1 dX12_readChain_95 rfl (lv_at hl 1 rfl) ?_
            refine m_get (k := 7) (v := x103) B hM (by decide) rfl fl66 dX12_readChain_96 rfl ?_
            refine q_con B dX12_readChain_99 ?_
            refine q_cne (tgt := 107) B dX12_readChain_100 (by decide) (by unfold inr; omega) (by unfold inr; omega) (fun c113 => ?_) (fun c113 => ?_)
            · exact JJ107 v59_1 v59_2 ((6 * (f 3)) + v59_1) x101 x102 x103 x104 y59_5 y59_6 y59_15 y59_22 y59_57 w105 y59_13 y59_14 y59_17 y59_18 y59_19 y59_20 y59_21 y59_25 y59_12 y59_16 _ _ ls hM (lv_sub hl [1, 2, 2, 3, 0] rfl) (by omega) (by omega) (by omega) (by first | omega | (simp only [wr_at]; omega) | assumption) (by first | omega | (simp only [wr_at]; omega) | assumption) (by first | omega | (simp only [wr_at]; omega) | assumption) (by first | omega | (simp only [wr_at]; omega) | assumption) (by first | omega | (simp only [wr_at]; omega) | assumption) (by first | omega | (simp only [wr_at]; omega) | assumption) (by first | omega | (simp only [wr_at]; omega) | assumption) (by first | omega | (simp only [wr_at]; omega) | assumption) (by first | omega | (simp only [wr_at]; omega) | assumption) (by first | omega | (simp only [wr_at]; omega) | assumption) (by first | omega | (simp only [wr_at]; omega) | assumption) (by first | omega | (simp only [wr_at]; omega) | assumption) (by first | omega | (simp only [wr_at]; omega) | assumption) (by first | omega | (simp only [wr_at]; omega) | assumption) (by first | assumption | exact Fr1_wr (by assumption)) (by first | omega | (simp only [wr_at]; omega) | assumption) (by first | omega | (simp only [wr_at]; omega) | assumption) (by first | assumption | exact APe_rfl | exact APe_trans (by assumption) (by assumption) (by omega))
            · refine lv_aload_n B.1 B.2.1 dX12_readChain_103 rfl (lv_at hl 1 rfl) ?_
              refine m_callv (n := 0) (rest := []) B hM hA hl.1 (k_wrong2 l D dA h0 ad (up f [(8, x101), (9, x102), (7, x103), (10, x104), (5, y59_5), (6, y59_6), (15, y59_15), (22, y59_22), (57, y59_57)]) (up g [(11, w105)]) (up A [(13, y59_13), (14, y59_14), (17, y59_17), (18, y59_18), (19, y59_19), (20, y59_20), (21, y59_21), (25, y59_25)]) (up L [(12, y59_12), (16, y59_16)])   ) rfl ok_wrong2 nm_wrong2 ⟨rfl, rfl⟩ ⟨Nat.le_of_ble_eq_true rfl, Nat.le_of_ble_eq_true rfl⟩ dX12_readChain_104 rfl rfl (Nat.le_of_ble_eq_true rfl) ⟨Nat.zero_le _, Nat.zero_le _⟩ (fun σr114 H locs hp115 hM => ?_)
              obtain ⟨x116, x117, rfl, hp115⟩ := hp115
              have hp115 : (x116) ≠ 0 := hp115
              simp only [up_up] at hM
              have hM : MWd D dA h0 ad (mF dA h0 ad (f, g, A, L) s.heap.size) s.heap ((up f [(8, x101), (9, x102), (7, x103), (10, x104), (5, x116), (6, x117), (15, y59_15), (22, y59_22), (57, y59_57)]), (up g [(11, w105)]), (up A [(13, y59_13), (14, y59_14), (17, y59_17), (18, y59_18), (19, y59_19), (20, y59_20), (21, y59_21), (25, y59_25)]), (up L [(12, y59_12), (16, y59_16)])) H locs := hM
              have r118 : (-2147483648 : Int) ≤ x116 ∧ x116 ≤ 2147483647 := hM.2.2.2.1 5
              have r119 : (-2147483648 : Int) ≤ x117 ∧ x117 ≤ 2147483647 := hM.2.2.2.1 6
              exact JJ107 v59_1 v59_2 ((6 * (f 3)) + v59_1) x101 x102 x103 x104 x116 x117 y59_15 y59_22 y59_57 w105 y59_13 y59_14 y59_17 y59_18 y59_19 y59_20 y59_21 y59_25 y59_12 y59_16 _ _ ls hM (lv_sub hl [1, 2, 2, 3, 0] rfl) (by omega) (by omega) (by omega) (by first | omega | (simp only [wr_at]; omega) | assumption) (by first | omega | (simp only [wr_at]; omega) | assumption) (by first | omega | (simp only [wr_at]; omega) | assumption) (by first | omega | (simp only [wr_at]; omega) | assumption) (by first | omega | (simp only [wr_at]; omega) | assumption) (by first | omega | (simp only [wr_at]; omega) | assumption) (by first | omega | (simp only [wr_at]; omega) | assumption) (by first | omega | (simp only [wr_at]; omega) | assumption) (by first | omega | (simp only [wr_at]; omega) | assumption) (by first | omega | (simp only [wr_at]; omega) | assumption) (by first | omega | (simp only [wr_at]; omega) | assumption) (by first | omega | (simp only [wr_at]; omega) | assumption) (by first | omega | (simp only [wr_at]; omega) | assumption) (by first | omega | (simp only [wr_at]; omega) | assumption) (by first | assumption | exact Fr1_wr (by assumption)) (by first | omega | (simp only [wr_at]; omega) | assumption) (by first | omega | (simp only [wr_at]; omega) | assumption) (by first | assumption | exact APe_rfl | exact APe_trans (by assumption) (by assumption) (by omega))
  refine lv_aload_n B.1 B.2.1 dX12_readChain_0 rfl (lv_at hl 0 rfl) ?_
  refine m_get (k := 57) (v := f 57) B hM (by decide) rfl fl446 dX12_readChain_1 rfl ?_
  have r120 : (0 : Int) ≤ f 57 ∧ f 57 ≤ 6 := hM.2.2.2.1 57
  refine lv_istore_n (lv' := [(1, .int (II (f 57))), (0, .ref h0)]) B.1 B.2.1 dX12_readChain_4 rfl hl (by decide) rfl (fun ls hl => ?_)
  refine lv_aload_n B.1 B.2.1 dX12_readChain_5 rfl (lv_at hl 1 rfl) ?_
  refine q_con B dX12_readChain_6 ?_
  refine lv_iload_n B.1 B.2.1 dX12_readChain_7 rfl (lv_at hl 0 rfl) ?_
  refine m_callv (n := 2) (rest := []) B hM hA hl.1 (k_tell l D dA h0 ad (up f [(8, f 8), (9, f 9), (7, f 7), (10, f 10), (5, f 5), (6, f 6), (15, f 15), (22, f 22), (57, f 57)]) (up g [(11, g 11)]) (up A [(13, (A 13)), (14, (A 14)), (17, (A 17)), (18, (A 18)), (19, (A 19)), (20, (A 20)), (21, (A 21)), (25, (A 25))]) (up L [(12, (L 12)), (16, (L 16))]) 2 (f 57) (by omega) (by omega) (by first | omega | (simp only [wr_at]; omega) | assumption) (by first | omega | (simp only [wr_at]; omega) | assumption) (by first | omega | (simp only [wr_at]; omega) | assumption) (by first | omega | (simp only [wr_at]; omega) | assumption) (by first | omega | (simp only [wr_at]; omega) | assumption) (by first | omega | (simp only [wr_at]; omega) | assumption) (by first | omega | (simp only [wr_at]; omega) | assumption) (by first | omega | (simp only [wr_at]; omega) | assumption)) rfl ok_tell nm_tell ⟨rfl, rfl⟩ ⟨Nat.le_of_ble_eq_true rfl, Nat.le_of_ble_eq_true rfl⟩ dX12_readChain_8 rfl rfl (Nat.le_of_ble_eq_true rfl) ⟨Nat.zero_le _, Nat.zero_le _⟩ (fun σr121 H locs hp122 hM => ?_)
  obtain ⟨x123, x124, x125, x126, x127, x128, x129, w130, b131, b132, b133, rfl, hp122⟩ := hp122
  have hp122 : ((0 ≤ (x123) ∧ (x123) ≤ (f 4) ∧ (x124) ≤ (f 4) + 1 ∧ ((x125) = 0 ↔ (x123) = (f 4)) ∧ (2 ≤ (x125) → (x123) < (x124) ∧ (x124) ≤ (f 4)) ∧ ((x125) = 5 → (x123) + 2 ≤ (x124) ∧ (x124) ≤ (x123) + 32))) ∧ (f 8) ≤ (x123) ∧ ((x127) = 0 → (f 5) = 0 ∧ (f 8) + 1 ≤ (x123) ∧ (x129) = (f 15) + 1) ∧ (f 15) ≤ (x129) ∧ (x129) ≤ (f 15) + 1 ∧ NIp (x129) (f 3) b131 b132 := hp122
  simp only [up_up] at hM
  have hM : MWd D dA h0 ad (mF dA h0 ad (f, g, A, L) s.heap.size) s.heap ((up f [(8, x123), (9, x124), (7, x125), (10, x126), (5, x127), (6, x128), (15, x129), (22, f 22), (57, f 57)]), (up g [(11, w130)]), (up A [(13, b131), (14, b132), (17, (A 17)), (18, (A 18)), (19, (A 19)), (20, (A 20)), (21, (A 21)), (25, (A 25))]), (up L [(12, b133), (16, (L 16))])) H locs := hM
  have r134 : (0 : Int) ≤ x123 ∧ x123 ≤ 3001 := hM.2.2.2.1 8
  have r135 : (0 : Int) ≤ x124 ∧ x124 ≤ 3002 := hM.2.2.2.1 9
  have r136 : (0 : Int) ≤ x125 ∧ x125 ≤ 6 := hM.2.2.2.1 7
  have r137 : (-2147483648 : Int) ≤ x126 ∧ x126 ≤ 2147483647 := hM.2.2.2.1 10
  have r138 : (-2147483648 : Int) ≤ x127 ∧ x127 ≤ 2147483647 := hM.2.2.2.1 5
  have r139 : (-2147483648 : Int) ≤ x128 ∧ x128 ≤ 2147483647 := hM.2.2.2.1 6
  have r140 : (0 : Int) ≤ x129 ∧ x129 ≤ 64 := hM.2.2.2.1 15
  refine lv_aload_n B.1 B.2.1 dX12_readChain_11 rfl (lv_at hl 1 rfl) ?_
  refine m_calli (n := 0) (rest := []) B hM hA hl.1 (k_isGood l D dA h0 ad (up f [(8, x123), (9, x124), (7, x125), (10, x126), (5, x127), (6, x128), (15, x129), (22, f 22), (57, f 57)]) (up g [(11, w130)]) (up A [(13, b131), (14, b132), (17, (A 17)), (18, (A 18)), (19, (A 19)), (20, (A 20)), (21, (A 21)), (25, (A 25))]) (up L [(12, b133), (16, (L 16))])   ) rfl ok_isGood nm_isGood ⟨rfl, rfl⟩ ⟨Nat.le_of_ble_eq_true rfl, Nat.le_of_ble_eq_true rfl⟩ dX12_readChain_12 rfl rfl (Nat.le_of_ble_eq_true rfl) ⟨Nat.zero_le _, Nat.zero_le _⟩ (fun r141 σr141 H locs ir141 hp142 hM => ?_)
  obtain ⟨rfl, hp142⟩ := hp142
  unfold inr at ir141
  have hp142 : 0 ≤ r141 ∧ r141 ≤ 1 ∧ (r141 = 1 ↔ (x127) = 0) := hp142
  refine q_ine (tgt := 19) B dX12_readChain_15 (by decide) (by unfold inr; omega) (fun c143 => ?_) (fun c143 => ?_)
  · refine lv_aload_n B.1 B.2.1 dX12_readChain_19 rfl (lv_at hl 1 rfl) ?_
    refine lv_dup B.1 B.2.1 dX12_readChain_20 rfl ?_
    refine m_get (k := 57) (v := f 57) B hM (by decide) rfl fl446 dX12_readChain_21 rfl ?_
    refine q_con B dX12_readChain_24 ?_
    refine q_add B dX12_readChain_25 ?_
    refine m_put (k := 57) B hM (by decide) rfl fl446 rfl dX12_readChain_26 rfl rfl (show (0 : Int) ≤ (f 57) + 1 by omega) (show (f 57) + 1 ≤ (6 : Int) by omega) (u1_up f [(8, x123), (9, x124), (7, x125), (10, x126), (5, x127), (6, x128), (15, x129), (22, f 22), (57, f 57)] 57 ((f 57) + 1)) (fun H locs hM => ?_)
    have hM : MWd D dA h0 ad (mF dA h0 ad (f, g, A, L) s.heap.size) s.heap ((up f [(8, x123), (9, x124), (7, x125), (10, x126), (5, x127), (6, x128), (15, x129), (22, f 22), (57, (f 57) + 1)]), (up g [(11, w130)]), (up A [(13, b131), (14, b132), (17, (A 17)), (18, (A 18)), (19, (A 19)), (20, (A 20)), (21, (A 21)), (25, (A 25))]), (up L [(12, b133), (16, (L 16))])) H locs := hM
    refine lv_aload_n B.1 B.2.1 dX12_readChain_29 rfl (lv_at hl 1 rfl) ?_
    refine m_geta (k := 25) B hM (by decide) rfl fl169 dX12_readChain_30 ?_
    refine q_bip B dX12_readChain_33 (by decide) ?_
    refine lv_aload_n B.1 B.2.1 dX12_readChain_35 rfl (lv_at hl 1 rfl) ?_
    refine m_get (k := 3) (v := f 3) B hM (by decide) rfl fl11 dX12_readChain_36 rfl ?_
    have r144 : (0 : Int) ≤ f 3 ∧ f 3 ≤ 1 := hM.2.2.2.1 3
    refine q_mul B dX12_readChain_39 ?_
    refine lv_iload_n B.1 B.2.1 dX12_readChain_40 rfl (lv_at hl 0 rfl) ?_
    refine q_add B dX12_readChain_41 ?_
    refine q_con B dX12_readChain_42 ?_
    refine m_ist (k := 25) (i := 13) (n := 12) B hM rfl rfl rfl (by decide) dX12_readChain_43 (by omega) (by omega) (show (0 : Int) ≤ 0 by omega) (show 0 ≤ (9 : Int) by omega) (u1_up A [(13, b131), (14, b132), (17, (A 17)), (18, (A 18)), (19, (A 19)), (20, (A 20)), (21, (A 21)), (25, (A 25))] 25 (wr (A 25) ((6 * (f 3)) + (f 57)) 0)) (fun H locs hM => ?_)
    have hM : MWd D dA h0 ad (mF dA h0 ad (f, g, A, L) s.heap.size) s.heap ((up f [(8, x123), (9, x124), (7, x125), (10, x126), (5, x127), (6, x128), (15, x129), (22, f 22), (57, (f 57) + 1)]), (up g [(11, w130)]), (up A [(13, b131), (14, b132), (17, (A 17)), (18, (A 18)), (19, (A 19)), (20, (A 20)), (21, (A 21)), (25, (wr (A 25) ((6 * (f 3)) + (f 57)) 0))]), (up L [(12, b133), (16, (L 16))])) H locs := hM
    refine lv_aload_n B.1 B.2.1 dX12_readChain_44 rfl (lv_at hl 1 rfl) ?_
    refine q_bip B dX12_readChain_45 (by decide) ?_
    refine m_calli (n := 1) (rest := []) B hM hA hl.1 (k_isSign l D dA h0 ad (up f [(8, x123), (9, x124), (7, x125), (10, x126), (5, x127), (6, x128), (15, x129), (22, f 22), (57, (f 57) + 1)]) (up g [(11, w130)]) (up A [(13, b131), (14, b132), (17, (A 17)), (18, (A 18)), (19, (A 19)), (20, (A 20)), (21, (A 21)), (25, (wr (A 25) ((6 * (f 3)) + (f 57)) 0))]) (up L [(12, b133), (16, (L 16))]) 58 (by omega) (by first | omega | (simp only [wr_at]; omega) | assumption)) rfl ok_isSign nm_isSign ⟨rfl, rfl⟩ ⟨Nat.le_of_ble_eq_true rfl, Nat.le_of_ble_eq_true rfl⟩ dX12_readChain_47 rfl rfl (Nat.le_of_ble_eq_true rfl) ⟨Nat.zero_le _, Nat.zero_le _⟩ (fun r145 σr145 H locs ir145 hp146 hM => ?_)
    obtain ⟨rfl, hp146⟩ := hp146
    unfold inr at ir145
    have hp146 : 0 ≤ r145 ∧ r145 ≤ 1 ∧ (r145 = 1 ↔ (x125) = 6 ∧ sgn ((A 2)) (f 3) (f 4) (x123) = (58)) := hp146
    refine q_ine (tgt := 57) B dX12_readChain_50 (by decide) (by unfold inr; omega) (fun c147 => ?_) (fun c147 => ?_)
    · refine q_con B dX12_readChain_57 ?_
      refine lv_istore_n (lv' := [(2, .int (II 1)), (1, .int (II (f 57))), (0, .ref h0)]) B.1 B.2.1 dX12_readChain_58 rfl hl (by decide) rfl (fun ls hl => ?_)
      exact LL59 (10 - (wr (A 25) ((6 * (f 3)) + (f 57)) 0) (6 * (f 3) + (f 57)).toNat + 1).toNat (f 57) 1 x123 x124 x125 x126 x127 x128 x129 (f 22) ((f 57) + 1) w130 b131 b132 ((A 17)) ((A 18)) ((A 19)) ((A 20)) ((A 21)) ((wr (A 25) ((6 * (f 3)) + (f 57)) 0)) b133 ((L 16)) _ _ ls hM (lv_sub hl [2, 1, 0] rfl) (by omega) (by omega) (by first | omega | (simp only [wr_at]; omega) | assumption) (by first | omega | (simp only [wr_at]; omega) | assumption) (by first | omega | (simp only [wr_at]; omega) | assumption) (by first | omega | (simp only [wr_at]; omega) | assumption) (by first | omega | (simp only [wr_at]; omega) | assumption) (by first | omega | (simp only [wr_at]; omega) | assumption) (by first | omega | (simp only [wr_at]; omega) | assumption) (by first | omega | (simp only [wr_at]; omega) | assumption) (by first | omega | (simp only [wr_at]; omega) | assumption) (by first | omega | (simp only [wr_at]; omega) | assumption) (by first | omega | (simp only [wr_at]; omega) | assumption) (by first | omega | (simp only [wr_at]; omega) | assumption) (by first | omega | (simp only [wr_at]; omega) | assumption) (by first | omega | (simp only [wr_at]; omega) | assumption) (by first | assumption | exact Fr1_wr Fr1_rfl | exact Fr1_wr (by assumption)) (by first | omega | (simp only [wr_at]; omega) | assumption) (by first | omega | (simp only [wr_at]; omega) | assumption) (by first | assumption | exact APe_rfl | exact APe_trans (by assumption) (by assumption) (by omega)) (by first | omega | (simp only [wr_at]; omega) | assumption) (by first | omega | (simp only [wr_at]; omega) | assumption)
    · refine lv_aload_n B.1 B.2.1 dX12_readChain_53 rfl (lv_at hl 1 rfl) ?_
      refine m_callv (n := 0) (rest := []) B hM hA hl.1 (k_wrong l D dA h0 ad (up f [(8, x123), (9, x124), (7, x125), (10, x126), (5, x127), (6, x128), (15, x129), (22, f 22), (57, (f 57) + 1)]) (up g [(11, w130)]) (up A [(13, b131), (14, b132), (17, (A 17)), (18, (A 18)), (19, (A 19)), (20, (A 20)), (21, (A 21)), (25, (wr (A 25) ((6 * (f 3)) + (f 57)) 0))]) (up L [(12, b133), (16, (L 16))])   ) rfl ok_wrong nm_wrong ⟨rfl, rfl⟩ ⟨Nat.le_of_ble_eq_true rfl, Nat.le_of_ble_eq_true rfl⟩ dX12_readChain_54 rfl rfl (Nat.le_of_ble_eq_true rfl) ⟨Nat.zero_le _, Nat.zero_le _⟩ (fun σr148 H locs hp149 hM => ?_)
      obtain ⟨x150, x151, rfl, hp149⟩ := hp149
      have hp149 : (x150) ≠ 0 := hp149
      simp only [up_up] at hM
      have hM : MWd D dA h0 ad (mF dA h0 ad (f, g, A, L) s.heap.size) s.heap ((up f [(8, x123), (9, x124), (7, x125), (10, x126), (5, x150), (6, x151), (15, x129), (22, f 22), (57, (f 57) + 1)]), (up g [(11, w130)]), (up A [(13, b131), (14, b132), (17, (A 17)), (18, (A 18)), (19, (A 19)), (20, (A 20)), (21, (A 21)), (25, (wr (A 25) ((6 * (f 3)) + (f 57)) 0))]), (up L [(12, b133), (16, (L 16))])) H locs := hM
      have r152 : (-2147483648 : Int) ≤ x150 ∧ x150 ≤ 2147483647 := hM.2.2.2.1 5
      have r153 : (-2147483648 : Int) ≤ x151 ∧ x151 ≤ 2147483647 := hM.2.2.2.1 6
      refine q_con B dX12_readChain_57 ?_
      refine lv_istore_n (lv' := [(2, .int (II 1)), (1, .int (II (f 57))), (0, .ref h0)]) B.1 B.2.1 dX12_readChain_58 rfl hl (by decide) rfl (fun ls hl => ?_)
      exact LL59 (10 - (wr (A 25) ((6 * (f 3)) + (f 57)) 0) (6 * (f 3) + (f 57)).toNat + 1).toNat (f 57) 1 x123 x124 x125 x126 x150 x151 x129 (f 22) ((f 57) + 1) w130 b131 b132 ((A 17)) ((A 18)) ((A 19)) ((A 20)) ((A 21)) ((wr (A 25) ((6 * (f 3)) + (f 57)) 0)) b133 ((L 16)) _ _ ls hM (lv_sub hl [2, 1, 0] rfl) (by omega) (by omega) (by first | omega | (simp only [wr_at]; omega) | assumption) (by first | omega | (simp only [wr_at]; omega) | assumption) (by first | omega | (simp only [wr_at]; omega) | assumption) (by first | omega | (simp only [wr_at]; omega) | assumption) (by first | omega | (simp only [wr_at]; omega) | assumption) (by first | omega | (simp only [wr_at]; omega) | assumption) (by first | omega | (simp only [wr_at]; omega) | assumption) (by first | omega | (simp only [wr_at]; omega) | assumption) (by first | omega | (simp only [wr_at]; omega) | assumption) (by first | omega | (simp only [wr_at]; omega) | assumption) (by first | omega | (simp only [wr_at]; omega) | assumption) (by first | omega | (simp only [wr_at]; omega) | assumption) (by first | omega | (simp only [wr_at]; omega) | assumption) (by first | omega | (simp only [wr_at]; omega) | assumption) (by first | assumption | exact Fr1_wr Fr1_rfl | exact Fr1_wr (by assumption)) (by first | omega | (simp only [wr_at]; omega) | assumption) (by first | omega | (simp only [wr_at]; omega) | assumption) (by first | assumption | exact APe_rfl | exact APe_trans (by assumption) (by assumption) (by omega)) (by first | omega | (simp only [wr_at]; omega) | assumption) (by first | omega | (simp only [wr_at]; omega) | assumption)
  · subst hPST
    exact m_vret B hM dX12_readChain_18 ⟨x123, x124, x125, x126, x127, x128, x129, (f 22), (f 57), w130, b131, b132, ((A 17)), ((A 18)), ((A 19)), ((A 20)), ((A 21)), ((A 25)), b133, ((L 16)), rfl, by (refine ⟨by omega, by omega, by first | omega | (simp only [wr_at]; omega) | assumption, by omega, by omega, by omega, by omega, ?_, by assumption, by assumption, ?_⟩; first | assumption | exact Fr1_rfl | exact Fr1_wr Fr1_rfl; first | assumption | exact APe_rfl | exact APe_trans (by assumption) (by assumption) (by omega))⟩
set_option maxHeartbeats 4000000 in
set_option maxRecDepth 20000 in
theorem k_isStep (l : Launch) (D : va_G) (dA : Nat → ClassId) (h0 : Nat) (ad : Nat → Nat) (f : Nat → Int) (g : Nat → Int64) (A : Nat → Nat → Int) (L : Nat → Nat → Int64) (a_starts : Int) (i_starts : (0 : Int) ≤ a_starts ∧ a_starts ≤ 1) (p_0 : (0 ≤ (f 8) ∧ (f 8) ≤ (f 4) ∧ (f 9) ≤ (f 4) + 1 ∧ ((f 7) = 0 ↔ (f 8) = (f 4)) ∧ (2 ≤ (f 7) → (f 8) < (f 9) ∧ (f 9) ≤ (f 4)) ∧ ((f 7) = 5 → (f 8) + 2 ≤ (f 9) ∧ (f 9) ≤ (f 8) + 32))) : MCi l yX12_isStep cX12_isStep 4 (some .boolean) ({ frames := 1, cells := 0, slots := 0, locals := 21 }) D dA h0 ad (f, g, A, L) [.int (II a_starts)] (fun r σ => σ = (f, g, A, L) ∧ (0 ≤ r ∧ r ≤ 1 ∧ (r = 1 → 2 ≤ (f 7)))) := by
  generalize hPST : (fun r σ => σ = (f, g, A, L) ∧ (0 ≤ r ∧ r ≤ 1 ∧ (r = 1 → 2 ≤ (f 7)))) = PST
  refine m_enter (by decide) rfl (Nat.le_of_ble_eq_true rfl) (fun p e s m args below meth c ls B hM hl => ?_)
  have hA : ∀ q, s.heap.size ≤ q → mF dA h0 ad (f, g, A, L) s.heap.size q := fun q h => Or.inr h
  have hl : lv_has ls 4 [(0, .ref h0), (1, .int (II a_starts))] := hl
  have LL88 : ∀ N : Nat, ∀ (v88_3 : Int) (v88_2 : Int) (H : Heap) (locs : List Loc) (ls : Array Slot), (MWd D dA h0 ad (mF dA h0 ad (f, g, A, L) s.heap.size) s.heap (f, g, A, L) H locs) → lv_has ls 4 [(0, .ref h0), (1, .int (II a_starts)), (3, .int (II v88_3)), (2, .int (II v88_2))] → ((-2147483648 : Int) ≤ v88_3 ∧ v88_3 ≤ 2147483647) → ((-2147483648 : Int) ≤ v88_2 ∧ v88_2 ≤ 2147483647) → (0 ≤ (v88_3)) → ((v88_3) ≤ (f 4) + 1) → (2 ≤ (f 7)) → (0 ≤ (f 4) + 1 - (v88_3)) → ((f 4) + 1 - (v88_3) < (N : Int)) → W p l e ({ frames := 1, cells := 0, slots := 0, locals := 21 }) s m args below meth c H locs 0 0 (MQ below (mQi D dA h0 ad (f, g, A, L) s.heap.size PST) args s 0 0 (mF dA h0 ad (f, g, A, L) s.heap.size)) (F0 m 88 ls []) := by
    intro N
    induction N with
    | zero => intro v88_3 v88_2 H locs ls hM hl hLL88_0 hLL88_1 hLL88_2 hLL88_3 hLL88_4 hLL88_5 hN; exfalso; omega
    | succ N IH88 =>
      intro v88_3 v88_2 H locs ls hM hl hLL88_0 hLL88_1 hLL88_2 hLL88_3 hLL88_4 hLL88_5 hN
      refine lv_aload_n B.1 B.2.1 dX12_isStep_88 rfl (lv_at hl 0 rfl) ?_
      refine lv_iload_n B.1 B.2.1 dX12_isStep_89 rfl (lv_at hl 2 rfl) ?_
      refine m_calli (n := 1) (rest := []) B hM hA hl.1 (k_sign l D dA h0 ad f g A L v88_3 (by omega) (by first | omega | (simp only [wr_at]; omega) | assumption) (by first | omega | (simp only [wr_at]; omega) | assumption)) rfl ok_sign nm_sign ⟨rfl, rfl⟩ ⟨Nat.le_of_ble_eq_true rfl, Nat.le_of_ble_eq_true rfl⟩ dX12_isStep_90 rfl rfl (Nat.le_of_ble_eq_true rfl) ⟨Nat.zero_le _, Nat.zero_le _⟩ (fun r1 σr1 H locs ir1 hp2 hM => ?_)
      obtain ⟨rfl, hp2⟩ := hp2
      unfold inr at ir1
      have hp2 : r1 = sgn ((A 2)) (f 3) (f 4) (v88_3) ∧ 0 ≤ r1 ∧ r1 ≤ 255 ∧ (r1 ≠ 0 → (v88_3) < (f 4)) := hp2
      refine q_bip B dX12_isStep_93 (by decide) ?_
      refine q_ceq (tgt := 108) B dX12_isStep_95 (by decide) (by unfold inr; omega) (by unfold inr; omega) (fun c3 => ?_) (fun c3 => ?_)
      · refine q_inc (k := 2) (x := v88_3) (lv' := [(3, .int (II (v88_3 + 1))), (0, .ref h0), (1, .int (II a_starts)), (2, .int (II v88_2))]) B dX12_isStep_108 hl rfl (by decide) rfl (fun ls hl => ?_)
        refine lv_goto (tgt := 88) B.1 B.2.1 dX12_isStep_111 (by decide) ?_
        exact IH88 (v88_3 + 1) v88_2 _ _ ls hM (lv_sub hl [1, 2, 0, 3] rfl) (by omega) (by omega) (by first | omega | (simp only [wr_at]; omega) | assumption) (by first | omega | (simp only [wr_at]; omega) | assumption) (by first | omega | (simp only [wr_at]; omega) | assumption) (by first | omega | (simp only [wr_at]; omega) | assumption) (by first | omega | (simp only [wr_at]; omega) | assumption)
      · refine lv_aload_n B.1 B.2.1 dX12_isStep_98 rfl (lv_at hl 0 rfl) ?_
        refine lv_iload_n B.1 B.2.1 dX12_isStep_99 rfl (lv_at hl 2 rfl) ?_
        refine m_calli (n := 1) (rest := []) B hM hA hl.1 (k_sign l D dA h0 ad f g A L v88_3 (by omega) (by first | omega | (simp only [wr_at]; omega) | assumption) (by first | omega | (simp only [wr_at]; omega) | assumption)) rfl ok_sign nm_sign ⟨rfl, rfl⟩ ⟨Nat.le_of_ble_eq_true rfl, Nat.le_of_ble_eq_true rfl⟩ dX12_isStep_100 rfl rfl (Nat.le_of_ble_eq_true rfl) ⟨Nat.zero_le _, Nat.zero_le _⟩ (fun r4 σr4 H locs ir4 hp5 hM => ?_)
        obtain ⟨rfl, hp5⟩ := hp5
        unfold inr at ir4
        have hp5 : r4 = sgn ((A 2)) (f 3) (f 4) (v88_3) ∧ 0 ≤ r4 ∧ r4 ≤ 255 ∧ (r4 ≠ 0 → (v88_3) < (f 4)) := hp5
        refine q_bip B dX12_isStep_103 (by decide) ?_
        refine q_cne (tgt := 114) B dX12_isStep_105 (by decide) (by unfold inr; omega) (by unfold inr; omega) (fun c6 => ?_) (fun c6 => ?_)
        · refine lv_iload_n B.1 B.2.1 dX12_isStep_114 rfl (lv_at hl 1 rfl) ?_
          refine q_ieq (tgt := 128) B dX12_isStep_115 (by decide) (by unfold inr; omega) (fun c7 => ?_) (fun c7 => ?_)
          · refine q_con B dX12_isStep_128 ?_
            refine lv_goto (tgt := 133) B.1 B.2.1 dX12_isStep_129 (by decide) ?_
            subst hPST
            exact m_zret B hM dX12_isStep_133 (by omega) ⟨rfl, by omega⟩
          · refine lv_aload_n B.1 B.2.1 dX12_isStep_118 rfl (lv_at hl 0 rfl) ?_
            refine lv_iload_n B.1 B.2.1 dX12_isStep_119 rfl (lv_at hl 2 rfl) ?_
            refine m_calli (n := 1) (rest := []) B hM hA hl.1 (k_sign l D dA h0 ad f g A L v88_3 (by omega) (by first | omega | (simp only [wr_at]; omega) | assumption) (by first | omega | (simp only [wr_at]; omega) | assumption)) rfl ok_sign nm_sign ⟨rfl, rfl⟩ ⟨Nat.le_of_ble_eq_true rfl, Nat.le_of_ble_eq_true rfl⟩ dX12_isStep_120 rfl rfl (Nat.le_of_ble_eq_true rfl) ⟨Nat.zero_le _, Nat.zero_le _⟩ (fun r8 σr8 H locs ir8 hp9 hM => ?_)
            obtain ⟨rfl, hp9⟩ := hp9
            unfold inr at ir8
            have hp9 : r8 = sgn ((A 2)) (f 3) (f 4) (v88_3) ∧ 0 ≤ r8 ∧ r8 ≤ 255 ∧ (r8 ≠ 0 → (v88_3) < (f 4)) := hp9
            refine q_bip B dX12_isStep_123 (by decide) ?_
            refine q_cne (tgt := 132) B dX12_isStep_125 (by decide) (by unfold inr; omega) (by unfold inr; omega) (fun c10 => ?_) (fun c10 => ?_)
            · refine q_con B dX12_isStep_132 ?_
              subst hPST
              exact m_zret B hM dX12_isStep_133 (by omega) ⟨rfl, by omega⟩
            · refine q_con B dX12_isStep_128 ?_
              refine lv_goto (tgt := 133) B.1 B.2.1 dX12_isStep_129 (by decide) ?_
              subst hPST
              exact m_zret B hM dX12_isStep_133 (by omega) ⟨rfl, by omega⟩
        · refine q_inc (k := 2) (x := v88_3) (lv' := [(3, .int (II (v88_3 + 1))), (0, .ref h0), (1, .int (II a_starts)), (2, .int (II v88_2))]) B dX12_isStep_108 hl rfl (by decide) rfl (fun ls hl => ?_)
          refine lv_goto (tgt := 88) B.1 B.2.1 dX12_isStep_111 (by decide) ?_
          exact IH88 (v88_3 + 1) v88_2 _ _ ls hM (lv_sub hl [1, 2, 0, 3] rfl) (by omega) (by omega) (by first | omega | (simp only [wr_at]; omega) | assumption) (by first | omega | (simp only [wr_at]; omega) | assumption) (by first | omega | (simp only [wr_at]; omega) | assumption) (by first | omega | (simp only [wr_at]; omega) | assumption) (by first | omega | (simp only [wr_at]; omega) | assumption)
  refine lv_aload_n B.1 B.2.1 dX12_isStep_0 rfl (lv_at hl 0 rfl) ?_
  refine m_get (k := 7) (v := f 7) B hM (by decide) rfl fl66 dX12_isStep_1 rfl ?_
  have r11 : (0 : Int) ≤ f 7 ∧ f 7 ≤ 6 := hM.2.2.2.1 7
  refine q_con B dX12_isStep_4 ?_
  refine q_cne (tgt := 10) B dX12_isStep_5 (by decide) (by unfold inr; omega) (by unfold inr; omega) (fun c12 => ?_) (fun c12 => ?_)
  · refine lv_aload_n B.1 B.2.1 dX12_isStep_10 rfl (lv_at hl 0 rfl) ?_
    refine m_get (k := 7) (v := f 7) B hM (by decide) rfl fl66 dX12_isStep_11 rfl ?_
    refine q_con B dX12_isStep_14 ?_
    refine q_cne (tgt := 57) B dX12_isStep_15 (by decide) (by unfold inr; omega) (by unfold inr; omega) (fun c13 => ?_) (fun c13 => ?_)
    · refine lv_aload_n B.1 B.2.1 dX12_isStep_57 rfl (lv_at hl 0 rfl) ?_
      refine m_get (k := 7) (v := f 7) B hM (by decide) rfl fl66 dX12_isStep_58 rfl ?_
      refine q_bip B dX12_isStep_61 (by decide) ?_
      refine q_ceq (tgt := 68) B dX12_isStep_63 (by decide) (by unfold inr; omega) (by unfold inr; omega) (fun c14 => ?_) (fun c14 => ?_)
      · refine lv_aload_n B.1 B.2.1 dX12_isStep_68 rfl (lv_at hl 0 rfl) ?_
        refine lv_aload_n B.1 B.2.1 dX12_isStep_69 rfl (lv_at hl 0 rfl) ?_
        refine m_get (k := 8) (v := f 8) B hM (by decide) rfl fl59 dX12_isStep_70 rfl ?_
        have r15 : (0 : Int) ≤ f 8 ∧ f 8 ≤ 3001 := hM.2.2.2.1 8
        refine m_calli (n := 1) (rest := []) B hM hA hl.1 (k_sign l D dA h0 ad f g A L (f 8) (by omega) (by first | omega | (simp only [wr_at]; omega) | assumption) (by first | omega | (simp only [wr_at]; omega) | assumption)) rfl ok_sign nm_sign ⟨rfl, rfl⟩ ⟨Nat.le_of_ble_eq_true rfl, Nat.le_of_ble_eq_true rfl⟩ dX12_isStep_73 rfl rfl (Nat.le_of_ble_eq_true rfl) ⟨Nat.zero_le _, Nat.zero_le _⟩ (fun r16 σr16 H locs ir16 hp17 hM => ?_)
        obtain ⟨rfl, hp17⟩ := hp17
        unfold inr at ir16
        have hp17 : r16 = sgn ((A 2)) (f 3) (f 4) (f 8) ∧ 0 ≤ r16 ∧ r16 ≤ 255 ∧ (r16 ≠ 0 → (f 8) < (f 4)) := hp17
        refine lv_istore_n (lv' := [(2, .int (II r16)), (0, .ref h0), (1, .int (II a_starts))]) B.1 B.2.1 dX12_isStep_76 rfl hl (by decide) rfl (fun ls hl => ?_)
        refine lv_iload_n B.1 B.2.1 dX12_isStep_77 rfl (lv_at hl 0 rfl) ?_
        refine q_bip B dX12_isStep_78 (by decide) ?_
        refine q_cne (tgt := 134) B dX12_isStep_80 (by decide) (by unfold inr; omega) (by unfold inr; omega) (fun c18 => ?_) (fun c18 => ?_)
        · refine lv_iload_n B.1 B.2.1 dX12_isStep_134 rfl (lv_at hl 0 rfl) ?_
          refine q_bip B dX12_isStep_135 (by decide) ?_
          refine q_ceq (tgt := 194) B dX12_isStep_137 (by decide) (by unfold inr; omega) (by unfold inr; omega) (fun c19 => ?_) (fun c19 => ?_)
          · refine q_con B dX12_isStep_194 ?_
            refine lv_goto (tgt := 199) B.1 B.2.1 dX12_isStep_195 (by decide) ?_
            subst hPST
            exact m_zret B hM dX12_isStep_199 (by omega) ⟨rfl, by omega⟩
          · refine lv_iload_n B.1 B.2.1 dX12_isStep_140 rfl (lv_at hl 0 rfl) ?_
            refine q_bip B dX12_isStep_141 (by decide) ?_
            refine q_ceq (tgt := 194) B dX12_isStep_143 (by decide) (by unfold inr; omega) (by unfold inr; omega) (fun c20 => ?_) (fun c20 => ?_)
            · refine q_con B dX12_isStep_194 ?_
              refine lv_goto (tgt := 199) B.1 B.2.1 dX12_isStep_195 (by decide) ?_
              subst hPST
              exact m_zret B hM dX12_isStep_199 (by omega) ⟨rfl, by omega⟩
            · refine lv_iload_n B.1 B.2.1 dX12_isStep_146 rfl (lv_at hl 0 rfl) ?_
              refine q_bip B dX12_isStep_147 (by decide) ?_
              refine q_ceq (tgt := 194) B dX12_isStep_149 (by decide) (by unfold inr; omega) (by unfold inr; omega) (fun c21 => ?_) (fun c21 => ?_)
              · refine q_con B dX12_isStep_194 ?_
                refine lv_goto (tgt := 199) B.1 B.2.1 dX12_isStep_195 (by decide) ?_
                subst hPST
                exact m_zret B hM dX12_isStep_199 (by omega) ⟨rfl, by omega⟩
              · refine lv_iload_n B.1 B.2.1 dX12_isStep_152 rfl (lv_at hl 0 rfl) ?_
                refine q_bip B dX12_isStep_153 (by decide) ?_
                refine q_ceq (tgt := 194) B dX12_isStep_155 (by decide) (by unfold inr; omega) (by unfold inr; omega) (fun c22 => ?_) (fun c22 => ?_)
                · refine q_con B dX12_isStep_194 ?_
                  refine lv_goto (tgt := 199) B.1 B.2.1 dX12_isStep_195 (by decide) ?_
                  subst hPST
                  exact m_zret B hM dX12_isStep_199 (by omega) ⟨rfl, by omega⟩
                · refine lv_iload_n B.1 B.2.1 dX12_isStep_158 rfl (lv_at hl 0 rfl) ?_
                  refine q_bip B dX12_isStep_159 (by decide) ?_
                  refine q_ceq (tgt := 194) B dX12_isStep_161 (by decide) (by unfold inr; omega) (by unfold inr; omega) (fun c23 => ?_) (fun c23 => ?_)
                  · refine q_con B dX12_isStep_194 ?_
                    refine lv_goto (tgt := 199) B.1 B.2.1 dX12_isStep_195 (by decide) ?_
                    subst hPST
                    exact m_zret B hM dX12_isStep_199 (by omega) ⟨rfl, by omega⟩
                  · refine lv_iload_n B.1 B.2.1 dX12_isStep_164 rfl (lv_at hl 0 rfl) ?_
                    refine q_bip B dX12_isStep_165 (by decide) ?_
                    refine q_ceq (tgt := 194) B dX12_isStep_167 (by decide) (by unfold inr; omega) (by unfold inr; omega) (fun c24 => ?_) (fun c24 => ?_)
                    · refine q_con B dX12_isStep_194 ?_
                      refine lv_goto (tgt := 199) B.1 B.2.1 dX12_isStep_195 (by decide) ?_
                      subst hPST
                      exact m_zret B hM dX12_isStep_199 (by omega) ⟨rfl, by omega⟩
                    · refine lv_iload_n B.1 B.2.1 dX12_isStep_170 rfl (lv_at hl 0 rfl) ?_
                      refine q_bip B dX12_isStep_171 (by decide) ?_
                      refine q_ceq (tgt := 194) B dX12_isStep_173 (by decide) (by unfold inr; omega) (by unfold inr; omega) (fun c25 => ?_) (fun c25 => ?_)
                      · refine q_con B dX12_isStep_194 ?_
                        refine lv_goto (tgt := 199) B.1 B.2.1 dX12_isStep_195 (by decide) ?_
                        subst hPST
                        exact m_zret B hM dX12_isStep_199 (by omega) ⟨rfl, by omega⟩
                      · refine lv_iload_n B.1 B.2.1 dX12_isStep_176 rfl (lv_at hl 0 rfl) ?_
                        refine q_bip B dX12_isStep_177 (by decide) ?_
                        refine q_ceq (tgt := 194) B dX12_isStep_179 (by decide) (by unfold inr; omega) (by unfold inr; omega) (fun c26 => ?_) (fun c26 => ?_)
                        · refine q_con B dX12_isStep_194 ?_
                          refine lv_goto (tgt := 199) B.1 B.2.1 dX12_isStep_195 (by decide) ?_
                          subst hPST
                          exact m_zret B hM dX12_isStep_199 (by omega) ⟨rfl, by omega⟩
                        · refine lv_iload_n B.1 B.2.1 dX12_isStep_182 rfl (lv_at hl 0 rfl) ?_
                          refine q_bip B dX12_isStep_183 (by decide) ?_
                          refine q_ceq (tgt := 194) B dX12_isStep_185 (by decide) (by unfold inr; omega) (by unfold inr; omega) (fun c27 => ?_) (fun c27 => ?_)
                          · refine q_con B dX12_isStep_194 ?_
                            refine lv_goto (tgt := 199) B.1 B.2.1 dX12_isStep_195 (by decide) ?_
                            subst hPST
                            exact m_zret B hM dX12_isStep_199 (by omega) ⟨rfl, by omega⟩
                          · refine lv_iload_n B.1 B.2.1 dX12_isStep_188 rfl (lv_at hl 0 rfl) ?_
                            refine q_bip B dX12_isStep_189 (by decide) ?_
                            refine q_cne (tgt := 198) B dX12_isStep_191 (by decide) (by unfold inr; omega) (by unfold inr; omega) (fun c28 => ?_) (fun c28 => ?_)
                            · refine q_con B dX12_isStep_198 ?_
                              subst hPST
                              exact m_zret B hM dX12_isStep_199 (by omega) ⟨rfl, by omega⟩
                            · refine q_con B dX12_isStep_194 ?_
                              refine lv_goto (tgt := 199) B.1 B.2.1 dX12_isStep_195 (by decide) ?_
                              subst hPST
                              exact m_zret B hM dX12_isStep_199 (by omega) ⟨rfl, by omega⟩
        · refine lv_aload_n B.1 B.2.1 dX12_isStep_83 rfl (lv_at hl 1 rfl) ?_
          refine m_get (k := 9) (v := f 9) B hM (by decide) rfl fl56 dX12_isStep_84 rfl ?_
          have r29 : (0 : Int) ≤ f 9 ∧ f 9 ≤ 3002 := hM.2.2.2.1 9
          refine lv_istore_n (lv' := [(3, .int (II (f 9))), (2, .int (II r16)), (0, .ref h0), (1, .int (II a_starts))]) B.1 B.2.1 dX12_isStep_87 rfl hl (by decide) rfl (fun ls hl => ?_)
          exact LL88 ((f 4) + 1 - (f 9) + 1).toNat (f 9) r16 _ _ ls hM (lv_sub hl [2, 3, 0, 1] rfl) (by omega) (by omega) (by first | omega | (simp only [wr_at]; omega) | assumption) (by first | omega | (simp only [wr_at]; omega) | assumption) (by first | omega | (simp only [wr_at]; omega) | assumption) (by first | omega | (simp only [wr_at]; omega) | assumption) (by first | omega | (simp only [wr_at]; omega) | assumption)
      · refine q_con B dX12_isStep_66 ?_
        subst hPST
        exact m_zret B hM dX12_isStep_67 (by omega) ⟨rfl, by omega⟩
    · refine lv_aload_n B.1 B.2.1 dX12_isStep_18 rfl (lv_at hl 0 rfl) ?_
      refine m_getl (k := 11) B hM (by decide) rfl fl76 dX12_isStep_19 rfl ?_
      refine lv_ldc2 B.1 B.2.1 B.2.2.2.1 (B.2.2.2.2.1 _ lc456) dX12_isStep_22 ?_
      refine q_lcmp B dX12_isStep_25 (fun x30 lx30 ux30 ex30 => ?_)
      refine q_ieq (tgt := 51) B dX12_isStep_26 (by decide) (by unfold inr; omega) (fun c31 => ?_) (fun c31 => ?_)
      · refine q_con B dX12_isStep_51 ?_
        refine lv_goto (tgt := 56) B.1 B.2.1 dX12_isStep_52 (by decide) ?_
        subst hPST
        exact m_zret B hM dX12_isStep_56 (by omega) ⟨rfl, by omega⟩
      · refine lv_aload_n B.1 B.2.1 dX12_isStep_29 rfl (lv_at hl 0 rfl) ?_
        refine m_getl (k := 11) B hM (by decide) rfl fl76 dX12_isStep_30 rfl ?_
        refine lv_ldc2 B.1 B.2.1 B.2.2.2.1 (B.2.2.2.2.1 _ lc458) dX12_isStep_33 ?_
        refine q_lcmp B dX12_isStep_36 (fun x32 lx32 ux32 ex32 => ?_)
        refine q_ieq (tgt := 51) B dX12_isStep_37 (by decide) (by unfold inr; omega) (fun c33 => ?_) (fun c33 => ?_)
        · refine q_con B dX12_isStep_51 ?_
          refine lv_goto (tgt := 56) B.1 B.2.1 dX12_isStep_52 (by decide) ?_
          subst hPST
          exact m_zret B hM dX12_isStep_56 (by omega) ⟨rfl, by omega⟩
        · refine lv_aload_n B.1 B.2.1 dX12_isStep_40 rfl (lv_at hl 0 rfl) ?_
          refine m_getl (k := 11) B hM (by decide) rfl fl76 dX12_isStep_41 rfl ?_
          refine lv_ldc2 B.1 B.2.1 B.2.2.2.1 (B.2.2.2.2.1 _ lc460) dX12_isStep_44 ?_
          refine q_lcmp B dX12_isStep_47 (fun x34 lx34 ux34 ex34 => ?_)
          refine q_ine (tgt := 55) B dX12_isStep_48 (by decide) (by unfold inr; omega) (fun c35 => ?_) (fun c35 => ?_)
          · refine q_con B dX12_isStep_55 ?_
            subst hPST
            exact m_zret B hM dX12_isStep_56 (by omega) ⟨rfl, by omega⟩
          · refine q_con B dX12_isStep_51 ?_
            refine lv_goto (tgt := 56) B.1 B.2.1 dX12_isStep_52 (by decide) ?_
            subst hPST
            exact m_zret B hM dX12_isStep_56 (by omega) ⟨rfl, by omega⟩
  · refine q_con B dX12_isStep_8 ?_
    subst hPST
    exact m_zret B hM dX12_isStep_9 (by omega) ⟨rfl, by omega⟩
