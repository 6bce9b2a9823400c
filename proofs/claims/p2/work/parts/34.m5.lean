/-- a kind's first n members are among those of this half -/
def KIl (b mem : Int) (kI : Nat → Int) (k n : Int) : Prop := ∀ i : Int, 0 ≤ i → i < n → 200 * b ≤ kI (12 * k + i).toNat ∧ kI (12 * k + i).toNat < 200 * b + mem
theorem KIl_0 {b mem k n : Int} {kI : Nat → Int} (h : n ≤ 0) : KIl b mem kI k n := fun i h0 h1 => absurd h1 (by omega)
theorem KIl_push {b mem k n v : Int} {kI : Nat → Int} (h : KIl b mem kI k n) (hk : 0 ≤ k) (hn : 0 ≤ n) (h1 : 200 * b ≤ v) (h2 : v < 200 * b + mem) : KIl b mem (wr kI (12 * k + n) v) k (n + 1) := by
  intro i i0 i1
  by_cases e : i = n
  · subst e; rw [wr_at]; exact ⟨h1, h2⟩
  · rw [wr_ne (by omega)]; exact h i i0 (by omega)
theorem KIl_mem {b mem mem' k n : Int} {kI : Nat → Int} (h : KIl b mem kI k n) (hm : mem ≤ mem') : KIl b mem' kI k n := fun i i0 i1 => by
  have := h i i0 i1; omega
def FrB (k : Int) (a a' : Nat → Int) : Prop := ∀ j : Nat, ((j : Int) < 12 * k ∨ 12 * k + 12 ≤ (j : Int)) → a' j = a j
theorem FrB_rfl {k : Int} {a : Nat → Int} : FrB k a a := fun _ _ => rfl
theorem FrB_wr {k z v : Int} {a a' : Nat → Int} (h : FrB k a a') (h0 : 0 ≤ z) (h1 : 12 * k ≤ z) (h2 : z < 12 * k + 12) : FrB k a (wr a' z v) := fun j hj => (wr_ne (by omega)).trans (h j hj)
theorem FrB_trans {k : Int} {a a' a2 : Nat → Int} (h : FrB k a a') (h1 : FrB k a' a2) : FrB k a a2 := fun j hj => (h1 j hj).trans (h j hj)
theorem KIl_fr {b mem k k' n : Int} {a a' : Nat → Int} (h : KIl b mem a k' n) (hf : FrB k a a') (hne : k' ≠ k) (hn : n ≤ 12) (h0 : 0 ≤ k') (hk : 0 ≤ k) : KIl b mem a' k' n := by
  intro i i0 i1
  rw [hf _ (by omega)]
  exact h i i0 i1
/-- the kinds of a half -/
def KIv (b n mem : Int) (kU kM kO kI : Nat → Int) : Prop := ∀ q : Int, 0 ≤ q → q < n → kU (16 * b + q).toNat < q ∧ kO (16 * b + q).toNat ≤ kM (16 * b + q).toNat ∧ KIl b mem kI (16 * b + q) (kM (16 * b + q).toNat)
theorem KIv_push {b n mem mem' : Int} {kU kM kO kI kU' kM' kO' kI' : Nat → Int} (h : KIv b n mem kU kM kO kI) (hb : 0 ≤ b) (hn : 0 ≤ n) (hm : mem ≤ mem') (h12 : ∀ j, kM j ≤ 12) (f1 : Fr1 kU kU' (16 * b + n)) (f2 : Fr1 kM kM' (16 * b + n)) (f3 : Fr1 kO kO' (16 * b + n)) (f4 : FrB (16 * b + n) kI kI')
    (g1 : kU' (16 * b + n).toNat < n) (g2 : kO' (16 * b + n).toNat ≤ kM' (16 * b + n).toNat) (g3 : KIl b mem' kI' (16 * b + n) (kM' (16 * b + n).toNat)) : KIv b (n + 1) mem' kU' kM' kO' kI' := by
  intro q q0 q1
  by_cases e : q = n
  · subst e; exact ⟨g1, g2, g3⟩
  · have hne : (16 * b + q).toNat ≠ (16 * b + n).toNat := by omega
    rw [f1 _ hne, f2 _ hne, f3 _ hne]
    obtain ⟨k1, k2, k3⟩ := h q q0 (by omega)
    exact ⟨k1, k2, KIl_mem (KIl_fr k3 f4 (by omega) (h12 _) (by omega) (by omega)) hm⟩
/-- every member whose type is a kind's has asked for it -/
def BTI (b mem : Int) (bT : Nat → Int) (n : Int) (r a : Nat → Int) : Prop := ∀ x : Int, 200 * b ≤ x → x < 200 * b + mem → 2 ≤ bT x.toNat → ∃ j : Nat, (j : Int) < n ∧ r j = 3 ∧ a j = x
theorem BTI_step {b mem n n' : Int} {bT r a r' a' : Nat → Int} (h : BTI b mem bT n r a) (hp : APe n r a r' a') (hn : n ≤ n') : BTI b mem bT n' r' a' := by
  intro x x0 x1 x2
  obtain ⟨j, j0, j1, j2⟩ := h x x0 x1 x2
  obtain ⟨e1, e2⟩ := hp j j0
  exact ⟨j, by omega, by rw [e1]; exact j1, by rw [e2]; exact j2⟩
theorem BTI_small {b mem n v : Int} {bT r a : Nat → Int} (h : BTI b mem bT n r a) (hb : 0 ≤ b) (hm : 0 ≤ mem) (hv : v < 2) : BTI b (mem + 1) (wr bT (200 * b + mem) v) n r a := by
  intro x x0 x1 x2
  by_cases e : x = 200 * b + mem
  · subst e; rw [wr_at] at x2; omega
  · rw [wr_ne (by omega)] at x2; exact h x x0 (by omega) x2
theorem BTI_ask {b mem n v : Int} {bT r a r' a' : Nat → Int} (h : BTI b mem bT n r a) (hb : 0 ≤ b) (hm : 0 ≤ mem) (hn : 0 ≤ n) (hp : APe n r a r' a') (h1 : r' n.toNat = 3) (h2 : a' n.toNat = 200 * b + mem) : BTI b (mem + 1) (wr bT (200 * b + mem) v) (n + 1) r' a' := by
  intro x x0 x1 x2
  by_cases e : x = 200 * b + mem
  · subst e; exact ⟨n.toNat, by omega, h1, h2⟩
  · rw [wr_ne (by omega)] at x2
    obtain ⟨j, j0, j1, j2⟩ := h x x0 (by omega) x2
    obtain ⟨e1, e2⟩ := hp j j0
    exact ⟨j, by omega, by rw [e1]; exact j1, by rw [e2]; exact j2⟩
/-- the uses of a kind's star are among those of this half -/
def KSp (b us : Int) (kS : Nat → Int) (k n : Int) : Prop := ∀ i : Int, 0 ≤ i → i < n → 1600 * b ≤ kS (8 * k + i).toNat ∧ kS (8 * k + i).toNat < 1600 * b + us
theorem KSp_0 {b us k n : Int} {kS : Nat → Int} (h : n ≤ 0) : KSp b us kS k n := fun i h0 h1 => absurd h1 (by omega)
theorem KSp_mono {b us us' k n : Int} {kS : Nat → Int} (h : KSp b us kS k n) (hm : us ≤ us') : KSp b us' kS k n := fun i i0 i1 => by
  have := h i i0 i1; omega
theorem KSp_push {b us k n v : Int} {kS : Nat → Int} (h : KSp b us kS k n) (hk : 0 ≤ k) (hn : 0 ≤ n) (h1 : 1600 * b ≤ v) (h2 : v < 1600 * b + us) : KSp b us (wr kS (8 * k + n) v) k (n + 1) := by
  intro i i0 i1
  by_cases e : i = n
  · subst e; rw [wr_at]; exact ⟨h1, h2⟩
  · rw [wr_ne (by omega)]; exact h i i0 (by omega)
def Fr8 (k : Int) (a a' : Nat → Int) : Prop := ∀ j : Nat, ((j : Int) < 8 * k ∨ 8 * k + 8 ≤ (j : Int)) → a' j = a j
theorem Fr8_rfl {k : Int} {a : Nat → Int} : Fr8 k a a := fun _ _ => rfl
theorem Fr8_wr {k z v : Int} {a a' : Nat → Int} (h : Fr8 k a a') (h0 : 0 ≤ z) (h1 : 8 * k ≤ z) (h2 : z < 8 * k + 8) : Fr8 k a (wr a' z v) := fun j hj => (wr_ne (by omega)).trans (h j hj)
theorem Fr8_trans {k : Int} {a a' a2 : Nat → Int} (h : Fr8 k a a') (h1 : Fr8 k a' a2) : Fr8 k a a2 := fun j hj => (h1 j hj).trans (h j hj)
theorem KSp_fr {b us k k' n : Int} {a a' : Nat → Int} (h : KSp b us a k' n) (hf : Fr8 k a a') (hne : k' ≠ k) (hn : n ≤ 8) (h0 : 0 ≤ k') (hk : 0 ≤ k) : KSp b us a' k' n := by
  intro i i0 i1
  rw [hf _ (by omega)]
  exact h i i0 i1
set_option maxHeartbeats 4000000 in
set_option maxRecDepth 20000 in
theorem k_above (l : Launch) (D : va_G) (dA : Nat → ClassId) (h0 : Nat) (ad : Nat → Nat) (f : Nat → Int) (g : Nat → Int64) (A : Nat → Nat → Int) (L : Nat → Nat → Int64) (a_k : Int) (a_up : Int) (i_k : (-2147483648 : Int) ≤ a_k ∧ a_k ≤ 2147483647) (i_up : (-2147483648 : Int) ≤ a_up ∧ a_up ≤ 2147483647) (p_0 : 0 ≤ (a_k)) (p_1 : (a_k) < 32) (p_2 : 16 * (f 3) ≤ (a_up)) (p_3 : (a_up) < 16 * (f 3) + 16) (p_4 : (a_k) ≠ (a_up)) (p_5 : KIl (f 3) (f 61) (A 38) (a_up) ((A 37) ((a_up)).toNat)) : MCv l yX12_above cX12_above 4 ({ frames := 0, cells := 0, slots := 0, locals := 0 }) D dA h0 ad (f, g, A, L) [.int (II a_k), .int (II a_up)] (fun (σ : MS) => ∃ b38 : Nat → Int, σ = (f, g, (up A [(34, (wr (A 34) (a_k) ((a_up) - 16 * (f 3)))), (37, (wr (A 37) (a_k) ((A 37) ((a_up)).toNat))), (38, b38)]), L) ∧ (FrB (a_k) (A 38) b38 ∧ KIl (f 3) (f 61) b38 (a_k) ((A 37) ((a_up)).toNat))) := by
  generalize hPST : (fun (σ : MS) => ∃ b38 : Nat → Int, σ = (f, g, (up A [(34, (wr (A 34) (a_k) ((a_up) - 16 * (f 3)))), (37, (wr (A 37) (a_k) ((A 37) ((a_up)).toNat))), (38, b38)]), L) ∧ (FrB (a_k) (A 38) b38 ∧ KIl (f 3) (f 61) b38 (a_k) ((A 37) ((a_up)).toNat))) = PST
  refine m_enterv (by decide) rfl (Nat.le_of_ble_eq_true rfl) (fun p e s m args below meth c ls B hM hl => ?_)
  have hA : ∀ q, s.heap.size ≤ q → mF dA h0 ad (f, g, A, L) s.heap.size q := fun q h => Or.inr h
  have hM : MWd D dA h0 ad (mF dA h0 ad (f, g, A, L) s.heap.size) s.heap (f, g, (up A [(34, (A 34)), (37, (A 37)), (38, (A 38))]), L) s.heap [] := MW_pad hM rfl rfl (up_self A [34, 37, 38]) rfl
  have hl : lv_has ls 4 [(0, .ref h0), (1, .int (II a_k)), (2, .int (II a_up))] := hl
  have r1 : (0 : Int) ≤ f 3 ∧ f 3 ≤ 1 := hM.2.2.2.1 3
  have r2 : (0 : Int) ≤ f 61 ∧ f 61 ≤ 200 := hM.2.2.2.1 61
  have LL29 : ∀ N : Nat, ∀ (v29_3 : Int) (y29_38 : Nat → Int) (H : Heap) (locs : List Loc) (ls : Array Slot), (MWd D dA h0 ad (mF dA h0 ad (f, g, A, L) s.heap.size) s.heap (f, g, (up A [(34, (wr (A 34) (a_k) ((a_up) - 16 * (f 3)))), (37, (wr (A 37) (a_k) ((A 37) ((a_up)).toNat))), (38, y29_38)]), L) H locs) → lv_has ls 4 [(0, .ref h0), (1, .int (II a_k)), (2, .int (II a_up)), (3, .int (II v29_3))] → ((-2147483648 : Int) ≤ v29_3 ∧ v29_3 ≤ 2147483647) → (0 ≤ (v29_3)) → ((v29_3) ≤ (A 37) ((a_up)).toNat) → ((A 37) ((a_up)).toNat ≤ 12) → (FrB (a_k) (A 38) y29_38) → (KIl (f 3) (f 61) y29_38 (a_k) (v29_3)) → (0 ≤ (A 37) ((a_up)).toNat - (v29_3)) → ((A 37) ((a_up)).toNat - (v29_3) < (N : Int)) → W p l e ({ frames := 0, cells := 0, slots := 0, locals := 0 }) s m args below meth c H locs 0 0 (MQ below (mQv D dA h0 ad (f, g, A, L) s.heap.size PST) args s 0 0 (mF dA h0 ad (f, g, A, L) s.heap.size)) (F0 m 29 ls []) := by
    intro N
    induction N with
    | zero => intro v29_3 y29_38 H locs ls hM hl hLL29_0 hLL29_1 hLL29_2 hLL29_3 hLL29_4 hLL29_5 hLL29_6 hN; exfalso; omega
    | succ N IH29 =>
      intro v29_3 y29_38 H locs ls hM hl hLL29_0 hLL29_1 hLL29_2 hLL29_3 hLL29_4 hLL29_5 hLL29_6 hN
      refine lv_iload_n B.1 B.2.1 dX12_above_29 rfl (lv_at hl 3 rfl) ?_
      refine lv_aload_n B.1 B.2.1 dX12_above_30 rfl (lv_at hl 0 rfl) ?_
      refine m_geta (k := 37) B hM (by decide) rfl fl205 dX12_above_31 ?_
      refine lv_iload_n B.1 B.2.1 dX12_above_34 rfl (lv_at hl 2 rfl) ?_
      refine m_ild (k := 37) (i := 25) (n := 32) (z := a_up) (v := (wr (A 37) (a_k) ((A 37) ((a_up)).toNat)) a_up.toNat) B hM rfl rfl rfl (by decide) dX12_above_35 (by omega) (by omega) rfl ?_
      have r3 : (0 : Int) ≤ (wr (A 37) (a_k) ((A 37) ((a_up)).toNat)) a_up.toNat ∧ (wr (A 37) (a_k) ((A 37) ((a_up)).toNat)) a_up.toNat ≤ 12 := hM.2.2.2.2 37 a_up.toNat
      have e37 : (wr (A 37) (a_k) ((A 37) ((a_up)).toNat)) ((a_up)).toNat = (A 37) ((a_up)).toNat := wr_ne (by omega)
      refine q_cge (tgt := 67) B dX12_above_36 (by decide) (by unfold inr; omega) (by unfold inr; omega) (fun c4 => ?_) (fun c4 => ?_)
      · subst hPST
        exact m_vret B hM dX12_above_67 ⟨y29_38, rfl, by (refine ⟨by assumption, ?_⟩; have e2 : v29_3 = A 37 (a_up).toNat := by omega; rw [← e2]; assumption)⟩
      · refine lv_aload_n B.1 B.2.1 dX12_above_39 rfl (lv_at hl 0 rfl) ?_
        refine m_geta (k := 38) B hM (by decide) rfl fl208 dX12_above_40 ?_
        refine q_bip B dX12_above_43 (by decide) ?_
        refine lv_iload_n B.1 B.2.1 dX12_above_45 rfl (lv_at hl 1 rfl) ?_
        refine q_mul B dX12_above_46 ?_
        refine lv_iload_n B.1 B.2.1 dX12_above_47 rfl (lv_at hl 3 rfl) ?_
        refine q_add B dX12_above_48 ?_
        refine lv_aload_n B.1 B.2.1 dX12_above_49 rfl (lv_at hl 0 rfl) ?_
        refine m_geta (k := 38) B hM (by decide) rfl fl208 dX12_above_50 ?_
        refine q_bip B dX12_above_53 (by decide) ?_
        refine lv_iload_n B.1 B.2.1 dX12_above_55 rfl (lv_at hl 2 rfl) ?_
        refine q_mul B dX12_above_56 ?_
        refine lv_iload_n B.1 B.2.1 dX12_above_57 rfl (lv_at hl 3 rfl) ?_
        refine q_add B dX12_above_58 ?_
        have hfr := KIl_fr p_5 hLL29_4 (by omega) (by omega) (by omega) (by omega) ((v29_3)) (by omega) (by omega)
        refine m_ild (k := 38) (i := 26) (n := 384) (z := (12 * a_up) + v29_3) (v := y29_38 ((12 * a_up) + v29_3).toNat) B hM rfl rfl rfl (by decide) dX12_above_59 (by omega) (by omega) rfl ?_
        have r5 : (0 : Int) ≤ y29_38 ((12 * a_up) + v29_3).toNat ∧ y29_38 ((12 * a_up) + v29_3).toNat ≤ 399 := hM.2.2.2.2 38 ((12 * a_up) + v29_3).toNat
        refine m_ist (k := 38) (i := 26) (n := 384) B hM rfl rfl rfl (by decide) dX12_above_60 (by omega) (by omega) (show (0 : Int) ≤ y29_38 ((12 * a_up) + v29_3).toNat from by first | omega | (simp only [wr_at]; omega)) (show y29_38 ((12 * a_up) + v29_3).toNat ≤ (399 : Int) from by first | omega | (simp only [wr_at]; omega)) (u1_up A [(34, (wr (A 34) (a_k) ((a_up) - 16 * (f 3)))), (37, (wr (A 37) (a_k) ((A 37) ((a_up)).toNat))), (38, y29_38)] 38 (wr y29_38 ((12 * a_k) + v29_3) (y29_38 ((12 * a_up) + v29_3).toNat))) (fun H locs hM => ?_)
        replace hM : MWd D dA h0 ad (mF dA h0 ad (f, g, A, L) s.heap.size) s.heap (f, g, (up A [(34, (wr (A 34) (a_k) ((a_up) - 16 * (f 3)))), (37, (wr (A 37) (a_k) ((A 37) ((a_up)).toNat))), (38, (wr y29_38 ((12 * a_k) + v29_3) (y29_38 ((12 * a_up) + v29_3).toNat)))]), L) H locs := hM
        refine q_inc (k := 3) (x := v29_3) (lv' := [(3, .int (II (v29_3 + 1))), (0, .ref h0), (1, .int (II a_k)), (2, .int (II a_up))]) B dX12_above_61 hl rfl (by decide) rfl (fun ls hl => ?_)
        refine lv_goto (tgt := 29) B.1 B.2.1 dX12_above_64 (by decide) ?_
        exact IH29 (v29_3 + 1) ((wr y29_38 ((12 * a_k) + v29_3) (y29_38 ((12 * a_up) + v29_3).toNat))) _ _ ls hM (lv_sub hl [1, 2, 3, 0] rfl) (by omega) (by first | omega | (simp only [wr_at]; omega) | assumption) (by first | omega | (simp only [wr_at]; omega) | assumption) (by first | omega | (simp only [wr_at]; omega) | assumption) (by first | exact FrB_rfl | exact FrB_wr (by assumption) (by omega) (by omega) (by omega)) (by first | exact KIl_0 (by omega) | exact KIl_push (by assumption) (by omega) (by omega) (by omega) (by omega)) (by first | omega | (simp only [wr_at]; omega) | assumption) (by first | omega | (simp only [wr_at]; omega) | assumption)
  have hk12 : (0 : Int) ≤ (A 37) ((a_up)).toNat ∧ (A 37) ((a_up)).toNat ≤ 12 := hM.2.2.2.2 37 ((a_up)).toNat
  refine lv_aload_n B.1 B.2.1 dX12_above_0 rfl (lv_at hl 0 rfl) ?_
  refine m_geta (k := 34) B hM (by decide) rfl fl196 dX12_above_1 ?_
  refine lv_iload_n B.1 B.2.1 dX12_above_4 rfl (lv_at hl 1 rfl) ?_
  refine lv_iload_n B.1 B.2.1 dX12_above_5 rfl (lv_at hl 2 rfl) ?_
  refine q_bip B dX12_above_6 (by decide) ?_
  refine lv_aload_n B.1 B.2.1 dX12_above_8 rfl (lv_at hl 0 rfl) ?_
  refine m_get (k := 3) (v := f 3) B hM (by decide) rfl fl11 dX12_above_9 rfl ?_
  refine q_mul B dX12_above_12 ?_
  refine q_sub B dX12_above_13 ?_
  refine m_ist (k := 34) (i := 22) (n := 32) B hM rfl rfl rfl (by decide) dX12_above_14 (by omega) (by omega) (show (-1 : Int) ≤ a_up - (16 * (f 3)) from by first | omega | (simp only [wr_at]; omega)) (show a_up - (16 * (f 3)) ≤ (15 : Int) from by first | omega | (simp only [wr_at]; omega)) (u1_up A [(34, (A 34)), (37, (A 37)), (38, (A 38))] 34 (wr (A 34) a_k (a_up - (16 * (f 3))))) (fun H locs hM => ?_)
  replace hM : MWd D dA h0 ad (mF dA h0 ad (f, g, A, L) s.heap.size) s.heap (f, g, (up A [(34, (wr (A 34) a_k (a_up - (16 * (f 3))))), (37, (A 37)), (38, (A 38))]), L) H locs := hM
  refine lv_aload_n B.1 B.2.1 dX12_above_15 rfl (lv_at hl 0 rfl) ?_
  refine m_geta (k := 37) B hM (by decide) rfl fl205 dX12_above_16 ?_
  refine lv_iload_n B.1 B.2.1 dX12_above_19 rfl (lv_at hl 1 rfl) ?_
  refine lv_aload_n B.1 B.2.1 dX12_above_20 rfl (lv_at hl 0 rfl) ?_
  refine m_geta (k := 37) B hM (by decide) rfl fl205 dX12_above_21 ?_
  refine lv_iload_n B.1 B.2.1 dX12_above_24 rfl (lv_at hl 2 rfl) ?_
  refine m_ild (k := 37) (i := 25) (n := 32) (z := a_up) (v := (A 37) a_up.toNat) B hM rfl rfl rfl (by decide) dX12_above_25 (by omega) (by omega) rfl ?_
  have r6 : (0 : Int) ≤ (A 37) a_up.toNat ∧ (A 37) a_up.toNat ≤ 12 := hM.2.2.2.2 37 a_up.toNat
  refine m_ist (k := 37) (i := 25) (n := 32) B hM rfl rfl rfl (by decide) dX12_above_26 (by omega) (by omega) (show (0 : Int) ≤ (A 37) a_up.toNat from by first | omega | (simp only [wr_at]; omega)) (show (A 37) a_up.toNat ≤ (12 : Int) from by first | omega | (simp only [wr_at]; omega)) (u1_up A [(34, (wr (A 34) a_k (a_up - (16 * (f 3))))), (37, (A 37)), (38, (A 38))] 37 (wr (A 37) a_k ((A 37) a_up.toNat))) (fun H locs hM => ?_)
  replace hM : MWd D dA h0 ad (mF dA h0 ad (f, g, A, L) s.heap.size) s.heap (f, g, (up A [(34, (wr (A 34) a_k (a_up - (16 * (f 3))))), (37, (wr (A 37) a_k ((A 37) a_up.toNat))), (38, (A 38))]), L) H locs := hM
  refine q_con B dX12_above_27 ?_
  refine lv_istore_n (lv' := [(3, .int (II 0)), (0, .ref h0), (1, .int (II a_k)), (2, .int (II a_up))]) B.1 B.2.1 dX12_above_28 rfl hl (by decide) rfl (fun ls hl => ?_)
  exact LL29 (Int.toNat ((A 37) ((a_up)).toNat - (0) + 1)) 0 ((A 38)) _ _ ls hM (lv_sub hl [1, 2, 3, 0] rfl) (by omega) (by first | omega | (simp only [wr_at]; omega) | assumption) (by first | omega | (simp only [wr_at]; omega) | assumption) (by first | omega | (simp only [wr_at]; omega) | assumption) (by first | exact FrB_rfl | exact FrB_wr (by assumption) (by omega) (by omega) (by omega)) (by first | exact KIl_0 (by omega) | exact KIl_push (by assumption) (by omega) (by omega) (by omega) (by omega)) (by first | omega | (simp only [wr_at]; omega) | assumption) (by first | omega | (simp only [wr_at]; omega) | assumption)
set_option maxHeartbeats 4000000 in
set_option maxRecDepth 20000 in
theorem k_readStar (l : Launch) (D : va_G) (dA : Nat → ClassId) (h0 : Nat) (ad : Nat → Nat) (f : Nat → Int) (g : Nat → Int64) (A : Nat → Nat → Int) (L : Nat → Nat → Int64) (a_k : Int) (i_k : (-2147483648 : Int) ≤ a_k ∧ a_k ≤ 2147483647) (p_0 : (0 ≤ (f 8) ∧ (f 8) ≤ (f 4) ∧ (f 8) ≤ (f 9) ∧ (f 9) ≤ (f 4) + 1 ∧ ((f 7) = 0 ↔ (f 8) = (f 4)) ∧ (2 ≤ (f 7) → (f 8) < (f 9) ∧ (f 9) ≤ (f 4)) ∧ ((f 7) = 5 → (f 8) + 2 ≤ (f 9) ∧ (f 9) ≤ (f 8) + 32))) (p_1 : (f 7) = 6) (p_2 : 0 ≤ (a_k)) (p_3 : (a_k) < 32) (p_4 : 2 * (f 22) ≤ (f 8)) (p_5 : ((f 5) = 0 → (f 62) ≤ (f 22))) (p_6 : (f 62) ≤ 1520) (p_7 : AIp (f 22) (A 18) (A 20) (A 21)) (p_8 : TXI (A 51) (A 52)) (p_9 : ((f 5) = 0 → UTI (f 3) (f 62) (f 22) (A 20) (A 21))) (p_10 : KSp (f 3) (f 62) (A 39) (a_k) ((A 40) ((a_k)).toNat)) : MCv l yX12_readStar cX12_readStar 5 ({ frames := 7, cells := 0, slots := 0, locals := 154 }) D dA h0 ad (f, g, A, L) [.int (II a_k)] (fun (σ : MS) => ∃ n8 : Int, ∃ n9 : Int, ∃ n7 : Int, ∃ n10 : Int, ∃ n5 : Int, ∃ n6 : Int, ∃ n22 : Int, ∃ n62 : Int, ∃ n11 : Int64, ∃ b17 : Nat → Int, ∃ b18 : Nat → Int, ∃ b19 : Nat → Int, ∃ b20 : Nat → Int, ∃ b21 : Nat → Int, ∃ b47 : Nat → Int, ∃ b48 : Nat → Int, ∃ b49 : Nat → Int, ∃ b50 : Nat → Int, ∃ b51 : Nat → Int, ∃ b52 : Nat → Int, ∃ b53 : Nat → Int, ∃ b54 : Nat → Int, ∃ b39 : Nat → Int, ∃ b40 : Nat → Int, ∃ b16 : Nat → Int64, ∃ b55 : Nat → Int64, σ = ((up f [(8, n8), (9, n9), (7, n7), (10, n10), (5, n5), (6, n6), (22, n22), (62, n62)]), (up g [(11, n11)]), (up A [(17, b17), (18, b18), (19, b19), (20, b20), (21, b21), (47, b47), (48, b48), (49, b49), (50, b50), (51, b51), (52, b52), (53, b53), (54, b54), (39, b39), (40, b40)]), (up L [(16, b16), (55, b55)])) ∧ (((0 ≤ (n8) ∧ (n8) ≤ (f 4) ∧ (n8) ≤ (n9) ∧ (n9) ≤ (f 4) + 1 ∧ ((n7) = 0 ↔ (n8) = (f 4)) ∧ (2 ≤ (n7) → (n8) < (n9) ∧ (n9) ≤ (f 4)) ∧ ((n7) = 5 → (n8) + 2 ≤ (n9) ∧ (n9) ≤ (n8) + 32))) ∧ (f 8) ≤ (n8) ∧ ((n5) = 0 → (f 5) = 0 ∧ (f 8) + 1 ≤ (n8) ∧ (n62) ≤ (n22) ∧ 2 * (n22) ≤ (n8)) ∧ 2 * (n22) ≤ (n8) + 1 ∧ (f 62) ≤ (n62) ∧ (n62) ≤ (f 62) + 8 ∧ (f 22) ≤ (n22) ∧ AIp (n22) b18 b20 b21 ∧ APe (f 22) (A 20) (A 21) b20 b21 ∧ TXI b51 b52 ∧ ((n5) = 0 → UTI (f 3) (n62) (n22) b20 b21) ∧ KSp (f 3) (n62) b39 (a_k) (b40 ((a_k)).toNat) ∧ Fr1 (A 40) b40 (a_k) ∧ Fr8 (a_k) (A 39) b39)) := by
  generalize hPST : (fun (σ : MS) => ∃ n8 : Int, ∃ n9 : Int, ∃ n7 : Int, ∃ n10 : Int, ∃ n5 : Int, ∃ n6 : Int, ∃ n22 : Int, ∃ n62 : Int, ∃ n11 : Int64, ∃ b17 : Nat → Int, ∃ b18 : Nat → Int, ∃ b19 : Nat → Int, ∃ b20 : Nat → Int, ∃ b21 : Nat → Int, ∃ b47 : Nat → Int, ∃ b48 : Nat → Int, ∃ b49 : Nat → Int, ∃ b50 : Nat → Int, ∃ b51 : Nat → Int, ∃ b52 : Nat → Int, ∃ b53 : Nat → Int, ∃ b54 : Nat → Int, ∃ b39 : Nat → Int, ∃ b40 : Nat → Int, ∃ b16 : Nat → Int64, ∃ b55 : Nat → Int64, σ = ((up f [(8, n8), (9, n9), (7, n7), (10, n10), (5, n5), (6, n6), (22, n22), (62, n62)]), (up g [(11, n11)]), (up A [(17, b17), (18, b18), (19, b19), (20, b20), (21, b21), (47, b47), (48, b48), (49, b49), (50, b50), (51, b51), (52, b52), (53, b53), (54, b54), (39, b39), (40, b40)]), (up L [(16, b16), (55, b55)])) ∧ (((0 ≤ (n8) ∧ (n8) ≤ (f 4) ∧ (n8) ≤ (n9) ∧ (n9) ≤ (f 4) + 1 ∧ ((n7) = 0 ↔ (n8) = (f 4)) ∧ (2 ≤ (n7) → (n8) < (n9) ∧ (n9) ≤ (f 4)) ∧ ((n7) = 5 → (n8) + 2 ≤ (n9) ∧ (n9) ≤ (n8) + 32))) ∧ (f 8) ≤ (n8) ∧ ((n5) = 0 → (f 5) = 0 ∧ (f 8) + 1 ≤ (n8) ∧ (n62) ≤ (n22) ∧ 2 * (n22) ≤ (n8)) ∧ 2 * (n22) ≤ (n8) + 1 ∧ (f 62) ≤ (n62) ∧ (n62) ≤ (f 62) + 8 ∧ (f 22) ≤ (n22) ∧ AIp (n22) b18 b20 b21 ∧ APe (f 22) (A 20) (A 21) b20 b21 ∧ TXI b51 b52 ∧ ((n5) = 0 → UTI (f 3) (n62) (n22) b20 b21) ∧ KSp (f 3) (n62) b39 (a_k) (b40 ((a_k)).toNat) ∧ Fr1 (A 40) b40 (a_k) ∧ Fr8 (a_k) (A 39) b39)) = PST
  refine m_enterv (by decide) rfl (Nat.le_of_ble_eq_true rfl) (fun p e s m args below meth c ls B hM hl => ?_)
  have hA : ∀ q, s.heap.size ≤ q → mF dA h0 ad (f, g, A, L) s.heap.size q := fun q h => Or.inr h
  have hM : MWd D dA h0 ad (mF dA h0 ad (f, g, A, L) s.heap.size) s.heap ((up f [(8, f 8), (9, f 9), (7, f 7), (10, f 10), (5, f 5), (6, f 6), (22, f 22), (62, f 62)]), (up g [(11, g 11)]), (up A [(17, (A 17)), (18, (A 18)), (19, (A 19)), (20, (A 20)), (21, (A 21)), (47, (A 47)), (48, (A 48)), (49, (A 49)), (50, (A 50)), (51, (A 51)), (52, (A 52)), (53, (A 53)), (54, (A 54)), (39, (A 39)), (40, (A 40))]), (up L [(16, (L 16)), (55, (L 55))])) s.heap [] := MW_pad hM (up_self f [8, 9, 7, 10, 5, 6, 22, 62]) (up_self g [11]) (up_self A [17, 18, 19, 20, 21, 47, 48, 49, 50, 51, 52, 53, 54, 39, 40]) (up_self L [16, 55])
  have hl : lv_has ls 5 [(0, .ref h0), (1, .int (II a_k))] := hl
  have r1 : (0 : Int) ≤ f 3 ∧ f 3 ≤ 1 := hM.2.2.2.1 3
  have r2 : (0 : Int) ≤ f 4 ∧ f 4 ≤ 3000 := hM.2.2.2.1 4
  have r3 : (0 : Int) ≤ f 7 ∧ f 7 ≤ 6 := hM.2.2.2.1 7
  have r4 : (0 : Int) ≤ f 8 ∧ f 8 ≤ 3001 := hM.2.2.2.1 8
  have r5 : (0 : Int) ≤ f 9 ∧ f 9 ≤ 3002 := hM.2.2.2.1 9
  have r6 : (0 : Int) ≤ f 22 ∧ f 22 ≤ 1600 := hM.2.2.2.1 22
  have r7 : (0 : Int) ≤ f 62 ∧ f 62 ≤ 1590 := hM.2.2.2.1 62
  have LL46 : ∀ N : Nat, ∀ (v46_2 : Int) (v46_3 : Int) (v46_4 : Int) (y46_8 : Int) (y46_9 : Int) (y46_7 : Int) (y46_10 : Int) (y46_5 : Int) (y46_6 : Int) (y46_22 : Int) (y46_62 : Int) (y46_11 : Int64) (y46_17 : Nat → Int) (y46_18 : Nat → Int) (y46_19 : Nat → Int) (y46_20 : Nat → Int) (y46_21 : Nat → Int) (y46_47 : Nat → Int) (y46_48 : Nat → Int) (y46_49 : Nat → Int) (y46_50 : Nat → Int) (y46_51 : Nat → Int) (y46_52 : Nat → Int) (y46_53 : Nat → Int) (y46_54 : Nat → Int) (y46_39 : Nat → Int) (y46_40 : Nat → Int) (y46_16 : Nat → Int64) (y46_55 : Nat → Int64) (H : Heap) (locs : List Loc) (ls : Array Slot), (MWd D dA h0 ad (mF dA h0 ad (f, g, A, L) s.heap.size) s.heap ((up f [(8, y46_8), (9, y46_9), (7, y46_7), (10, y46_10), (5, y46_5), (6, y46_6), (22, y46_22), (62, y46_62)]), (up g [(11, y46_11)]), (up A [(17, y46_17), (18, y46_18), (19, y46_19), (20, y46_20), (21, y46_21), (47, y46_47), (48, y46_48), (49, y46_49), (50, y46_50), (51, y46_51), (52, y46_52), (53, y46_53), (54, y46_54), (39, y46_39), (40, y46_40)]), (up L [(16, y46_16), (55, y46_55)])) H locs) → lv_has ls 5 [(0, .ref h0), (1, .int (II a_k)), (2, .int (II v46_2)), (3, .int (II v46_3)), (4, .int (II v46_4))] → ((-2147483648 : Int) ≤ v46_2 ∧ v46_2 ≤ 2147483647) → ((-2147483648 : Int) ≤ v46_3 ∧ v46_3 ≤ 2147483647) → ((-2147483648 : Int) ≤ v46_4 ∧ v46_4 ≤ 2147483647) → ((0 ≤ (y46_8) ∧ (y46_8) ≤ (f 4) ∧ (y46_8) ≤ (y46_9) ∧ (y46_9) ≤ (f 4) + 1 ∧ ((y46_7) = 0 ↔ (y46_8) = (f 4)) ∧ (2 ≤ (y46_7) → (y46_8) < (y46_9) ∧ (y46_9) ≤ (f 4)) ∧ ((y46_7) = 5 → (y46_8) + 2 ≤ (y46_9) ∧ (y46_9) ≤ (y46_8) + 32))) → ((f 8) ≤ (y46_8)) → (((y46_5) = 0 → (f 5) = 0 ∧ (f 8) + 1 ≤ (y46_8) ∧ (y46_62) ≤ (y46_22) ∧ 2 * (y46_22) ≤ (y46_8))) → (2 * (y46_22) ≤ (y46_8) + 1) → ((f 62) ≤ (y46_62)) → ((y46_62) ≤ (f 62) + 8) → ((f 22) ≤ (y46_22)) → (AIp (y46_22) y46_18 y46_20 y46_21) → (APe (f 22) (A 20) (A 21) y46_20 y46_21) → (TXI y46_51 y46_52) → ((v46_2) = 1600 * (f 3) + (f 62)) → (0 ≤ (v46_3)) → ((v46_3) ≤ 8) → (0 ≤ (v46_4)) → ((v46_4) ≤ (v46_3)) → (((y46_5) = 0 → UTI (f 3) (y46_62) (y46_22) y46_20 y46_21)) → (KSp (f 3) (y46_62) y46_39 (a_k) (y46_40 ((a_k)).toNat)) → (Fr1 (A 40) y46_40 (a_k)) → (Fr8 (a_k) (A 39) y46_39) → ((y46_62) = (f 62) + (v46_3)) → (0 ≤ (v46_3) - (v46_4)) → ((v46_3) - (v46_4) < (N : Int)) → W p l e ({ frames := 7, cells := 0, slots := 0, locals := 154 }) s m args below meth c H locs 0 0 (MQ below (mQv D dA h0 ad (f, g, A, L) s.heap.size PST) args s 0 0 (mF dA h0 ad (f, g, A, L) s.heap.size)) (F0 m 46 ls []) := by
    intro N
    induction N with
    | zero => intro v46_2 v46_3 v46_4 y46_8 y46_9 y46_7 y46_10 y46_5 y46_6 y46_22 y46_62 y46_11 y46_17 y46_18 y46_19 y46_20 y46_21 y46_47 y46_48 y46_49 y46_50 y46_51 y46_52 y46_53 y46_54 y46_39 y46_40 y46_16 y46_55 H locs ls hM hl hLL46_0 hLL46_1 hLL46_2 hLL46_3 hLL46_4 hLL46_5 hLL46_6 hLL46_7 hLL46_8 hLL46_9 hLL46_10 hLL46_11 hLL46_12 hLL46_13 hLL46_14 hLL46_15 hLL46_16 hLL46_17 hLL46_18 hLL46_19 hLL46_20 hLL46_21 hLL46_22 hLL46_23 hN; exfalso; omega
    | succ N IH46 =>
      intro v46_2 v46_3 v46_4 y46_8 y46_9 y46_7 y46_10 y46_5 y46_6 y46_22 y46_62 y46_11 y46_17 y46_18 y46_19 y46_20 y46_21 y46_47 y46_48 y46_49 y46_50 y46_51 y46_52 y46_53 y46_54 y46_39 y46_40 y46_16 y46_55 H locs ls hM hl hLL46_0 hLL46_1 hLL46_2 hLL46_3 hLL46_4 hLL46_5 hLL46_6 hLL46_7 hLL46_8 hLL46_9 hLL46_10 hLL46_11 hLL46_12 hLL46_13 hLL46_14 hLL46_15 hLL46_16 hLL46_17 hLL46_18 hLL46_19 hLL46_20 hLL46_21 hLL46_22 hLL46_23 hN
      have r8 : (0 : Int) ≤ y46_8 ∧ y46_8 ≤ 3001 := hM.2.2.2.1 8
      have r9 : (0 : Int) ≤ y46_9 ∧ y46_9 ≤ 3002 := hM.2.2.2.1 9
      have r10 : (0 : Int) ≤ y46_7 ∧ y46_7 ≤ 6 := hM.2.2.2.1 7
      have r11 : (-2147483648 : Int) ≤ y46_10 ∧ y46_10 ≤ 2147483647 := hM.2.2.2.1 10
      have r12 : (-2147483648 : Int) ≤ y46_5 ∧ y46_5 ≤ 2147483647 := hM.2.2.2.1 5
      have r13 : (-2147483648 : Int) ≤ y46_6 ∧ y46_6 ≤ 2147483647 := hM.2.2.2.1 6
      have r14 : (0 : Int) ≤ y46_22 ∧ y46_22 ≤ 1600 := hM.2.2.2.1 22
      have r15 : (0 : Int) ≤ y46_62 ∧ y46_62 ≤ 1590 := hM.2.2.2.1 62
      refine lv_iload B.1 B.2.1 dX12_readStar_46 (lv_at hl 4 rfl) ?_
      refine lv_iload_n B.1 B.2.1 dX12_readStar_48 rfl (lv_at hl 3 rfl) ?_
      refine q_cge (tgt := 99) B dX12_readStar_49 (by decide) (by unfold inr; omega) (by unfold inr; omega) (fun c16 => ?_) (fun c16 => ?_)
      · subst hPST
        exact m_vret B hM dX12_readStar_99 ⟨y46_8, y46_9, y46_7, y46_10, y46_5, y46_6, y46_22, y46_62, y46_11, y46_17, y46_18, y46_19, y46_20, y46_21, y46_47, y46_48, y46_49, y46_50, y46_51, y46_52, y46_53, y46_54, y46_39, y46_40, y46_16, y46_55, rfl, by (exact ⟨by omega, by omega, by omega, by omega, by omega, by omega, by omega, by assumption, by first | assumption | exact APe_rfl, by assumption, by first | assumption | (intro hq; exfalso; omega) | (intro hq; exact (‹_ = 0 → UTI _ _ _ _ _› (by omega))), by first | assumption | exact KSp_mono (by assumption) (by omega), by first | assumption | exact Fr1_rfl, by first | assumption | exact Fr8_rfl⟩)⟩
      · refine lv_aload_n B.1 B.2.1 dX12_readStar_52 rfl (lv_at hl 0 rfl) ?_
        refine m_geta (k := 40) B hM (by decide) rfl fl214 dX12_readStar_53 ?_
        refine lv_iload_n B.1 B.2.1 dX12_readStar_56 rfl (lv_at hl 1 rfl) ?_
        refine m_ild (k := 40) (i := 28) (n := 32) (z := a_k) (v := y46_40 a_k.toNat) B hM rfl rfl rfl (by decide) dX12_readStar_57 (by omega) (by omega) rfl ?_
        have r17 : (0 : Int) ≤ y46_40 a_k.toNat ∧ y46_40 a_k.toNat ≤ 8 := hM.2.2.2.2 40 a_k.toNat
        refine q_bip B dX12_readStar_58 (by decide) ?_
        refine q_cge (tgt := 99) B dX12_readStar_60 (by decide) (by unfold inr; omega) (by unfold inr; omega) (fun c18 => ?_) (fun c18 => ?_)
        · subst hPST
          exact m_vret B hM dX12_readStar_99 ⟨y46_8, y46_9, y46_7, y46_10, y46_5, y46_6, y46_22, y46_62, y46_11, y46_17, y46_18, y46_19, y46_20, y46_21, y46_47, y46_48, y46_49, y46_50, y46_51, y46_52, y46_53, y46_54, y46_39, y46_40, y46_16, y46_55, rfl, by (exact ⟨by omega, by omega, by omega, by omega, by omega, by omega, by omega, by assumption, by first | assumption | exact APe_rfl, by assumption, by first | assumption | (intro hq; exfalso; omega) | (intro hq; exact (‹_ = 0 → UTI _ _ _ _ _› (by omega))), by first | assumption | exact KSp_mono (by assumption) (by omega), by first | assumption | exact Fr1_rfl, by first | assumption | exact Fr8_rfl⟩)⟩
        · refine lv_aload_n B.1 B.2.1 dX12_readStar_63 rfl (lv_at hl 0 rfl) ?_
          refine m_geta (k := 39) B hM (by decide) rfl fl211 dX12_readStar_64 ?_
          refine q_bip B dX12_readStar_67 (by decide) ?_
          refine lv_iload_n B.1 B.2.1 dX12_readStar_69 rfl (lv_at hl 1 rfl) ?_
          refine q_mul B dX12_readStar_70 ?_
          refine lv_aload_n B.1 B.2.1 dX12_readStar_71 rfl (lv_at hl 0 rfl) ?_
          refine m_geta (k := 40) B hM (by decide) rfl fl214 dX12_readStar_72 ?_
          refine lv_iload_n B.1 B.2.1 dX12_readStar_75 rfl (lv_at hl 1 rfl) ?_
          refine m_ild (k := 40) (i := 28) (n := 32) (z := a_k) (v := y46_40 a_k.toNat) B hM rfl rfl rfl (by decide) dX12_readStar_76 (by omega) (by omega) rfl ?_
          refine q_add B dX12_readStar_77 ?_
          refine lv_iload_n B.1 B.2.1 dX12_readStar_78 rfl (lv_at hl 2 rfl) ?_
          refine lv_iload B.1 B.2.1 dX12_readStar_79 (lv_at hl 4 rfl) ?_
          refine q_add B dX12_readStar_81 ?_
          refine m_ist (k := 39) (i := 27) (n := 256) B hM rfl rfl rfl (by decide) dX12_readStar_82 (by omega) (by omega) (show (0 : Int) ≤ v46_2 + v46_4 from by first | omega | (simp only [wr_at]; omega)) (show v46_2 + v46_4 ≤ (3199 : Int) from by first | omega | (simp only [wr_at]; omega)) (u1_up A [(17, y46_17), (18, y46_18), (19, y46_19), (20, y46_20), (21, y46_21), (47, y46_47), (48, y46_48), (49, y46_49), (50, y46_50), (51, y46_51), (52, y46_52), (53, y46_53), (54, y46_54), (39, y46_39), (40, y46_40)] 39 (wr y46_39 ((8 * a_k) + (y46_40 a_k.toNat)) (v46_2 + v46_4))) (fun H locs hM => ?_)
          replace hM : MWd D dA h0 ad (mF dA h0 ad (f, g, A, L) s.heap.size) s.heap ((up f [(8, y46_8), (9, y46_9), (7, y46_7), (10, y46_10), (5, y46_5), (6, y46_6), (22, y46_22), (62, y46_62)]), (up g [(11, y46_11)]), (up A [(17, y46_17), (18, y46_18), (19, y46_19), (20, y46_20), (21, y46_21), (47, y46_47), (48, y46_48), (49, y46_49), (50, y46_50), (51, y46_51), (52, y46_52), (53, y46_53), (54, y46_54), (39, (wr y46_39 ((8 * a_k) + (y46_40 a_k.toNat)) (v46_2 + v46_4))), (40, y46_40)]), (up L [(16, y46_16), (55, y46_55)])) H locs := hM
          refine lv_aload_n B.1 B.2.1 dX12_readStar_83 rfl (lv_at hl 0 rfl) ?_
          refine m_geta (k := 40) B hM (by decide) rfl fl214 dX12_readStar_84 ?_
          refine lv_iload_n B.1 B.2.1 dX12_readStar_87 rfl (lv_at hl 1 rfl) ?_
          refine lv_dup2_11 B.1 B.2.1 dX12_readStar_88 rfl rfl ?_
          refine m_ild (k := 40) (i := 28) (n := 32) (z := a_k) (v := y46_40 a_k.toNat) B hM rfl rfl rfl (by decide) dX12_readStar_89 (by omega) (by omega) rfl ?_
          refine q_con B dX12_readStar_90 ?_
          refine q_add B dX12_readStar_91 ?_
          refine m_ist (k := 40) (i := 28) (n := 32) B hM rfl rfl rfl (by decide) dX12_readStar_92 (by omega) (by omega) (show (0 : Int) ≤ (y46_40 a_k.toNat) + 1 from by first | omega | (simp only [wr_at]; omega)) (show (y46_40 a_k.toNat) + 1 ≤ (8 : Int) from by first | omega | (simp only [wr_at]; omega)) (u1_up A [(17, y46_17), (18, y46_18), (19, y46_19), (20, y46_20), (21, y46_21), (47, y46_47), (48, y46_48), (49, y46_49), (50, y46_50), (51, y46_51), (52, y46_52), (53, y46_53), (54, y46_54), (39, (wr y46_39 ((8 * a_k) + (y46_40 a_k.toNat)) (v46_2 + v46_4))), (40, y46_40)] 40 (wr y46_40 a_k ((y46_40 a_k.toNat) + 1))) (fun H locs hM => ?_)
          replace hM : MWd D dA h0 ad (mF dA h0 ad (f, g, A, L) s.heap.size) s.heap ((up f [(8, y46_8), (9, y46_9), (7, y46_7), (10, y46_10), (5, y46_5), (6, y46_6), (22, y46_22), (62, y46_62)]), (up g [(11, y46_11)]), (up A [(17, y46_17), (18, y46_18), (19, y46_19), (20, y46_20), (21, y46_21), (47, y46_47), (48, y46_48), (49, y46_49), (50, y46_50), (51, y46_51), (52, y46_52), (53, y46_53), (54, y46_54), (39, (wr y46_39 ((8 * a_k) + (y46_40 a_k.toNat)) (v46_2 + v46_4))), (40, (wr y46_40 a_k ((y46_40 a_k.toNat) + 1)))]), (up L [(16, y46_16), (55, y46_55)])) H locs := hM
          refine q_inc (k := 4) (x := v46_4) (lv' := [(4, .int (II (v46_4 + 1))), (0, .ref h0), (1, .int (II a_k)), (2, .int (II v46_2)), (3, .int (II v46_3))]) B dX12_readStar_93 hl rfl (by decide) rfl (fun ls hl => ?_)
          refine lv_goto (tgt := 46) B.1 B.2.1 dX12_readStar_96 (by decide) ?_
          exact IH46 v46_2 v46_3 (v46_4 + 1) y46_8 y46_9 y46_7 y46_10 y46_5 y46_6 y46_22 y46_62 y46_11 y46_17 y46_18 y46_19 y46_20 y46_21 y46_47 y46_48 y46_49 y46_50 y46_51 y46_52 y46_53 y46_54 ((wr y46_39 ((8 * a_k) + (y46_40 a_k.toNat)) (v46_2 + v46_4))) ((wr y46_40 a_k ((y46_40 a_k.toNat) + 1))) y46_16 y46_55 _ _ ls hM (lv_sub hl [1, 2, 3, 4, 0] rfl) (by omega) (by omega) (by omega) (by first | omega | (simp only [wr_at]; omega) | assumption) (by first | omega | (simp only [wr_at]; omega) | assumption) (by first | omega | (simp only [wr_at]; omega) | assumption) (by first | omega | (simp only [wr_at]; omega) | assumption) (by first | omega | (simp only [wr_at]; omega) | assumption) (by first | omega | (simp only [wr_at]; omega) | assumption) (by first | omega | (simp only [wr_at]; omega) | assumption) (by first | omega | (simp only [wr_at]; omega) | assumption) (by first | omega | (simp only [wr_at]; omega) | assumption) (by first | omega | (simp only [wr_at]; omega) | assumption) (by first | omega | (simp only [wr_at]; omega) | assumption) (by first | omega | (simp only [wr_at]; omega) | assumption) (by first | omega | (simp only [wr_at]; omega) | assumption) (by first | omega | (simp only [wr_at]; omega) | assumption) (by first | omega | (simp only [wr_at]; omega) | assumption) (by first | assumption | (intro hq; exfalso; omega) | (intro hq; exact (‹_ = 0 → UTI _ _ _ _ _› (by omega)))) (by first | assumption | exact KSp_mono (by assumption) (by omega) | (simp only [wr_at]; exact KSp_push (by assumption) (by omega) (by omega) (by omega) (by omega))) (by first | assumption | exact Fr1_rfl | exact Fr1_wr (by assumption)) (by first | assumption | exact Fr8_rfl | exact Fr8_wr (by assumption) (by omega) (by omega) (by omega)) (by first | omega | (simp only [wr_at]; omega) | assumption) (by first | omega | (simp only [wr_at]; omega) | assumption) (by first | omega | (simp only [wr_at]; omega) | assumption)
  refine lv_aload_n B.1 B.2.1 dX12_readStar_0 rfl (lv_at hl 0 rfl) ?_
  refine m_callv (n := 0) (rest := []) B hM hA hl.1 (k_next l D dA h0 ad (up f [(8, f 8), (9, f 9), (7, f 7), (10, f 10), (5, f 5), (6, f 6), (22, f 22), (62, f 62)]) (up g [(11, g 11)]) (up A [(17, (A 17)), (18, (A 18)), (19, (A 19)), (20, (A 20)), (21, (A 21)), (47, (A 47)), (48, (A 48)), (49, (A 49)), (50, (A 50)), (51, (A 51)), (52, (A 52)), (53, (A 53)), (54, (A 54)), (39, (A 39)), (40, (A 40))]) (up L [(16, (L 16)), (55, (L 55))])   (show (f 9) ≤ 3001 from by first | omega | (simp only [wr_at]; omega) | assumption)) rfl ok_next nm_next ⟨rfl, rfl⟩ ⟨Nat.le_of_ble_eq_true rfl, Nat.le_of_ble_eq_true rfl⟩ dX12_readStar_1 rfl rfl (Nat.le_of_ble_eq_true rfl) ⟨Nat.zero_le _, Nat.zero_le _⟩ (fun σr19 H locs hp20 hM => ?_)
  obtain ⟨x21, x22, x23, x24, w25, rfl, hp20⟩ := hp20
  replace hp20 : ((f 9) ≤ (x21) ∨ (x21) = (f 4)) ∧ (0 ≤ (x21) ∧ (x21) ≤ (f 4) ∧ (x21) ≤ (x22) ∧ (x22) ≤ (f 4) + 1 ∧ ((x23) = 0 ↔ (x21) = (f 4)) ∧ (2 ≤ (x23) → (x21) < (x22) ∧ (x22) ≤ (f 4)) ∧ ((x23) = 5 → (x21) + 2 ≤ (x22) ∧ (x22) ≤ (x21) + 32)) := hp20
  obtain ⟨hp20_0, hp20_1⟩ := hp20
  simp only [up_up] at hM
  replace hM : MWd D dA h0 ad (mF dA h0 ad (f, g, A, L) s.heap.size) s.heap ((up f [(8, x21), (9, x22), (7, x23), (10, x24), (5, f 5), (6, f 6), (22, f 22), (62, f 62)]), (up g [(11, w25)]), (up A [(17, (A 17)), (18, (A 18)), (19, (A 19)), (20, (A 20)), (21, (A 21)), (47, (A 47)), (48, (A 48)), (49, (A 49)), (50, (A 50)), (51, (A 51)), (52, (A 52)), (53, (A 53)), (54, (A 54)), (39, (A 39)), (40, (A 40))]), (up L [(16, (L 16)), (55, (L 55))])) H locs := hM
  have r26 : (0 : Int) ≤ x21 ∧ x21 ≤ 3001 := hM.2.2.2.1 8
  have r27 : (0 : Int) ≤ x22 ∧ x22 ≤ 3002 := hM.2.2.2.1 9
  have r28 : (0 : Int) ≤ x23 ∧ x23 ≤ 6 := hM.2.2.2.1 7
  have r29 : (-2147483648 : Int) ≤ x24 ∧ x24 ≤ 2147483647 := hM.2.2.2.1 10
  refine lv_aload_n B.1 B.2.1 dX12_readStar_4 rfl (lv_at hl 0 rfl) ?_
  refine q_bip B dX12_readStar_5 (by decide) ?_
  refine m_callv (n := 1) (rest := []) B hM hA hl.1 (k_must l D dA h0 ad (up f [(8, x21), (9, x22), (7, x23), (10, x24), (5, f 5), (6, f 6), (22, f 22), (62, f 62)]) (up g [(11, w25)]) (up A [(17, (A 17)), (18, (A 18)), (19, (A 19)), (20, (A 20)), (21, (A 21)), (47, (A 47)), (48, (A 48)), (49, (A 49)), (50, (A 50)), (51, (A 51)), (52, (A 52)), (53, (A 53)), (54, (A 54)), (39, (A 39)), (40, (A 40))]) (up L [(16, (L 16)), (55, (L 55))]) 61 (by omega) (show (0 ≤ (x21) ∧ (x21) ≤ (f 4) ∧ (x21) ≤ (x22) ∧ (x22) ≤ (f 4) + 1 ∧ ((x23) = 0 ↔ (x21) = (f 4)) ∧ (2 ≤ (x23) → (x21) < (x22) ∧ (x22) ≤ (f 4)) ∧ ((x23) = 5 → (x21) + 2 ≤ (x22) ∧ (x22) ≤ (x21) + 32)) from by first | omega | (simp only [wr_at]; omega) | assumption)) rfl ok_must nm_must ⟨rfl, rfl⟩ ⟨Nat.le_of_ble_eq_true rfl, Nat.le_of_ble_eq_true rfl⟩ dX12_readStar_7 rfl rfl (Nat.le_of_ble_eq_true rfl) ⟨Nat.zero_le _, Nat.zero_le _⟩ (fun σr30 H locs hp31 hM => ?_)
  obtain ⟨x32, x33, x34, x35, x36, x37, w38, rfl, hp31⟩ := hp31
  replace hp31 : ((0 ≤ (x32) ∧ (x32) ≤ (f 4) ∧ (x32) ≤ (x33) ∧ (x33) ≤ (f 4) + 1 ∧ ((x34) = 0 ↔ (x32) = (f 4)) ∧ (2 ≤ (x34) → (x32) < (x33) ∧ (x33) ≤ (f 4)) ∧ ((x34) = 5 → (x32) + 2 ≤ (x33) ∧ (x33) ≤ (x32) + 32))) ∧ (x21) ≤ (x32) ∧ ((x36) = 0 → (f 5) = 0 ∧ (x21) + 1 ≤ (x32) ∧ (x22) ≤ (x32)) := hp31
  obtain ⟨hp31_0, hp31_1, hp31_2⟩ := hp31
  simp only [up_up] at hM
  replace hM : MWd D dA h0 ad (mF dA h0 ad (f, g, A, L) s.heap.size) s.heap ((up f [(8, x32), (9, x33), (7, x34), (10, x35), (5, x36), (6, x37), (22, f 22), (62, f 62)]), (up g [(11, w38)]), (up A [(17, (A 17)), (18, (A 18)), (19, (A 19)), (20, (A 20)), (21, (A 21)), (47, (A 47)), (48, (A 48)), (49, (A 49)), (50, (A 50)), (51, (A 51)), (52, (A 52)), (53, (A 53)), (54, (A 54)), (39, (A 39)), (40, (A 40))]), (up L [(16, (L 16)), (55, (L 55))])) H locs := hM
  have r39 : (0 : Int) ≤ x32 ∧ x32 ≤ 3001 := hM.2.2.2.1 8
  have r40 : (0 : Int) ≤ x33 ∧ x33 ≤ 3002 := hM.2.2.2.1 9
  have r41 : (0 : Int) ≤ x34 ∧ x34 ≤ 6 := hM.2.2.2.1 7
  have r42 : (-2147483648 : Int) ≤ x35 ∧ x35 ≤ 2147483647 := hM.2.2.2.1 10
  have r43 : (-2147483648 : Int) ≤ x36 ∧ x36 ≤ 2147483647 := hM.2.2.2.1 5
  have r44 : (-2147483648 : Int) ≤ x37 ∧ x37 ≤ 2147483647 := hM.2.2.2.1 6
  refine lv_aload_n B.1 B.2.1 dX12_readStar_10 rfl (lv_at hl 0 rfl) ?_
  refine m_calli (n := 0) (rest := []) B hM hA hl.1 (k_isGood l D dA h0 ad (up f [(8, x32), (9, x33), (7, x34), (10, x35), (5, x36), (6, x37), (22, f 22), (62, f 62)]) (up g [(11, w38)]) (up A [(17, (A 17)), (18, (A 18)), (19, (A 19)), (20, (A 20)), (21, (A 21)), (47, (A 47)), (48, (A 48)), (49, (A 49)), (50, (A 50)), (51, (A 51)), (52, (A 52)), (53, (A 53)), (54, (A 54)), (39, (A 39)), (40, (A 40))]) (up L [(16, (L 16)), (55, (L 55))])   ) rfl ok_isGood nm_isGood ⟨rfl, rfl⟩ ⟨Nat.le_of_ble_eq_true rfl, Nat.le_of_ble_eq_true rfl⟩ dX12_readStar_11 rfl rfl (Nat.le_of_ble_eq_true rfl) ⟨Nat.zero_le _, Nat.zero_le _⟩ (fun r45 σr45 H locs ir45 hp46 hM => ?_)
  obtain ⟨rfl, hp46⟩ := hp46
  unfold inr at ir45
  replace hp46 : 0 ≤ r45 ∧ r45 ≤ 1 ∧ (r45 = 1 ↔ (x36) = 0) := hp46
  obtain ⟨hp46_0, hp46_1, hp46_2⟩ := hp46
  refine q_ine (tgt := 18) B dX12_readStar_14 (by decide) (by unfold inr; omega) (fun c47 => ?_) (fun c47 => ?_)
  · refine q_sip B dX12_readStar_18 (by decide) ?_
    refine lv_aload_n B.1 B.2.1 dX12_readStar_21 rfl (lv_at hl 0 rfl) ?_
    refine m_get (k := 3) (v := f 3) B hM (by decide) rfl fl11 dX12_readStar_22 rfl ?_
    refine q_mul B dX12_readStar_25 ?_
    refine lv_aload_n B.1 B.2.1 dX12_readStar_26 rfl (lv_at hl 0 rfl) ?_
    refine m_get (k := 62) (v := f 62) B hM (by decide) rfl fl418 dX12_readStar_27 rfl ?_
    refine q_add B dX12_readStar_30 ?_
    refine lv_istore_n (lv' := [(2, .int (II ((1600 * (f 3)) + (f 62)))), (0, .ref h0), (1, .int (II a_k))]) B.1 B.2.1 dX12_readStar_31 rfl hl (by decide) rfl (fun ls hl => ?_)
    refine lv_aload_n B.1 B.2.1 dX12_readStar_32 rfl (lv_at hl 1 rfl) ?_
    refine lv_aload_n B.1 B.2.1 dX12_readStar_33 rfl (lv_at hl 1 rfl) ?_
    refine m_geta (k := 40) B hM (by decide) rfl fl214 dX12_readStar_34 ?_
    refine lv_iload_n B.1 B.2.1 dX12_readStar_37 rfl (lv_at hl 2 rfl) ?_
    refine m_ild (k := 40) (i := 28) (n := 32) (z := a_k) (v := (A 40) a_k.toNat) B hM rfl rfl rfl (by decide) dX12_readStar_38 (by omega) (by omega) rfl ?_
    have r48 : (0 : Int) ≤ (A 40) a_k.toNat ∧ (A 40) a_k.toNat ≤ 8 := hM.2.2.2.2 40 a_k.toNat
    refine m_calli (n := 1) (rest := []) B hM hA hl.1 (k_readUses l D dA h0 ad (up f [(8, x32), (9, x33), (7, x34), (10, x35), (5, x36), (6, x37), (22, f 22), (62, f 62)]) (up g [(11, w38)]) (up A [(17, (A 17)), (18, (A 18)), (19, (A 19)), (20, (A 20)), (21, (A 21)), (47, (A 47)), (48, (A 48)), (49, (A 49)), (50, (A 50)), (51, (A 51)), (52, (A 52)), (53, (A 53)), (54, (A 54)), (39, (A 39)), (40, (A 40))]) (up L [(16, (L 16)), (55, (L 55))]) ((A 40) a_k.toNat) (by omega) (show 0 ≤ ((A 40) a_k.toNat) from by first | omega | (simp only [wr_at]; omega) | assumption) (show ((A 40) a_k.toNat) ≤ 8 from by first | omega | (simp only [wr_at]; omega) | assumption) (show (0 ≤ (x32) ∧ (x32) ≤ (f 4) ∧ (x32) ≤ (x33) ∧ (x33) ≤ (f 4) + 1 ∧ ((x34) = 0 ↔ (x32) = (f 4)) ∧ (2 ≤ (x34) → (x32) < (x33) ∧ (x33) ≤ (f 4)) ∧ ((x34) = 5 → (x32) + 2 ≤ (x33) ∧ (x33) ≤ (x32) + 32)) from by first | omega | (simp only [wr_at]; omega) | assumption) (show 2 * (f 22) ≤ (x32) from by first | omega | (simp only [wr_at]; omega) | assumption) (show ((x36) = 0 → (f 62) ≤ (f 22)) from by first | omega | (simp only [wr_at]; omega) | assumption) (show (f 62) ≤ 1540 from by first | omega | (simp only [wr_at]; omega) | assumption) (show AIp (f 22) (A 18) (A 20) (A 21) from by first | omega | (simp only [wr_at]; omega) | assumption) (show TXI (A 51) (A 52) from by first | omega | (simp only [wr_at]; omega) | assumption) (show ((x36) = 0 → UTI (f 3) (f 62) (f 22) (A 20) (A 21)) from by first | assumption | (intro hq; exfalso; omega) | (intro hq; exact (‹_ = 0 → UTI _ _ _ _ _› (by omega))))) rfl ok_readUses nm_readUses ⟨rfl, rfl⟩ ⟨Nat.le_of_ble_eq_true rfl, Nat.le_of_ble_eq_true rfl⟩ dX12_readStar_39 rfl rfl (Nat.le_of_ble_eq_true rfl) ⟨Nat.zero_le _, Nat.zero_le _⟩ (fun r49 σr49 H locs ir49 hp50 hM => ?_)
    obtain ⟨x51, x52, x53, x54, x55, x56, x57, x58, w59, b60, b61, b62, b63, b64, b65, b66, b67, b68, b69, b70, b71, b72, b73, b74, rfl, hp50⟩ := hp50
    unfold inr at ir49
    replace hp50 : 0 ≤ r49 ∧ ((A 40) a_k.toNat) + r49 ≤ 8 ∧ ((0 ≤ (x51) ∧ (x51) ≤ (f 4) ∧ (x51) ≤ (x52) ∧ (x52) ≤ (f 4) + 1 ∧ ((x53) = 0 ↔ (x51) = (f 4)) ∧ (2 ≤ (x53) → (x51) < (x52) ∧ (x52) ≤ (f 4)) ∧ ((x53) = 5 → (x51) + 2 ≤ (x52) ∧ (x52) ≤ (x51) + 32))) ∧ (x32) ≤ (x51) ∧ ((x55) = 0 → (x36) = 0 ∧ (x32) + 1 ≤ (x51) ∧ (x58) ≤ (x57) ∧ 1 ≤ r49 ∧ 2 * (x57) ≤ (x51)) ∧ 2 * (x57) ≤ (x51) + 1 ∧ (x58) = (f 62) + r49 ∧ (f 22) ≤ (x57) ∧ AIp (x57) b61 b63 b64 ∧ APe (f 22) (A 20) (A 21) b63 b64 ∧ TXI b69 b70 ∧ ((x55) = 0 → UTI (f 3) (x58) (x57) b63 b64) := hp50
    obtain ⟨hp50_0, hp50_1, hp50_2, hp50_3, hp50_4, hp50_5, hp50_6, hp50_7, hp50_8, hp50_9, hp50_10, hp50_11⟩ := hp50
    simp only [up_up] at hM
    replace hM : MWd D dA h0 ad (mF dA h0 ad (f, g, A, L) s.heap.size) s.heap ((up f [(8, x51), (9, x52), (7, x53), (10, x54), (5, x55), (6, x56), (22, x57), (62, x58)]), (up g [(11, w59)]), (up A [(17, b60), (18, b61), (19, b62), (20, b63), (21, b64), (47, b65), (48, b66), (49, b67), (50, b68), (51, b69), (52, b70), (53, b71), (54, b72), (39, (A 39)), (40, (A 40))]), (up L [(16, b73), (55, b74)])) H locs := hM
    have r75 : (0 : Int) ≤ x51 ∧ x51 ≤ 3001 := hM.2.2.2.1 8
    have r76 : (0 : Int) ≤ x52 ∧ x52 ≤ 3002 := hM.2.2.2.1 9
    have r77 : (0 : Int) ≤ x53 ∧ x53 ≤ 6 := hM.2.2.2.1 7
    have r78 : (-2147483648 : Int) ≤ x54 ∧ x54 ≤ 2147483647 := hM.2.2.2.1 10
    have r79 : (-2147483648 : Int) ≤ x55 ∧ x55 ≤ 2147483647 := hM.2.2.2.1 5
    have r80 : (-2147483648 : Int) ≤ x56 ∧ x56 ≤ 2147483647 := hM.2.2.2.1 6
    have r81 : (0 : Int) ≤ x57 ∧ x57 ≤ 1600 := hM.2.2.2.1 22
    have r82 : (0 : Int) ≤ x58 ∧ x58 ≤ 1590 := hM.2.2.2.1 62
    refine lv_istore_n (lv' := [(3, .int (II r49)), (2, .int (II ((1600 * (f 3)) + (f 62)))), (0, .ref h0), (1, .int (II a_k))]) B.1 B.2.1 dX12_readStar_42 rfl hl (by decide) rfl (fun ls hl => ?_)
    refine q_con B dX12_readStar_43 ?_
    refine lv_istore (lv' := [(4, .int (II 0)), (3, .int (II r49)), (2, .int (II ((1600 * (f 3)) + (f 62)))), (0, .ref h0), (1, .int (II a_k))]) B.1 B.2.1 dX12_readStar_44 hl (by decide) rfl (fun ls hl => ?_)
    exact LL46 (Int.toNat ((r49) - (0) + 1)) ((1600 * (f 3)) + (f 62)) r49 0 x51 x52 x53 x54 x55 x56 x57 x58 w59 b60 b61 b62 b63 b64 b65 b66 b67 b68 b69 b70 b71 b72 ((A 39)) ((A 40)) b73 b74 _ _ ls hM (lv_sub hl [3, 4, 2, 1, 0] rfl) (by omega) (by omega) (by omega) (by first | omega | (simp only [wr_at]; omega) | assumption) (by first | omega | (simp only [wr_at]; omega) | assumption) (by first | omega | (simp only [wr_at]; omega) | assumption) (by first | omega | (simp only [wr_at]; omega) | assumption) (by first | omega | (simp only [wr_at]; omega) | assumption) (by first | omega | (simp only [wr_at]; omega) | assumption) (by first | omega | (simp only [wr_at]; omega) | assumption) (by first | omega | (simp only [wr_at]; omega) | assumption) (by first | omega | (simp only [wr_at]; omega) | assumption) (by first | omega | (simp only [wr_at]; omega) | assumption) (by first | omega | (simp only [wr_at]; omega) | assumption) (by first | omega | (simp only [wr_at]; omega) | assumption) (by first | omega | (simp only [wr_at]; omega) | assumption) (by first | omega | (simp only [wr_at]; omega) | assumption) (by first | omega | (simp only [wr_at]; omega) | assumption) (by first | assumption | (intro hq; exfalso; omega) | (intro hq; exact (‹_ = 0 → UTI _ _ _ _ _› (by omega)))) (by first | assumption | exact KSp_mono (by assumption) (by omega) | (simp only [wr_at]; exact KSp_push (by assumption) (by omega) (by omega) (by omega) (by omega))) (by first | assumption | exact Fr1_rfl | exact Fr1_wr (by assumption)) (by first | assumption | exact Fr8_rfl | exact Fr8_wr (by assumption) (by omega) (by omega) (by omega)) (by first | omega | (simp only [wr_at]; omega) | assumption) (by first | omega | (simp only [wr_at]; omega) | assumption) (by first | omega | (simp only [wr_at]; omega) | assumption)
  · subst hPST
    exact m_vret B hM dX12_readStar_17 ⟨x32, x33, x34, x35, x36, x37, (f 22), (f 62), w38, ((A 17)), ((A 18)), ((A 19)), ((A 20)), ((A 21)), ((A 47)), ((A 48)), ((A 49)), ((A 50)), ((A 51)), ((A 52)), ((A 53)), ((A 54)), ((A 39)), ((A 40)), ((L 16)), ((L 55)), rfl, by (exact ⟨by omega, by omega, by omega, by omega, by omega, by omega, by omega, by assumption, by first | assumption | exact APe_rfl, by assumption, by first | assumption | (intro hq; exfalso; omega) | (intro hq; exact (‹_ = 0 → UTI _ _ _ _ _› (by omega))), by first | assumption | exact KSp_mono (by assumption) (by omega), by first | assumption | exact Fr1_rfl, by first | assumption | exact Fr8_rfl⟩)⟩
