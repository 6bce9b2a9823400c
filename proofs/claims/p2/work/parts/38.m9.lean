/-- what uses name: a built-in or own rule, or a mark -/
def UWp (w : Nat → Int) : Prop := ∀ j : Nat, w j ≤ 115 ∨ 200 ≤ w j
theorem UWp_wr {w : Nat → Int} {z v : Int} (h : UWp w) (hv : v ≤ 115 ∨ 200 ≤ v) : UWp (wr w z v) := by
  intro j
  by_cases e : j = z.toNat
  · subst e; rw [wr_at]; exact hv
  · rw [wr_ne e]; exact h j
/-- the first n askings for kinds are answered -/
def RKp (n : Int) (r a bK : Nat → Int) : Prop := ∀ j : Nat, (j : Int) < n → r j = 3 → 0 ≤ bK (a j).toNat
theorem RKp_0 {n : Int} {r a bK : Nat → Int} (h : n ≤ 0) : RKp n r a bK := fun j hj => absurd hj (by omega)
theorem RKp_skip {n : Int} {r a bK : Nat → Int} (h : RKp n r a bK) (hn : 0 ≤ n) (h3 : r n.toNat ≠ 3) : RKp (n + 1) r a bK := by
  intro j hj hr
  by_cases e : j = n.toNat
  · subst e; exact absurd hr h3
  · exact h j (by omega) hr
theorem RKp_put {n v : Int} {r a bK : Nat → Int} (h : RKp n r a bK) (hn : 0 ≤ n) (hv : 0 ≤ v) : RKp (n + 1) r a (wr bK (a n.toNat) v) := by
  intro j hj hr
  by_cases e : (a j).toNat = (a n.toNat).toNat
  · rw [e, wr_at]; exact hv
  · rw [wr_ne e]
    exact h j (by
      have : j ≠ n.toNat := fun q => e (by rw [q])
      omega) hr
theorem BKp_of {b mem n : Int} {bT bK r a : Nat → Int} (h : BTI b mem bT n r a) (k : RKp n r a bK) : ∀ x : Int, 200 * b ≤ x → x < 200 * b + mem → 2 ≤ bT x.toNat → 0 ≤ bK x.toNat := by
  intro x x0 x1 x2
  obtain ⟨j, j0, j1, j2⟩ := h x x0 x1 x2
  have := k j j0 j1
  rw [j2] at this
  exact this
set_option maxHeartbeats 4000000 in
set_option maxRecDepth 20000 in
theorem k_resolve (l : Launch) (D : va_G) (dA : Nat → ClassId) (h0 : Nat) (ad : Nat → Nat) (f : Nat → Int) (g : Nat → Int64) (A : Nat → Nat → Int) (L : Nat → Nat → Int64) (p_0 : AIp (f 22) (A 18) (A 20) (A 21)) (p_1 : NIp (f 15) (f 3) (A 13) (A 14)) (p_2 : UWp (A 46)) (p_3 : (f 5) = 0) : MCv l yX12_resolve cX12_resolve 5 ({ frames := 1, cells := 0, slots := 0, locals := 23 }) D dA h0 ad (f, g, A, L) [] (fun (σ : MS) => ∃ n5 : Int, ∃ n6 : Int, ∃ b46 : Nat → Int, ∃ b23 : Nat → Int, ∃ b24 : Nat → Int, ∃ b43 : Nat → Int, ∃ b49 : Nat → Int, σ = ((up f [(5, n5), (6, n6)]), g, (up A [(46, b46), (23, b23), (24, b24), (43, b43), (49, b49)]), L) ∧ (UWp b46 ∧ ((n5) = 0 → RKp (f 22) (A 20) (A 21) b43))) := by
  generalize hPST : (fun (σ : MS) => ∃ n5 : Int, ∃ n6 : Int, ∃ b46 : Nat → Int, ∃ b23 : Nat → Int, ∃ b24 : Nat → Int, ∃ b43 : Nat → Int, ∃ b49 : Nat → Int, σ = ((up f [(5, n5), (6, n6)]), g, (up A [(46, b46), (23, b23), (24, b24), (43, b43), (49, b49)]), L) ∧ (UWp b46 ∧ ((n5) = 0 → RKp (f 22) (A 20) (A 21) b43))) = PST
  refine m_enterv (by decide) rfl (Nat.le_of_ble_eq_true rfl) (fun p e s m args below meth c ls B hM hl => ?_)
  have hA : ∀ q, s.heap.size ≤ q → mF dA h0 ad (f, g, A, L) s.heap.size q := fun q h => Or.inr h
  have hM : MWd D dA h0 ad (mF dA h0 ad (f, g, A, L) s.heap.size) s.heap ((up f [(5, f 5), (6, f 6)]), g, (up A [(46, (A 46)), (23, (A 23)), (24, (A 24)), (43, (A 43)), (49, (A 49))]), L) s.heap [] := MW_pad hM (up_self f [5, 6]) rfl (up_self A [46, 23, 24, 43, 49]) rfl
  have hl : lv_has ls 5 [(0, .ref h0)] := hl
  have r1 : (0 : Int) ≤ f 3 ∧ f 3 ≤ 1 := hM.2.2.2.1 3
  have r2 : (0 : Int) ≤ f 15 ∧ f 15 ≤ 64 := hM.2.2.2.1 15
  have r3 : (0 : Int) ≤ f 22 ∧ f 22 ≤ 1600 := hM.2.2.2.1 22
  have LL2 : ∀ N : Nat, ∀ (v2_1 : Int) (y2_5 : Int) (y2_6 : Int) (y2_46 : Nat → Int) (y2_23 : Nat → Int) (y2_24 : Nat → Int) (y2_43 : Nat → Int) (y2_49 : Nat → Int) (H : Heap) (locs : List Loc) (ls : Array Slot), (MWd D dA h0 ad (mF dA h0 ad (f, g, A, L) s.heap.size) s.heap ((up f [(5, y2_5), (6, y2_6)]), g, (up A [(46, y2_46), (23, y2_23), (24, y2_24), (43, y2_43), (49, y2_49)]), L) H locs) → lv_has ls 5 [(0, .ref h0), (1, .int (II v2_1))] → ((-2147483648 : Int) ≤ v2_1 ∧ v2_1 ≤ 2147483647) → (0 ≤ (v2_1)) → ((v2_1) ≤ (f 22)) → (((y2_5) = 0 → (f 5) = 0 ∧ RKp (v2_1) (A 20) (A 21) y2_43)) → (UWp y2_46) → (0 ≤ (f 22) - (v2_1)) → ((f 22) - (v2_1) < (N : Int)) → W p l e ({ frames := 1, cells := 0, slots := 0, locals := 23 }) s m args below meth c H locs 0 0 (MQ below (mQv D dA h0 ad (f, g, A, L) s.heap.size PST) args s 0 0 (mF dA h0 ad (f, g, A, L) s.heap.size)) (F0 m 2 ls []) := by
    intro N
    induction N with
    | zero => intro v2_1 y2_5 y2_6 y2_46 y2_23 y2_24 y2_43 y2_49 H locs ls hM hl hLL2_0 hLL2_1 hLL2_2 hLL2_3 hLL2_4 hLL2_5 hN; exfalso; omega
    | succ N IH2 =>
      intro v2_1 y2_5 y2_6 y2_46 y2_23 y2_24 y2_43 y2_49 H locs ls hM hl hLL2_0 hLL2_1 hLL2_2 hLL2_3 hLL2_4 hLL2_5 hN
      have JJ327 : ∀ (y327_5 : Int) (y327_6 : Int) (y327_46 : Nat → Int) (y327_23 : Nat → Int) (y327_24 : Nat → Int) (y327_43 : Nat → Int) (y327_49 : Nat → Int) (H : Heap) (locs : List Loc) (ls : Array Slot), (MWd D dA h0 ad (mF dA h0 ad (f, g, A, L) s.heap.size) s.heap ((up f [(5, y327_5), (6, y327_6)]), g, (up A [(46, y327_46), (23, y327_23), (24, y327_24), (43, y327_43), (49, y327_49)]), L) H locs) → lv_has ls 5 [(0, .ref h0), (1, .int (II ((v2_1))))] → (((y327_5) = 0 → (f 5) = 0 ∧ RKp ((v2_1) + 1) (A 20) (A 21) y327_43)) → (UWp y327_46) → W p l e ({ frames := 1, cells := 0, slots := 0, locals := 23 }) s m args below meth c H locs 0 0 (MQ below (mQv D dA h0 ad (f, g, A, L) s.heap.size PST) args s 0 0 (mF dA h0 ad (f, g, A, L) s.heap.size)) (F0 m 327 ls []) := by
        intro y327_5 y327_6 y327_46 y327_23 y327_24 y327_43 y327_49 H locs ls hM hl hJJ327_0 hJJ327_1
        have r4 : (-2147483648 : Int) ≤ y327_5 ∧ y327_5 ≤ 2147483647 := hM.2.2.2.1 5
        have r5 : (-2147483648 : Int) ≤ y327_6 ∧ y327_6 ≤ 2147483647 := hM.2.2.2.1 6
        refine q_inc (k := 1) (x := (v2_1)) (lv' := [(1, .int (II (((v2_1)) + 1))), (0, .ref h0)]) B dX12_resolve_327 hl rfl (by decide) rfl (fun ls hl => ?_)
        refine lv_goto (tgt := 2) B.1 B.2.1 dX12_resolve_330 (by decide) ?_
        exact IH2 (((v2_1)) + 1) y327_5 y327_6 y327_46 y327_23 y327_24 y327_43 y327_49 _ _ ls hM (lv_sub hl [1, 0] rfl) (by omega) (by first | omega | (simp only [wr_at]; omega) | assumption) (by first | omega | (simp only [wr_at]; omega) | assumption) (by first | (intro hq; exfalso; omega) | (intro hq; have hz := hLL2_3 (by omega); refine ⟨by omega, ?_⟩; first | exact RKp_skip hz.2 (by omega) (by omega) | exact RKp_put hz.2 (by omega) (by omega)) | (intro _; exact ⟨by omega, RKp_0 (by omega)⟩) | assumption) (by first | omega | (simp only [wr_at]; omega) | assumption) (by first | omega | (simp only [wr_at]; omega) | assumption) (by first | omega | (simp only [wr_at]; omega) | assumption)
      have JJ81 : ∀ (v81_2 : Int) (v81_3 : Int) (s81_0 : Int) (H : Heap) (locs : List Loc) (ls : Array Slot), (MWd D dA h0 ad (mF dA h0 ad (f, g, A, L) s.heap.size) s.heap ((up f [(5, y2_5), (6, y2_6)]), g, (up A [(46, y2_46), (23, y2_23), (24, y2_24), (43, y2_43), (49, y2_49)]), L) H locs) → lv_has ls 5 [(0, .ref h0), (2, .int (II v81_2)), (3, .int (II v81_3)), (1, .int (II ((v2_1))))] → ((-2147483648 : Int) ≤ v81_2 ∧ v81_2 ≤ 2147483647) → ((-2147483648 : Int) ≤ v81_3 ∧ v81_3 ≤ 2147483647) → ((-2147483648 : Int) ≤ s81_0 ∧ s81_0 ≤ 2147483647) → ((y2_5) = 0) → (0 ≤ (s81_0)) → ((s81_0) ≤ 1) → (0 ≤ (v81_3)) → ((v81_3) ≤ 8) → (-1 ≤ (v81_2)) → ((v81_2) < 128) → (((s81_0) = 1 → (v81_3) ≤ 0 → 0 ≤ (v81_2))) → ((v2_1) < (f 22)) → ((A 20) ((v2_1)).toNat = 5) → W p l e ({ frames := 1, cells := 0, slots := 0, locals := 23 }) s m args below meth c H locs 0 0 (MQ below (mQv D dA h0 ad (f, g, A, L) s.heap.size PST) args s 0 0 (mF dA h0 ad (f, g, A, L) s.heap.size)) (F0 m 81 ls [.int (II s81_0)]) := by
        intro v81_2 v81_3 s81_0 H locs ls hM hl hJJ81_0 hJJ81_1 hJJ81_2 hJJ81_3 hJJ81_4 hJJ81_5 hJJ81_6 hJJ81_7 hJJ81_8 hJJ81_9 hJJ81_10 hJJ81_11 hJJ81_12
        have r6 : (-2147483648 : Int) ≤ y2_5 ∧ y2_5 ≤ 2147483647 := hM.2.2.2.1 5
        have r7 : (-2147483648 : Int) ≤ y2_6 ∧ y2_6 ≤ 2147483647 := hM.2.2.2.1 6
        refine lv_istore (lv' := [(4, .int (II s81_0)), (0, .ref h0), (2, .int (II v81_2)), (3, .int (II v81_3)), (1, .int (II ((v2_1))))]) B.1 B.2.1 dX12_resolve_81 hl (by decide) rfl (fun ls hl => ?_)
        refine lv_iload B.1 B.2.1 dX12_resolve_83 (lv_at hl 0 rfl) ?_
        refine q_ine (tgt := 103) B dX12_resolve_85 (by decide) (by unfold inr; omega) (fun c8 => ?_) (fun c8 => ?_)
        · refine lv_aload_n B.1 B.2.1 dX12_resolve_103 rfl (lv_at hl 1 rfl) ?_
          refine m_geta (k := 46) B hM (by decide) rfl fl232 dX12_resolve_104 ?_
          refine lv_aload_n B.1 B.2.1 dX12_resolve_107 rfl (lv_at hl 1 rfl) ?_
          refine m_geta (k := 21) B hM (by decide) rfl fl160 dX12_resolve_108 ?_
          refine lv_iload_n B.1 B.2.1 dX12_resolve_111 rfl (lv_at hl 4 rfl) ?_
          refine m_ild (k := 21) (i := 10) (n := 1600) (z := (v2_1)) (v := (A 21) ((v2_1)).toNat) B hM rfl rfl rfl (by decide) dX12_resolve_112 (by omega) (by omega) rfl ?_
          have r9 : (0 : Int) ≤ (A 21) ((v2_1)).toNat ∧ (A 21) ((v2_1)).toNat ≤ 3199 := hM.2.2.2.2 21 ((v2_1)).toNat
          refine lv_iload_n B.1 B.2.1 dX12_resolve_113 rfl (lv_at hl 3 rfl) ?_
          refine q_ile (tgt := 121) B dX12_resolve_114 (by decide) (by unfold inr; omega) (fun c10 => ?_) (fun c10 => ?_)
          · refine lv_aload_n B.1 B.2.1 dX12_resolve_121 rfl (lv_at hl 1 rfl) ?_
            refine m_geta (k := 13) B hM (by decide) rfl fl138 dX12_resolve_122 ?_
            refine lv_iload_n B.1 B.2.1 dX12_resolve_125 rfl (lv_at hl 2 rfl) ?_
            refine m_ild (k := 13) (i := 3) (n := 128) (z := v81_2) (v := (A 13) v81_2.toNat) B hM rfl rfl rfl (by decide) dX12_resolve_126 (by omega) (by omega) rfl ?_
            have r11 : (0 : Int) ≤ (A 13) v81_2.toNat ∧ (A 13) v81_2.toNat ≤ 5 := hM.2.2.2.2 13 v81_2.toNat
            refine q_con B dX12_resolve_127 ?_
            refine q_cne (tgt := 136) B dX12_resolve_128 (by decide) (by unfold inr; omega) (by unfold inr; omega) (fun c12 => ?_) (fun c12 => ?_)
            · refine q_sip B dX12_resolve_136 (by decide) ?_
              refine lv_aload_n B.1 B.2.1 dX12_resolve_139 rfl (lv_at hl 1 rfl) ?_
              refine m_geta (k := 14) B hM (by decide) rfl fl142 dX12_resolve_140 ?_
              refine lv_iload_n B.1 B.2.1 dX12_resolve_143 rfl (lv_at hl 2 rfl) ?_
              refine m_ild (k := 14) (i := 4) (n := 128) (z := v81_2) (v := (A 14) v81_2.toNat) B hM rfl rfl rfl (by decide) dX12_resolve_144 (by omega) (by omega) rfl ?_
              have r13 : (0 : Int) ≤ (A 14) v81_2.toNat ∧ (A 14) v81_2.toNat ≤ 15 := hM.2.2.2.2 14 v81_2.toNat
              refine q_add B dX12_resolve_145 ?_
              refine m_ist (k := 46) (i := 34) (n := 3200) B hM rfl rfl rfl (by decide) dX12_resolve_146 (by omega) (by omega) (show (0 : Int) ≤ 200 + ((A 14) v81_2.toNat) from by first | omega | (simp only [wr_at]; omega)) (show 200 + ((A 14) v81_2.toNat) ≤ (215 : Int) from by first | omega | (simp only [wr_at]; omega)) (u1_up A [(46, y2_46), (23, y2_23), (24, y2_24), (43, y2_43), (49, y2_49)] 46 (wr y2_46 ((A 21) ((v2_1)).toNat) (200 + ((A 14) v81_2.toNat)))) (fun H locs hM => ?_)
              replace hM : MWd D dA h0 ad (mF dA h0 ad (f, g, A, L) s.heap.size) s.heap ((up f [(5, y2_5), (6, y2_6)]), g, (up A [(46, (wr y2_46 ((A 21) ((v2_1)).toNat) (200 + ((A 14) v81_2.toNat)))), (23, y2_23), (24, y2_24), (43, y2_43), (49, y2_49)]), L) H locs := hM
              refine lv_goto (tgt := 327) B.1 B.2.1 dX12_resolve_147 (by decide) ?_
              exact JJ327 y2_5 y2_6 ((wr y2_46 ((A 21) ((v2_1)).toNat) (200 + ((A 14) v81_2.toNat)))) y2_23 y2_24 y2_43 y2_49 _ _ ls hM (lv_sub hl [1, 4] rfl) (by first | (intro hq; exfalso; omega) | (intro hq; have hz := hLL2_3 (by omega); refine ⟨by omega, ?_⟩; first | exact RKp_skip hz.2 (by omega) (by omega) | exact RKp_put hz.2 (by omega) (by omega)) | (intro _; exact ⟨by omega, RKp_0 (by omega)⟩) | assumption) (by first | assumption | exact UWp_wr (by assumption) (by omega))
            · refine q_bip B dX12_resolve_131 (by decide) ?_
              refine lv_goto (tgt := 139) B.1 B.2.1 dX12_resolve_133 (by decide) ?_
              refine lv_aload_n B.1 B.2.1 dX12_resolve_139 rfl (lv_at hl 1 rfl) ?_
              refine m_geta (k := 14) B hM (by decide) rfl fl142 dX12_resolve_140 ?_
              refine lv_iload_n B.1 B.2.1 dX12_resolve_143 rfl (lv_at hl 2 rfl) ?_
              refine m_ild (k := 14) (i := 4) (n := 128) (z := v81_2) (v := (A 14) v81_2.toNat) B hM rfl rfl rfl (by decide) dX12_resolve_144 (by omega) (by omega) rfl ?_
              have r14 : (0 : Int) ≤ (A 14) v81_2.toNat ∧ (A 14) v81_2.toNat ≤ 15 := hM.2.2.2.2 14 v81_2.toNat
              refine q_add B dX12_resolve_145 ?_
              refine m_ist (k := 46) (i := 34) (n := 3200) B hM rfl rfl rfl (by decide) dX12_resolve_146 (by omega) (by omega) (show (0 : Int) ≤ 100 + ((A 14) v81_2.toNat) from by first | omega | (simp only [wr_at]; omega)) (show 100 + ((A 14) v81_2.toNat) ≤ (215 : Int) from by first | omega | (simp only [wr_at]; omega)) (u1_up A [(46, y2_46), (23, y2_23), (24, y2_24), (43, y2_43), (49, y2_49)] 46 (wr y2_46 ((A 21) ((v2_1)).toNat) (100 + ((A 14) v81_2.toNat)))) (fun H locs hM => ?_)
              replace hM : MWd D dA h0 ad (mF dA h0 ad (f, g, A, L) s.heap.size) s.heap ((up f [(5, y2_5), (6, y2_6)]), g, (up A [(46, (wr y2_46 ((A 21) ((v2_1)).toNat) (100 + ((A 14) v81_2.toNat)))), (23, y2_23), (24, y2_24), (43, y2_43), (49, y2_49)]), L) H locs := hM
              refine lv_goto (tgt := 327) B.1 B.2.1 dX12_resolve_147 (by decide) ?_
              exact JJ327 y2_5 y2_6 ((wr y2_46 ((A 21) ((v2_1)).toNat) (100 + ((A 14) v81_2.toNat)))) y2_23 y2_24 y2_43 y2_49 _ _ ls hM (lv_sub hl [1, 4] rfl) (by first | (intro hq; exfalso; omega) | (intro hq; have hz := hLL2_3 (by omega); refine ⟨by omega, ?_⟩; first | exact RKp_skip hz.2 (by omega) (by omega) | exact RKp_put hz.2 (by omega) (by omega)) | (intro _; exact ⟨by omega, RKp_0 (by omega)⟩) | assumption) (by first | assumption | exact UWp_wr (by assumption) (by omega))
          · refine lv_iload_n B.1 B.2.1 dX12_resolve_117 rfl (lv_at hl 3 rfl) ?_
            refine lv_goto (tgt := 146) B.1 B.2.1 dX12_resolve_118 (by decide) ?_
            refine m_ist (k := 46) (i := 34) (n := 3200) B hM rfl rfl rfl (by decide) dX12_resolve_146 (by omega) (by omega) (show (0 : Int) ≤ v81_3 from by first | omega | (simp only [wr_at]; omega)) (show v81_3 ≤ (215 : Int) from by first | omega | (simp only [wr_at]; omega)) (u1_up A [(46, y2_46), (23, y2_23), (24, y2_24), (43, y2_43), (49, y2_49)] 46 (wr y2_46 ((A 21) ((v2_1)).toNat) v81_3)) (fun H locs hM => ?_)
            replace hM : MWd D dA h0 ad (mF dA h0 ad (f, g, A, L) s.heap.size) s.heap ((up f [(5, y2_5), (6, y2_6)]), g, (up A [(46, (wr y2_46 ((A 21) ((v2_1)).toNat) v81_3)), (23, y2_23), (24, y2_24), (43, y2_43), (49, y2_49)]), L) H locs := hM
            refine lv_goto (tgt := 327) B.1 B.2.1 dX12_resolve_147 (by decide) ?_
            exact JJ327 y2_5 y2_6 ((wr y2_46 ((A 21) ((v2_1)).toNat) v81_3)) y2_23 y2_24 y2_43 y2_49 _ _ ls hM (lv_sub hl [1, 4] rfl) (by first | (intro hq; exfalso; omega) | (intro hq; have hz := hLL2_3 (by omega); refine ⟨by omega, ?_⟩; first | exact RKp_skip hz.2 (by omega) (by omega) | exact RKp_put hz.2 (by omega) (by omega)) | (intro _; exact ⟨by omega, RKp_0 (by omega)⟩) | assumption) (by first | assumption | exact UWp_wr (by assumption) (by omega))
        · refine lv_aload_n B.1 B.2.1 dX12_resolve_88 rfl (lv_at hl 1 rfl) ?_
          refine q_con B dX12_resolve_89 ?_
          refine lv_aload_n B.1 B.2.1 dX12_resolve_90 rfl (lv_at hl 1 rfl) ?_
          refine m_geta (k := 17) B hM (by decide) rfl fl148 dX12_resolve_91 ?_
          refine lv_iload_n B.1 B.2.1 dX12_resolve_94 rfl (lv_at hl 4 rfl) ?_
          refine m_ild (k := 17) (i := 6) (n := 1600) (z := (v2_1)) (v := (A 17) ((v2_1)).toNat) B hM rfl rfl rfl (by decide) dX12_resolve_95 (by omega) (by omega) rfl ?_
          have r15 : (-2147483648 : Int) ≤ (A 17) ((v2_1)).toNat ∧ (A 17) ((v2_1)).toNat ≤ 2147483647 := hM.2.2.2.2 17 ((v2_1)).toNat
          refine m_calli (n := 2) (rest := []) B hM hA hl.1 (k_fails l D dA h0 ad (up f [(5, y2_5), (6, y2_6)]) g (up A [(46, y2_46), (23, y2_23), (24, y2_24), (43, y2_43), (49, y2_49)]) L 5 ((A 17) ((v2_1)).toNat) (by omega) (by omega) ) rfl ok_fails nm_fails ⟨rfl, rfl⟩ ⟨Nat.le_of_ble_eq_true rfl, Nat.le_of_ble_eq_true rfl⟩ dX12_resolve_96 rfl rfl (Nat.le_of_ble_eq_true rfl) ⟨Nat.zero_le _, Nat.zero_le _⟩ (fun r16 σr16 H locs ir16 hp17 hM => ?_)
          obtain ⟨x18, x19, rfl, hp17⟩ := hp17
          unfold inr at ir16
          replace hp17 : r16 = 0 ∧ ((y2_5) ≠ 0 → (x18) = (y2_5)) ∧ ((y2_5) = 0 → (x18) = (5)) := hp17
          obtain ⟨hp17_0, hp17_1, hp17_2⟩ := hp17
          simp only [up_up] at hM
          replace hM : MWd D dA h0 ad (mF dA h0 ad (f, g, A, L) s.heap.size) s.heap ((up f [(5, x18), (6, x19)]), g, (up A [(46, y2_46), (23, y2_23), (24, y2_24), (43, y2_43), (49, y2_49)]), L) H locs := hM
          have r20 : (-2147483648 : Int) ≤ x18 ∧ x18 ≤ 2147483647 := hM.2.2.2.1 5
          have r21 : (-2147483648 : Int) ≤ x19 ∧ x19 ≤ 2147483647 := hM.2.2.2.1 6
          refine lv_pop B.1 B.2.1 dX12_resolve_99 rfl ?_
          refine lv_goto (tgt := 327) B.1 B.2.1 dX12_resolve_100 (by decide) ?_
          exact JJ327 x18 x19 y2_46 y2_23 y2_24 y2_43 y2_49 _ _ ls hM (lv_sub hl [1, 4] rfl) (by first | (intro hq; exfalso; omega) | (intro hq; have hz := hLL2_3 (by omega); refine ⟨by omega, ?_⟩; first | exact RKp_skip hz.2 (by omega) (by omega) | exact RKp_put hz.2 (by omega) (by omega)) | (intro _; exact ⟨by omega, RKp_0 (by omega)⟩) | assumption) (by first | assumption | exact UWp_wr (by assumption) (by omega))
      have r22 : (-2147483648 : Int) ≤ y2_5 ∧ y2_5 ≤ 2147483647 := hM.2.2.2.1 5
      have r23 : (-2147483648 : Int) ≤ y2_6 ∧ y2_6 ≤ 2147483647 := hM.2.2.2.1 6
      refine lv_iload_n B.1 B.2.1 dX12_resolve_2 rfl (lv_at hl 1 rfl) ?_
      refine lv_aload_n B.1 B.2.1 dX12_resolve_3 rfl (lv_at hl 0 rfl) ?_
      refine m_get (k := 22) (v := f 22) B hM (by decide) rfl fl415 dX12_resolve_4 rfl ?_
      refine q_cge (tgt := 333) B dX12_resolve_7 (by decide) (by unfold inr; omega) (by unfold inr; omega) (fun c24 => ?_) (fun c24 => ?_)
      · subst hPST
        exact m_vret B hM dX12_resolve_333 ⟨y2_5, y2_6, y2_46, y2_23, y2_24, y2_43, y2_49, rfl, by (exact ⟨by assumption, by first | (intro hq; exfalso; omega) | (intro hq; have hz := hLL2_3 (by omega); have e1 : v2_1 = f 22 := by omega; rw [← e1]; exact hz.2)⟩)⟩
      · refine lv_aload_n B.1 B.2.1 dX12_resolve_10 rfl (lv_at hl 0 rfl) ?_
        refine m_calli (n := 0) (rest := []) B hM hA hl.1 (k_isGood l D dA h0 ad (up f [(5, y2_5), (6, y2_6)]) g (up A [(46, y2_46), (23, y2_23), (24, y2_24), (43, y2_43), (49, y2_49)]) L   ) rfl ok_isGood nm_isGood ⟨rfl, rfl⟩ ⟨Nat.le_of_ble_eq_true rfl, Nat.le_of_ble_eq_true rfl⟩ dX12_resolve_11 rfl rfl (Nat.le_of_ble_eq_true rfl) ⟨Nat.zero_le _, Nat.zero_le _⟩ (fun r25 σr25 H locs ir25 hp26 hM => ?_)
        obtain ⟨rfl, hp26⟩ := hp26
        unfold inr at ir25
        replace hp26 : 0 ≤ r25 ∧ r25 ≤ 1 ∧ (r25 = 1 ↔ (y2_5) = 0) := hp26
        obtain ⟨hp26_0, hp26_1, hp26_2⟩ := hp26
        refine q_ieq (tgt := 333) B dX12_resolve_14 (by decide) (by unfold inr; omega) (fun c27 => ?_) (fun c27 => ?_)
        · subst hPST
          exact m_vret B hM dX12_resolve_333 ⟨y2_5, y2_6, y2_46, y2_23, y2_24, y2_43, y2_49, rfl, by (exact ⟨by assumption, by first | (intro hq; exfalso; omega) | (intro hq; have hz := hLL2_3 (by omega); have e1 : v2_1 = f 22 := by omega; rw [← e1]; exact hz.2)⟩)⟩
        · refine lv_aload_n B.1 B.2.1 dX12_resolve_17 rfl (lv_at hl 0 rfl) ?_
          refine lv_aload_n B.1 B.2.1 dX12_resolve_18 rfl (lv_at hl 0 rfl) ?_
          refine m_geta (k := 16) B hM (by decide) rfl fl145 dX12_resolve_19 ?_
          refine lv_iload_n B.1 B.2.1 dX12_resolve_22 rfl (lv_at hl 1 rfl) ?_
          refine m_lld (k := 16) (i := 5) (n := 1600) (z := v2_1) (v := (L 16) v2_1.toNat) B hM rfl rfl rfl (by decide) dX12_resolve_23 (by omega) (by omega) rfl ?_
          refine m_calli (n := 1) (rest := []) B hM hA hl.1 (k_nameOf l D dA h0 ad (up f [(5, y2_5), (6, y2_6)]) g (up A [(46, y2_46), (23, y2_23), (24, y2_24), (43, y2_43), (49, y2_49)]) L ((L 16) v2_1.toNat)  ) rfl ok_nameOf nm_nameOf ⟨rfl, rfl⟩ ⟨Nat.le_of_ble_eq_true rfl, Nat.le_of_ble_eq_true rfl⟩ dX12_resolve_24 rfl rfl (Nat.le_of_ble_eq_true rfl) ⟨Nat.zero_le _, Nat.zero_le _⟩ (fun r28 σr28 H locs ir28 hp29 hM => ?_)
          obtain ⟨rfl, hp29⟩ := hp29
          unfold inr at ir28
          replace hp29 : r28 = -1 ∨ (64 * (f 3) ≤ r28 ∧ r28 < 64 * (f 3) + (f 15)) := hp29
          refine lv_istore_n (lv' := [(2, .int (II r28)), (0, .ref h0), (1, .int (II v2_1))]) B.1 B.2.1 dX12_resolve_27 rfl hl (by decide) rfl (fun ls hl => ?_)
          refine lv_aload_n B.1 B.2.1 dX12_resolve_28 rfl (lv_at hl 1 rfl) ?_
          refine m_geta (k := 20) B hM (by decide) rfl fl157 dX12_resolve_29 ?_
          refine lv_iload_n B.1 B.2.1 dX12_resolve_32 rfl (lv_at hl 2 rfl) ?_
          refine m_ild (k := 20) (i := 9) (n := 1600) (z := v2_1) (v := (A 20) v2_1.toNat) B hM rfl rfl rfl (by decide) dX12_resolve_33 (by omega) (by omega) rfl ?_
          have r30 : (0 : Int) ≤ (A 20) v2_1.toNat ∧ (A 20) v2_1.toNat ≤ 5 := hM.2.2.2.2 20 v2_1.toNat
          refine q_con B dX12_resolve_34 ?_
          refine q_cne (tgt := 150) B dX12_resolve_35 (by decide) (by unfold inr; omega) (by unfold inr; omega) (fun c31 => ?_) (fun c31 => ?_)
          · refine lv_iload_n B.1 B.2.1 dX12_resolve_150 rfl (lv_at hl 0 rfl) ?_
            refine q_ilt (tgt := 193) B dX12_resolve_151 (by decide) (by unfold inr; omega) (fun c32 => ?_) (fun c32 => ?_)
            · refine lv_aload_n B.1 B.2.1 dX12_resolve_193 rfl (lv_at hl 1 rfl) ?_
              refine q_con B dX12_resolve_194 ?_
              refine lv_aload_n B.1 B.2.1 dX12_resolve_195 rfl (lv_at hl 1 rfl) ?_
              refine m_geta (k := 17) B hM (by decide) rfl fl148 dX12_resolve_196 ?_
              refine lv_iload_n B.1 B.2.1 dX12_resolve_199 rfl (lv_at hl 2 rfl) ?_
              refine m_ild (k := 17) (i := 6) (n := 1600) (z := v2_1) (v := (A 17) v2_1.toNat) B hM rfl rfl rfl (by decide) dX12_resolve_200 (by omega) (by omega) rfl ?_
              have r33 : (-2147483648 : Int) ≤ (A 17) v2_1.toNat ∧ (A 17) v2_1.toNat ≤ 2147483647 := hM.2.2.2.2 17 v2_1.toNat
              refine m_calli (n := 2) (rest := []) B hM hA hl.1 (k_fails l D dA h0 ad (up f [(5, y2_5), (6, y2_6)]) g (up A [(46, y2_46), (23, y2_23), (24, y2_24), (43, y2_43), (49, y2_49)]) L 5 ((A 17) v2_1.toNat) (by omega) (by omega) ) rfl ok_fails nm_fails ⟨rfl, rfl⟩ ⟨Nat.le_of_ble_eq_true rfl, Nat.le_of_ble_eq_true rfl⟩ dX12_resolve_201 rfl rfl (Nat.le_of_ble_eq_true rfl) ⟨Nat.zero_le _, Nat.zero_le _⟩ (fun r34 σr34 H locs ir34 hp35 hM => ?_)
              obtain ⟨x36, x37, rfl, hp35⟩ := hp35
              unfold inr at ir34
              replace hp35 : r34 = 0 ∧ ((y2_5) ≠ 0 → (x36) = (y2_5)) ∧ ((y2_5) = 0 → (x36) = (5)) := hp35
              obtain ⟨hp35_0, hp35_1, hp35_2⟩ := hp35
              simp only [up_up] at hM
              replace hM : MWd D dA h0 ad (mF dA h0 ad (f, g, A, L) s.heap.size) s.heap ((up f [(5, x36), (6, x37)]), g, (up A [(46, y2_46), (23, y2_23), (24, y2_24), (43, y2_43), (49, y2_49)]), L) H locs := hM
              have r38 : (-2147483648 : Int) ≤ x36 ∧ x36 ≤ 2147483647 := hM.2.2.2.1 5
              have r39 : (-2147483648 : Int) ≤ x37 ∧ x37 ≤ 2147483647 := hM.2.2.2.1 6
              refine lv_pop B.1 B.2.1 dX12_resolve_204 rfl ?_
              refine lv_goto (tgt := 327) B.1 B.2.1 dX12_resolve_205 (by decide) ?_
              exact JJ327 x36 x37 y2_46 y2_23 y2_24 y2_43 y2_49 _ _ ls hM (lv_sub hl [1, 2] rfl) (by first | (intro hq; exfalso; omega) | (intro hq; have hz := hLL2_3 (by omega); refine ⟨by omega, ?_⟩; first | exact RKp_skip hz.2 (by omega) (by omega) | exact RKp_put hz.2 (by omega) (by omega)) | (intro _; exact ⟨by omega, RKp_0 (by omega)⟩) | assumption) (by first | assumption | exact UWp_wr (by assumption) (by omega))
            · refine lv_aload_n B.1 B.2.1 dX12_resolve_154 rfl (lv_at hl 1 rfl) ?_
              refine m_geta (k := 13) B hM (by decide) rfl fl138 dX12_resolve_155 ?_
              refine lv_iload_n B.1 B.2.1 dX12_resolve_158 rfl (lv_at hl 0 rfl) ?_
              refine m_ild (k := 13) (i := 3) (n := 128) (z := r28) (v := (A 13) r28.toNat) B hM rfl rfl rfl (by decide) dX12_resolve_159 (by omega) (by omega) rfl ?_
              have r40 : (0 : Int) ≤ (A 13) r28.toNat ∧ (A 13) r28.toNat ≤ 5 := hM.2.2.2.2 13 r28.toNat
              refine lv_aload_n B.1 B.2.1 dX12_resolve_160 rfl (lv_at hl 1 rfl) ?_
              refine m_geta (k := 18) B hM (by decide) rfl fl151 dX12_resolve_161 ?_
              refine lv_iload_n B.1 B.2.1 dX12_resolve_164 rfl (lv_at hl 2 rfl) ?_
              refine m_ild (k := 18) (i := 7) (n := 1600) (z := v2_1) (v := (A 18) v2_1.toNat) B hM rfl rfl rfl (by decide) dX12_resolve_165 (by omega) (by omega) rfl ?_
              have r41 : (0 : Int) ≤ (A 18) v2_1.toNat ∧ (A 18) v2_1.toNat ≤ 5 := hM.2.2.2.2 18 v2_1.toNat
              refine q_cne (tgt := 193) B dX12_resolve_166 (by decide) (by unfold inr; omega) (by unfold inr; omega) (fun c42 => ?_) (fun c42 => ?_)
              · refine lv_aload_n B.1 B.2.1 dX12_resolve_193 rfl (lv_at hl 1 rfl) ?_
                refine q_con B dX12_resolve_194 ?_
                refine lv_aload_n B.1 B.2.1 dX12_resolve_195 rfl (lv_at hl 1 rfl) ?_
                refine m_geta (k := 17) B hM (by decide) rfl fl148 dX12_resolve_196 ?_
                refine lv_iload_n B.1 B.2.1 dX12_resolve_199 rfl (lv_at hl 2 rfl) ?_
                refine m_ild (k := 17) (i := 6) (n := 1600) (z := v2_1) (v := (A 17) v2_1.toNat) B hM rfl rfl rfl (by decide) dX12_resolve_200 (by omega) (by omega) rfl ?_
                have r43 : (-2147483648 : Int) ≤ (A 17) v2_1.toNat ∧ (A 17) v2_1.toNat ≤ 2147483647 := hM.2.2.2.2 17 v2_1.toNat
                refine m_calli (n := 2) (rest := []) B hM hA hl.1 (k_fails l D dA h0 ad (up f [(5, y2_5), (6, y2_6)]) g (up A [(46, y2_46), (23, y2_23), (24, y2_24), (43, y2_43), (49, y2_49)]) L 5 ((A 17) v2_1.toNat) (by omega) (by omega) ) rfl ok_fails nm_fails ⟨rfl, rfl⟩ ⟨Nat.le_of_ble_eq_true rfl, Nat.le_of_ble_eq_true rfl⟩ dX12_resolve_201 rfl rfl (Nat.le_of_ble_eq_true rfl) ⟨Nat.zero_le _, Nat.zero_le _⟩ (fun r44 σr44 H locs ir44 hp45 hM => ?_)
                obtain ⟨x46, x47, rfl, hp45⟩ := hp45
                unfold inr at ir44
                replace hp45 : r44 = 0 ∧ ((y2_5) ≠ 0 → (x46) = (y2_5)) ∧ ((y2_5) = 0 → (x46) = (5)) := hp45
                obtain ⟨hp45_0, hp45_1, hp45_2⟩ := hp45
                simp only [up_up] at hM
                replace hM : MWd D dA h0 ad (mF dA h0 ad (f, g, A, L) s.heap.size) s.heap ((up f [(5, x46), (6, x47)]), g, (up A [(46, y2_46), (23, y2_23), (24, y2_24), (43, y2_43), (49, y2_49)]), L) H locs := hM
                have r48 : (-2147483648 : Int) ≤ x46 ∧ x46 ≤ 2147483647 := hM.2.2.2.1 5
                have r49 : (-2147483648 : Int) ≤ x47 ∧ x47 ≤ 2147483647 := hM.2.2.2.1 6
                refine lv_pop B.1 B.2.1 dX12_resolve_204 rfl ?_
                refine lv_goto (tgt := 327) B.1 B.2.1 dX12_resolve_205 (by decide) ?_
                exact JJ327 x46 x47 y2_46 y2_23 y2_24 y2_43 y2_49 _ _ ls hM (lv_sub hl [1, 2] rfl) (by first | (intro hq; exfalso; omega) | (intro hq; have hz := hLL2_3 (by omega); refine ⟨by omega, ?_⟩; first | exact RKp_skip hz.2 (by omega) (by omega) | exact RKp_put hz.2 (by omega) (by omega)) | (intro _; exact ⟨by omega, RKp_0 (by omega)⟩) | assumption) (by first | assumption | exact UWp_wr (by assumption) (by omega))
              · refine lv_aload_n B.1 B.2.1 dX12_resolve_169 rfl (lv_at hl 1 rfl) ?_
                refine m_geta (k := 19) B hM (by decide) rfl fl154 dX12_resolve_170 ?_
                refine lv_iload_n B.1 B.2.1 dX12_resolve_173 rfl (lv_at hl 2 rfl) ?_
                refine m_ild (k := 19) (i := 8) (n := 1600) (z := v2_1) (v := (A 19) v2_1.toNat) B hM rfl rfl rfl (by decide) dX12_resolve_174 (by omega) (by omega) rfl ?_
                have r50 : (-1 : Int) ≤ (A 19) v2_1.toNat ∧ (A 19) v2_1.toNat ≤ 16 := hM.2.2.2.2 19 v2_1.toNat
                refine q_ilt (tgt := 208) B dX12_resolve_175 (by decide) (by unfold inr; omega) (fun c51 => ?_) (fun c51 => ?_)
                · refine lv_aload_n B.1 B.2.1 dX12_resolve_208 rfl (lv_at hl 1 rfl) ?_
                  refine m_geta (k := 14) B hM (by decide) rfl fl142 dX12_resolve_209 ?_
                  refine lv_iload_n B.1 B.2.1 dX12_resolve_212 rfl (lv_at hl 0 rfl) ?_
                  refine m_ild (k := 14) (i := 4) (n := 128) (z := r28) (v := (A 14) r28.toNat) B hM rfl rfl rfl (by decide) dX12_resolve_213 (by omega) (by omega) rfl ?_
                  have r52 : (0 : Int) ≤ (A 14) r28.toNat ∧ (A 14) r28.toNat ≤ 15 := hM.2.2.2.2 14 r28.toNat
                  refine lv_istore_n (lv' := [(3, .int (II ((A 14) r28.toNat))), (2, .int (II r28)), (0, .ref h0), (1, .int (II v2_1))]) B.1 B.2.1 dX12_resolve_214 rfl hl (by decide) rfl (fun ls hl => ?_)
                  have hai := p_0 ((v2_1)).toNat (by omega)
                  have hni := p_1 ((r28)).toNat (by omega) (by omega)
                  refine lv_aload_n B.1 B.2.1 dX12_resolve_215 rfl (lv_at hl 2 rfl) ?_
                  refine m_geta (k := 20) B hM (by decide) rfl fl157 dX12_resolve_216 ?_
                  refine lv_iload_n B.1 B.2.1 dX12_resolve_219 rfl (lv_at hl 3 rfl) ?_
                  refine m_ild (k := 20) (i := 9) (n := 1600) (z := v2_1) (v := (A 20) v2_1.toNat) B hM rfl rfl rfl (by decide) dX12_resolve_220 (by omega) (by omega) rfl ?_
                  refine q_ine (tgt := 255) B dX12_resolve_221 (by decide) (by unfold inr; omega) (fun c53 => ?_) (fun c53 => ?_)
                  · refine lv_aload_n B.1 B.2.1 dX12_resolve_255 rfl (lv_at hl 2 rfl) ?_
                    refine m_geta (k := 20) B hM (by decide) rfl fl157 dX12_resolve_256 ?_
                    refine lv_iload_n B.1 B.2.1 dX12_resolve_259 rfl (lv_at hl 3 rfl) ?_
                    refine m_ild (k := 20) (i := 9) (n := 1600) (z := v2_1) (v := (A 20) v2_1.toNat) B hM rfl rfl rfl (by decide) dX12_resolve_260 (by omega) (by omega) rfl ?_
                    refine q_con B dX12_resolve_261 ?_
                    refine q_cne (tgt := 280) B dX12_resolve_262 (by decide) (by unfold inr; omega) (by unfold inr; omega) (fun c54 => ?_) (fun c54 => ?_)
                    · refine lv_aload_n B.1 B.2.1 dX12_resolve_280 rfl (lv_at hl 2 rfl) ?_
                      refine m_geta (k := 20) B hM (by decide) rfl fl157 dX12_resolve_281 ?_
                      refine lv_iload_n B.1 B.2.1 dX12_resolve_284 rfl (lv_at hl 3 rfl) ?_
                      refine m_ild (k := 20) (i := 9) (n := 1600) (z := v2_1) (v := (A 20) v2_1.toNat) B hM rfl rfl rfl (by decide) dX12_resolve_285 (by omega) (by omega) rfl ?_
                      refine q_con B dX12_resolve_286 ?_
                      refine q_cne (tgt := 305) B dX12_resolve_287 (by decide) (by unfold inr; omega) (by unfold inr; omega) (fun c55 => ?_) (fun c55 => ?_)
                      · refine lv_aload_n B.1 B.2.1 dX12_resolve_305 rfl (lv_at hl 2 rfl) ?_
                        refine m_geta (k := 20) B hM (by decide) rfl fl157 dX12_resolve_306 ?_
                        refine lv_iload_n B.1 B.2.1 dX12_resolve_309 rfl (lv_at hl 3 rfl) ?_
                        refine m_ild (k := 20) (i := 9) (n := 1600) (z := v2_1) (v := (A 20) v2_1.toNat) B hM rfl rfl rfl (by decide) dX12_resolve_310 (by omega) (by omega) rfl ?_
                        refine q_con B dX12_resolve_311 ?_
                        refine q_cne (tgt := 327) B dX12_resolve_312 (by decide) (by unfold inr; omega) (by unfold inr; omega) (fun c56 => ?_) (fun c56 => ?_)
                        · exact JJ327 y2_5 y2_6 y2_46 y2_23 y2_24 y2_43 y2_49 _ _ ls hM (lv_sub hl [2, 3] rfl) (by first | (intro hq; exfalso; omega) | (intro hq; have hz := hLL2_3 (by omega); refine ⟨by omega, ?_⟩; first | exact RKp_skip hz.2 (by omega) (by omega) | exact RKp_put hz.2 (by omega) (by omega)) | (intro _; exact ⟨by omega, RKp_0 (by omega)⟩) | assumption) (by first | assumption | exact UWp_wr (by assumption) (by omega))
                        · refine lv_aload_n B.1 B.2.1 dX12_resolve_315 rfl (lv_at hl 2 rfl) ?_
                          refine m_geta (k := 49) B hM (by decide) rfl fl241 dX12_resolve_316 ?_
                          refine lv_aload_n B.1 B.2.1 dX12_resolve_319 rfl (lv_at hl 2 rfl) ?_
                          refine m_geta (k := 21) B hM (by decide) rfl fl160 dX12_resolve_320 ?_
                          refine lv_iload_n B.1 B.2.1 dX12_resolve_323 rfl (lv_at hl 3 rfl) ?_
                          refine m_ild (k := 21) (i := 10) (n := 1600) (z := v2_1) (v := (A 21) v2_1.toNat) B hM rfl rfl rfl (by decide) dX12_resolve_324 (by omega) (by omega) rfl ?_
                          have r57 : (0 : Int) ≤ (A 21) v2_1.toNat ∧ (A 21) v2_1.toNat ≤ 3199 := hM.2.2.2.2 21 v2_1.toNat
                          refine lv_iload_n B.1 B.2.1 dX12_resolve_325 rfl (lv_at hl 0 rfl) ?_
                          refine m_ist (k := 49) (i := 37) (n := 3200) B hM rfl rfl rfl (by decide) dX12_resolve_326 (by omega) (by omega) (show (-1 : Int) ≤ (A 14) r28.toNat from by first | omega | (simp only [wr_at]; omega)) (show (A 14) r28.toNat ≤ (7 : Int) from by first | omega | (simp only [wr_at]; omega)) (u1_up A [(46, y2_46), (23, y2_23), (24, y2_24), (43, y2_43), (49, y2_49)] 49 (wr y2_49 ((A 21) v2_1.toNat) ((A 14) r28.toNat))) (fun H locs hM => ?_)
                          replace hM : MWd D dA h0 ad (mF dA h0 ad (f, g, A, L) s.heap.size) s.heap ((up f [(5, y2_5), (6, y2_6)]), g, (up A [(46, y2_46), (23, y2_23), (24, y2_24), (43, y2_43), (49, (wr y2_49 ((A 21) v2_1.toNat) ((A 14) r28.toNat)))]), L) H locs := hM
                          exact JJ327 y2_5 y2_6 y2_46 y2_23 y2_24 y2_43 ((wr y2_49 ((A 21) v2_1.toNat) ((A 14) r28.toNat))) _ _ ls hM (lv_sub hl [2, 3] rfl) (by first | (intro hq; exfalso; omega) | (intro hq; have hz := hLL2_3 (by omega); refine ⟨by omega, ?_⟩; first | exact RKp_skip hz.2 (by omega) (by omega) | exact RKp_put hz.2 (by omega) (by omega)) | (intro _; exact ⟨by omega, RKp_0 (by omega)⟩) | assumption) (by first | assumption | exact UWp_wr (by assumption) (by omega))
                      · refine lv_aload_n B.1 B.2.1 dX12_resolve_290 rfl (lv_at hl 2 rfl) ?_
                        refine m_geta (k := 43) B hM (by decide) rfl fl223 dX12_resolve_291 ?_
                        refine lv_aload_n B.1 B.2.1 dX12_resolve_294 rfl (lv_at hl 2 rfl) ?_
                        refine m_geta (k := 21) B hM (by decide) rfl fl160 dX12_resolve_295 ?_
                        refine lv_iload_n B.1 B.2.1 dX12_resolve_298 rfl (lv_at hl 3 rfl) ?_
                        refine m_ild (k := 21) (i := 10) (n := 1600) (z := v2_1) (v := (A 21) v2_1.toNat) B hM rfl rfl rfl (by decide) dX12_resolve_299 (by omega) (by omega) rfl ?_
                        have r58 : (0 : Int) ≤ (A 21) v2_1.toNat ∧ (A 21) v2_1.toNat ≤ 3199 := hM.2.2.2.2 21 v2_1.toNat
                        refine lv_iload_n B.1 B.2.1 dX12_resolve_300 rfl (lv_at hl 0 rfl) ?_
                        refine m_ist (k := 43) (i := 31) (n := 400) B hM rfl rfl rfl (by decide) dX12_resolve_301 (by omega) (by omega) (show (-1 : Int) ≤ (A 14) r28.toNat from by first | omega | (simp only [wr_at]; omega)) (show (A 14) r28.toNat ≤ (15 : Int) from by first | omega | (simp only [wr_at]; omega)) (u1_up A [(46, y2_46), (23, y2_23), (24, y2_24), (43, y2_43), (49, y2_49)] 43 (wr y2_43 ((A 21) v2_1.toNat) ((A 14) r28.toNat))) (fun H locs hM => ?_)
                        replace hM : MWd D dA h0 ad (mF dA h0 ad (f, g, A, L) s.heap.size) s.heap ((up f [(5, y2_5), (6, y2_6)]), g, (up A [(46, y2_46), (23, y2_23), (24, y2_24), (43, (wr y2_43 ((A 21) v2_1.toNat) ((A 14) r28.toNat))), (49, y2_49)]), L) H locs := hM
                        refine lv_goto (tgt := 327) B.1 B.2.1 dX12_resolve_302 (by decide) ?_
                        exact JJ327 y2_5 y2_6 y2_46 y2_23 y2_24 ((wr y2_43 ((A 21) v2_1.toNat) ((A 14) r28.toNat))) y2_49 _ _ ls hM (lv_sub hl [2, 3] rfl) (by first | (intro hq; exfalso; omega) | (intro hq; have hz := hLL2_3 (by omega); refine ⟨by omega, ?_⟩; first | exact RKp_skip hz.2 (by omega) (by omega) | exact RKp_put hz.2 (by omega) (by omega)) | (intro _; exact ⟨by omega, RKp_0 (by omega)⟩) | assumption) (by first | assumption | exact UWp_wr (by assumption) (by omega))
                    · refine lv_aload_n B.1 B.2.1 dX12_resolve_265 rfl (lv_at hl 2 rfl) ?_
                      refine m_geta (k := 24) B hM (by decide) rfl fl166 dX12_resolve_266 ?_
                      refine lv_aload_n B.1 B.2.1 dX12_resolve_269 rfl (lv_at hl 2 rfl) ?_
                      refine m_geta (k := 21) B hM (by decide) rfl fl160 dX12_resolve_270 ?_
                      refine lv_iload_n B.1 B.2.1 dX12_resolve_273 rfl (lv_at hl 3 rfl) ?_
                      refine m_ild (k := 21) (i := 10) (n := 1600) (z := v2_1) (v := (A 21) v2_1.toNat) B hM rfl rfl rfl (by decide) dX12_resolve_274 (by omega) (by omega) rfl ?_
                      have r59 : (0 : Int) ≤ (A 21) v2_1.toNat ∧ (A 21) v2_1.toNat ≤ 3199 := hM.2.2.2.2 21 v2_1.toNat
                      refine lv_iload_n B.1 B.2.1 dX12_resolve_275 rfl (lv_at hl 0 rfl) ?_
                      refine m_ist (k := 24) (i := 12) (n := 96) B hM rfl rfl rfl (by decide) dX12_resolve_276 (by omega) (by omega) (show (0 : Int) ≤ (A 14) r28.toNat from by first | omega | (simp only [wr_at]; omega)) (show (A 14) r28.toNat ≤ (7 : Int) from by first | omega | (simp only [wr_at]; omega)) (u1_up A [(46, y2_46), (23, y2_23), (24, y2_24), (43, y2_43), (49, y2_49)] 24 (wr y2_24 ((A 21) v2_1.toNat) ((A 14) r28.toNat))) (fun H locs hM => ?_)
                      replace hM : MWd D dA h0 ad (mF dA h0 ad (f, g, A, L) s.heap.size) s.heap ((up f [(5, y2_5), (6, y2_6)]), g, (up A [(46, y2_46), (23, y2_23), (24, (wr y2_24 ((A 21) v2_1.toNat) ((A 14) r28.toNat))), (43, y2_43), (49, y2_49)]), L) H locs := hM
                      refine lv_goto (tgt := 327) B.1 B.2.1 dX12_resolve_277 (by decide) ?_
                      exact JJ327 y2_5 y2_6 y2_46 y2_23 ((wr y2_24 ((A 21) v2_1.toNat) ((A 14) r28.toNat))) y2_43 y2_49 _ _ ls hM (lv_sub hl [2, 3] rfl) (by first | (intro hq; exfalso; omega) | (intro hq; have hz := hLL2_3 (by omega); refine ⟨by omega, ?_⟩; first | exact RKp_skip hz.2 (by omega) (by omega) | exact RKp_put hz.2 (by omega) (by omega)) | (intro _; exact ⟨by omega, RKp_0 (by omega)⟩) | assumption) (by first | assumption | exact UWp_wr (by assumption) (by omega))
                  · refine lv_aload_n B.1 B.2.1 dX12_resolve_224 rfl (lv_at hl 2 rfl) ?_
                    refine m_geta (k := 23) B hM (by decide) rfl fl163 dX12_resolve_225 ?_
                    refine lv_aload_n B.1 B.2.1 dX12_resolve_228 rfl (lv_at hl 2 rfl) ?_
                    refine m_geta (k := 21) B hM (by decide) rfl fl160 dX12_resolve_229 ?_
                    refine lv_iload_n B.1 B.2.1 dX12_resolve_232 rfl (lv_at hl 3 rfl) ?_
                    refine m_ild (k := 21) (i := 10) (n := 1600) (z := v2_1) (v := (A 21) v2_1.toNat) B hM rfl rfl rfl (by decide) dX12_resolve_233 (by omega) (by omega) rfl ?_
                    have r60 : (0 : Int) ≤ (A 21) v2_1.toNat ∧ (A 21) v2_1.toNat ≤ 3199 := hM.2.2.2.2 21 v2_1.toNat
                    refine lv_dup2_11 B.1 B.2.1 dX12_resolve_234 rfl rfl ?_
                    refine m_ild (k := 23) (i := 11) (n := 18) (z := (A 21) v2_1.toNat) (v := y2_23 ((A 21) v2_1.toNat).toNat) B hM rfl rfl rfl (by decide) dX12_resolve_235 (by omega) (by omega) rfl ?_
                    have r61 : (-2147483648 : Int) ≤ y2_23 ((A 21) v2_1.toNat).toNat ∧ y2_23 ((A 21) v2_1.toNat).toNat ≤ 2147483647 := hM.2.2.2.2 23 ((A 21) v2_1.toNat).toNat
                    refine lv_aload_n B.1 B.2.1 dX12_resolve_236 rfl (lv_at hl 2 rfl) ?_
                    refine m_geta (k := 23) B hM (by decide) rfl fl163 dX12_resolve_237 ?_
                    refine q_bip B dX12_resolve_240 (by decide) ?_
                    refine lv_aload_n B.1 B.2.1 dX12_resolve_242 rfl (lv_at hl 2 rfl) ?_
                    refine m_get (k := 3) (v := f 3) B hM (by decide) rfl fl11 dX12_resolve_243 rfl ?_
                    refine q_mul B dX12_resolve_246 ?_
                    refine lv_iload_n B.1 B.2.1 dX12_resolve_247 rfl (lv_at hl 0 rfl) ?_
                    refine q_add B dX12_resolve_248 ?_
                    refine m_ild (k := 23) (i := 11) (n := 18) (z := (9 * (f 3)) + ((A 14) r28.toNat)) (v := y2_23 ((9 * (f 3)) + ((A 14) r28.toNat)).toNat) B hM rfl rfl rfl (by decide) dX12_resolve_249 (by omega) (by omega) rfl ?_
                    have r62 : (-2147483648 : Int) ≤ y2_23 ((9 * (f 3)) + ((A 14) r28.toNat)).toNat ∧ y2_23 ((9 * (f 3)) + ((A 14) r28.toNat)).toNat ≤ 2147483647 := hM.2.2.2.2 23 ((9 * (f 3)) + ((A 14) r28.toNat)).toNat
                    refine q_or B dX12_resolve_250 (fun x63 ix63 _ => ?_)
                    unfold inr at ix63
                    refine m_ist (k := 23) (i := 11) (n := 18) B hM rfl rfl rfl (by decide) dX12_resolve_251 (by omega) (by omega) (show (-2147483648 : Int) ≤ x63 from by first | omega | (simp only [wr_at]; omega)) (show x63 ≤ (2147483647 : Int) from by first | omega | (simp only [wr_at]; omega)) (u1_up A [(46, y2_46), (23, y2_23), (24, y2_24), (43, y2_43), (49, y2_49)] 23 (wr y2_23 ((A 21) v2_1.toNat) x63)) (fun H locs hM => ?_)
                    replace hM : MWd D dA h0 ad (mF dA h0 ad (f, g, A, L) s.heap.size) s.heap ((up f [(5, y2_5), (6, y2_6)]), g, (up A [(46, y2_46), (23, (wr y2_23 ((A 21) v2_1.toNat) x63)), (24, y2_24), (43, y2_43), (49, y2_49)]), L) H locs := hM
                    refine lv_goto (tgt := 327) B.1 B.2.1 dX12_resolve_252 (by decide) ?_
                    exact JJ327 y2_5 y2_6 y2_46 ((wr y2_23 ((A 21) v2_1.toNat) x63)) y2_24 y2_43 y2_49 _ _ ls hM (lv_sub hl [2, 3] rfl) (by first | (intro hq; exfalso; omega) | (intro hq; have hz := hLL2_3 (by omega); refine ⟨by omega, ?_⟩; first | exact RKp_skip hz.2 (by omega) (by omega) | exact RKp_put hz.2 (by omega) (by omega)) | (intro _; exact ⟨by omega, RKp_0 (by omega)⟩) | assumption) (by first | assumption | exact UWp_wr (by assumption) (by omega))
                · refine lv_aload_n B.1 B.2.1 dX12_resolve_178 rfl (lv_at hl 1 rfl) ?_
                  refine m_geta (k := 14) B hM (by decide) rfl fl142 dX12_resolve_179 ?_
                  refine lv_iload_n B.1 B.2.1 dX12_resolve_182 rfl (lv_at hl 0 rfl) ?_
                  refine m_ild (k := 14) (i := 4) (n := 128) (z := r28) (v := (A 14) r28.toNat) B hM rfl rfl rfl (by decide) dX12_resolve_183 (by omega) (by omega) rfl ?_
                  have r64 : (0 : Int) ≤ (A 14) r28.toNat ∧ (A 14) r28.toNat ≤ 15 := hM.2.2.2.2 14 r28.toNat
                  refine lv_aload_n B.1 B.2.1 dX12_resolve_184 rfl (lv_at hl 1 rfl) ?_
                  refine m_geta (k := 19) B hM (by decide) rfl fl154 dX12_resolve_185 ?_
                  refine lv_iload_n B.1 B.2.1 dX12_resolve_188 rfl (lv_at hl 2 rfl) ?_
                  refine m_ild (k := 19) (i := 8) (n := 1600) (z := v2_1) (v := (A 19) v2_1.toNat) B hM rfl rfl rfl (by decide) dX12_resolve_189 (by omega) (by omega) rfl ?_
                  refine q_clt (tgt := 208) B dX12_resolve_190 (by decide) (by unfold inr; omega) (by unfold inr; omega) (fun c65 => ?_) (fun c65 => ?_)
                  · refine lv_aload_n B.1 B.2.1 dX12_resolve_208 rfl (lv_at hl 1 rfl) ?_
                    refine m_geta (k := 14) B hM (by decide) rfl fl142 dX12_resolve_209 ?_
                    refine lv_iload_n B.1 B.2.1 dX12_resolve_212 rfl (lv_at hl 0 rfl) ?_
                    refine m_ild (k := 14) (i := 4) (n := 128) (z := r28) (v := (A 14) r28.toNat) B hM rfl rfl rfl (by decide) dX12_resolve_213 (by omega) (by omega) rfl ?_
                    refine lv_istore_n (lv' := [(3, .int (II ((A 14) r28.toNat))), (2, .int (II r28)), (0, .ref h0), (1, .int (II v2_1))]) B.1 B.2.1 dX12_resolve_214 rfl hl (by decide) rfl (fun ls hl => ?_)
                    have hai := p_0 ((v2_1)).toNat (by omega)
                    have hni := p_1 ((r28)).toNat (by omega) (by omega)
                    refine lv_aload_n B.1 B.2.1 dX12_resolve_215 rfl (lv_at hl 2 rfl) ?_
                    refine m_geta (k := 20) B hM (by decide) rfl fl157 dX12_resolve_216 ?_
                    refine lv_iload_n B.1 B.2.1 dX12_resolve_219 rfl (lv_at hl 3 rfl) ?_
                    refine m_ild (k := 20) (i := 9) (n := 1600) (z := v2_1) (v := (A 20) v2_1.toNat) B hM rfl rfl rfl (by decide) dX12_resolve_220 (by omega) (by omega) rfl ?_
                    refine q_ine (tgt := 255) B dX12_resolve_221 (by decide) (by unfold inr; omega) (fun c66 => ?_) (fun c66 => ?_)
                    · refine lv_aload_n B.1 B.2.1 dX12_resolve_255 rfl (lv_at hl 2 rfl) ?_
                      refine m_geta (k := 20) B hM (by decide) rfl fl157 dX12_resolve_256 ?_
                      refine lv_iload_n B.1 B.2.1 dX12_resolve_259 rfl (lv_at hl 3 rfl) ?_
                      refine m_ild (k := 20) (i := 9) (n := 1600) (z := v2_1) (v := (A 20) v2_1.toNat) B hM rfl rfl rfl (by decide) dX12_resolve_260 (by omega) (by omega) rfl ?_
                      refine q_con B dX12_resolve_261 ?_
                      refine q_cne (tgt := 280) B dX12_resolve_262 (by decide) (by unfold inr; omega) (by unfold inr; omega) (fun c67 => ?_) (fun c67 => ?_)
                      · refine lv_aload_n B.1 B.2.1 dX12_resolve_280 rfl (lv_at hl 2 rfl) ?_
                        refine m_geta (k := 20) B hM (by decide) rfl fl157 dX12_resolve_281 ?_
                        refine lv_iload_n B.1 B.2.1 dX12_resolve_284 rfl (lv_at hl 3 rfl) ?_
                        refine m_ild (k := 20) (i := 9) (n := 1600) (z := v2_1) (v := (A 20) v2_1.toNat) B hM rfl rfl rfl (by decide) dX12_resolve_285 (by omega) (by omega) rfl ?_
                        refine q_con B dX12_resolve_286 ?_
                        refine q_cne (tgt := 305) B dX12_resolve_287 (by decide) (by unfold inr; omega) (by unfold inr; omega) (fun c68 => ?_) (fun c68 => ?_)
                        · refine lv_aload_n B.1 B.2.1 dX12_resolve_305 rfl (lv_at hl 2 rfl) ?_
                          refine m_geta (k := 20) B hM (by decide) rfl fl157 dX12_resolve_306 ?_
                          refine lv_iload_n B.1 B.2.1 dX12_resolve_309 rfl (lv_at hl 3 rfl) ?_
                          refine m_ild (k := 20) (i := 9) (n := 1600) (z := v2_1) (v := (A 20) v2_1.toNat) B hM rfl rfl rfl (by decide) dX12_resolve_310 (by omega) (by omega) rfl ?_
                          refine q_con B dX12_resolve_311 ?_
                          refine q_cne (tgt := 327) B dX12_resolve_312 (by decide) (by unfold inr; omega) (by unfold inr; omega) (fun c69 => ?_) (fun c69 => ?_)
                          · exact JJ327 y2_5 y2_6 y2_46 y2_23 y2_24 y2_43 y2_49 _ _ ls hM (lv_sub hl [2, 3] rfl) (by first | (intro hq; exfalso; omega) | (intro hq; have hz := hLL2_3 (by omega); refine ⟨by omega, ?_⟩; first | exact RKp_skip hz.2 (by omega) (by omega) | exact RKp_put hz.2 (by omega) (by omega)) | (intro _; exact ⟨by omega, RKp_0 (by omega)⟩) | assumption) (by first | assumption | exact UWp_wr (by assumption) (by omega))
                          · refine lv_aload_n B.1 B.2.1 dX12_resolve_315 rfl (lv_at hl 2 rfl) ?_
                            refine m_geta (k := 49) B hM (by decide) rfl fl241 dX12_resolve_316 ?_
                            refine lv_aload_n B.1 B.2.1 dX12_resolve_319 rfl (lv_at hl 2 rfl) ?_
                            refine m_geta (k := 21) B hM (by decide) rfl fl160 dX12_resolve_320 ?_
                            refine lv_iload_n B.1 B.2.1 dX12_resolve_323 rfl (lv_at hl 3 rfl) ?_
                            refine m_ild (k := 21) (i := 10) (n := 1600) (z := v2_1) (v := (A 21) v2_1.toNat) B hM rfl rfl rfl (by decide) dX12_resolve_324 (by omega) (by omega) rfl ?_
                            have r70 : (0 : Int) ≤ (A 21) v2_1.toNat ∧ (A 21) v2_1.toNat ≤ 3199 := hM.2.2.2.2 21 v2_1.toNat
                            refine lv_iload_n B.1 B.2.1 dX12_resolve_325 rfl (lv_at hl 0 rfl) ?_
                            refine m_ist (k := 49) (i := 37) (n := 3200) B hM rfl rfl rfl (by decide) dX12_resolve_326 (by omega) (by omega) (show (-1 : Int) ≤ (A 14) r28.toNat from by first | omega | (simp only [wr_at]; omega)) (show (A 14) r28.toNat ≤ (7 : Int) from by first | omega | (simp only [wr_at]; omega)) (u1_up A [(46, y2_46), (23, y2_23), (24, y2_24), (43, y2_43), (49, y2_49)] 49 (wr y2_49 ((A 21) v2_1.toNat) ((A 14) r28.toNat))) (fun H locs hM => ?_)
                            replace hM : MWd D dA h0 ad (mF dA h0 ad (f, g, A, L) s.heap.size) s.heap ((up f [(5, y2_5), (6, y2_6)]), g, (up A [(46, y2_46), (23, y2_23), (24, y2_24), (43, y2_43), (49, (wr y2_49 ((A 21) v2_1.toNat) ((A 14) r28.toNat)))]), L) H locs := hM
                            exact JJ327 y2_5 y2_6 y2_46 y2_23 y2_24 y2_43 ((wr y2_49 ((A 21) v2_1.toNat) ((A 14) r28.toNat))) _ _ ls hM (lv_sub hl [2, 3] rfl) (by first | (intro hq; exfalso; omega) | (intro hq; have hz := hLL2_3 (by omega); refine ⟨by omega, ?_⟩; first | exact RKp_skip hz.2 (by omega) (by omega) | exact RKp_put hz.2 (by omega) (by omega)) | (intro _; exact ⟨by omega, RKp_0 (by omega)⟩) | assumption) (by first | assumption | exact UWp_wr (by assumption) (by omega))
                        · refine lv_aload_n B.1 B.2.1 dX12_resolve_290 rfl (lv_at hl 2 rfl) ?_
                          refine m_geta (k := 43) B hM (by decide) rfl fl223 dX12_resolve_291 ?_
                          refine lv_aload_n B.1 B.2.1 dX12_resolve_294 rfl (lv_at hl 2 rfl) ?_
                          refine m_geta (k := 21) B hM (by decide) rfl fl160 dX12_resolve_295 ?_
                          refine lv_iload_n B.1 B.2.1 dX12_resolve_298 rfl (lv_at hl 3 rfl) ?_
                          refine m_ild (k := 21) (i := 10) (n := 1600) (z := v2_1) (v := (A 21) v2_1.toNat) B hM rfl rfl rfl (by decide) dX12_resolve_299 (by omega) (by omega) rfl ?_
                          have r71 : (0 : Int) ≤ (A 21) v2_1.toNat ∧ (A 21) v2_1.toNat ≤ 3199 := hM.2.2.2.2 21 v2_1.toNat
                          refine lv_iload_n B.1 B.2.1 dX12_resolve_300 rfl (lv_at hl 0 rfl) ?_
                          refine m_ist (k := 43) (i := 31) (n := 400) B hM rfl rfl rfl (by decide) dX12_resolve_301 (by omega) (by omega) (show (-1 : Int) ≤ (A 14) r28.toNat from by first | omega | (simp only [wr_at]; omega)) (show (A 14) r28.toNat ≤ (15 : Int) from by first | omega | (simp only [wr_at]; omega)) (u1_up A [(46, y2_46), (23, y2_23), (24, y2_24), (43, y2_43), (49, y2_49)] 43 (wr y2_43 ((A 21) v2_1.toNat) ((A 14) r28.toNat))) (fun H locs hM => ?_)
                          replace hM : MWd D dA h0 ad (mF dA h0 ad (f, g, A, L) s.heap.size) s.heap ((up f [(5, y2_5), (6, y2_6)]), g, (up A [(46, y2_46), (23, y2_23), (24, y2_24), (43, (wr y2_43 ((A 21) v2_1.toNat) ((A 14) r28.toNat))), (49, y2_49)]), L) H locs := hM
                          refine lv_goto (tgt := 327) B.1 B.2.1 dX12_resolve_302 (by decide) ?_
                          exact JJ327 y2_5 y2_6 y2_46 y2_23 y2_24 ((wr y2_43 ((A 21) v2_1.toNat) ((A 14) r28.toNat))) y2_49 _ _ ls hM (lv_sub hl [2, 3] rfl) (by first | (intro hq; exfalso; omega) | (intro hq; have hz := hLL2_3 (by omega); refine ⟨by omega, ?_⟩; first | exact RKp_skip hz.2 (by omega) (by omega) | exact RKp_put hz.2 (by omega) (by omega)) | (intro _; exact ⟨by omega, RKp_0 (by omega)⟩) | assumption) (by first | assumption | exact UWp_wr (by assumption) (by omega))
                      · refine lv_aload_n B.1 B.2.1 dX12_resolve_265 rfl (lv_at hl 2 rfl) ?_
                        refine m_geta (k := 24) B hM (by decide) rfl fl166 dX12_resolve_266 ?_
                        refine lv_aload_n B.1 B.2.1 dX12_resolve_269 rfl (lv_at hl 2 rfl) ?_
                        refine m_geta (k := 21) B hM (by decide) rfl fl160 dX12_resolve_270 ?_
                        refine lv_iload_n B.1 B.2.1 dX12_resolve_273 rfl (lv_at hl 3 rfl) ?_
                        refine m_ild (k := 21) (i := 10) (n := 1600) (z := v2_1) (v := (A 21) v2_1.toNat) B hM rfl rfl rfl (by decide) dX12_resolve_274 (by omega) (by omega) rfl ?_
                        have r72 : (0 : Int) ≤ (A 21) v2_1.toNat ∧ (A 21) v2_1.toNat ≤ 3199 := hM.2.2.2.2 21 v2_1.toNat
                        refine lv_iload_n B.1 B.2.1 dX12_resolve_275 rfl (lv_at hl 0 rfl) ?_
                        refine m_ist (k := 24) (i := 12) (n := 96) B hM rfl rfl rfl (by decide) dX12_resolve_276 (by omega) (by omega) (show (0 : Int) ≤ (A 14) r28.toNat from by first | omega | (simp only [wr_at]; omega)) (show (A 14) r28.toNat ≤ (7 : Int) from by first | omega | (simp only [wr_at]; omega)) (u1_up A [(46, y2_46), (23, y2_23), (24, y2_24), (43, y2_43), (49, y2_49)] 24 (wr y2_24 ((A 21) v2_1.toNat) ((A 14) r28.toNat))) (fun H locs hM => ?_)
                        replace hM : MWd D dA h0 ad (mF dA h0 ad (f, g, A, L) s.heap.size) s.heap ((up f [(5, y2_5), (6, y2_6)]), g, (up A [(46, y2_46), (23, y2_23), (24, (wr y2_24 ((A 21) v2_1.toNat) ((A 14) r28.toNat))), (43, y2_43), (49, y2_49)]), L) H locs := hM
                        refine lv_goto (tgt := 327) B.1 B.2.1 dX12_resolve_277 (by decide) ?_
                        exact JJ327 y2_5 y2_6 y2_46 y2_23 ((wr y2_24 ((A 21) v2_1.toNat) ((A 14) r28.toNat))) y2_43 y2_49 _ _ ls hM (lv_sub hl [2, 3] rfl) (by first | (intro hq; exfalso; omega) | (intro hq; have hz := hLL2_3 (by omega); refine ⟨by omega, ?_⟩; first | exact RKp_skip hz.2 (by omega) (by omega) | exact RKp_put hz.2 (by omega) (by omega)) | (intro _; exact ⟨by omega, RKp_0 (by omega)⟩) | assumption) (by first | assumption | exact UWp_wr (by assumption) (by omega))
                    · refine lv_aload_n B.1 B.2.1 dX12_resolve_224 rfl (lv_at hl 2 rfl) ?_
                      refine m_geta (k := 23) B hM (by decide) rfl fl163 dX12_resolve_225 ?_
                      refine lv_aload_n B.1 B.2.1 dX12_resolve_228 rfl (lv_at hl 2 rfl) ?_
                      refine m_geta (k := 21) B hM (by decide) rfl fl160 dX12_resolve_229 ?_
                      refine lv_iload_n B.1 B.2.1 dX12_resolve_232 rfl (lv_at hl 3 rfl) ?_
                      refine m_ild (k := 21) (i := 10) (n := 1600) (z := v2_1) (v := (A 21) v2_1.toNat) B hM rfl rfl rfl (by decide) dX12_resolve_233 (by omega) (by omega) rfl ?_
                      have r73 : (0 : Int) ≤ (A 21) v2_1.toNat ∧ (A 21) v2_1.toNat ≤ 3199 := hM.2.2.2.2 21 v2_1.toNat
                      refine lv_dup2_11 B.1 B.2.1 dX12_resolve_234 rfl rfl ?_
                      refine m_ild (k := 23) (i := 11) (n := 18) (z := (A 21) v2_1.toNat) (v := y2_23 ((A 21) v2_1.toNat).toNat) B hM rfl rfl rfl (by decide) dX12_resolve_235 (by omega) (by omega) rfl ?_
                      have r74 : (-2147483648 : Int) ≤ y2_23 ((A 21) v2_1.toNat).toNat ∧ y2_23 ((A 21) v2_1.toNat).toNat ≤ 2147483647 := hM.2.2.2.2 23 ((A 21) v2_1.toNat).toNat
                      refine lv_aload_n B.1 B.2.1 dX12_resolve_236 rfl (lv_at hl 2 rfl) ?_
                      refine m_geta (k := 23) B hM (by decide) rfl fl163 dX12_resolve_237 ?_
                      refine q_bip B dX12_resolve_240 (by decide) ?_
                      refine lv_aload_n B.1 B.2.1 dX12_resolve_242 rfl (lv_at hl 2 rfl) ?_
                      refine m_get (k := 3) (v := f 3) B hM (by decide) rfl fl11 dX12_resolve_243 rfl ?_
                      refine q_mul B dX12_resolve_246 ?_
                      refine lv_iload_n B.1 B.2.1 dX12_resolve_247 rfl (lv_at hl 0 rfl) ?_
                      refine q_add B dX12_resolve_248 ?_
                      refine m_ild (k := 23) (i := 11) (n := 18) (z := (9 * (f 3)) + ((A 14) r28.toNat)) (v := y2_23 ((9 * (f 3)) + ((A 14) r28.toNat)).toNat) B hM rfl rfl rfl (by decide) dX12_resolve_249 (by omega) (by omega) rfl ?_
                      have r75 : (-2147483648 : Int) ≤ y2_23 ((9 * (f 3)) + ((A 14) r28.toNat)).toNat ∧ y2_23 ((9 * (f 3)) + ((A 14) r28.toNat)).toNat ≤ 2147483647 := hM.2.2.2.2 23 ((9 * (f 3)) + ((A 14) r28.toNat)).toNat
                      refine q_or B dX12_resolve_250 (fun x76 ix76 _ => ?_)
                      unfold inr at ix76
                      refine m_ist (k := 23) (i := 11) (n := 18) B hM rfl rfl rfl (by decide) dX12_resolve_251 (by omega) (by omega) (show (-2147483648 : Int) ≤ x76 from by first | omega | (simp only [wr_at]; omega)) (show x76 ≤ (2147483647 : Int) from by first | omega | (simp only [wr_at]; omega)) (u1_up A [(46, y2_46), (23, y2_23), (24, y2_24), (43, y2_43), (49, y2_49)] 23 (wr y2_23 ((A 21) v2_1.toNat) x76)) (fun H locs hM => ?_)
                      replace hM : MWd D dA h0 ad (mF dA h0 ad (f, g, A, L) s.heap.size) s.heap ((up f [(5, y2_5), (6, y2_6)]), g, (up A [(46, y2_46), (23, (wr y2_23 ((A 21) v2_1.toNat) x76)), (24, y2_24), (43, y2_43), (49, y2_49)]), L) H locs := hM
                      refine lv_goto (tgt := 327) B.1 B.2.1 dX12_resolve_252 (by decide) ?_
                      exact JJ327 y2_5 y2_6 y2_46 ((wr y2_23 ((A 21) v2_1.toNat) x76)) y2_24 y2_43 y2_49 _ _ ls hM (lv_sub hl [2, 3] rfl) (by first | (intro hq; exfalso; omega) | (intro hq; have hz := hLL2_3 (by omega); refine ⟨by omega, ?_⟩; first | exact RKp_skip hz.2 (by omega) (by omega) | exact RKp_put hz.2 (by omega) (by omega)) | (intro _; exact ⟨by omega, RKp_0 (by omega)⟩) | assumption) (by first | assumption | exact UWp_wr (by assumption) (by omega))
                  · refine lv_aload_n B.1 B.2.1 dX12_resolve_193 rfl (lv_at hl 1 rfl) ?_
                    refine q_con B dX12_resolve_194 ?_
                    refine lv_aload_n B.1 B.2.1 dX12_resolve_195 rfl (lv_at hl 1 rfl) ?_
                    refine m_geta (k := 17) B hM (by decide) rfl fl148 dX12_resolve_196 ?_
                    refine lv_iload_n B.1 B.2.1 dX12_resolve_199 rfl (lv_at hl 2 rfl) ?_
                    refine m_ild (k := 17) (i := 6) (n := 1600) (z := v2_1) (v := (A 17) v2_1.toNat) B hM rfl rfl rfl (by decide) dX12_resolve_200 (by omega) (by omega) rfl ?_
                    have r77 : (-2147483648 : Int) ≤ (A 17) v2_1.toNat ∧ (A 17) v2_1.toNat ≤ 2147483647 := hM.2.2.2.2 17 v2_1.toNat
                    refine m_calli (n := 2) (rest := []) B hM hA hl.1 (k_fails l D dA h0 ad (up f [(5, y2_5), (6, y2_6)]) g (up A [(46, y2_46), (23, y2_23), (24, y2_24), (43, y2_43), (49, y2_49)]) L 5 ((A 17) v2_1.toNat) (by omega) (by omega) ) rfl ok_fails nm_fails ⟨rfl, rfl⟩ ⟨Nat.le_of_ble_eq_true rfl, Nat.le_of_ble_eq_true rfl⟩ dX12_resolve_201 rfl rfl (Nat.le_of_ble_eq_true rfl) ⟨Nat.zero_le _, Nat.zero_le _⟩ (fun r78 σr78 H locs ir78 hp79 hM => ?_)
                    obtain ⟨x80, x81, rfl, hp79⟩ := hp79
                    unfold inr at ir78
                    replace hp79 : r78 = 0 ∧ ((y2_5) ≠ 0 → (x80) = (y2_5)) ∧ ((y2_5) = 0 → (x80) = (5)) := hp79
                    obtain ⟨hp79_0, hp79_1, hp79_2⟩ := hp79
                    simp only [up_up] at hM
                    replace hM : MWd D dA h0 ad (mF dA h0 ad (f, g, A, L) s.heap.size) s.heap ((up f [(5, x80), (6, x81)]), g, (up A [(46, y2_46), (23, y2_23), (24, y2_24), (43, y2_43), (49, y2_49)]), L) H locs := hM
                    have r82 : (-2147483648 : Int) ≤ x80 ∧ x80 ≤ 2147483647 := hM.2.2.2.1 5
                    have r83 : (-2147483648 : Int) ≤ x81 ∧ x81 ≤ 2147483647 := hM.2.2.2.1 6
                    refine lv_pop B.1 B.2.1 dX12_resolve_204 rfl ?_
                    refine lv_goto (tgt := 327) B.1 B.2.1 dX12_resolve_205 (by decide) ?_
                    exact JJ327 x80 x81 y2_46 y2_23 y2_24 y2_43 y2_49 _ _ ls hM (lv_sub hl [1, 2] rfl) (by first | (intro hq; exfalso; omega) | (intro hq; have hz := hLL2_3 (by omega); refine ⟨by omega, ?_⟩; first | exact RKp_skip hz.2 (by omega) (by omega) | exact RKp_put hz.2 (by omega) (by omega)) | (intro _; exact ⟨by omega, RKp_0 (by omega)⟩) | assumption) (by first | assumption | exact UWp_wr (by assumption) (by omega))
          · refine lv_aload_n B.1 B.2.1 dX12_resolve_38 rfl (lv_at hl 1 rfl) ?_
            refine m_geta (k := 16) B hM (by decide) rfl fl145 dX12_resolve_39 ?_
            refine lv_iload_n B.1 B.2.1 dX12_resolve_42 rfl (lv_at hl 2 rfl) ?_
            refine m_lld (k := 16) (i := 5) (n := 1600) (z := v2_1) (v := (L 16) v2_1.toNat) B hM rfl rfl rfl (by decide) dX12_resolve_43 (by omega) (by omega) rfl ?_
            refine s_calli (n := 1) (rest := []) B hl.1 (k_built l D dA ((L 16) v2_1.toNat)  ) rfl ok_built nm_built ⟨rfl, rfl⟩ ⟨Nat.le_of_ble_eq_true rfl, Nat.le_of_ble_eq_true rfl⟩ dX12_resolve_44 rfl rfl (Nat.le_of_ble_eq_true rfl) ⟨Nat.zero_le _, Nat.zero_le _⟩ (fun r84 ir84 hp85 => ?_)
            unfold inr at ir84
            replace hp85 : 0 ≤ r84 ∧ r84 ≤ 8 := hp85
            refine lv_istore_n (lv' := [(3, .int (II r84)), (2, .int (II r28)), (0, .ref h0), (1, .int (II v2_1))]) B.1 B.2.1 dX12_resolve_47 rfl hl (by decide) rfl (fun ls hl => ?_)
            refine lv_iload_n B.1 B.2.1 dX12_resolve_48 rfl (lv_at hl 0 rfl) ?_
            refine q_igt (tgt := 76) B dX12_resolve_49 (by decide) (by unfold inr; omega) (fun c86 => ?_) (fun c86 => ?_)
            · refine q_con B dX12_resolve_76 ?_
              refine lv_goto (tgt := 81) B.1 B.2.1 dX12_resolve_77 (by decide) ?_
              exact JJ81 r28 r84 1 _ _ ls hM (lv_sub hl [2, 1, 0, 3] rfl) (by omega) (by omega) (by omega) (by first | omega | (simp only [wr_at]; omega) | assumption) (by first | omega | (simp only [wr_at]; omega) | assumption) (by first | omega | (simp only [wr_at]; omega) | assumption) (by first | omega | (simp only [wr_at]; omega) | assumption) (by first | omega | (simp only [wr_at]; omega) | assumption) (by first | omega | (simp only [wr_at]; omega) | assumption) (by first | omega | (simp only [wr_at]; omega) | assumption) (by first | omega | (simp only [wr_at]; omega) | assumption) (by first | omega | (simp only [wr_at]; omega) | assumption) (by first | omega | (simp only [wr_at]; omega) | assumption)
            · refine lv_iload_n B.1 B.2.1 dX12_resolve_52 rfl (lv_at hl 1 rfl) ?_
              refine q_ilt (tgt := 80) B dX12_resolve_53 (by decide) (by unfold inr; omega) (fun c87 => ?_) (fun c87 => ?_)
              · refine q_con B dX12_resolve_80 ?_
                exact JJ81 r28 r84 0 _ _ ls hM (lv_sub hl [2, 1, 0, 3] rfl) (by omega) (by omega) (by omega) (by first | omega | (simp only [wr_at]; omega) | assumption) (by first | omega | (simp only [wr_at]; omega) | assumption) (by first | omega | (simp only [wr_at]; omega) | assumption) (by first | omega | (simp only [wr_at]; omega) | assumption) (by first | omega | (simp only [wr_at]; omega) | assumption) (by first | omega | (simp only [wr_at]; omega) | assumption) (by first | omega | (simp only [wr_at]; omega) | assumption) (by first | omega | (simp only [wr_at]; omega) | assumption) (by first | omega | (simp only [wr_at]; omega) | assumption) (by first | omega | (simp only [wr_at]; omega) | assumption)
              · refine lv_aload_n B.1 B.2.1 dX12_resolve_56 rfl (lv_at hl 2 rfl) ?_
                refine m_geta (k := 13) B hM (by decide) rfl fl138 dX12_resolve_57 ?_
                refine lv_iload_n B.1 B.2.1 dX12_resolve_60 rfl (lv_at hl 1 rfl) ?_
                refine m_ild (k := 13) (i := 3) (n := 128) (z := r28) (v := (A 13) r28.toNat) B hM rfl rfl rfl (by decide) dX12_resolve_61 (by omega) (by omega) rfl ?_
                have r88 : (0 : Int) ≤ (A 13) r28.toNat ∧ (A 13) r28.toNat ≤ 5 := hM.2.2.2.2 13 r28.toNat
                refine q_con B dX12_resolve_62 ?_
                refine q_ceq (tgt := 76) B dX12_resolve_63 (by decide) (by unfold inr; omega) (by unfold inr; omega) (fun c89 => ?_) (fun c89 => ?_)
                · refine q_con B dX12_resolve_76 ?_
                  refine lv_goto (tgt := 81) B.1 B.2.1 dX12_resolve_77 (by decide) ?_
                  exact JJ81 r28 r84 1 _ _ ls hM (lv_sub hl [2, 1, 0, 3] rfl) (by omega) (by omega) (by omega) (by first | omega | (simp only [wr_at]; omega) | assumption) (by first | omega | (simp only [wr_at]; omega) | assumption) (by first | omega | (simp only [wr_at]; omega) | assumption) (by first | omega | (simp only [wr_at]; omega) | assumption) (by first | omega | (simp only [wr_at]; omega) | assumption) (by first | omega | (simp only [wr_at]; omega) | assumption) (by first | omega | (simp only [wr_at]; omega) | assumption) (by first | omega | (simp only [wr_at]; omega) | assumption) (by first | omega | (simp only [wr_at]; omega) | assumption) (by first | omega | (simp only [wr_at]; omega) | assumption)
                · refine lv_aload_n B.1 B.2.1 dX12_resolve_66 rfl (lv_at hl 2 rfl) ?_
                  refine m_geta (k := 13) B hM (by decide) rfl fl138 dX12_resolve_67 ?_
                  refine lv_iload_n B.1 B.2.1 dX12_resolve_70 rfl (lv_at hl 1 rfl) ?_
                  refine m_ild (k := 13) (i := 3) (n := 128) (z := r28) (v := (A 13) r28.toNat) B hM rfl rfl rfl (by decide) dX12_resolve_71 (by omega) (by omega) rfl ?_
                  refine q_con B dX12_resolve_72 ?_
                  refine q_cne (tgt := 80) B dX12_resolve_73 (by decide) (by unfold inr; omega) (by unfold inr; omega) (fun c90 => ?_) (fun c90 => ?_)
                  · refine q_con B dX12_resolve_80 ?_
                    exact JJ81 r28 r84 0 _ _ ls hM (lv_sub hl [2, 1, 0, 3] rfl) (by omega) (by omega) (by omega) (by first | omega | (simp only [wr_at]; omega) | assumption) (by first | omega | (simp only [wr_at]; omega) | assumption) (by first | omega | (simp only [wr_at]; omega) | assumption) (by first | omega | (simp only [wr_at]; omega) | assumption) (by first | omega | (simp only [wr_at]; omega) | assumption) (by first | omega | (simp only [wr_at]; omega) | assumption) (by first | omega | (simp only [wr_at]; omega) | assumption) (by first | omega | (simp only [wr_at]; omega) | assumption) (by first | omega | (simp only [wr_at]; omega) | assumption) (by first | omega | (simp only [wr_at]; omega) | assumption)
                  · refine q_con B dX12_resolve_76 ?_
                    refine lv_goto (tgt := 81) B.1 B.2.1 dX12_resolve_77 (by decide) ?_
                    exact JJ81 r28 r84 1 _ _ ls hM (lv_sub hl [2, 1, 0, 3] rfl) (by omega) (by omega) (by omega) (by first | omega | (simp only [wr_at]; omega) | assumption) (by first | omega | (simp only [wr_at]; omega) | assumption) (by first | omega | (simp only [wr_at]; omega) | assumption) (by first | omega | (simp only [wr_at]; omega) | assumption) (by first | omega | (simp only [wr_at]; omega) | assumption) (by first | omega | (simp only [wr_at]; omega) | assumption) (by first | omega | (simp only [wr_at]; omega) | assumption) (by first | omega | (simp only [wr_at]; omega) | assumption) (by first | omega | (simp only [wr_at]; omega) | assumption) (by first | omega | (simp only [wr_at]; omega) | assumption)
  refine q_con B dX12_resolve_0 ?_
  refine lv_istore_n (lv' := [(1, .int (II 0)), (0, .ref h0)]) B.1 B.2.1 dX12_resolve_1 rfl hl (by decide) rfl (fun ls hl => ?_)
  exact LL2 (Int.toNat ((f 22) - (0) + 1)) 0 (f 5) (f 6) ((A 46)) ((A 23)) ((A 24)) ((A 43)) ((A 49)) _ _ ls hM (lv_sub hl [1, 0] rfl) (by omega) (by first | omega | (simp only [wr_at]; omega) | assumption) (by first | omega | (simp only [wr_at]; omega) | assumption) (by first | (intro hq; exfalso; omega) | (intro hq; have hz := hLL2_3 (by omega); refine ⟨by omega, ?_⟩; first | exact RKp_skip hz.2 (by omega) (by omega) | exact RKp_put hz.2 (by omega) (by omega)) | (intro _; exact ⟨by omega, RKp_0 (by omega)⟩) | assumption) (by first | omega | (simp only [wr_at]; omega) | assumption) (by first | omega | (simp only [wr_at]; omega) | assumption) (by first | omega | (simp only [wr_at]; omega) | assumption)
