set_option maxHeartbeats 200000000 in
set_option maxRecDepth 20000 in
theorem k_isRead (l : Launch) (D : va_G) (dA : Nat → ClassId) (h0 : Nat) (ad : Nat → Nat) (f : Nat → Int) (g : Nat → Int64) (A : Nat → Nat → Int) (L : Nat → Nat → Int64) (a_p : Int) (a_m : Int) (i_p : (-2147483648 : Int) ≤ a_p ∧ a_p ≤ 2147483647) (i_m : (-2147483648 : Int) ≤ a_m ∧ a_m ≤ 2147483647) (p_0 : 0 ≤ (a_p)) (p_1 : (a_p) < 200) (p_2 : KU (A 34)) (p_3 : (0 < (f 60) → (A 34) (16 * (f 3)).toNat < 0)) (p_4 : 0 < (f 60)) (p_5 : OI (f 3) (f 58) (A 64) (A 65) (A 72) (A 42)) : MCi l yX12_isRead cX12_isRead 6 (some .boolean) ({ frames := 1, cells := 0, slots := 0, locals := 23 }) D dA h0 ad (f, g, A, L) [.int (II a_p), .int (II a_m)] (fun (r : Int) (σ : MS) => σ = (f, g, A, L) ∧ (0 ≤ r ∧ r ≤ 1)) := by
  generalize hPST : (fun (r : Int) (σ : MS) => σ = (f, g, A, L) ∧ (0 ≤ r ∧ r ≤ 1)) = PST
  refine m_enter (by decide) rfl (Nat.le_of_ble_eq_true rfl) (fun p e s m args below meth c ls B hM hl => ?_)
  have hA : ∀ q, s.heap.size ≤ q → mF dA h0 ad (f, g, A, L) s.heap.size q := fun q h => Or.inr h
  have hl : lv_has ls 6 [(0, .ref h0), (1, .int (II a_p)), (2, .int (II a_m))] := hl
  have r1 : (0 : Int) ≤ f 3 ∧ f 3 ≤ 1 := hM.2.2.2.1 3
  have r2 : (0 : Int) ≤ f 58 ∧ f 58 ≤ 16 := hM.2.2.2.1 58
  have r3 : (0 : Int) ≤ f 60 ∧ f 60 ≤ 16 := hM.2.2.2.1 60
  have LL2 : ∀ N : Nat, ∀ (v2_3 : Int) (H : Heap) (locs : List Loc) (ls : Array Slot), (MWd D dA h0 ad (mF dA h0 ad (f, g, A, L) s.heap.size) s.heap (f, g, A, L) H locs) → lv_has ls 6 [(0, .ref h0), (1, .int (II a_p)), (2, .int (II a_m)), (3, .int (II v2_3))] → ((-2147483648 : Int) ≤ v2_3 ∧ v2_3 ≤ 2147483647) → (0 ≤ (v2_3)) → ((v2_3) ≤ (f 60)) → (0 ≤ (f 60) - (v2_3)) → ((f 60) - (v2_3) < (N : Int)) → W p l e ({ frames := 1, cells := 0, slots := 0, locals := 23 }) s m args below meth c H locs 0 0 (MQ below (mQi D dA h0 ad (f, g, A, L) s.heap.size PST) args s 0 0 (mF dA h0 ad (f, g, A, L) s.heap.size)) (F0 m 2 ls []) := by
    intro N
    induction N with
    | zero => intro v2_3 H locs ls hM hl hLL2_0 hLL2_1 hLL2_2 hLL2_3 hN; exfalso; omega
    | succ N IH2 =>
      intro v2_3 H locs ls hM hl hLL2_0 hLL2_1 hLL2_2 hLL2_3 hN
      have LL13 : ∀ N : Nat, ∀ (v13_4 : Int) (H : Heap) (locs : List Loc) (ls : Array Slot), (MWd D dA h0 ad (mF dA h0 ad (f, g, A, L) s.heap.size) s.heap (f, g, A, L) H locs) → lv_has ls 6 [(0, .ref h0), (1, .int (II a_p)), (2, .int (II a_m)), (4, .int (II v13_4)), (3, .int (II ((v2_3))))] → ((-2147483648 : Int) ≤ v13_4 ∧ v13_4 ≤ 2147483647) → (0 ≤ (v2_3)) → ((v2_3) < (f 60)) → (0 ≤ (v13_4)) → ((v13_4) ≤ 40) → (0 ≤ 40 - (v13_4)) → (40 - (v13_4) < (N : Int)) → W p l e ({ frames := 1, cells := 0, slots := 0, locals := 23 }) s m args below meth c H locs 0 0 (MQ below (mQi D dA h0 ad (f, g, A, L) s.heap.size PST) args s 0 0 (mF dA h0 ad (f, g, A, L) s.heap.size)) (F0 m 13 ls []) := by
        intro N
        induction N with
        | zero => intro v13_4 H locs ls hM hl hLL13_0 hLL13_1 hLL13_2 hLL13_3 hLL13_4 hLL13_5 hN; exfalso; omega
        | succ N IH13 =>
          intro v13_4 H locs ls hM hl hLL13_0 hLL13_1 hLL13_2 hLL13_3 hLL13_4 hLL13_5 hN
          refine lv_iload B.1 B.2.1 dX12_isRead_13 (lv_at hl 3 rfl) ?_
          refine lv_aload_n B.1 B.2.1 dX12_isRead_15 rfl (lv_at hl 0 rfl) ?_
          refine m_geta (k := 64) B hM (by decide) rfl fl263 dX12_isRead_16 ?_
          refine q_sip B dX12_isRead_19 (by decide) ?_
          refine lv_iload_n B.1 B.2.1 dX12_isRead_22 rfl (lv_at hl 4 rfl) ?_
          refine q_add B dX12_isRead_23 ?_
          refine m_ild (k := 64) (i := 44) (n := 216) (z := 200 + ((v2_3))) (v := (A 64) (200 + ((v2_3))).toNat) B hM rfl rfl rfl (by decide) dX12_isRead_24 (by omega) (by omega) rfl ?_
          have r4 : (0 : Int) ≤ (A 64) (200 + ((v2_3))).toNat ∧ (A 64) (200 + ((v2_3))).toNat ≤ 40 := hM.2.2.2.2 64 (200 + ((v2_3))).toNat
          refine q_cge (tgt := 178) B dX12_isRead_25 (by decide) (by unfold inr; omega) (by unfold inr; omega) (fun c5 => ?_) (fun c5 => ?_)
          · refine q_inc (k := 4) (x := (v2_3)) (lv' := [(3, .int (II (((v2_3)) + 1))), (0, .ref h0), (1, .int (II a_p)), (2, .int (II a_m)), (4, .int (II v13_4))]) B dX12_isRead_178 hl rfl (by decide) rfl (fun ls hl => ?_)
            refine lv_goto (tgt := 2) B.1 B.2.1 dX12_isRead_181 (by decide) ?_
            have hv6 : ((-2147483648 : Int) ≤ ((v2_3)) + 1 ∧ (((v2_3)) + 1 : Int) ≤ 2147483647) ∧ (0 ≤ (((v2_3)) + 1)) ∧ ((((v2_3)) + 1) ≤ (f 60)) ∧ (0 ≤ (f 60) - (((v2_3)) + 1)) := by first | omega | (simp only [wr_at] <;> omega) | exact ⟨by first | omega | (simp only [wr_at] <;> omega) | assumption | (intro _; exact wr_at _ _ _), by first | omega | (simp only [wr_at] <;> omega) | assumption | (intro _; exact wr_at _ _ _), by first | omega | (simp only [wr_at] <;> omega) | assumption | (intro _; exact wr_at _ _ _), by first | omega | (simp only [wr_at] <;> omega) | assumption | (intro _; exact wr_at _ _ _)⟩
            exact IH2 (((v2_3)) + 1) _ _ ls hM (lv_sub hl [1, 2, 3, 0] rfl) hv6.1 hv6.2.1 hv6.2.2.1 hv6.2.2.2 (by first | omega | (simp only [wr_at] <;> omega) | assumption | (intro _; exact wr_at _ _ _))
          · refine q_bip B dX12_isRead_28 (by decide) ?_
            refine q_sip B dX12_isRead_30 (by decide) ?_
            refine lv_iload_n B.1 B.2.1 dX12_isRead_33 rfl (lv_at hl 4 rfl) ?_
            refine q_add B dX12_isRead_34 ?_
            refine q_mul B dX12_isRead_35 ?_
            refine lv_iload B.1 B.2.1 dX12_isRead_36 (lv_at hl 3 rfl) ?_
            refine q_add B dX12_isRead_38 ?_
            refine lv_istore (lv' := [(5, .int (II ((40 * (200 + ((v2_3)))) + v13_4))), (0, .ref h0), (1, .int (II a_p)), (2, .int (II a_m)), (4, .int (II v13_4)), (3, .int (II ((v2_3))))]) B.1 B.2.1 dX12_isRead_39 hl (by decide) rfl (fun ls hl => ?_)
            have hko := p_5 (200 + ((v2_3))) (by omega) (by omega) ((v13_4)) (by omega) (by omega)
            obtain ⟨hk1, hk2, -, hk4⟩ := hko
            have hk4 := hk4 (by omega)
            refine lv_aload_n B.1 B.2.1 dX12_isRead_41 rfl (lv_at hl 1 rfl) ?_
            refine m_geta (k := 65) B hM (by decide) rfl fl266 dX12_isRead_42 ?_
            refine lv_iload B.1 B.2.1 dX12_isRead_45 (lv_at hl 0 rfl) ?_
            refine m_ild (k := 65) (i := 45) (n := 12960) (z := (40 * (200 + ((v2_3)))) + v13_4) (v := (A 65) ((40 * (200 + ((v2_3)))) + v13_4).toNat) B hM rfl rfl rfl (by decide) dX12_isRead_47 (by omega) (by omega) rfl ?_
            have r7 : (0 : Int) ≤ (A 65) ((40 * (200 + ((v2_3)))) + v13_4).toNat ∧ (A 65) ((40 * (200 + ((v2_3)))) + v13_4).toNat ≤ 115 := hM.2.2.2.2 65 ((40 * (200 + ((v2_3)))) + v13_4).toNat
            refine q_bip B dX12_isRead_48 (by decide) ?_
            refine q_cne (tgt := 92) B dX12_isRead_50 (by decide) (by unfold inr; omega) (by unfold inr; omega) (fun c8 => ?_) (fun c8 => ?_)
            · refine lv_aload_n B.1 B.2.1 dX12_isRead_92 rfl (lv_at hl 1 rfl) ?_
              refine m_geta (k := 65) B hM (by decide) rfl fl266 dX12_isRead_93 ?_
              refine lv_iload B.1 B.2.1 dX12_isRead_96 (lv_at hl 0 rfl) ?_
              refine m_ild (k := 65) (i := 45) (n := 12960) (z := (40 * (200 + ((v2_3)))) + v13_4) (v := (A 65) ((40 * (200 + ((v2_3)))) + v13_4).toNat) B hM rfl rfl rfl (by decide) dX12_isRead_98 (by omega) (by omega) rfl ?_
              refine q_bip B dX12_isRead_99 (by decide) ?_
              refine q_ceq (tgt := 107) B dX12_isRead_101 (by decide) (by unfold inr; omega) (by unfold inr; omega) (fun c9 => ?_) (fun c9 => ?_)
              · refine lv_aload_n B.1 B.2.1 dX12_isRead_107 rfl (lv_at hl 1 rfl) ?_
                refine lv_iload_n B.1 B.2.1 dX12_isRead_108 rfl (lv_at hl 2 rfl) ?_
                refine lv_iload_n B.1 B.2.1 dX12_isRead_109 rfl (lv_at hl 5 rfl) ?_
                have hv10 : ((-2147483648 : Int) ≤ a_p ∧ (a_p : Int) ≤ 2147483647) ∧ ((-2147483648 : Int) ≤ (v2_3) ∧ ((v2_3) : Int) ≤ 2147483647) ∧ (0 ≤ (a_p)) ∧ ((a_p) < 200) ∧ ((0 < (f 60) → (A 34) (16 * (f 3)).toNat < 0)) ∧ (0 < (f 60)) := by first | omega | (simp only [wr_at] <;> omega) | exact ⟨by first | omega | (simp only [wr_at] <;> omega) | assumption | (intro _; exact wr_at _ _ _), by first | omega | (simp only [wr_at] <;> omega) | assumption | (intro _; exact wr_at _ _ _), by first | omega | (simp only [wr_at] <;> omega) | assumption | (intro _; exact wr_at _ _ _), by first | omega | (simp only [wr_at] <;> omega) | assumption | (intro _; exact wr_at _ _ _), by first | omega | (simp only [wr_at] <;> omega) | assumption | (intro _; exact wr_at _ _ _), by first | omega | (simp only [wr_at] <;> omega) | assumption | (intro _; exact wr_at _ _ _)⟩
                refine m_calli (n := 2) (rest := []) B hM hA hl.1 (k_isOf l D dA h0 ad f g A L a_p ((v2_3)) hv10.1 hv10.2.1 hv10.2.2.1 hv10.2.2.2.1 (show KU (A 34) from by first | assumption | exact KU_wr (by assumption) (by assumption) (by omega) (by omega)) hv10.2.2.2.2.1 hv10.2.2.2.2.2) rfl ok_isOf nm_isOf ⟨rfl, rfl⟩ ⟨Nat.le_of_ble_eq_true rfl, Nat.le_of_ble_eq_true rfl⟩ dX12_isRead_110 rfl rfl (Nat.le_of_ble_eq_true rfl) ⟨Nat.zero_le _, Nat.zero_le _⟩ (fun r11 σr11 H locs ir11 hp12 hM => ?_)
                obtain ⟨rfl, hp12⟩ := hp12
                unfold inr at ir11
                replace hp12 : 0 ≤ r11 ∧ r11 ≤ 1 := hp12
                obtain ⟨hp12_0, hp12_1⟩ := hp12
                refine q_ieq (tgt := 133) B dX12_isRead_113 (by decide) (by unfold inr; omega) (fun c13 => ?_) (fun c13 => ?_)
                · have hag : AG (A 72) (4 * ((40 * (200 + ((v2_3)))) + v13_4)) 3 := hk4.elim (fun z => absurd z.1 (by omega)) (fun z => z.2)
                  have hg0 := hag 0 (by omega) (by omega)
                  rw [show 4 * ((40 * (200 + ((v2_3)))) + v13_4) + 0 = 4 * ((40 * (200 + ((v2_3)))) + v13_4) from by omega] at hg0
                  refine lv_aload_n B.1 B.2.1 dX12_isRead_133 rfl (lv_at hl 1 rfl) ?_
                  refine lv_iload_n B.1 B.2.1 dX12_isRead_134 rfl (lv_at hl 2 rfl) ?_
                  refine lv_aload_n B.1 B.2.1 dX12_isRead_135 rfl (lv_at hl 1 rfl) ?_
                  refine lv_iload_n B.1 B.2.1 dX12_isRead_136 rfl (lv_at hl 5 rfl) ?_
                  refine lv_aload_n B.1 B.2.1 dX12_isRead_137 rfl (lv_at hl 1 rfl) ?_
                  refine m_geta (k := 72) B hM (by decide) rfl fl288 dX12_isRead_138 ?_
                  refine q_con B dX12_isRead_141 ?_
                  refine lv_iload B.1 B.2.1 dX12_isRead_142 (lv_at hl 0 rfl) ?_
                  refine q_mul B dX12_isRead_144 ?_
                  refine m_ild (k := 72) (i := 52) (n := 51840) (z := 4 * ((40 * (200 + ((v2_3)))) + v13_4)) (v := (A 72) (4 * ((40 * (200 + ((v2_3)))) + v13_4)).toNat) B hM rfl rfl rfl (by decide) dX12_isRead_145 (by omega) (by omega) rfl ?_
                  have r14 : (-2147483648 : Int) ≤ (A 72) (4 * ((40 * (200 + ((v2_3)))) + v13_4)).toNat ∧ (A 72) (4 * ((40 * (200 + ((v2_3)))) + v13_4)).toNat ≤ 2147483647 := hM.2.2.2.2 72 (4 * ((40 * (200 + ((v2_3)))) + v13_4)).toNat
                  have hv15 : ((-2147483648 : Int) ≤ (v2_3) ∧ ((v2_3) : Int) ≤ 2147483647) ∧ ((-2147483648 : Int) ≤ (A 72) (4 * ((40 * (200 + ((v2_3)))) + v13_4)).toNat ∧ ((A 72) (4 * ((40 * (200 + ((v2_3)))) + v13_4)).toNat : Int) ≤ 2147483647) ∧ (0 ≤ ((v2_3))) ∧ (((v2_3)) ≤ 15) ∧ (0 ≤ ((A 72) (4 * ((40 * (200 + ((v2_3)))) + v13_4)).toNat)) ∧ (((A 72) (4 * ((40 * (200 + ((v2_3)))) + v13_4)).toNat) ≤ 11) := by first | omega | (simp only [wr_at] <;> omega) | exact ⟨by first | omega | (simp only [wr_at] <;> omega) | assumption | (intro _; exact wr_at _ _ _), by first | omega | (simp only [wr_at] <;> omega) | assumption | (intro _; exact wr_at _ _ _), by first | omega | (simp only [wr_at] <;> omega) | assumption | (intro _; exact wr_at _ _ _), by first | omega | (simp only [wr_at] <;> omega) | assumption | (intro _; exact wr_at _ _ _), by first | omega | (simp only [wr_at] <;> omega) | assumption | (intro _; exact wr_at _ _ _), by first | omega | (simp only [wr_at] <;> omega) | assumption | (intro _; exact wr_at _ _ _)⟩
                  refine m_calli (n := 2) (rest := [.int (II a_p), .ref h0]) B hM hA hl.1 (k_kindIn l D dA h0 ad f g A L ((v2_3)) ((A 72) (4 * ((40 * (200 + ((v2_3)))) + v13_4)).toNat) hv15.1 hv15.2.1 hv15.2.2.1 hv15.2.2.2.1 hv15.2.2.2.2.1 hv15.2.2.2.2.2) rfl ok_kindIn nm_kindIn ⟨rfl, rfl⟩ ⟨Nat.le_of_ble_eq_true rfl, Nat.le_of_ble_eq_true rfl⟩ dX12_isRead_146 rfl rfl (Nat.le_of_ble_eq_true rfl) ⟨Nat.zero_le _, Nat.zero_le _⟩ (fun r16 σr16 H locs ir16 hp17 hM => ?_)
                  obtain ⟨rfl, hp17⟩ := hp17
                  unfold inr at ir16
                  replace hp17 : r16 = (A 43) ((A 38) (12 * (16 * (f 3) + ((v2_3))) + ((A 72) (4 * ((40 * (200 + ((v2_3)))) + v13_4)).toNat)).toNat).toNat ∧ -1 ≤ r16 ∧ r16 ≤ 15 := hp17
                  obtain ⟨hp17_0, hp17_1, hp17_2⟩ := hp17
                  have hv18 : ((-2147483648 : Int) ≤ a_p ∧ (a_p : Int) ≤ 2147483647) ∧ ((-2147483648 : Int) ≤ r16 ∧ (r16 : Int) ≤ 2147483647) ∧ (0 ≤ (a_p)) ∧ ((a_p) < 200) ∧ ((0 < (f 60) → (A 34) (16 * (f 3)).toNat < 0)) ∧ (0 < (f 60)) := by first | omega | (simp only [wr_at] <;> omega) | exact ⟨by first | omega | (simp only [wr_at] <;> omega) | assumption | (intro _; exact wr_at _ _ _), by first | omega | (simp only [wr_at] <;> omega) | assumption | (intro _; exact wr_at _ _ _), by first | omega | (simp only [wr_at] <;> omega) | assumption | (intro _; exact wr_at _ _ _), by first | omega | (simp only [wr_at] <;> omega) | assumption | (intro _; exact wr_at _ _ _), by first | omega | (simp only [wr_at] <;> omega) | assumption | (intro _; exact wr_at _ _ _), by first | omega | (simp only [wr_at] <;> omega) | assumption | (intro _; exact wr_at _ _ _)⟩
                  refine m_calli (n := 2) (rest := []) B hM hA hl.1 (k_isOf l D dA h0 ad f g A L a_p r16 hv18.1 hv18.2.1 hv18.2.2.1 hv18.2.2.2.1 (show KU (A 34) from by first | assumption | exact KU_wr (by assumption) (by assumption) (by omega) (by omega)) hv18.2.2.2.2.1 hv18.2.2.2.2.2) rfl ok_isOf nm_isOf ⟨rfl, rfl⟩ ⟨Nat.le_of_ble_eq_true rfl, Nat.le_of_ble_eq_true rfl⟩ dX12_isRead_149 rfl rfl (Nat.le_of_ble_eq_true rfl) ⟨Nat.zero_le _, Nat.zero_le _⟩ (fun r19 σr19 H locs ir19 hp20 hM => ?_)
                  obtain ⟨rfl, hp20⟩ := hp20
                  unfold inr at ir19
                  replace hp20 : 0 ≤ r19 ∧ r19 ≤ 1 := hp20
                  obtain ⟨hp20_0, hp20_1⟩ := hp20
                  refine q_ieq (tgt := 172) B dX12_isRead_152 (by decide) (by unfold inr; omega) (fun c21 => ?_) (fun c21 => ?_)
                  · refine q_inc (k := 4) (x := v13_4) (lv' := [(4, .int (II (v13_4 + 1))), (5, .int (II ((40 * (200 + ((v2_3)))) + v13_4))), (0, .ref h0), (1, .int (II a_p)), (2, .int (II a_m)), (3, .int (II ((v2_3))))]) B dX12_isRead_172 hl rfl (by decide) rfl (fun ls hl => ?_)
                    refine lv_goto (tgt := 13) B.1 B.2.1 dX12_isRead_175 (by decide) ?_
                    have hv22 : ((-2147483648 : Int) ≤ v13_4 + 1 ∧ (v13_4 + 1 : Int) ≤ 2147483647) ∧ (0 ≤ (v2_3)) ∧ ((v2_3) < (f 60)) ∧ (0 ≤ (v13_4 + 1)) ∧ ((v13_4 + 1) ≤ 40) ∧ (0 ≤ 40 - (v13_4 + 1)) := by first | omega | (simp only [wr_at] <;> omega) | exact ⟨by first | omega | (simp only [wr_at] <;> omega) | assumption | (intro _; exact wr_at _ _ _), by first | omega | (simp only [wr_at] <;> omega) | assumption | (intro _; exact wr_at _ _ _), by first | omega | (simp only [wr_at] <;> omega) | assumption | (intro _; exact wr_at _ _ _), by first | omega | (simp only [wr_at] <;> omega) | assumption | (intro _; exact wr_at _ _ _), by first | omega | (simp only [wr_at] <;> omega) | assumption | (intro _; exact wr_at _ _ _), by first | omega | (simp only [wr_at] <;> omega) | assumption | (intro _; exact wr_at _ _ _)⟩
                    exact IH13 (v13_4 + 1) _ _ ls hM (lv_sub hl [2, 3, 4, 0, 5] rfl) hv22.1 hv22.2.1 hv22.2.2.1 hv22.2.2.2.1 hv22.2.2.2.2.1 hv22.2.2.2.2.2 (by first | omega | (simp only [wr_at] <;> omega) | assumption | (intro _; exact wr_at _ _ _))
                  · refine lv_aload_n B.1 B.2.1 dX12_isRead_155 rfl (lv_at hl 1 rfl) ?_
                    refine m_geta (k := 72) B hM (by decide) rfl fl288 dX12_isRead_156 ?_
                    refine q_con B dX12_isRead_159 ?_
                    refine lv_iload B.1 B.2.1 dX12_isRead_160 (lv_at hl 0 rfl) ?_
                    refine q_mul B dX12_isRead_162 ?_
                    refine q_con B dX12_isRead_163 ?_
                    refine q_add B dX12_isRead_164 ?_
                    refine m_ild (k := 72) (i := 52) (n := 51840) (z := (4 * ((40 * (200 + ((v2_3)))) + v13_4)) + 1) (v := (A 72) ((4 * ((40 * (200 + ((v2_3)))) + v13_4)) + 1).toNat) B hM rfl rfl rfl (by decide) dX12_isRead_165 (by omega) (by omega) rfl ?_
                    have r23 : (-2147483648 : Int) ≤ (A 72) ((4 * ((40 * (200 + ((v2_3)))) + v13_4)) + 1).toNat ∧ (A 72) ((4 * ((40 * (200 + ((v2_3)))) + v13_4)) + 1).toNat ≤ 2147483647 := hM.2.2.2.2 72 ((4 * ((40 * (200 + ((v2_3)))) + v13_4)) + 1).toNat
                    refine lv_iload_n B.1 B.2.1 dX12_isRead_166 rfl (lv_at hl 3 rfl) ?_
                    refine q_cne (tgt := 172) B dX12_isRead_167 (by decide) (by unfold inr; omega) (by unfold inr; omega) (fun c24 => ?_) (fun c24 => ?_)
                    · refine q_inc (k := 4) (x := v13_4) (lv' := [(4, .int (II (v13_4 + 1))), (5, .int (II ((40 * (200 + ((v2_3)))) + v13_4))), (0, .ref h0), (1, .int (II a_p)), (2, .int (II a_m)), (3, .int (II ((v2_3))))]) B dX12_isRead_172 hl rfl (by decide) rfl (fun ls hl => ?_)
                      refine lv_goto (tgt := 13) B.1 B.2.1 dX12_isRead_175 (by decide) ?_
                      have hv25 : ((-2147483648 : Int) ≤ v13_4 + 1 ∧ (v13_4 + 1 : Int) ≤ 2147483647) ∧ (0 ≤ (v2_3)) ∧ ((v2_3) < (f 60)) ∧ (0 ≤ (v13_4 + 1)) ∧ ((v13_4 + 1) ≤ 40) ∧ (0 ≤ 40 - (v13_4 + 1)) := by first | omega | (simp only [wr_at] <;> omega) | exact ⟨by first | omega | (simp only [wr_at] <;> omega) | assumption | (intro _; exact wr_at _ _ _), by first | omega | (simp only [wr_at] <;> omega) | assumption | (intro _; exact wr_at _ _ _), by first | omega | (simp only [wr_at] <;> omega) | assumption | (intro _; exact wr_at _ _ _), by first | omega | (simp only [wr_at] <;> omega) | assumption | (intro _; exact wr_at _ _ _), by first | omega | (simp only [wr_at] <;> omega) | assumption | (intro _; exact wr_at _ _ _), by first | omega | (simp only [wr_at] <;> omega) | assumption | (intro _; exact wr_at _ _ _)⟩
                      exact IH13 (v13_4 + 1) _ _ ls hM (lv_sub hl [2, 3, 4, 0, 5] rfl) hv25.1 hv25.2.1 hv25.2.2.1 hv25.2.2.2.1 hv25.2.2.2.2.1 hv25.2.2.2.2.2 (by first | omega | (simp only [wr_at] <;> omega) | assumption | (intro _; exact wr_at _ _ _))
                    · refine q_con B dX12_isRead_170 ?_
                      subst hPST
                      have hv26 : (0 ≤ (1 : Int)) ∧ ((1 : Int) ≤ 1) := by first | omega | (simp only [wr_at] <;> omega) | exact ⟨by first | omega | (simp only [wr_at] <;> omega) | assumption | (intro _; exact wr_at _ _ _), by first | omega | (simp only [wr_at] <;> omega) | assumption | (intro _; exact wr_at _ _ _)⟩
                      exact m_zret B hM dX12_isRead_171 (by omega) ⟨rfl, hv26.1, hv26.2⟩
                · refine lv_aload_n B.1 B.2.1 dX12_isRead_116 rfl (lv_at hl 1 rfl) ?_
                  refine m_geta (k := 72) B hM (by decide) rfl fl288 dX12_isRead_117 ?_
                  refine q_con B dX12_isRead_120 ?_
                  refine lv_iload B.1 B.2.1 dX12_isRead_121 (lv_at hl 0 rfl) ?_
                  refine q_mul B dX12_isRead_123 ?_
                  refine q_con B dX12_isRead_124 ?_
                  refine q_add B dX12_isRead_125 ?_
                  refine m_ild (k := 72) (i := 52) (n := 51840) (z := (4 * ((40 * (200 + ((v2_3)))) + v13_4)) + 2) (v := (A 72) ((4 * ((40 * (200 + ((v2_3)))) + v13_4)) + 2).toNat) B hM rfl rfl rfl (by decide) dX12_isRead_126 (by omega) (by omega) rfl ?_
                  have r27 : (-2147483648 : Int) ≤ (A 72) ((4 * ((40 * (200 + ((v2_3)))) + v13_4)) + 2).toNat ∧ (A 72) ((4 * ((40 * (200 + ((v2_3)))) + v13_4)) + 2).toNat ≤ 2147483647 := hM.2.2.2.2 72 ((4 * ((40 * (200 + ((v2_3)))) + v13_4)) + 2).toNat
                  refine lv_iload_n B.1 B.2.1 dX12_isRead_127 rfl (lv_at hl 3 rfl) ?_
                  refine q_cne (tgt := 133) B dX12_isRead_128 (by decide) (by unfold inr; omega) (by unfold inr; omega) (fun c28 => ?_) (fun c28 => ?_)
                  · have hag : AG (A 72) (4 * ((40 * (200 + ((v2_3)))) + v13_4)) 3 := hk4.elim (fun z => absurd z.1 (by omega)) (fun z => z.2)
                    have hg0 := hag 0 (by omega) (by omega)
                    rw [show 4 * ((40 * (200 + ((v2_3)))) + v13_4) + 0 = 4 * ((40 * (200 + ((v2_3)))) + v13_4) from by omega] at hg0
                    refine lv_aload_n B.1 B.2.1 dX12_isRead_133 rfl (lv_at hl 1 rfl) ?_
                    refine lv_iload_n B.1 B.2.1 dX12_isRead_134 rfl (lv_at hl 2 rfl) ?_
                    refine lv_aload_n B.1 B.2.1 dX12_isRead_135 rfl (lv_at hl 1 rfl) ?_
                    refine lv_iload_n B.1 B.2.1 dX12_isRead_136 rfl (lv_at hl 5 rfl) ?_
                    refine lv_aload_n B.1 B.2.1 dX12_isRead_137 rfl (lv_at hl 1 rfl) ?_
                    refine m_geta (k := 72) B hM (by decide) rfl fl288 dX12_isRead_138 ?_
                    refine q_con B dX12_isRead_141 ?_
                    refine lv_iload B.1 B.2.1 dX12_isRead_142 (lv_at hl 0 rfl) ?_
                    refine q_mul B dX12_isRead_144 ?_
                    refine m_ild (k := 72) (i := 52) (n := 51840) (z := 4 * ((40 * (200 + ((v2_3)))) + v13_4)) (v := (A 72) (4 * ((40 * (200 + ((v2_3)))) + v13_4)).toNat) B hM rfl rfl rfl (by decide) dX12_isRead_145 (by omega) (by omega) rfl ?_
                    have r29 : (-2147483648 : Int) ≤ (A 72) (4 * ((40 * (200 + ((v2_3)))) + v13_4)).toNat ∧ (A 72) (4 * ((40 * (200 + ((v2_3)))) + v13_4)).toNat ≤ 2147483647 := hM.2.2.2.2 72 (4 * ((40 * (200 + ((v2_3)))) + v13_4)).toNat
                    have hv30 : ((-2147483648 : Int) ≤ (v2_3) ∧ ((v2_3) : Int) ≤ 2147483647) ∧ ((-2147483648 : Int) ≤ (A 72) (4 * ((40 * (200 + ((v2_3)))) + v13_4)).toNat ∧ ((A 72) (4 * ((40 * (200 + ((v2_3)))) + v13_4)).toNat : Int) ≤ 2147483647) ∧ (0 ≤ ((v2_3))) ∧ (((v2_3)) ≤ 15) ∧ (0 ≤ ((A 72) (4 * ((40 * (200 + ((v2_3)))) + v13_4)).toNat)) ∧ (((A 72) (4 * ((40 * (200 + ((v2_3)))) + v13_4)).toNat) ≤ 11) := by first | omega | (simp only [wr_at] <;> omega) | exact ⟨by first | omega | (simp only [wr_at] <;> omega) | assumption | (intro _; exact wr_at _ _ _), by first | omega | (simp only [wr_at] <;> omega) | assumption | (intro _; exact wr_at _ _ _), by first | omega | (simp only [wr_at] <;> omega) | assumption | (intro _; exact wr_at _ _ _), by first | omega | (simp only [wr_at] <;> omega) | assumption | (intro _; exact wr_at _ _ _), by first | omega | (simp only [wr_at] <;> omega) | assumption | (intro _; exact wr_at _ _ _), by first | omega | (simp only [wr_at] <;> omega) | assumption | (intro _; exact wr_at _ _ _)⟩
                    refine m_calli (n := 2) (rest := [.int (II a_p), .ref h0]) B hM hA hl.1 (k_kindIn l D dA h0 ad f g A L ((v2_3)) ((A 72) (4 * ((40 * (200 + ((v2_3)))) + v13_4)).toNat) hv30.1 hv30.2.1 hv30.2.2.1 hv30.2.2.2.1 hv30.2.2.2.2.1 hv30.2.2.2.2.2) rfl ok_kindIn nm_kindIn ⟨rfl, rfl⟩ ⟨Nat.le_of_ble_eq_true rfl, Nat.le_of_ble_eq_true rfl⟩ dX12_isRead_146 rfl rfl (Nat.le_of_ble_eq_true rfl) ⟨Nat.zero_le _, Nat.zero_le _⟩ (fun r31 σr31 H locs ir31 hp32 hM => ?_)
                    obtain ⟨rfl, hp32⟩ := hp32
                    unfold inr at ir31
                    replace hp32 : r31 = (A 43) ((A 38) (12 * (16 * (f 3) + ((v2_3))) + ((A 72) (4 * ((40 * (200 + ((v2_3)))) + v13_4)).toNat)).toNat).toNat ∧ -1 ≤ r31 ∧ r31 ≤ 15 := hp32
                    obtain ⟨hp32_0, hp32_1, hp32_2⟩ := hp32
                    have hv33 : ((-2147483648 : Int) ≤ a_p ∧ (a_p : Int) ≤ 2147483647) ∧ ((-2147483648 : Int) ≤ r31 ∧ (r31 : Int) ≤ 2147483647) ∧ (0 ≤ (a_p)) ∧ ((a_p) < 200) ∧ ((0 < (f 60) → (A 34) (16 * (f 3)).toNat < 0)) ∧ (0 < (f 60)) := by first | omega | (simp only [wr_at] <;> omega) | exact ⟨by first | omega | (simp only [wr_at] <;> omega) | assumption | (intro _; exact wr_at _ _ _), by first | omega | (simp only [wr_at] <;> omega) | assumption | (intro _; exact wr_at _ _ _), by first | omega | (simp only [wr_at] <;> omega) | assumption | (intro _; exact wr_at _ _ _), by first | omega | (simp only [wr_at] <;> omega) | assumption | (intro _; exact wr_at _ _ _), by first | omega | (simp only [wr_at] <;> omega) | assumption | (intro _; exact wr_at _ _ _), by first | omega | (simp only [wr_at] <;> omega) | assumption | (intro _; exact wr_at _ _ _)⟩
                    refine m_calli (n := 2) (rest := []) B hM hA hl.1 (k_isOf l D dA h0 ad f g A L a_p r31 hv33.1 hv33.2.1 hv33.2.2.1 hv33.2.2.2.1 (show KU (A 34) from by first | assumption | exact KU_wr (by assumption) (by assumption) (by omega) (by omega)) hv33.2.2.2.2.1 hv33.2.2.2.2.2) rfl ok_isOf nm_isOf ⟨rfl, rfl⟩ ⟨Nat.le_of_ble_eq_true rfl, Nat.le_of_ble_eq_true rfl⟩ dX12_isRead_149 rfl rfl (Nat.le_of_ble_eq_true rfl) ⟨Nat.zero_le _, Nat.zero_le _⟩ (fun r34 σr34 H locs ir34 hp35 hM => ?_)
                    obtain ⟨rfl, hp35⟩ := hp35
                    unfold inr at ir34
                    replace hp35 : 0 ≤ r34 ∧ r34 ≤ 1 := hp35
                    obtain ⟨hp35_0, hp35_1⟩ := hp35
                    refine q_ieq (tgt := 172) B dX12_isRead_152 (by decide) (by unfold inr; omega) (fun c36 => ?_) (fun c36 => ?_)
                    · refine q_inc (k := 4) (x := v13_4) (lv' := [(4, .int (II (v13_4 + 1))), (5, .int (II ((40 * (200 + ((v2_3)))) + v13_4))), (0, .ref h0), (1, .int (II a_p)), (2, .int (II a_m)), (3, .int (II ((v2_3))))]) B dX12_isRead_172 hl rfl (by decide) rfl (fun ls hl => ?_)
                      refine lv_goto (tgt := 13) B.1 B.2.1 dX12_isRead_175 (by decide) ?_
                      have hv37 : ((-2147483648 : Int) ≤ v13_4 + 1 ∧ (v13_4 + 1 : Int) ≤ 2147483647) ∧ (0 ≤ (v2_3)) ∧ ((v2_3) < (f 60)) ∧ (0 ≤ (v13_4 + 1)) ∧ ((v13_4 + 1) ≤ 40) ∧ (0 ≤ 40 - (v13_4 + 1)) := by first | omega | (simp only [wr_at] <;> omega) | exact ⟨by first | omega | (simp only [wr_at] <;> omega) | assumption | (intro _; exact wr_at _ _ _), by first | omega | (simp only [wr_at] <;> omega) | assumption | (intro _; exact wr_at _ _ _), by first | omega | (simp only [wr_at] <;> omega) | assumption | (intro _; exact wr_at _ _ _), by first | omega | (simp only [wr_at] <;> omega) | assumption | (intro _; exact wr_at _ _ _), by first | omega | (simp only [wr_at] <;> omega) | assumption | (intro _; exact wr_at _ _ _), by first | omega | (simp only [wr_at] <;> omega) | assumption | (intro _; exact wr_at _ _ _)⟩
                      exact IH13 (v13_4 + 1) _ _ ls hM (lv_sub hl [2, 3, 4, 0, 5] rfl) hv37.1 hv37.2.1 hv37.2.2.1 hv37.2.2.2.1 hv37.2.2.2.2.1 hv37.2.2.2.2.2 (by first | omega | (simp only [wr_at] <;> omega) | assumption | (intro _; exact wr_at _ _ _))
                    · refine lv_aload_n B.1 B.2.1 dX12_isRead_155 rfl (lv_at hl 1 rfl) ?_
                      refine m_geta (k := 72) B hM (by decide) rfl fl288 dX12_isRead_156 ?_
                      refine q_con B dX12_isRead_159 ?_
                      refine lv_iload B.1 B.2.1 dX12_isRead_160 (lv_at hl 0 rfl) ?_
                      refine q_mul B dX12_isRead_162 ?_
                      refine q_con B dX12_isRead_163 ?_
                      refine q_add B dX12_isRead_164 ?_
                      refine m_ild (k := 72) (i := 52) (n := 51840) (z := (4 * ((40 * (200 + ((v2_3)))) + v13_4)) + 1) (v := (A 72) ((4 * ((40 * (200 + ((v2_3)))) + v13_4)) + 1).toNat) B hM rfl rfl rfl (by decide) dX12_isRead_165 (by omega) (by omega) rfl ?_
                      have r38 : (-2147483648 : Int) ≤ (A 72) ((4 * ((40 * (200 + ((v2_3)))) + v13_4)) + 1).toNat ∧ (A 72) ((4 * ((40 * (200 + ((v2_3)))) + v13_4)) + 1).toNat ≤ 2147483647 := hM.2.2.2.2 72 ((4 * ((40 * (200 + ((v2_3)))) + v13_4)) + 1).toNat
                      refine lv_iload_n B.1 B.2.1 dX12_isRead_166 rfl (lv_at hl 3 rfl) ?_
                      refine q_cne (tgt := 172) B dX12_isRead_167 (by decide) (by unfold inr; omega) (by unfold inr; omega) (fun c39 => ?_) (fun c39 => ?_)
                      · refine q_inc (k := 4) (x := v13_4) (lv' := [(4, .int (II (v13_4 + 1))), (5, .int (II ((40 * (200 + ((v2_3)))) + v13_4))), (0, .ref h0), (1, .int (II a_p)), (2, .int (II a_m)), (3, .int (II ((v2_3))))]) B dX12_isRead_172 hl rfl (by decide) rfl (fun ls hl => ?_)
                        refine lv_goto (tgt := 13) B.1 B.2.1 dX12_isRead_175 (by decide) ?_
                        have hv40 : ((-2147483648 : Int) ≤ v13_4 + 1 ∧ (v13_4 + 1 : Int) ≤ 2147483647) ∧ (0 ≤ (v2_3)) ∧ ((v2_3) < (f 60)) ∧ (0 ≤ (v13_4 + 1)) ∧ ((v13_4 + 1) ≤ 40) ∧ (0 ≤ 40 - (v13_4 + 1)) := by first | omega | (simp only [wr_at] <;> omega) | exact ⟨by first | omega | (simp only [wr_at] <;> omega) | assumption | (intro _; exact wr_at _ _ _), by first | omega | (simp only [wr_at] <;> omega) | assumption | (intro _; exact wr_at _ _ _), by first | omega | (simp only [wr_at] <;> omega) | assumption | (intro _; exact wr_at _ _ _), by first | omega | (simp only [wr_at] <;> omega) | assumption | (intro _; exact wr_at _ _ _), by first | omega | (simp only [wr_at] <;> omega) | assumption | (intro _; exact wr_at _ _ _), by first | omega | (simp only [wr_at] <;> omega) | assumption | (intro _; exact wr_at _ _ _)⟩
                        exact IH13 (v13_4 + 1) _ _ ls hM (lv_sub hl [2, 3, 4, 0, 5] rfl) hv40.1 hv40.2.1 hv40.2.2.1 hv40.2.2.2.1 hv40.2.2.2.2.1 hv40.2.2.2.2.2 (by first | omega | (simp only [wr_at] <;> omega) | assumption | (intro _; exact wr_at _ _ _))
                      · refine q_con B dX12_isRead_170 ?_
                        subst hPST
                        have hv41 : (0 ≤ (1 : Int)) ∧ ((1 : Int) ≤ 1) := by first | omega | (simp only [wr_at] <;> omega) | exact ⟨by first | omega | (simp only [wr_at] <;> omega) | assumption | (intro _; exact wr_at _ _ _), by first | omega | (simp only [wr_at] <;> omega) | assumption | (intro _; exact wr_at _ _ _)⟩
                        exact m_zret B hM dX12_isRead_171 (by omega) ⟨rfl, hv41.1, hv41.2⟩
                  · refine q_con B dX12_isRead_131 ?_
                    subst hPST
                    have hv42 : (0 ≤ (1 : Int)) ∧ ((1 : Int) ≤ 1) := by first | omega | (simp only [wr_at] <;> omega) | exact ⟨by first | omega | (simp only [wr_at] <;> omega) | assumption | (intro _; exact wr_at _ _ _), by first | omega | (simp only [wr_at] <;> omega) | assumption | (intro _; exact wr_at _ _ _)⟩
                    exact m_zret B hM dX12_isRead_132 (by omega) ⟨rfl, hv42.1, hv42.2⟩
              · refine lv_goto (tgt := 172) B.1 B.2.1 dX12_isRead_104 (by decide) ?_
                refine q_inc (k := 4) (x := v13_4) (lv' := [(4, .int (II (v13_4 + 1))), (5, .int (II ((40 * (200 + ((v2_3)))) + v13_4))), (0, .ref h0), (1, .int (II a_p)), (2, .int (II a_m)), (3, .int (II ((v2_3))))]) B dX12_isRead_172 hl rfl (by decide) rfl (fun ls hl => ?_)
                refine lv_goto (tgt := 13) B.1 B.2.1 dX12_isRead_175 (by decide) ?_
                have hv43 : ((-2147483648 : Int) ≤ v13_4 + 1 ∧ (v13_4 + 1 : Int) ≤ 2147483647) ∧ (0 ≤ (v2_3)) ∧ ((v2_3) < (f 60)) ∧ (0 ≤ (v13_4 + 1)) ∧ ((v13_4 + 1) ≤ 40) ∧ (0 ≤ 40 - (v13_4 + 1)) := by first | omega | (simp only [wr_at] <;> omega) | exact ⟨by first | omega | (simp only [wr_at] <;> omega) | assumption | (intro _; exact wr_at _ _ _), by first | omega | (simp only [wr_at] <;> omega) | assumption | (intro _; exact wr_at _ _ _), by first | omega | (simp only [wr_at] <;> omega) | assumption | (intro _; exact wr_at _ _ _), by first | omega | (simp only [wr_at] <;> omega) | assumption | (intro _; exact wr_at _ _ _), by first | omega | (simp only [wr_at] <;> omega) | assumption | (intro _; exact wr_at _ _ _), by first | omega | (simp only [wr_at] <;> omega) | assumption | (intro _; exact wr_at _ _ _)⟩
                exact IH13 (v13_4 + 1) _ _ ls hM (lv_sub hl [2, 3, 4, 0, 5] rfl) hv43.1 hv43.2.1 hv43.2.2.1 hv43.2.2.2.1 hv43.2.2.2.2.1 hv43.2.2.2.2.2 (by first | omega | (simp only [wr_at] <;> omega) | assumption | (intro _; exact wr_at _ _ _))
            · refine lv_aload_n B.1 B.2.1 dX12_isRead_53 rfl (lv_at hl 1 rfl) ?_
              refine lv_iload_n B.1 B.2.1 dX12_isRead_54 rfl (lv_at hl 2 rfl) ?_
              refine lv_iload_n B.1 B.2.1 dX12_isRead_55 rfl (lv_at hl 5 rfl) ?_
              have hv44 : ((-2147483648 : Int) ≤ a_p ∧ (a_p : Int) ≤ 2147483647) ∧ ((-2147483648 : Int) ≤ (v2_3) ∧ ((v2_3) : Int) ≤ 2147483647) ∧ (0 ≤ (a_p)) ∧ ((a_p) < 200) ∧ ((0 < (f 60) → (A 34) (16 * (f 3)).toNat < 0)) ∧ (0 < (f 60)) := by first | omega | (simp only [wr_at] <;> omega) | exact ⟨by first | omega | (simp only [wr_at] <;> omega) | assumption | (intro _; exact wr_at _ _ _), by first | omega | (simp only [wr_at] <;> omega) | assumption | (intro _; exact wr_at _ _ _), by first | omega | (simp only [wr_at] <;> omega) | assumption | (intro _; exact wr_at _ _ _), by first | omega | (simp only [wr_at] <;> omega) | assumption | (intro _; exact wr_at _ _ _), by first | omega | (simp only [wr_at] <;> omega) | assumption | (intro _; exact wr_at _ _ _), by first | omega | (simp only [wr_at] <;> omega) | assumption | (intro _; exact wr_at _ _ _)⟩
              refine m_calli (n := 2) (rest := []) B hM hA hl.1 (k_isOf l D dA h0 ad f g A L a_p ((v2_3)) hv44.1 hv44.2.1 hv44.2.2.1 hv44.2.2.2.1 (show KU (A 34) from by first | assumption | exact KU_wr (by assumption) (by assumption) (by omega) (by omega)) hv44.2.2.2.2.1 hv44.2.2.2.2.2) rfl ok_isOf nm_isOf ⟨rfl, rfl⟩ ⟨Nat.le_of_ble_eq_true rfl, Nat.le_of_ble_eq_true rfl⟩ dX12_isRead_56 rfl rfl (Nat.le_of_ble_eq_true rfl) ⟨Nat.zero_le _, Nat.zero_le _⟩ (fun r45 σr45 H locs ir45 hp46 hM => ?_)
              obtain ⟨rfl, hp46⟩ := hp46
              unfold inr at ir45
              replace hp46 : 0 ≤ r45 ∧ r45 ≤ 1 := hp46
              obtain ⟨hp46_0, hp46_1⟩ := hp46
              refine q_ieq (tgt := 92) B dX12_isRead_59 (by decide) (by unfold inr; omega) (fun c47 => ?_) (fun c47 => ?_)
              · refine lv_aload_n B.1 B.2.1 dX12_isRead_92 rfl (lv_at hl 1 rfl) ?_
                refine m_geta (k := 65) B hM (by decide) rfl fl266 dX12_isRead_93 ?_
                refine lv_iload B.1 B.2.1 dX12_isRead_96 (lv_at hl 0 rfl) ?_
                refine m_ild (k := 65) (i := 45) (n := 12960) (z := (40 * (200 + ((v2_3)))) + v13_4) (v := (A 65) ((40 * (200 + ((v2_3)))) + v13_4).toNat) B hM rfl rfl rfl (by decide) dX12_isRead_98 (by omega) (by omega) rfl ?_
                refine q_bip B dX12_isRead_99 (by decide) ?_
                refine q_ceq (tgt := 107) B dX12_isRead_101 (by decide) (by unfold inr; omega) (by unfold inr; omega) (fun c48 => ?_) (fun c48 => ?_)
                · refine lv_aload_n B.1 B.2.1 dX12_isRead_107 rfl (lv_at hl 1 rfl) ?_
                  refine lv_iload_n B.1 B.2.1 dX12_isRead_108 rfl (lv_at hl 2 rfl) ?_
                  refine lv_iload_n B.1 B.2.1 dX12_isRead_109 rfl (lv_at hl 5 rfl) ?_
                  have hv49 : ((-2147483648 : Int) ≤ a_p ∧ (a_p : Int) ≤ 2147483647) ∧ ((-2147483648 : Int) ≤ (v2_3) ∧ ((v2_3) : Int) ≤ 2147483647) ∧ (0 ≤ (a_p)) ∧ ((a_p) < 200) ∧ ((0 < (f 60) → (A 34) (16 * (f 3)).toNat < 0)) ∧ (0 < (f 60)) := by first | omega | (simp only [wr_at] <;> omega) | exact ⟨by first | omega | (simp only [wr_at] <;> omega) | assumption | (intro _; exact wr_at _ _ _), by first | omega | (simp only [wr_at] <;> omega) | assumption | (intro _; exact wr_at _ _ _), by first | omega | (simp only [wr_at] <;> omega) | assumption | (intro _; exact wr_at _ _ _), by first | omega | (simp only [wr_at] <;> omega) | assumption | (intro _; exact wr_at _ _ _), by first | omega | (simp only [wr_at] <;> omega) | assumption | (intro _; exact wr_at _ _ _), by first | omega | (simp only [wr_at] <;> omega) | assumption | (intro _; exact wr_at _ _ _)⟩
                  refine m_calli (n := 2) (rest := []) B hM hA hl.1 (k_isOf l D dA h0 ad f g A L a_p ((v2_3)) hv49.1 hv49.2.1 hv49.2.2.1 hv49.2.2.2.1 (show KU (A 34) from by first | assumption | exact KU_wr (by assumption) (by assumption) (by omega) (by omega)) hv49.2.2.2.2.1 hv49.2.2.2.2.2) rfl ok_isOf nm_isOf ⟨rfl, rfl⟩ ⟨Nat.le_of_ble_eq_true rfl, Nat.le_of_ble_eq_true rfl⟩ dX12_isRead_110 rfl rfl (Nat.le_of_ble_eq_true rfl) ⟨Nat.zero_le _, Nat.zero_le _⟩ (fun r50 σr50 H locs ir50 hp51 hM => ?_)
                  obtain ⟨rfl, hp51⟩ := hp51
                  unfold inr at ir50
                  replace hp51 : 0 ≤ r50 ∧ r50 ≤ 1 := hp51
                  obtain ⟨hp51_0, hp51_1⟩ := hp51
                  refine q_ieq (tgt := 133) B dX12_isRead_113 (by decide) (by unfold inr; omega) (fun c52 => ?_) (fun c52 => ?_)
                  · have hag : AG (A 72) (4 * ((40 * (200 + ((v2_3)))) + v13_4)) 3 := hk4.elim (fun z => absurd z.1 (by omega)) (fun z => z.2)
                    have hg0 := hag 0 (by omega) (by omega)
                    rw [show 4 * ((40 * (200 + ((v2_3)))) + v13_4) + 0 = 4 * ((40 * (200 + ((v2_3)))) + v13_4) from by omega] at hg0
                    refine lv_aload_n B.1 B.2.1 dX12_isRead_133 rfl (lv_at hl 1 rfl) ?_
                    refine lv_iload_n B.1 B.2.1 dX12_isRead_134 rfl (lv_at hl 2 rfl) ?_
                    refine lv_aload_n B.1 B.2.1 dX12_isRead_135 rfl (lv_at hl 1 rfl) ?_
                    refine lv_iload_n B.1 B.2.1 dX12_isRead_136 rfl (lv_at hl 5 rfl) ?_
                    refine lv_aload_n B.1 B.2.1 dX12_isRead_137 rfl (lv_at hl 1 rfl) ?_
                    refine m_geta (k := 72) B hM (by decide) rfl fl288 dX12_isRead_138 ?_
                    refine q_con B dX12_isRead_141 ?_
                    refine lv_iload B.1 B.2.1 dX12_isRead_142 (lv_at hl 0 rfl) ?_
                    refine q_mul B dX12_isRead_144 ?_
                    refine m_ild (k := 72) (i := 52) (n := 51840) (z := 4 * ((40 * (200 + ((v2_3)))) + v13_4)) (v := (A 72) (4 * ((40 * (200 + ((v2_3)))) + v13_4)).toNat) B hM rfl rfl rfl (by decide) dX12_isRead_145 (by omega) (by omega) rfl ?_
                    have r53 : (-2147483648 : Int) ≤ (A 72) (4 * ((40 * (200 + ((v2_3)))) + v13_4)).toNat ∧ (A 72) (4 * ((40 * (200 + ((v2_3)))) + v13_4)).toNat ≤ 2147483647 := hM.2.2.2.2 72 (4 * ((40 * (200 + ((v2_3)))) + v13_4)).toNat
                    have hv54 : ((-2147483648 : Int) ≤ (v2_3) ∧ ((v2_3) : Int) ≤ 2147483647) ∧ ((-2147483648 : Int) ≤ (A 72) (4 * ((40 * (200 + ((v2_3)))) + v13_4)).toNat ∧ ((A 72) (4 * ((40 * (200 + ((v2_3)))) + v13_4)).toNat : Int) ≤ 2147483647) ∧ (0 ≤ ((v2_3))) ∧ (((v2_3)) ≤ 15) ∧ (0 ≤ ((A 72) (4 * ((40 * (200 + ((v2_3)))) + v13_4)).toNat)) ∧ (((A 72) (4 * ((40 * (200 + ((v2_3)))) + v13_4)).toNat) ≤ 11) := by first | omega | (simp only [wr_at] <;> omega) | exact ⟨by first | omega | (simp only [wr_at] <;> omega) | assumption | (intro _; exact wr_at _ _ _), by first | omega | (simp only [wr_at] <;> omega) | assumption | (intro _; exact wr_at _ _ _), by first | omega | (simp only [wr_at] <;> omega) | assumption | (intro _; exact wr_at _ _ _), by first | omega | (simp only [wr_at] <;> omega) | assumption | (intro _; exact wr_at _ _ _), by first | omega | (simp only [wr_at] <;> omega) | assumption | (intro _; exact wr_at _ _ _), by first | omega | (simp only [wr_at] <;> omega) | assumption | (intro _; exact wr_at _ _ _)⟩
                    refine m_calli (n := 2) (rest := [.int (II a_p), .ref h0]) B hM hA hl.1 (k_kindIn l D dA h0 ad f g A L ((v2_3)) ((A 72) (4 * ((40 * (200 + ((v2_3)))) + v13_4)).toNat) hv54.1 hv54.2.1 hv54.2.2.1 hv54.2.2.2.1 hv54.2.2.2.2.1 hv54.2.2.2.2.2) rfl ok_kindIn nm_kindIn ⟨rfl, rfl⟩ ⟨Nat.le_of_ble_eq_true rfl, Nat.le_of_ble_eq_true rfl⟩ dX12_isRead_146 rfl rfl (Nat.le_of_ble_eq_true rfl) ⟨Nat.zero_le _, Nat.zero_le _⟩ (fun r55 σr55 H locs ir55 hp56 hM => ?_)
                    obtain ⟨rfl, hp56⟩ := hp56
                    unfold inr at ir55
                    replace hp56 : r55 = (A 43) ((A 38) (12 * (16 * (f 3) + ((v2_3))) + ((A 72) (4 * ((40 * (200 + ((v2_3)))) + v13_4)).toNat)).toNat).toNat ∧ -1 ≤ r55 ∧ r55 ≤ 15 := hp56
                    obtain ⟨hp56_0, hp56_1, hp56_2⟩ := hp56
                    have hv57 : ((-2147483648 : Int) ≤ a_p ∧ (a_p : Int) ≤ 2147483647) ∧ ((-2147483648 : Int) ≤ r55 ∧ (r55 : Int) ≤ 2147483647) ∧ (0 ≤ (a_p)) ∧ ((a_p) < 200) ∧ ((0 < (f 60) → (A 34) (16 * (f 3)).toNat < 0)) ∧ (0 < (f 60)) := by first | omega | (simp only [wr_at] <;> omega) | exact ⟨by first | omega | (simp only [wr_at] <;> omega) | assumption | (intro _; exact wr_at _ _ _), by first | omega | (simp only [wr_at] <;> omega) | assumption | (intro _; exact wr_at _ _ _), by first | omega | (simp only [wr_at] <;> omega) | assumption | (intro _; exact wr_at _ _ _), by first | omega | (simp only [wr_at] <;> omega) | assumption | (intro _; exact wr_at _ _ _), by first | omega | (simp only [wr_at] <;> omega) | assumption | (intro _; exact wr_at _ _ _), by first | omega | (simp only [wr_at] <;> omega) | assumption | (intro _; exact wr_at _ _ _)⟩
                    refine m_calli (n := 2) (rest := []) B hM hA hl.1 (k_isOf l D dA h0 ad f g A L a_p r55 hv57.1 hv57.2.1 hv57.2.2.1 hv57.2.2.2.1 (show KU (A 34) from by first | assumption | exact KU_wr (by assumption) (by assumption) (by omega) (by omega)) hv57.2.2.2.2.1 hv57.2.2.2.2.2) rfl ok_isOf nm_isOf ⟨rfl, rfl⟩ ⟨Nat.le_of_ble_eq_true rfl, Nat.le_of_ble_eq_true rfl⟩ dX12_isRead_149 rfl rfl (Nat.le_of_ble_eq_true rfl) ⟨Nat.zero_le _, Nat.zero_le _⟩ (fun r58 σr58 H locs ir58 hp59 hM => ?_)
                    obtain ⟨rfl, hp59⟩ := hp59
                    unfold inr at ir58
                    replace hp59 : 0 ≤ r58 ∧ r58 ≤ 1 := hp59
                    obtain ⟨hp59_0, hp59_1⟩ := hp59
                    refine q_ieq (tgt := 172) B dX12_isRead_152 (by decide) (by unfold inr; omega) (fun c60 => ?_) (fun c60 => ?_)
                    · refine q_inc (k := 4) (x := v13_4) (lv' := [(4, .int (II (v13_4 + 1))), (5, .int (II ((40 * (200 + ((v2_3)))) + v13_4))), (0, .ref h0), (1, .int (II a_p)), (2, .int (II a_m)), (3, .int (II ((v2_3))))]) B dX12_isRead_172 hl rfl (by decide) rfl (fun ls hl => ?_)
                      refine lv_goto (tgt := 13) B.1 B.2.1 dX12_isRead_175 (by decide) ?_
                      have hv61 : ((-2147483648 : Int) ≤ v13_4 + 1 ∧ (v13_4 + 1 : Int) ≤ 2147483647) ∧ (0 ≤ (v2_3)) ∧ ((v2_3) < (f 60)) ∧ (0 ≤ (v13_4 + 1)) ∧ ((v13_4 + 1) ≤ 40) ∧ (0 ≤ 40 - (v13_4 + 1)) := by first | omega | (simp only [wr_at] <;> omega) | exact ⟨by first | omega | (simp only [wr_at] <;> omega) | assumption | (intro _; exact wr_at _ _ _), by first | omega | (simp only [wr_at] <;> omega) | assumption | (intro _; exact wr_at _ _ _), by first | omega | (simp only [wr_at] <;> omega) | assumption | (intro _; exact wr_at _ _ _), by first | omega | (simp only [wr_at] <;> omega) | assumption | (intro _; exact wr_at _ _ _), by first | omega | (simp only [wr_at] <;> omega) | assumption | (intro _; exact wr_at _ _ _), by first | omega | (simp only [wr_at] <;> omega) | assumption | (intro _; exact wr_at _ _ _)⟩
                      exact IH13 (v13_4 + 1) _ _ ls hM (lv_sub hl [2, 3, 4, 0, 5] rfl) hv61.1 hv61.2.1 hv61.2.2.1 hv61.2.2.2.1 hv61.2.2.2.2.1 hv61.2.2.2.2.2 (by first | omega | (simp only [wr_at] <;> omega) | assumption | (intro _; exact wr_at _ _ _))
                    · refine lv_aload_n B.1 B.2.1 dX12_isRead_155 rfl (lv_at hl 1 rfl) ?_
                      refine m_geta (k := 72) B hM (by decide) rfl fl288 dX12_isRead_156 ?_
                      refine q_con B dX12_isRead_159 ?_
                      refine lv_iload B.1 B.2.1 dX12_isRead_160 (lv_at hl 0 rfl) ?_
                      refine q_mul B dX12_isRead_162 ?_
                      refine q_con B dX12_isRead_163 ?_
                      refine q_add B dX12_isRead_164 ?_
                      refine m_ild (k := 72) (i := 52) (n := 51840) (z := (4 * ((40 * (200 + ((v2_3)))) + v13_4)) + 1) (v := (A 72) ((4 * ((40 * (200 + ((v2_3)))) + v13_4)) + 1).toNat) B hM rfl rfl rfl (by decide) dX12_isRead_165 (by omega) (by omega) rfl ?_
                      have r62 : (-2147483648 : Int) ≤ (A 72) ((4 * ((40 * (200 + ((v2_3)))) + v13_4)) + 1).toNat ∧ (A 72) ((4 * ((40 * (200 + ((v2_3)))) + v13_4)) + 1).toNat ≤ 2147483647 := hM.2.2.2.2 72 ((4 * ((40 * (200 + ((v2_3)))) + v13_4)) + 1).toNat
                      refine lv_iload_n B.1 B.2.1 dX12_isRead_166 rfl (lv_at hl 3 rfl) ?_
                      refine q_cne (tgt := 172) B dX12_isRead_167 (by decide) (by unfold inr; omega) (by unfold inr; omega) (fun c63 => ?_) (fun c63 => ?_)
                      · refine q_inc (k := 4) (x := v13_4) (lv' := [(4, .int (II (v13_4 + 1))), (5, .int (II ((40 * (200 + ((v2_3)))) + v13_4))), (0, .ref h0), (1, .int (II a_p)), (2, .int (II a_m)), (3, .int (II ((v2_3))))]) B dX12_isRead_172 hl rfl (by decide) rfl (fun ls hl => ?_)
                        refine lv_goto (tgt := 13) B.1 B.2.1 dX12_isRead_175 (by decide) ?_
                        have hv64 : ((-2147483648 : Int) ≤ v13_4 + 1 ∧ (v13_4 + 1 : Int) ≤ 2147483647) ∧ (0 ≤ (v2_3)) ∧ ((v2_3) < (f 60)) ∧ (0 ≤ (v13_4 + 1)) ∧ ((v13_4 + 1) ≤ 40) ∧ (0 ≤ 40 - (v13_4 + 1)) := by first | omega | (simp only [wr_at] <;> omega) | exact ⟨by first | omega | (simp only [wr_at] <;> omega) | assumption | (intro _; exact wr_at _ _ _), by first | omega | (simp only [wr_at] <;> omega) | assumption | (intro _; exact wr_at _ _ _), by first | omega | (simp only [wr_at] <;> omega) | assumption | (intro _; exact wr_at _ _ _), by first | omega | (simp only [wr_at] <;> omega) | assumption | (intro _; exact wr_at _ _ _), by first | omega | (simp only [wr_at] <;> omega) | assumption | (intro _; exact wr_at _ _ _), by first | omega | (simp only [wr_at] <;> omega) | assumption | (intro _; exact wr_at _ _ _)⟩
                        exact IH13 (v13_4 + 1) _ _ ls hM (lv_sub hl [2, 3, 4, 0, 5] rfl) hv64.1 hv64.2.1 hv64.2.2.1 hv64.2.2.2.1 hv64.2.2.2.2.1 hv64.2.2.2.2.2 (by first | omega | (simp only [wr_at] <;> omega) | assumption | (intro _; exact wr_at _ _ _))
                      · refine q_con B dX12_isRead_170 ?_
                        subst hPST
                        have hv65 : (0 ≤ (1 : Int)) ∧ ((1 : Int) ≤ 1) := by first | omega | (simp only [wr_at] <;> omega) | exact ⟨by first | omega | (simp only [wr_at] <;> omega) | assumption | (intro _; exact wr_at _ _ _), by first | omega | (simp only [wr_at] <;> omega) | assumption | (intro _; exact wr_at _ _ _)⟩
                        exact m_zret B hM dX12_isRead_171 (by omega) ⟨rfl, hv65.1, hv65.2⟩
                  · refine lv_aload_n B.1 B.2.1 dX12_isRead_116 rfl (lv_at hl 1 rfl) ?_
                    refine m_geta (k := 72) B hM (by decide) rfl fl288 dX12_isRead_117 ?_
                    refine q_con B dX12_isRead_120 ?_
                    refine lv_iload B.1 B.2.1 dX12_isRead_121 (lv_at hl 0 rfl) ?_
                    refine q_mul B dX12_isRead_123 ?_
                    refine q_con B dX12_isRead_124 ?_
                    refine q_add B dX12_isRead_125 ?_
                    refine m_ild (k := 72) (i := 52) (n := 51840) (z := (4 * ((40 * (200 + ((v2_3)))) + v13_4)) + 2) (v := (A 72) ((4 * ((40 * (200 + ((v2_3)))) + v13_4)) + 2).toNat) B hM rfl rfl rfl (by decide) dX12_isRead_126 (by omega) (by omega) rfl ?_
                    have r66 : (-2147483648 : Int) ≤ (A 72) ((4 * ((40 * (200 + ((v2_3)))) + v13_4)) + 2).toNat ∧ (A 72) ((4 * ((40 * (200 + ((v2_3)))) + v13_4)) + 2).toNat ≤ 2147483647 := hM.2.2.2.2 72 ((4 * ((40 * (200 + ((v2_3)))) + v13_4)) + 2).toNat
                    refine lv_iload_n B.1 B.2.1 dX12_isRead_127 rfl (lv_at hl 3 rfl) ?_
                    refine q_cne (tgt := 133) B dX12_isRead_128 (by decide) (by unfold inr; omega) (by unfold inr; omega) (fun c67 => ?_) (fun c67 => ?_)
                    · have hag : AG (A 72) (4 * ((40 * (200 + ((v2_3)))) + v13_4)) 3 := hk4.elim (fun z => absurd z.1 (by omega)) (fun z => z.2)
                      have hg0 := hag 0 (by omega) (by omega)
                      rw [show 4 * ((40 * (200 + ((v2_3)))) + v13_4) + 0 = 4 * ((40 * (200 + ((v2_3)))) + v13_4) from by omega] at hg0
                      refine lv_aload_n B.1 B.2.1 dX12_isRead_133 rfl (lv_at hl 1 rfl) ?_
                      refine lv_iload_n B.1 B.2.1 dX12_isRead_134 rfl (lv_at hl 2 rfl) ?_
                      refine lv_aload_n B.1 B.2.1 dX12_isRead_135 rfl (lv_at hl 1 rfl) ?_
                      refine lv_iload_n B.1 B.2.1 dX12_isRead_136 rfl (lv_at hl 5 rfl) ?_
                      refine lv_aload_n B.1 B.2.1 dX12_isRead_137 rfl (lv_at hl 1 rfl) ?_
                      refine m_geta (k := 72) B hM (by decide) rfl fl288 dX12_isRead_138 ?_
                      refine q_con B dX12_isRead_141 ?_
                      refine lv_iload B.1 B.2.1 dX12_isRead_142 (lv_at hl 0 rfl) ?_
                      refine q_mul B dX12_isRead_144 ?_
                      refine m_ild (k := 72) (i := 52) (n := 51840) (z := 4 * ((40 * (200 + ((v2_3)))) + v13_4)) (v := (A 72) (4 * ((40 * (200 + ((v2_3)))) + v13_4)).toNat) B hM rfl rfl rfl (by decide) dX12_isRead_145 (by omega) (by omega) rfl ?_
                      have r68 : (-2147483648 : Int) ≤ (A 72) (4 * ((40 * (200 + ((v2_3)))) + v13_4)).toNat ∧ (A 72) (4 * ((40 * (200 + ((v2_3)))) + v13_4)).toNat ≤ 2147483647 := hM.2.2.2.2 72 (4 * ((40 * (200 + ((v2_3)))) + v13_4)).toNat
                      have hv69 : ((-2147483648 : Int) ≤ (v2_3) ∧ ((v2_3) : Int) ≤ 2147483647) ∧ ((-2147483648 : Int) ≤ (A 72) (4 * ((40 * (200 + ((v2_3)))) + v13_4)).toNat ∧ ((A 72) (4 * ((40 * (200 + ((v2_3)))) + v13_4)).toNat : Int) ≤ 2147483647) ∧ (0 ≤ ((v2_3))) ∧ (((v2_3)) ≤ 15) ∧ (0 ≤ ((A 72) (4 * ((40 * (200 + ((v2_3)))) + v13_4)).toNat)) ∧ (((A 72) (4 * ((40 * (200 + ((v2_3)))) + v13_4)).toNat) ≤ 11) := by first | omega | (simp only [wr_at] <;> omega) | exact ⟨by first | omega | (simp only [wr_at] <;> omega) | assumption | (intro _; exact wr_at _ _ _), by first | omega | (simp only [wr_at] <;> omega) | assumption | (intro _; exact wr_at _ _ _), by first | omega | (simp only [wr_at] <;> omega) | assumption | (intro _; exact wr_at _ _ _), by first | omega | (simp only [wr_at] <;> omega) | assumption | (intro _; exact wr_at _ _ _), by first | omega | (simp only [wr_at] <;> omega) | assumption | (intro _; exact wr_at _ _ _), by first | omega | (simp only [wr_at] <;> omega) | assumption | (intro _; exact wr_at _ _ _)⟩
                      refine m_calli (n := 2) (rest := [.int (II a_p), .ref h0]) B hM hA hl.1 (k_kindIn l D dA h0 ad f g A L ((v2_3)) ((A 72) (4 * ((40 * (200 + ((v2_3)))) + v13_4)).toNat) hv69.1 hv69.2.1 hv69.2.2.1 hv69.2.2.2.1 hv69.2.2.2.2.1 hv69.2.2.2.2.2) rfl ok_kindIn nm_kindIn ⟨rfl, rfl⟩ ⟨Nat.le_of_ble_eq_true rfl, Nat.le_of_ble_eq_true rfl⟩ dX12_isRead_146 rfl rfl (Nat.le_of_ble_eq_true rfl) ⟨Nat.zero_le _, Nat.zero_le _⟩ (fun r70 σr70 H locs ir70 hp71 hM => ?_)
                      obtain ⟨rfl, hp71⟩ := hp71
                      unfold inr at ir70
                      replace hp71 : r70 = (A 43) ((A 38) (12 * (16 * (f 3) + ((v2_3))) + ((A 72) (4 * ((40 * (200 + ((v2_3)))) + v13_4)).toNat)).toNat).toNat ∧ -1 ≤ r70 ∧ r70 ≤ 15 := hp71
                      obtain ⟨hp71_0, hp71_1, hp71_2⟩ := hp71
                      have hv72 : ((-2147483648 : Int) ≤ a_p ∧ (a_p : Int) ≤ 2147483647) ∧ ((-2147483648 : Int) ≤ r70 ∧ (r70 : Int) ≤ 2147483647) ∧ (0 ≤ (a_p)) ∧ ((a_p) < 200) ∧ ((0 < (f 60) → (A 34) (16 * (f 3)).toNat < 0)) ∧ (0 < (f 60)) := by first | omega | (simp only [wr_at] <;> omega) | exact ⟨by first | omega | (simp only [wr_at] <;> omega) | assumption | (intro _; exact wr_at _ _ _), by first | omega | (simp only [wr_at] <;> omega) | assumption | (intro _; exact wr_at _ _ _), by first | omega | (simp only [wr_at] <;> omega) | assumption | (intro _; exact wr_at _ _ _), by first | omega | (simp only [wr_at] <;> omega) | assumption | (intro _; exact wr_at _ _ _), by first | omega | (simp only [wr_at] <;> omega) | assumption | (intro _; exact wr_at _ _ _), by first | omega | (simp only [wr_at] <;> omega) | assumption | (intro _; exact wr_at _ _ _)⟩
                      refine m_calli (n := 2) (rest := []) B hM hA hl.1 (k_isOf l D dA h0 ad f g A L a_p r70 hv72.1 hv72.2.1 hv72.2.2.1 hv72.2.2.2.1 (show KU (A 34) from by first | assumption | exact KU_wr (by assumption) (by assumption) (by omega) (by omega)) hv72.2.2.2.2.1 hv72.2.2.2.2.2) rfl ok_isOf nm_isOf ⟨rfl, rfl⟩ ⟨Nat.le_of_ble_eq_true rfl, Nat.le_of_ble_eq_true rfl⟩ dX12_isRead_149 rfl rfl (Nat.le_of_ble_eq_true rfl) ⟨Nat.zero_le _, Nat.zero_le _⟩ (fun r73 σr73 H locs ir73 hp74 hM => ?_)
                      obtain ⟨rfl, hp74⟩ := hp74
                      unfold inr at ir73
                      replace hp74 : 0 ≤ r73 ∧ r73 ≤ 1 := hp74
                      obtain ⟨hp74_0, hp74_1⟩ := hp74
                      refine q_ieq (tgt := 172) B dX12_isRead_152 (by decide) (by unfold inr; omega) (fun c75 => ?_) (fun c75 => ?_)
                      · refine q_inc (k := 4) (x := v13_4) (lv' := [(4, .int (II (v13_4 + 1))), (5, .int (II ((40 * (200 + ((v2_3)))) + v13_4))), (0, .ref h0), (1, .int (II a_p)), (2, .int (II a_m)), (3, .int (II ((v2_3))))]) B dX12_isRead_172 hl rfl (by decide) rfl (fun ls hl => ?_)
                        refine lv_goto (tgt := 13) B.1 B.2.1 dX12_isRead_175 (by decide) ?_
                        have hv76 : ((-2147483648 : Int) ≤ v13_4 + 1 ∧ (v13_4 + 1 : Int) ≤ 2147483647) ∧ (0 ≤ (v2_3)) ∧ ((v2_3) < (f 60)) ∧ (0 ≤ (v13_4 + 1)) ∧ ((v13_4 + 1) ≤ 40) ∧ (0 ≤ 40 - (v13_4 + 1)) := by first | omega | (simp only [wr_at] <;> omega) | exact ⟨by first | omega | (simp only [wr_at] <;> omega) | assumption | (intro _; exact wr_at _ _ _), by first | omega | (simp only [wr_at] <;> omega) | assumption | (intro _; exact wr_at _ _ _), by first | omega | (simp only [wr_at] <;> omega) | assumption | (intro _; exact wr_at _ _ _), by first | omega | (simp only [wr_at] <;> omega) | assumption | (intro _; exact wr_at _ _ _), by first | omega | (simp only [wr_at] <;> omega) | assumption | (intro _; exact wr_at _ _ _), by first | omega | (simp only [wr_at] <;> omega) | assumption | (intro _; exact wr_at _ _ _)⟩
                        exact IH13 (v13_4 + 1) _ _ ls hM (lv_sub hl [2, 3, 4, 0, 5] rfl) hv76.1 hv76.2.1 hv76.2.2.1 hv76.2.2.2.1 hv76.2.2.2.2.1 hv76.2.2.2.2.2 (by first | omega | (simp only [wr_at] <;> omega) | assumption | (intro _; exact wr_at _ _ _))
                      · refine lv_aload_n B.1 B.2.1 dX12_isRead_155 rfl (lv_at hl 1 rfl) ?_
                        refine m_geta (k := 72) B hM (by decide) rfl fl288 dX12_isRead_156 ?_
                        refine q_con B dX12_isRead_159 ?_
                        refine lv_iload B.1 B.2.1 dX12_isRead_160 (lv_at hl 0 rfl) ?_
                        refine q_mul B dX12_isRead_162 ?_
                        refine q_con B dX12_isRead_163 ?_
                        refine q_add B dX12_isRead_164 ?_
                        refine m_ild (k := 72) (i := 52) (n := 51840) (z := (4 * ((40 * (200 + ((v2_3)))) + v13_4)) + 1) (v := (A 72) ((4 * ((40 * (200 + ((v2_3)))) + v13_4)) + 1).toNat) B hM rfl rfl rfl (by decide) dX12_isRead_165 (by omega) (by omega) rfl ?_
                        have r77 : (-2147483648 : Int) ≤ (A 72) ((4 * ((40 * (200 + ((v2_3)))) + v13_4)) + 1).toNat ∧ (A 72) ((4 * ((40 * (200 + ((v2_3)))) + v13_4)) + 1).toNat ≤ 2147483647 := hM.2.2.2.2 72 ((4 * ((40 * (200 + ((v2_3)))) + v13_4)) + 1).toNat
                        refine lv_iload_n B.1 B.2.1 dX12_isRead_166 rfl (lv_at hl 3 rfl) ?_
                        refine q_cne (tgt := 172) B dX12_isRead_167 (by decide) (by unfold inr; omega) (by unfold inr; omega) (fun c78 => ?_) (fun c78 => ?_)
                        · refine q_inc (k := 4) (x := v13_4) (lv' := [(4, .int (II (v13_4 + 1))), (5, .int (II ((40 * (200 + ((v2_3)))) + v13_4))), (0, .ref h0), (1, .int (II a_p)), (2, .int (II a_m)), (3, .int (II ((v2_3))))]) B dX12_isRead_172 hl rfl (by decide) rfl (fun ls hl => ?_)
                          refine lv_goto (tgt := 13) B.1 B.2.1 dX12_isRead_175 (by decide) ?_
                          have hv79 : ((-2147483648 : Int) ≤ v13_4 + 1 ∧ (v13_4 + 1 : Int) ≤ 2147483647) ∧ (0 ≤ (v2_3)) ∧ ((v2_3) < (f 60)) ∧ (0 ≤ (v13_4 + 1)) ∧ ((v13_4 + 1) ≤ 40) ∧ (0 ≤ 40 - (v13_4 + 1)) := by first | omega | (simp only [wr_at] <;> omega) | exact ⟨by first | omega | (simp only [wr_at] <;> omega) | assumption | (intro _; exact wr_at _ _ _), by first | omega | (simp only [wr_at] <;> omega) | assumption | (intro _; exact wr_at _ _ _), by first | omega | (simp only [wr_at] <;> omega) | assumption | (intro _; exact wr_at _ _ _), by first | omega | (simp only [wr_at] <;> omega) | assumption | (intro _; exact wr_at _ _ _), by first | omega | (simp only [wr_at] <;> omega) | assumption | (intro _; exact wr_at _ _ _), by first | omega | (simp only [wr_at] <;> omega) | assumption | (intro _; exact wr_at _ _ _)⟩
                          exact IH13 (v13_4 + 1) _ _ ls hM (lv_sub hl [2, 3, 4, 0, 5] rfl) hv79.1 hv79.2.1 hv79.2.2.1 hv79.2.2.2.1 hv79.2.2.2.2.1 hv79.2.2.2.2.2 (by first | omega | (simp only [wr_at] <;> omega) | assumption | (intro _; exact wr_at _ _ _))
                        · refine q_con B dX12_isRead_170 ?_
                          subst hPST
                          have hv80 : (0 ≤ (1 : Int)) ∧ ((1 : Int) ≤ 1) := by first | omega | (simp only [wr_at] <;> omega) | exact ⟨by first | omega | (simp only [wr_at] <;> omega) | assumption | (intro _; exact wr_at _ _ _), by first | omega | (simp only [wr_at] <;> omega) | assumption | (intro _; exact wr_at _ _ _)⟩
                          exact m_zret B hM dX12_isRead_171 (by omega) ⟨rfl, hv80.1, hv80.2⟩
                    · refine q_con B dX12_isRead_131 ?_
                      subst hPST
                      have hv81 : (0 ≤ (1 : Int)) ∧ ((1 : Int) ≤ 1) := by first | omega | (simp only [wr_at] <;> omega) | exact ⟨by first | omega | (simp only [wr_at] <;> omega) | assumption | (intro _; exact wr_at _ _ _), by first | omega | (simp only [wr_at] <;> omega) | assumption | (intro _; exact wr_at _ _ _)⟩
                      exact m_zret B hM dX12_isRead_132 (by omega) ⟨rfl, hv81.1, hv81.2⟩
                · refine lv_goto (tgt := 172) B.1 B.2.1 dX12_isRead_104 (by decide) ?_
                  refine q_inc (k := 4) (x := v13_4) (lv' := [(4, .int (II (v13_4 + 1))), (5, .int (II ((40 * (200 + ((v2_3)))) + v13_4))), (0, .ref h0), (1, .int (II a_p)), (2, .int (II a_m)), (3, .int (II ((v2_3))))]) B dX12_isRead_172 hl rfl (by decide) rfl (fun ls hl => ?_)
                  refine lv_goto (tgt := 13) B.1 B.2.1 dX12_isRead_175 (by decide) ?_
                  have hv82 : ((-2147483648 : Int) ≤ v13_4 + 1 ∧ (v13_4 + 1 : Int) ≤ 2147483647) ∧ (0 ≤ (v2_3)) ∧ ((v2_3) < (f 60)) ∧ (0 ≤ (v13_4 + 1)) ∧ ((v13_4 + 1) ≤ 40) ∧ (0 ≤ 40 - (v13_4 + 1)) := by first | omega | (simp only [wr_at] <;> omega) | exact ⟨by first | omega | (simp only [wr_at] <;> omega) | assumption | (intro _; exact wr_at _ _ _), by first | omega | (simp only [wr_at] <;> omega) | assumption | (intro _; exact wr_at _ _ _), by first | omega | (simp only [wr_at] <;> omega) | assumption | (intro _; exact wr_at _ _ _), by first | omega | (simp only [wr_at] <;> omega) | assumption | (intro _; exact wr_at _ _ _), by first | omega | (simp only [wr_at] <;> omega) | assumption | (intro _; exact wr_at _ _ _), by first | omega | (simp only [wr_at] <;> omega) | assumption | (intro _; exact wr_at _ _ _)⟩
                  exact IH13 (v13_4 + 1) _ _ ls hM (lv_sub hl [2, 3, 4, 0, 5] rfl) hv82.1 hv82.2.1 hv82.2.2.1 hv82.2.2.2.1 hv82.2.2.2.2.1 hv82.2.2.2.2.2 (by first | omega | (simp only [wr_at] <;> omega) | assumption | (intro _; exact wr_at _ _ _))
              · refine lv_aload_n B.1 B.2.1 dX12_isRead_62 rfl (lv_at hl 1 rfl) ?_
                refine m_geta (k := 72) B hM (by decide) rfl fl288 dX12_isRead_63 ?_
                refine q_con B dX12_isRead_66 ?_
                refine lv_iload B.1 B.2.1 dX12_isRead_67 (lv_at hl 0 rfl) ?_
                refine q_mul B dX12_isRead_69 ?_
                refine m_ild (k := 72) (i := 52) (n := 51840) (z := 4 * ((40 * (200 + ((v2_3)))) + v13_4)) (v := (A 72) (4 * ((40 * (200 + ((v2_3)))) + v13_4)).toNat) B hM rfl rfl rfl (by decide) dX12_isRead_70 (by omega) (by omega) rfl ?_
                have r83 : (-2147483648 : Int) ≤ (A 72) (4 * ((40 * (200 + ((v2_3)))) + v13_4)).toNat ∧ (A 72) (4 * ((40 * (200 + ((v2_3)))) + v13_4)).toNat ≤ 2147483647 := hM.2.2.2.2 72 (4 * ((40 * (200 + ((v2_3)))) + v13_4)).toNat
                refine lv_iload_n B.1 B.2.1 dX12_isRead_71 rfl (lv_at hl 3 rfl) ?_
                refine q_ceq (tgt := 90) B dX12_isRead_72 (by decide) (by unfold inr; omega) (by unfold inr; omega) (fun c84 => ?_) (fun c84 => ?_)
                · refine q_con B dX12_isRead_90 ?_
                  subst hPST
                  have hv85 : (0 ≤ (1 : Int)) ∧ ((1 : Int) ≤ 1) := by first | omega | (simp only [wr_at] <;> omega) | exact ⟨by first | omega | (simp only [wr_at] <;> omega) | assumption | (intro _; exact wr_at _ _ _), by first | omega | (simp only [wr_at] <;> omega) | assumption | (intro _; exact wr_at _ _ _)⟩
                  exact m_zret B hM dX12_isRead_91 (by omega) ⟨rfl, hv85.1, hv85.2⟩
                · refine lv_aload_n B.1 B.2.1 dX12_isRead_75 rfl (lv_at hl 1 rfl) ?_
                  refine m_geta (k := 72) B hM (by decide) rfl fl288 dX12_isRead_76 ?_
                  refine q_con B dX12_isRead_79 ?_
                  refine lv_iload B.1 B.2.1 dX12_isRead_80 (lv_at hl 0 rfl) ?_
                  refine q_mul B dX12_isRead_82 ?_
                  refine q_con B dX12_isRead_83 ?_
                  refine q_add B dX12_isRead_84 ?_
                  refine m_ild (k := 72) (i := 52) (n := 51840) (z := (4 * ((40 * (200 + ((v2_3)))) + v13_4)) + 1) (v := (A 72) ((4 * ((40 * (200 + ((v2_3)))) + v13_4)) + 1).toNat) B hM rfl rfl rfl (by decide) dX12_isRead_85 (by omega) (by omega) rfl ?_
                  have r86 : (-2147483648 : Int) ≤ (A 72) ((4 * ((40 * (200 + ((v2_3)))) + v13_4)) + 1).toNat ∧ (A 72) ((4 * ((40 * (200 + ((v2_3)))) + v13_4)) + 1).toNat ≤ 2147483647 := hM.2.2.2.2 72 ((4 * ((40 * (200 + ((v2_3)))) + v13_4)) + 1).toNat
                  refine lv_iload_n B.1 B.2.1 dX12_isRead_86 rfl (lv_at hl 3 rfl) ?_
                  refine q_cne (tgt := 92) B dX12_isRead_87 (by decide) (by unfold inr; omega) (by unfold inr; omega) (fun c87 => ?_) (fun c87 => ?_)
                  · refine lv_aload_n B.1 B.2.1 dX12_isRead_92 rfl (lv_at hl 1 rfl) ?_
                    refine m_geta (k := 65) B hM (by decide) rfl fl266 dX12_isRead_93 ?_
                    refine lv_iload B.1 B.2.1 dX12_isRead_96 (lv_at hl 0 rfl) ?_
                    refine m_ild (k := 65) (i := 45) (n := 12960) (z := (40 * (200 + ((v2_3)))) + v13_4) (v := (A 65) ((40 * (200 + ((v2_3)))) + v13_4).toNat) B hM rfl rfl rfl (by decide) dX12_isRead_98 (by omega) (by omega) rfl ?_
                    refine q_bip B dX12_isRead_99 (by decide) ?_
                    refine q_ceq (tgt := 107) B dX12_isRead_101 (by decide) (by unfold inr; omega) (by unfold inr; omega) (fun c88 => ?_) (fun c88 => ?_)
                    · refine lv_aload_n B.1 B.2.1 dX12_isRead_107 rfl (lv_at hl 1 rfl) ?_
                      refine lv_iload_n B.1 B.2.1 dX12_isRead_108 rfl (lv_at hl 2 rfl) ?_
                      refine lv_iload_n B.1 B.2.1 dX12_isRead_109 rfl (lv_at hl 5 rfl) ?_
                      have hv89 : ((-2147483648 : Int) ≤ a_p ∧ (a_p : Int) ≤ 2147483647) ∧ ((-2147483648 : Int) ≤ (v2_3) ∧ ((v2_3) : Int) ≤ 2147483647) ∧ (0 ≤ (a_p)) ∧ ((a_p) < 200) ∧ ((0 < (f 60) → (A 34) (16 * (f 3)).toNat < 0)) ∧ (0 < (f 60)) := by first | omega | (simp only [wr_at] <;> omega) | exact ⟨by first | omega | (simp only [wr_at] <;> omega) | assumption | (intro _; exact wr_at _ _ _), by first | omega | (simp only [wr_at] <;> omega) | assumption | (intro _; exact wr_at _ _ _), by first | omega | (simp only [wr_at] <;> omega) | assumption | (intro _; exact wr_at _ _ _), by first | omega | (simp only [wr_at] <;> omega) | assumption | (intro _; exact wr_at _ _ _), by first | omega | (simp only [wr_at] <;> omega) | assumption | (intro _; exact wr_at _ _ _), by first | omega | (simp only [wr_at] <;> omega) | assumption | (intro _; exact wr_at _ _ _)⟩
                      refine m_calli (n := 2) (rest := []) B hM hA hl.1 (k_isOf l D dA h0 ad f g A L a_p ((v2_3)) hv89.1 hv89.2.1 hv89.2.2.1 hv89.2.2.2.1 (show KU (A 34) from by first | assumption | exact KU_wr (by assumption) (by assumption) (by omega) (by omega)) hv89.2.2.2.2.1 hv89.2.2.2.2.2) rfl ok_isOf nm_isOf ⟨rfl, rfl⟩ ⟨Nat.le_of_ble_eq_true rfl, Nat.le_of_ble_eq_true rfl⟩ dX12_isRead_110 rfl rfl (Nat.le_of_ble_eq_true rfl) ⟨Nat.zero_le _, Nat.zero_le _⟩ (fun r90 σr90 H locs ir90 hp91 hM => ?_)
                      obtain ⟨rfl, hp91⟩ := hp91
                      unfold inr at ir90
                      replace hp91 : 0 ≤ r90 ∧ r90 ≤ 1 := hp91
                      obtain ⟨hp91_0, hp91_1⟩ := hp91
                      refine q_ieq (tgt := 133) B dX12_isRead_113 (by decide) (by unfold inr; omega) (fun c92 => ?_) (fun c92 => ?_)
                      · have hag : AG (A 72) (4 * ((40 * (200 + ((v2_3)))) + v13_4)) 3 := hk4.elim (fun z => absurd z.1 (by omega)) (fun z => z.2)
                        have hg0 := hag 0 (by omega) (by omega)
                        rw [show 4 * ((40 * (200 + ((v2_3)))) + v13_4) + 0 = 4 * ((40 * (200 + ((v2_3)))) + v13_4) from by omega] at hg0
                        refine lv_aload_n B.1 B.2.1 dX12_isRead_133 rfl (lv_at hl 1 rfl) ?_
                        refine lv_iload_n B.1 B.2.1 dX12_isRead_134 rfl (lv_at hl 2 rfl) ?_
                        refine lv_aload_n B.1 B.2.1 dX12_isRead_135 rfl (lv_at hl 1 rfl) ?_
                        refine lv_iload_n B.1 B.2.1 dX12_isRead_136 rfl (lv_at hl 5 rfl) ?_
                        refine lv_aload_n B.1 B.2.1 dX12_isRead_137 rfl (lv_at hl 1 rfl) ?_
                        refine m_geta (k := 72) B hM (by decide) rfl fl288 dX12_isRead_138 ?_
                        refine q_con B dX12_isRead_141 ?_
                        refine lv_iload B.1 B.2.1 dX12_isRead_142 (lv_at hl 0 rfl) ?_
                        refine q_mul B dX12_isRead_144 ?_
                        refine m_ild (k := 72) (i := 52) (n := 51840) (z := 4 * ((40 * (200 + ((v2_3)))) + v13_4)) (v := (A 72) (4 * ((40 * (200 + ((v2_3)))) + v13_4)).toNat) B hM rfl rfl rfl (by decide) dX12_isRead_145 (by omega) (by omega) rfl ?_
                        have hv93 : ((-2147483648 : Int) ≤ (v2_3) ∧ ((v2_3) : Int) ≤ 2147483647) ∧ ((-2147483648 : Int) ≤ (A 72) (4 * ((40 * (200 + ((v2_3)))) + v13_4)).toNat ∧ ((A 72) (4 * ((40 * (200 + ((v2_3)))) + v13_4)).toNat : Int) ≤ 2147483647) ∧ (0 ≤ ((v2_3))) ∧ (((v2_3)) ≤ 15) ∧ (0 ≤ ((A 72) (4 * ((40 * (200 + ((v2_3)))) + v13_4)).toNat)) ∧ (((A 72) (4 * ((40 * (200 + ((v2_3)))) + v13_4)).toNat) ≤ 11) := by first | omega | (simp only [wr_at] <;> omega) | exact ⟨by first | omega | (simp only [wr_at] <;> omega) | assumption | (intro _; exact wr_at _ _ _), by first | omega | (simp only [wr_at] <;> omega) | assumption | (intro _; exact wr_at _ _ _), by first | omega | (simp only [wr_at] <;> omega) | assumption | (intro _; exact wr_at _ _ _), by first | omega | (simp only [wr_at] <;> omega) | assumption | (intro _; exact wr_at _ _ _), by first | omega | (simp only [wr_at] <;> omega) | assumption | (intro _; exact wr_at _ _ _), by first | omega | (simp only [wr_at] <;> omega) | assumption | (intro _; exact wr_at _ _ _)⟩
                        refine m_calli (n := 2) (rest := [.int (II a_p), .ref h0]) B hM hA hl.1 (k_kindIn l D dA h0 ad f g A L ((v2_3)) ((A 72) (4 * ((40 * (200 + ((v2_3)))) + v13_4)).toNat) hv93.1 hv93.2.1 hv93.2.2.1 hv93.2.2.2.1 hv93.2.2.2.2.1 hv93.2.2.2.2.2) rfl ok_kindIn nm_kindIn ⟨rfl, rfl⟩ ⟨Nat.le_of_ble_eq_true rfl, Nat.le_of_ble_eq_true rfl⟩ dX12_isRead_146 rfl rfl (Nat.le_of_ble_eq_true rfl) ⟨Nat.zero_le _, Nat.zero_le _⟩ (fun r94 σr94 H locs ir94 hp95 hM => ?_)
                        obtain ⟨rfl, hp95⟩ := hp95
                        unfold inr at ir94
                        replace hp95 : r94 = (A 43) ((A 38) (12 * (16 * (f 3) + ((v2_3))) + ((A 72) (4 * ((40 * (200 + ((v2_3)))) + v13_4)).toNat)).toNat).toNat ∧ -1 ≤ r94 ∧ r94 ≤ 15 := hp95
                        obtain ⟨hp95_0, hp95_1, hp95_2⟩ := hp95
                        have hv96 : ((-2147483648 : Int) ≤ a_p ∧ (a_p : Int) ≤ 2147483647) ∧ ((-2147483648 : Int) ≤ r94 ∧ (r94 : Int) ≤ 2147483647) ∧ (0 ≤ (a_p)) ∧ ((a_p) < 200) ∧ ((0 < (f 60) → (A 34) (16 * (f 3)).toNat < 0)) ∧ (0 < (f 60)) := by first | omega | (simp only [wr_at] <;> omega) | exact ⟨by first | omega | (simp only [wr_at] <;> omega) | assumption | (intro _; exact wr_at _ _ _), by first | omega | (simp only [wr_at] <;> omega) | assumption | (intro _; exact wr_at _ _ _), by first | omega | (simp only [wr_at] <;> omega) | assumption | (intro _; exact wr_at _ _ _), by first | omega | (simp only [wr_at] <;> omega) | assumption | (intro _; exact wr_at _ _ _), by first | omega | (simp only [wr_at] <;> omega) | assumption | (intro _; exact wr_at _ _ _), by first | omega | (simp only [wr_at] <;> omega) | assumption | (intro _; exact wr_at _ _ _)⟩
                        refine m_calli (n := 2) (rest := []) B hM hA hl.1 (k_isOf l D dA h0 ad f g A L a_p r94 hv96.1 hv96.2.1 hv96.2.2.1 hv96.2.2.2.1 (show KU (A 34) from by first | assumption | exact KU_wr (by assumption) (by assumption) (by omega) (by omega)) hv96.2.2.2.2.1 hv96.2.2.2.2.2) rfl ok_isOf nm_isOf ⟨rfl, rfl⟩ ⟨Nat.le_of_ble_eq_true rfl, Nat.le_of_ble_eq_true rfl⟩ dX12_isRead_149 rfl rfl (Nat.le_of_ble_eq_true rfl) ⟨Nat.zero_le _, Nat.zero_le _⟩ (fun r97 σr97 H locs ir97 hp98 hM => ?_)
                        obtain ⟨rfl, hp98⟩ := hp98
                        unfold inr at ir97
                        replace hp98 : 0 ≤ r97 ∧ r97 ≤ 1 := hp98
                        obtain ⟨hp98_0, hp98_1⟩ := hp98
                        refine q_ieq (tgt := 172) B dX12_isRead_152 (by decide) (by unfold inr; omega) (fun c99 => ?_) (fun c99 => ?_)
                        · refine q_inc (k := 4) (x := v13_4) (lv' := [(4, .int (II (v13_4 + 1))), (5, .int (II ((40 * (200 + ((v2_3)))) + v13_4))), (0, .ref h0), (1, .int (II a_p)), (2, .int (II a_m)), (3, .int (II ((v2_3))))]) B dX12_isRead_172 hl rfl (by decide) rfl (fun ls hl => ?_)
                          refine lv_goto (tgt := 13) B.1 B.2.1 dX12_isRead_175 (by decide) ?_
                          have hv100 : ((-2147483648 : Int) ≤ v13_4 + 1 ∧ (v13_4 + 1 : Int) ≤ 2147483647) ∧ (0 ≤ (v2_3)) ∧ ((v2_3) < (f 60)) ∧ (0 ≤ (v13_4 + 1)) ∧ ((v13_4 + 1) ≤ 40) ∧ (0 ≤ 40 - (v13_4 + 1)) := by first | omega | (simp only [wr_at] <;> omega) | exact ⟨by first | omega | (simp only [wr_at] <;> omega) | assumption | (intro _; exact wr_at _ _ _), by first | omega | (simp only [wr_at] <;> omega) | assumption | (intro _; exact wr_at _ _ _), by first | omega | (simp only [wr_at] <;> omega) | assumption | (intro _; exact wr_at _ _ _), by first | omega | (simp only [wr_at] <;> omega) | assumption | (intro _; exact wr_at _ _ _), by first | omega | (simp only [wr_at] <;> omega) | assumption | (intro _; exact wr_at _ _ _), by first | omega | (simp only [wr_at] <;> omega) | assumption | (intro _; exact wr_at _ _ _)⟩
                          exact IH13 (v13_4 + 1) _ _ ls hM (lv_sub hl [2, 3, 4, 0, 5] rfl) hv100.1 hv100.2.1 hv100.2.2.1 hv100.2.2.2.1 hv100.2.2.2.2.1 hv100.2.2.2.2.2 (by first | omega | (simp only [wr_at] <;> omega) | assumption | (intro _; exact wr_at _ _ _))
                        · refine lv_aload_n B.1 B.2.1 dX12_isRead_155 rfl (lv_at hl 1 rfl) ?_
                          refine m_geta (k := 72) B hM (by decide) rfl fl288 dX12_isRead_156 ?_
                          refine q_con B dX12_isRead_159 ?_
                          refine lv_iload B.1 B.2.1 dX12_isRead_160 (lv_at hl 0 rfl) ?_
                          refine q_mul B dX12_isRead_162 ?_
                          refine q_con B dX12_isRead_163 ?_
                          refine q_add B dX12_isRead_164 ?_
                          refine m_ild (k := 72) (i := 52) (n := 51840) (z := (4 * ((40 * (200 + ((v2_3)))) + v13_4)) + 1) (v := (A 72) ((4 * ((40 * (200 + ((v2_3)))) + v13_4)) + 1).toNat) B hM rfl rfl rfl (by decide) dX12_isRead_165 (by omega) (by omega) rfl ?_
                          refine lv_iload_n B.1 B.2.1 dX12_isRead_166 rfl (lv_at hl 3 rfl) ?_
                          refine q_cne (tgt := 172) B dX12_isRead_167 (by decide) (by unfold inr; omega) (by unfold inr; omega) (fun c101 => ?_) (fun c101 => ?_)
                          · refine q_inc (k := 4) (x := v13_4) (lv' := [(4, .int (II (v13_4 + 1))), (5, .int (II ((40 * (200 + ((v2_3)))) + v13_4))), (0, .ref h0), (1, .int (II a_p)), (2, .int (II a_m)), (3, .int (II ((v2_3))))]) B dX12_isRead_172 hl rfl (by decide) rfl (fun ls hl => ?_)
                            refine lv_goto (tgt := 13) B.1 B.2.1 dX12_isRead_175 (by decide) ?_
                            have hv102 : ((-2147483648 : Int) ≤ v13_4 + 1 ∧ (v13_4 + 1 : Int) ≤ 2147483647) ∧ (0 ≤ (v2_3)) ∧ ((v2_3) < (f 60)) ∧ (0 ≤ (v13_4 + 1)) ∧ ((v13_4 + 1) ≤ 40) ∧ (0 ≤ 40 - (v13_4 + 1)) := by first | omega | (simp only [wr_at] <;> omega) | exact ⟨by first | omega | (simp only [wr_at] <;> omega) | assumption | (intro _; exact wr_at _ _ _), by first | omega | (simp only [wr_at] <;> omega) | assumption | (intro _; exact wr_at _ _ _), by first | omega | (simp only [wr_at] <;> omega) | assumption | (intro _; exact wr_at _ _ _), by first | omega | (simp only [wr_at] <;> omega) | assumption | (intro _; exact wr_at _ _ _), by first | omega | (simp only [wr_at] <;> omega) | assumption | (intro _; exact wr_at _ _ _), by first | omega | (simp only [wr_at] <;> omega) | assumption | (intro _; exact wr_at _ _ _)⟩
                            exact IH13 (v13_4 + 1) _ _ ls hM (lv_sub hl [2, 3, 4, 0, 5] rfl) hv102.1 hv102.2.1 hv102.2.2.1 hv102.2.2.2.1 hv102.2.2.2.2.1 hv102.2.2.2.2.2 (by first | omega | (simp only [wr_at] <;> omega) | assumption | (intro _; exact wr_at _ _ _))
                          · refine q_con B dX12_isRead_170 ?_
                            subst hPST
                            have hv103 : (0 ≤ (1 : Int)) ∧ ((1 : Int) ≤ 1) := by first | omega | (simp only [wr_at] <;> omega) | exact ⟨by first | omega | (simp only [wr_at] <;> omega) | assumption | (intro _; exact wr_at _ _ _), by first | omega | (simp only [wr_at] <;> omega) | assumption | (intro _; exact wr_at _ _ _)⟩
                            exact m_zret B hM dX12_isRead_171 (by omega) ⟨rfl, hv103.1, hv103.2⟩
                      · refine lv_aload_n B.1 B.2.1 dX12_isRead_116 rfl (lv_at hl 1 rfl) ?_
                        refine m_geta (k := 72) B hM (by decide) rfl fl288 dX12_isRead_117 ?_
                        refine q_con B dX12_isRead_120 ?_
                        refine lv_iload B.1 B.2.1 dX12_isRead_121 (lv_at hl 0 rfl) ?_
                        refine q_mul B dX12_isRead_123 ?_
                        refine q_con B dX12_isRead_124 ?_
                        refine q_add B dX12_isRead_125 ?_
                        refine m_ild (k := 72) (i := 52) (n := 51840) (z := (4 * ((40 * (200 + ((v2_3)))) + v13_4)) + 2) (v := (A 72) ((4 * ((40 * (200 + ((v2_3)))) + v13_4)) + 2).toNat) B hM rfl rfl rfl (by decide) dX12_isRead_126 (by omega) (by omega) rfl ?_
                        have r104 : (-2147483648 : Int) ≤ (A 72) ((4 * ((40 * (200 + ((v2_3)))) + v13_4)) + 2).toNat ∧ (A 72) ((4 * ((40 * (200 + ((v2_3)))) + v13_4)) + 2).toNat ≤ 2147483647 := hM.2.2.2.2 72 ((4 * ((40 * (200 + ((v2_3)))) + v13_4)) + 2).toNat
                        refine lv_iload_n B.1 B.2.1 dX12_isRead_127 rfl (lv_at hl 3 rfl) ?_
                        refine q_cne (tgt := 133) B dX12_isRead_128 (by decide) (by unfold inr; omega) (by unfold inr; omega) (fun c105 => ?_) (fun c105 => ?_)
                        · have hag : AG (A 72) (4 * ((40 * (200 + ((v2_3)))) + v13_4)) 3 := hk4.elim (fun z => absurd z.1 (by omega)) (fun z => z.2)
                          have hg0 := hag 0 (by omega) (by omega)
                          rw [show 4 * ((40 * (200 + ((v2_3)))) + v13_4) + 0 = 4 * ((40 * (200 + ((v2_3)))) + v13_4) from by omega] at hg0
                          refine lv_aload_n B.1 B.2.1 dX12_isRead_133 rfl (lv_at hl 1 rfl) ?_
                          refine lv_iload_n B.1 B.2.1 dX12_isRead_134 rfl (lv_at hl 2 rfl) ?_
                          refine lv_aload_n B.1 B.2.1 dX12_isRead_135 rfl (lv_at hl 1 rfl) ?_
                          refine lv_iload_n B.1 B.2.1 dX12_isRead_136 rfl (lv_at hl 5 rfl) ?_
                          refine lv_aload_n B.1 B.2.1 dX12_isRead_137 rfl (lv_at hl 1 rfl) ?_
                          refine m_geta (k := 72) B hM (by decide) rfl fl288 dX12_isRead_138 ?_
                          refine q_con B dX12_isRead_141 ?_
                          refine lv_iload B.1 B.2.1 dX12_isRead_142 (lv_at hl 0 rfl) ?_
                          refine q_mul B dX12_isRead_144 ?_
                          refine m_ild (k := 72) (i := 52) (n := 51840) (z := 4 * ((40 * (200 + ((v2_3)))) + v13_4)) (v := (A 72) (4 * ((40 * (200 + ((v2_3)))) + v13_4)).toNat) B hM rfl rfl rfl (by decide) dX12_isRead_145 (by omega) (by omega) rfl ?_
                          have hv106 : ((-2147483648 : Int) ≤ (v2_3) ∧ ((v2_3) : Int) ≤ 2147483647) ∧ ((-2147483648 : Int) ≤ (A 72) (4 * ((40 * (200 + ((v2_3)))) + v13_4)).toNat ∧ ((A 72) (4 * ((40 * (200 + ((v2_3)))) + v13_4)).toNat : Int) ≤ 2147483647) ∧ (0 ≤ ((v2_3))) ∧ (((v2_3)) ≤ 15) ∧ (0 ≤ ((A 72) (4 * ((40 * (200 + ((v2_3)))) + v13_4)).toNat)) ∧ (((A 72) (4 * ((40 * (200 + ((v2_3)))) + v13_4)).toNat) ≤ 11) := by first | omega | (simp only [wr_at] <;> omega) | exact ⟨by first | omega | (simp only [wr_at] <;> omega) | assumption | (intro _; exact wr_at _ _ _), by first | omega | (simp only [wr_at] <;> omega) | assumption | (intro _; exact wr_at _ _ _), by first | omega | (simp only [wr_at] <;> omega) | assumption | (intro _; exact wr_at _ _ _), by first | omega | (simp only [wr_at] <;> omega) | assumption | (intro _; exact wr_at _ _ _), by first | omega | (simp only [wr_at] <;> omega) | assumption | (intro _; exact wr_at _ _ _), by first | omega | (simp only [wr_at] <;> omega) | assumption | (intro _; exact wr_at _ _ _)⟩
                          refine m_calli (n := 2) (rest := [.int (II a_p), .ref h0]) B hM hA hl.1 (k_kindIn l D dA h0 ad f g A L ((v2_3)) ((A 72) (4 * ((40 * (200 + ((v2_3)))) + v13_4)).toNat) hv106.1 hv106.2.1 hv106.2.2.1 hv106.2.2.2.1 hv106.2.2.2.2.1 hv106.2.2.2.2.2) rfl ok_kindIn nm_kindIn ⟨rfl, rfl⟩ ⟨Nat.le_of_ble_eq_true rfl, Nat.le_of_ble_eq_true rfl⟩ dX12_isRead_146 rfl rfl (Nat.le_of_ble_eq_true rfl) ⟨Nat.zero_le _, Nat.zero_le _⟩ (fun r107 σr107 H locs ir107 hp108 hM => ?_)
                          obtain ⟨rfl, hp108⟩ := hp108
                          unfold inr at ir107
                          replace hp108 : r107 = (A 43) ((A 38) (12 * (16 * (f 3) + ((v2_3))) + ((A 72) (4 * ((40 * (200 + ((v2_3)))) + v13_4)).toNat)).toNat).toNat ∧ -1 ≤ r107 ∧ r107 ≤ 15 := hp108
                          obtain ⟨hp108_0, hp108_1, hp108_2⟩ := hp108
                          have hv109 : ((-2147483648 : Int) ≤ a_p ∧ (a_p : Int) ≤ 2147483647) ∧ ((-2147483648 : Int) ≤ r107 ∧ (r107 : Int) ≤ 2147483647) ∧ (0 ≤ (a_p)) ∧ ((a_p) < 200) ∧ ((0 < (f 60) → (A 34) (16 * (f 3)).toNat < 0)) ∧ (0 < (f 60)) := by first | omega | (simp only [wr_at] <;> omega) | exact ⟨by first | omega | (simp only [wr_at] <;> omega) | assumption | (intro _; exact wr_at _ _ _), by first | omega | (simp only [wr_at] <;> omega) | assumption | (intro _; exact wr_at _ _ _), by first | omega | (simp only [wr_at] <;> omega) | assumption | (intro _; exact wr_at _ _ _), by first | omega | (simp only [wr_at] <;> omega) | assumption | (intro _; exact wr_at _ _ _), by first | omega | (simp only [wr_at] <;> omega) | assumption | (intro _; exact wr_at _ _ _), by first | omega | (simp only [wr_at] <;> omega) | assumption | (intro _; exact wr_at _ _ _)⟩
                          refine m_calli (n := 2) (rest := []) B hM hA hl.1 (k_isOf l D dA h0 ad f g A L a_p r107 hv109.1 hv109.2.1 hv109.2.2.1 hv109.2.2.2.1 (show KU (A 34) from by first | assumption | exact KU_wr (by assumption) (by assumption) (by omega) (by omega)) hv109.2.2.2.2.1 hv109.2.2.2.2.2) rfl ok_isOf nm_isOf ⟨rfl, rfl⟩ ⟨Nat.le_of_ble_eq_true rfl, Nat.le_of_ble_eq_true rfl⟩ dX12_isRead_149 rfl rfl (Nat.le_of_ble_eq_true rfl) ⟨Nat.zero_le _, Nat.zero_le _⟩ (fun r110 σr110 H locs ir110 hp111 hM => ?_)
                          obtain ⟨rfl, hp111⟩ := hp111
                          unfold inr at ir110
                          replace hp111 : 0 ≤ r110 ∧ r110 ≤ 1 := hp111
                          obtain ⟨hp111_0, hp111_1⟩ := hp111
                          refine q_ieq (tgt := 172) B dX12_isRead_152 (by decide) (by unfold inr; omega) (fun c112 => ?_) (fun c112 => ?_)
                          · refine q_inc (k := 4) (x := v13_4) (lv' := [(4, .int (II (v13_4 + 1))), (5, .int (II ((40 * (200 + ((v2_3)))) + v13_4))), (0, .ref h0), (1, .int (II a_p)), (2, .int (II a_m)), (3, .int (II ((v2_3))))]) B dX12_isRead_172 hl rfl (by decide) rfl (fun ls hl => ?_)
                            refine lv_goto (tgt := 13) B.1 B.2.1 dX12_isRead_175 (by decide) ?_
                            have hv113 : ((-2147483648 : Int) ≤ v13_4 + 1 ∧ (v13_4 + 1 : Int) ≤ 2147483647) ∧ (0 ≤ (v2_3)) ∧ ((v2_3) < (f 60)) ∧ (0 ≤ (v13_4 + 1)) ∧ ((v13_4 + 1) ≤ 40) ∧ (0 ≤ 40 - (v13_4 + 1)) := by first | omega | (simp only [wr_at] <;> omega) | exact ⟨by first | omega | (simp only [wr_at] <;> omega) | assumption | (intro _; exact wr_at _ _ _), by first | omega | (simp only [wr_at] <;> omega) | assumption | (intro _; exact wr_at _ _ _), by first | omega | (simp only [wr_at] <;> omega) | assumption | (intro _; exact wr_at _ _ _), by first | omega | (simp only [wr_at] <;> omega) | assumption | (intro _; exact wr_at _ _ _), by first | omega | (simp only [wr_at] <;> omega) | assumption | (intro _; exact wr_at _ _ _), by first | omega | (simp only [wr_at] <;> omega) | assumption | (intro _; exact wr_at _ _ _)⟩
                            exact IH13 (v13_4 + 1) _ _ ls hM (lv_sub hl [2, 3, 4, 0, 5] rfl) hv113.1 hv113.2.1 hv113.2.2.1 hv113.2.2.2.1 hv113.2.2.2.2.1 hv113.2.2.2.2.2 (by first | omega | (simp only [wr_at] <;> omega) | assumption | (intro _; exact wr_at _ _ _))
                          · refine lv_aload_n B.1 B.2.1 dX12_isRead_155 rfl (lv_at hl 1 rfl) ?_
                            refine m_geta (k := 72) B hM (by decide) rfl fl288 dX12_isRead_156 ?_
                            refine q_con B dX12_isRead_159 ?_
                            refine lv_iload B.1 B.2.1 dX12_isRead_160 (lv_at hl 0 rfl) ?_
                            refine q_mul B dX12_isRead_162 ?_
                            refine q_con B dX12_isRead_163 ?_
                            refine q_add B dX12_isRead_164 ?_
                            refine m_ild (k := 72) (i := 52) (n := 51840) (z := (4 * ((40 * (200 + ((v2_3)))) + v13_4)) + 1) (v := (A 72) ((4 * ((40 * (200 + ((v2_3)))) + v13_4)) + 1).toNat) B hM rfl rfl rfl (by decide) dX12_isRead_165 (by omega) (by omega) rfl ?_
                            refine lv_iload_n B.1 B.2.1 dX12_isRead_166 rfl (lv_at hl 3 rfl) ?_
                            refine q_cne (tgt := 172) B dX12_isRead_167 (by decide) (by unfold inr; omega) (by unfold inr; omega) (fun c114 => ?_) (fun c114 => ?_)
                            · refine q_inc (k := 4) (x := v13_4) (lv' := [(4, .int (II (v13_4 + 1))), (5, .int (II ((40 * (200 + ((v2_3)))) + v13_4))), (0, .ref h0), (1, .int (II a_p)), (2, .int (II a_m)), (3, .int (II ((v2_3))))]) B dX12_isRead_172 hl rfl (by decide) rfl (fun ls hl => ?_)
                              refine lv_goto (tgt := 13) B.1 B.2.1 dX12_isRead_175 (by decide) ?_
                              have hv115 : ((-2147483648 : Int) ≤ v13_4 + 1 ∧ (v13_4 + 1 : Int) ≤ 2147483647) ∧ (0 ≤ (v2_3)) ∧ ((v2_3) < (f 60)) ∧ (0 ≤ (v13_4 + 1)) ∧ ((v13_4 + 1) ≤ 40) ∧ (0 ≤ 40 - (v13_4 + 1)) := by first | omega | (simp only [wr_at] <;> omega) | exact ⟨by first | omega | (simp only [wr_at] <;> omega) | assumption | (intro _; exact wr_at _ _ _), by first | omega | (simp only [wr_at] <;> omega) | assumption | (intro _; exact wr_at _ _ _), by first | omega | (simp only [wr_at] <;> omega) | assumption | (intro _; exact wr_at _ _ _), by first | omega | (simp only [wr_at] <;> omega) | assumption | (intro _; exact wr_at _ _ _), by first | omega | (simp only [wr_at] <;> omega) | assumption | (intro _; exact wr_at _ _ _), by first | omega | (simp only [wr_at] <;> omega) | assumption | (intro _; exact wr_at _ _ _)⟩
                              exact IH13 (v13_4 + 1) _ _ ls hM (lv_sub hl [2, 3, 4, 0, 5] rfl) hv115.1 hv115.2.1 hv115.2.2.1 hv115.2.2.2.1 hv115.2.2.2.2.1 hv115.2.2.2.2.2 (by first | omega | (simp only [wr_at] <;> omega) | assumption | (intro _; exact wr_at _ _ _))
                            · refine q_con B dX12_isRead_170 ?_
                              subst hPST
                              have hv116 : (0 ≤ (1 : Int)) ∧ ((1 : Int) ≤ 1) := by first | omega | (simp only [wr_at] <;> omega) | exact ⟨by first | omega | (simp only [wr_at] <;> omega) | assumption | (intro _; exact wr_at _ _ _), by first | omega | (simp only [wr_at] <;> omega) | assumption | (intro _; exact wr_at _ _ _)⟩
                              exact m_zret B hM dX12_isRead_171 (by omega) ⟨rfl, hv116.1, hv116.2⟩
                        · refine q_con B dX12_isRead_131 ?_
                          subst hPST
                          have hv117 : (0 ≤ (1 : Int)) ∧ ((1 : Int) ≤ 1) := by first | omega | (simp only [wr_at] <;> omega) | exact ⟨by first | omega | (simp only [wr_at] <;> omega) | assumption | (intro _; exact wr_at _ _ _), by first | omega | (simp only [wr_at] <;> omega) | assumption | (intro _; exact wr_at _ _ _)⟩
                          exact m_zret B hM dX12_isRead_132 (by omega) ⟨rfl, hv117.1, hv117.2⟩
                    · refine lv_goto (tgt := 172) B.1 B.2.1 dX12_isRead_104 (by decide) ?_
                      refine q_inc (k := 4) (x := v13_4) (lv' := [(4, .int (II (v13_4 + 1))), (5, .int (II ((40 * (200 + ((v2_3)))) + v13_4))), (0, .ref h0), (1, .int (II a_p)), (2, .int (II a_m)), (3, .int (II ((v2_3))))]) B dX12_isRead_172 hl rfl (by decide) rfl (fun ls hl => ?_)
                      refine lv_goto (tgt := 13) B.1 B.2.1 dX12_isRead_175 (by decide) ?_
                      have hv118 : ((-2147483648 : Int) ≤ v13_4 + 1 ∧ (v13_4 + 1 : Int) ≤ 2147483647) ∧ (0 ≤ (v2_3)) ∧ ((v2_3) < (f 60)) ∧ (0 ≤ (v13_4 + 1)) ∧ ((v13_4 + 1) ≤ 40) ∧ (0 ≤ 40 - (v13_4 + 1)) := by first | omega | (simp only [wr_at] <;> omega) | exact ⟨by first | omega | (simp only [wr_at] <;> omega) | assumption | (intro _; exact wr_at _ _ _), by first | omega | (simp only [wr_at] <;> omega) | assumption | (intro _; exact wr_at _ _ _), by first | omega | (simp only [wr_at] <;> omega) | assumption | (intro _; exact wr_at _ _ _), by first | omega | (simp only [wr_at] <;> omega) | assumption | (intro _; exact wr_at _ _ _), by first | omega | (simp only [wr_at] <;> omega) | assumption | (intro _; exact wr_at _ _ _), by first | omega | (simp only [wr_at] <;> omega) | assumption | (intro _; exact wr_at _ _ _)⟩
                      exact IH13 (v13_4 + 1) _ _ ls hM (lv_sub hl [2, 3, 4, 0, 5] rfl) hv118.1 hv118.2.1 hv118.2.2.1 hv118.2.2.2.1 hv118.2.2.2.2.1 hv118.2.2.2.2.2 (by first | omega | (simp only [wr_at] <;> omega) | assumption | (intro _; exact wr_at _ _ _))
                  · refine q_con B dX12_isRead_90 ?_
                    subst hPST
                    have hv119 : (0 ≤ (1 : Int)) ∧ ((1 : Int) ≤ 1) := by first | omega | (simp only [wr_at] <;> omega) | exact ⟨by first | omega | (simp only [wr_at] <;> omega) | assumption | (intro _; exact wr_at _ _ _), by first | omega | (simp only [wr_at] <;> omega) | assumption | (intro _; exact wr_at _ _ _)⟩
                    exact m_zret B hM dX12_isRead_91 (by omega) ⟨rfl, hv119.1, hv119.2⟩
      refine lv_iload_n B.1 B.2.1 dX12_isRead_2 rfl (lv_at hl 3 rfl) ?_
      refine lv_aload_n B.1 B.2.1 dX12_isRead_3 rfl (lv_at hl 0 rfl) ?_
      refine m_get (k := 60) (v := f 60) B hM (by decide) rfl fl478 dX12_isRead_4 rfl ?_
      refine q_cge (tgt := 184) B dX12_isRead_7 (by decide) (by unfold inr; omega) (by unfold inr; omega) (fun c120 => ?_) (fun c120 => ?_)
      · refine q_con B dX12_isRead_184 ?_
        subst hPST
        have hv121 : (0 ≤ (0 : Int)) ∧ ((0 : Int) ≤ 1) := by first | omega | (simp only [wr_at] <;> omega) | exact ⟨by first | omega | (simp only [wr_at] <;> omega) | assumption | (intro _; exact wr_at _ _ _), by first | omega | (simp only [wr_at] <;> omega) | assumption | (intro _; exact wr_at _ _ _)⟩
        exact m_zret B hM dX12_isRead_185 (by omega) ⟨rfl, hv121.1, hv121.2⟩
      · refine q_con B dX12_isRead_10 ?_
        refine lv_istore (lv' := [(4, .int (II 0)), (0, .ref h0), (1, .int (II a_p)), (2, .int (II a_m)), (3, .int (II v2_3))]) B.1 B.2.1 dX12_isRead_11 hl (by decide) rfl (fun ls hl => ?_)
        have hv122 : ((-2147483648 : Int) ≤ 0 ∧ (0 : Int) ≤ 2147483647) ∧ (0 ≤ (v2_3)) ∧ ((v2_3) < (f 60)) ∧ (0 ≤ (0 : Int)) ∧ ((0 : Int) ≤ 40) ∧ (0 ≤ 40 - (0 : Int)) := by first | omega | (simp only [wr_at] <;> omega) | exact ⟨by first | omega | (simp only [wr_at] <;> omega) | assumption | (intro _; exact wr_at _ _ _), by first | omega | (simp only [wr_at] <;> omega) | assumption | (intro _; exact wr_at _ _ _), by first | omega | (simp only [wr_at] <;> omega) | assumption | (intro _; exact wr_at _ _ _), by first | omega | (simp only [wr_at] <;> omega) | assumption | (intro _; exact wr_at _ _ _), by first | omega | (simp only [wr_at] <;> omega) | assumption | (intro _; exact wr_at _ _ _), by first | omega | (simp only [wr_at] <;> omega) | assumption | (intro _; exact wr_at _ _ _)⟩
        exact LL13 (Int.toNat (40 - (0 : Int) + 1)) 0 _ _ ls hM (lv_sub hl [1, 2, 3, 0, 4] rfl) hv122.1 hv122.2.1 hv122.2.2.1 hv122.2.2.2.1 hv122.2.2.2.2.1 hv122.2.2.2.2.2 (by first | omega | (simp only [wr_at] <;> omega) | assumption | (intro _; exact wr_at _ _ _))
  refine q_con B dX12_isRead_0 ?_
  refine lv_istore_n (lv' := [(3, .int (II 0)), (0, .ref h0), (1, .int (II a_p)), (2, .int (II a_m))]) B.1 B.2.1 dX12_isRead_1 rfl hl (by decide) rfl (fun ls hl => ?_)
  have hv123 : ((-2147483648 : Int) ≤ 0 ∧ (0 : Int) ≤ 2147483647) ∧ (0 ≤ (0 : Int)) ∧ ((0 : Int) ≤ (f 60)) ∧ (0 ≤ (f 60) - (0 : Int)) := by first | omega | (simp only [wr_at] <;> omega) | exact ⟨by first | omega | (simp only [wr_at] <;> omega) | assumption | (intro _; exact wr_at _ _ _), by first | omega | (simp only [wr_at] <;> omega) | assumption | (intro _; exact wr_at _ _ _), by first | omega | (simp only [wr_at] <;> omega) | assumption | (intro _; exact wr_at _ _ _), by first | omega | (simp only [wr_at] <;> omega) | assumption | (intro _; exact wr_at _ _ _)⟩
  exact LL2 (Int.toNat ((f 60) - (0 : Int) + 1)) 0 _ _ ls hM (lv_sub hl [1, 2, 3, 0] rfl) hv123.1 hv123.2.1 hv123.2.2.1 hv123.2.2.2 (by first | omega | (simp only [wr_at] <;> omega) | assumption | (intro _; exact wr_at _ _ _))
set_option maxHeartbeats 200000000 in
set_option maxRecDepth 20000 in
theorem k_correct (l : Launch) (D : va_G) (dA : Nat → ClassId) (h0 : Nat) (ad : Nat → Nat) (f : Nat → Int) (g : Nat → Int64) (A : Nat → Nat → Int) (L : Nat → Nat → Int64) (p_0 : KU (A 34)) (p_1 : (0 < (f 60) → (A 34) (16 * (f 3)).toNat < 0)) (p_2 : ((f 99) = 1 → 0 < (f 60))) (p_3 : OI (f 3) (f 58) (A 64) (A 65) (A 72) (A 42)) (p_4 : FHp (A 116) (A 110)) : MCi l yX12_correct cX12_correct 5 (some .int) ({ frames := 2, cells := 0, slots := 0, locals := 48 }) D dA h0 ad (f, g, A, L) [] (fun (r : Int) (σ : MS) => ∃ n100 : Int, ∃ b84 : Nat → Int, ∃ b89 : Nat → Int, σ = ((up f [(100, n100)]), g, (up A [(84, b84), (89, b89)]), L) ∧ (True)) := by
  generalize hPST : (fun (r : Int) (σ : MS) => ∃ n100 : Int, ∃ b84 : Nat → Int, ∃ b89 : Nat → Int, σ = ((up f [(100, n100)]), g, (up A [(84, b84), (89, b89)]), L) ∧ (True)) = PST
  refine m_enter (by decide) rfl (Nat.le_of_ble_eq_true rfl) (fun p e s m args below meth c ls B hM hl => ?_)
  have hA : ∀ q, s.heap.size ≤ q → mF dA h0 ad (f, g, A, L) s.heap.size q := fun q h => Or.inr h
  have hM : MWd D dA h0 ad (mF dA h0 ad (f, g, A, L) s.heap.size) s.heap ((up f [(100, f 100)]), g, (up A [(84, (A 84)), (89, (A 89))]), L) s.heap [] := MW_pad hM (up_self f [100]) rfl (up_self A [84, 89]) rfl
  have hl : lv_has ls 5 [(0, .ref h0)] := hl
  have r1 : (0 : Int) ≤ f 3 ∧ f 3 ≤ 1 := hM.2.2.2.1 3
  have r2 : (0 : Int) ≤ f 58 ∧ f 58 ≤ 16 := hM.2.2.2.1 58
  have r3 : (0 : Int) ≤ f 60 ∧ f 60 ≤ 16 := hM.2.2.2.1 60
  have r4 : (0 : Int) ≤ f 99 ∧ f 99 ≤ 1 := hM.2.2.2.1 99
  have r5 : (0 : Int) ≤ f 101 ∧ f 101 ≤ 5000 := hM.2.2.2.1 101
  have LL25 : ∀ N : Nat, ∀ (v25_1 : Int) (v25_2 : Int) (y25_84 : Nat → Int) (y25_89 : Nat → Int) (H : Heap) (locs : List Loc) (ls : Array Slot), (MWd D dA h0 ad (mF dA h0 ad (f, g, A, L) s.heap.size) s.heap ((up f [(100, 1)]), g, (up A [(84, y25_84), (89, y25_89)]), L) H locs) → lv_has ls 5 [(0, .ref h0), (1, .int (II v25_1)), (2, .int (II v25_2))] → ((-2147483648 : Int) ≤ v25_1 ∧ v25_1 ≤ 2147483647) → ((-2147483648 : Int) ≤ v25_2 ∧ v25_2 ≤ 2147483647) → (0 ≤ (v25_1)) → ((v25_1) ≤ (v25_2)) → (0 ≤ (v25_2)) → ((v25_2) ≤ 500) → ((f 99) = 1) → (0 ≤ 501 - (v25_2)) → (501 - (v25_2) < (N : Int)) → W p l e ({ frames := 2, cells := 0, slots := 0, locals := 48 }) s m args below meth c H locs 0 0 (MQ below (mQi D dA h0 ad (f, g, A, L) s.heap.size PST) args s 0 0 (mF dA h0 ad (f, g, A, L) s.heap.size)) (F0 m 25 ls []) := by
    intro N
    induction N with
    | zero => intro v25_1 v25_2 y25_84 y25_89 H locs ls hM hl hLL25_0 hLL25_1 hLL25_2 hLL25_3 hLL25_4 hLL25_5 hLL25_6 hLL25_7 hN; exfalso; omega
    | succ N IH25 =>
      intro v25_1 v25_2 y25_84 y25_89 H locs ls hM hl hLL25_0 hLL25_1 hLL25_2 hLL25_3 hLL25_4 hLL25_5 hLL25_6 hLL25_7 hN
      have LL43 : ∀ N : Nat, ∀ (v43_3 : Int) (v43_4 : Int) (v43_1 : Int) (y43_84 : Nat → Int) (y43_89 : Nat → Int) (H : Heap) (locs : List Loc) (ls : Array Slot), (MWd D dA h0 ad (mF dA h0 ad (f, g, A, L) s.heap.size) s.heap ((up f [(100, 1)]), g, (up A [(84, y43_84), (89, y43_89)]), L) H locs) → lv_has ls 5 [(0, .ref h0), (3, .int (II v43_3)), (4, .int (II v43_4)), (1, .int (II v43_1)), (2, .int (II ((v25_2))))] → ((-2147483648 : Int) ≤ v43_3 ∧ v43_3 ≤ 2147483647) → ((-2147483648 : Int) ≤ v43_4 ∧ v43_4 ≤ 2147483647) → ((-2147483648 : Int) ≤ v43_1 ∧ v43_1 ≤ 2147483647) → ((v43_1) = (v25_1)) → (0 ≤ (v43_3)) → ((v43_3) ≤ 1) → (((v43_3) = 1 → (A 116) ((v25_2)).toNat = 1)) → (0 ≤ (v43_4)) → ((v43_4) ≤ (v25_2)) → ((v25_2) < 500) → (0 ≤ (v25_2)) → (0 ≤ (v25_2) - (v43_4)) → ((v25_2) - (v43_4) < (N : Int)) → W p l e ({ frames := 2, cells := 0, slots := 0, locals := 48 }) s m args below meth c H locs 0 0 (MQ below (mQi D dA h0 ad (f, g, A, L) s.heap.size PST) args s 0 0 (mF dA h0 ad (f, g, A, L) s.heap.size)) (F0 m 43 ls []) := by
        intro N
        induction N with
        | zero => intro v43_3 v43_4 v43_1 y43_84 y43_89 H locs ls hM hl hLL43_0 hLL43_1 hLL43_2 hLL43_3 hLL43_4 hLL43_5 hLL43_6 hLL43_7 hLL43_8 hLL43_9 hLL43_10 hLL43_11 hN; exfalso; omega
        | succ N IH43 =>
          intro v43_3 v43_4 v43_1 y43_84 y43_89 H locs ls hM hl hLL43_0 hLL43_1 hLL43_2 hLL43_3 hLL43_4 hLL43_5 hLL43_6 hLL43_7 hLL43_8 hLL43_9 hLL43_10 hLL43_11 hN
          refine lv_iload_n B.1 B.2.1 dX12_correct_43 rfl (lv_at hl 1 rfl) ?_
          refine q_ieq (tgt := 107) B dX12_correct_44 (by decide) (by unfold inr; omega) (fun c6 => ?_) (fun c6 => ?_)
          · refine lv_iload_n B.1 B.2.1 dX12_correct_107 rfl (lv_at hl 1 rfl) ?_
            refine q_ieq (tgt := 185) B dX12_correct_108 (by decide) (by unfold inr; omega) (fun c7 => ?_) (fun c7 => ?_)
            · refine q_inc (k := 4) (x := (v25_2)) (lv' := [(2, .int (II (((v25_2)) + 1))), (0, .ref h0), (3, .int (II v43_3)), (4, .int (II v43_4)), (1, .int (II v43_1))]) B dX12_correct_185 hl rfl (by decide) rfl (fun ls hl => ?_)
              refine lv_goto (tgt := 25) B.1 B.2.1 dX12_correct_188 (by decide) ?_
              have hv8 : ((-2147483648 : Int) ≤ v43_1 ∧ (v43_1 : Int) ≤ 2147483647) ∧ ((-2147483648 : Int) ≤ ((v25_2)) + 1 ∧ (((v25_2)) + 1 : Int) ≤ 2147483647) ∧ (0 ≤ (v43_1)) ∧ ((v43_1) ≤ (((v25_2)) + 1)) ∧ (0 ≤ (((v25_2)) + 1)) ∧ ((((v25_2)) + 1) ≤ 500) ∧ ((f 99) = 1) ∧ (0 ≤ 501 - (((v25_2)) + 1)) := by first | omega | (simp only [wr_at] <;> omega) | exact ⟨by first | omega | (simp only [wr_at] <;> omega) | assumption | (intro _; exact wr_at _ _ _), by first | omega | (simp only [wr_at] <;> omega) | assumption | (intro _; exact wr_at _ _ _), by first | omega | (simp only [wr_at] <;> omega) | assumption | (intro _; exact wr_at _ _ _), by first | omega | (simp only [wr_at] <;> omega) | assumption | (intro _; exact wr_at _ _ _), by first | omega | (simp only [wr_at] <;> omega) | assumption | (intro _; exact wr_at _ _ _), by first | omega | (simp only [wr_at] <;> omega) | assumption | (intro _; exact wr_at _ _ _), by first | omega | (simp only [wr_at] <;> omega) | assumption | (intro _; exact wr_at _ _ _), by first | omega | (simp only [wr_at] <;> omega) | assumption | (intro _; exact wr_at _ _ _)⟩
              exact IH25 v43_1 (((v25_2)) + 1) y43_84 y43_89 _ _ ls hM (lv_sub hl [1, 4, 0] rfl) hv8.1 hv8.2.1 hv8.2.2.1 hv8.2.2.2.1 hv8.2.2.2.2.1 hv8.2.2.2.2.2.1 hv8.2.2.2.2.2.2.1 hv8.2.2.2.2.2.2.2 (by first | omega | (simp only [wr_at] <;> omega) | assumption | (intro _; exact wr_at _ _ _))
            · have hfh := p_4 (((v25_2))).toNat (by omega)
              refine lv_aload_n B.1 B.2.1 dX12_correct_111 rfl (lv_at hl 0 rfl) ?_
              refine lv_aload_n B.1 B.2.1 dX12_correct_112 rfl (lv_at hl 0 rfl) ?_
              refine m_geta (k := 109) B hM (by decide) rfl fl364 dX12_correct_113 ?_
              refine lv_iload_n B.1 B.2.1 dX12_correct_116 rfl (lv_at hl 4 rfl) ?_
              refine m_ild (k := 109) (i := 77) (n := 500) (z := (v25_2)) (v := (A 109) ((v25_2)).toNat) B hM rfl rfl rfl (by decide) dX12_correct_117 (by omega) (by omega) rfl ?_
              have r9 : (0 : Int) ≤ (A 109) ((v25_2)).toNat ∧ (A 109) ((v25_2)).toNat ≤ 199 := hM.2.2.2.2 109 ((v25_2)).toNat
              refine lv_aload_n B.1 B.2.1 dX12_correct_118 rfl (lv_at hl 0 rfl) ?_
              refine m_geta (k := 110) B hM (by decide) rfl fl367 dX12_correct_119 ?_
              refine lv_iload_n B.1 B.2.1 dX12_correct_122 rfl (lv_at hl 4 rfl) ?_
              refine m_ild (k := 110) (i := 78) (n := 500) (z := (v25_2)) (v := (A 110) ((v25_2)).toNat) B hM rfl rfl rfl (by decide) dX12_correct_123 (by omega) (by omega) rfl ?_
              have r10 : (-1 : Int) ≤ (A 110) ((v25_2)).toNat ∧ (A 110) ((v25_2)).toNat ≤ 11 := hM.2.2.2.2 110 ((v25_2)).toNat
              have hv11 : ((-2147483648 : Int) ≤ (A 109) ((v25_2)).toNat ∧ ((A 109) ((v25_2)).toNat : Int) ≤ 2147483647) ∧ ((-2147483648 : Int) ≤ (A 110) ((v25_2)).toNat ∧ ((A 110) ((v25_2)).toNat : Int) ≤ 2147483647) ∧ (0 ≤ ((A 109) ((v25_2)).toNat)) ∧ (((A 109) ((v25_2)).toNat) < 200) ∧ ((0 < (f 60) → (A 34) (16 * (f 3)).toNat < 0)) ∧ (0 < (f 60)) := by first | omega | (simp only [wr_at] <;> omega) | exact ⟨by first | omega | (simp only [wr_at] <;> omega) | assumption | (intro _; exact wr_at _ _ _), by first | omega | (simp only [wr_at] <;> omega) | assumption | (intro _; exact wr_at _ _ _), by first | omega | (simp only [wr_at] <;> omega) | assumption | (intro _; exact wr_at _ _ _), by first | omega | (simp only [wr_at] <;> omega) | assumption | (intro _; exact wr_at _ _ _), by first | omega | (simp only [wr_at] <;> omega) | assumption | (intro _; exact wr_at _ _ _), by first | omega | (simp only [wr_at] <;> omega) | assumption | (intro _; exact wr_at _ _ _)⟩
              refine m_calli (n := 2) (rest := []) B hM hA hl.1 (k_isRead l D dA h0 ad (up f [(100, 1)]) g (up A [(84, y43_84), (89, y43_89)]) L ((A 109) ((v25_2)).toNat) ((A 110) ((v25_2)).toNat) hv11.1 hv11.2.1 hv11.2.2.1 hv11.2.2.2.1 (show KU (A 34) from by first | assumption | exact KU_wr (by assumption) (by assumption) (by omega) (by omega)) hv11.2.2.2.2.1 hv11.2.2.2.2.2 (show OI (f 3) (f 58) (A 64) (A 65) (A 72) (A 42) from by first | assumption | exact OI_wrR (by assumption) hoM (by omega) (by omega) | exact OI_wrA (by assumption) hoM (by omega) (by omega) (by omega) (by omega) | exact OI_push (by assumption) (by omega) (by assumption) | exact OI_z (by assumption) (by omega) | exact OI_bT (by assumption) (by assumption) (by omega) (by omega))) rfl ok_isRead nm_isRead ⟨rfl, rfl⟩ ⟨Nat.le_of_ble_eq_true rfl, Nat.le_of_ble_eq_true rfl⟩ dX12_correct_124 rfl rfl (Nat.le_of_ble_eq_true rfl) ⟨Nat.zero_le _, Nat.zero_le _⟩ (fun r12 σr12 H locs ir12 hp13 hM => ?_)
              obtain ⟨rfl, hp13⟩ := hp13
              unfold inr at ir12
              replace hp13 : 0 ≤ r12 ∧ r12 ≤ 1 := hp13
              obtain ⟨hp13_0, hp13_1⟩ := hp13
              refine q_ieq (tgt := 133) B dX12_correct_127 (by decide) (by unfold inr; omega) (fun c14 => ?_) (fun c14 => ?_)
              · refine lv_aload_n B.1 B.2.1 dX12_correct_133 rfl (lv_at hl 0 rfl) ?_
                refine m_geta (k := 84) B hM (by decide) rfl fl318 dX12_correct_134 ?_
                refine q_bip B dX12_correct_137 (by decide) ?_
                refine lv_aload_n B.1 B.2.1 dX12_correct_139 rfl (lv_at hl 0 rfl) ?_
                refine m_geta (k := 109) B hM (by decide) rfl fl364 dX12_correct_140 ?_
                refine lv_iload_n B.1 B.2.1 dX12_correct_143 rfl (lv_at hl 4 rfl) ?_
                refine m_ild (k := 109) (i := 77) (n := 500) (z := (v25_2)) (v := (A 109) ((v25_2)).toNat) B hM rfl rfl rfl (by decide) dX12_correct_144 (by omega) (by omega) rfl ?_
                refine q_mul B dX12_correct_145 ?_
                refine lv_aload_n B.1 B.2.1 dX12_correct_146 rfl (lv_at hl 0 rfl) ?_
                refine m_geta (k := 110) B hM (by decide) rfl fl367 dX12_correct_147 ?_
                refine lv_iload_n B.1 B.2.1 dX12_correct_150 rfl (lv_at hl 4 rfl) ?_
                refine m_ild (k := 110) (i := 78) (n := 500) (z := (v25_2)) (v := (A 110) ((v25_2)).toNat) B hM rfl rfl rfl (by decide) dX12_correct_151 (by omega) (by omega) rfl ?_
                refine q_add B dX12_correct_152 ?_
                refine lv_aload_n B.1 B.2.1 dX12_correct_153 rfl (lv_at hl 0 rfl) ?_
                refine m_geta (k := 114) B hM (by decide) rfl fl379 dX12_correct_154 ?_
                refine lv_iload_n B.1 B.2.1 dX12_correct_157 rfl (lv_at hl 4 rfl) ?_
                refine m_ild (k := 114) (i := 82) (n := 500) (z := (v25_2)) (v := (A 114) ((v25_2)).toNat) B hM rfl rfl rfl (by decide) dX12_correct_158 (by omega) (by omega) rfl ?_
                have r15 : (-2147483648 : Int) ≤ (A 114) ((v25_2)).toNat ∧ (A 114) ((v25_2)).toNat ≤ 2147483647 := hM.2.2.2.2 114 ((v25_2)).toNat
                refine m_ist (k := 84) (i := 62) (n := 2400) B hM rfl rfl rfl (by decide) dX12_correct_159 (by omega) (by omega) (show (-2147483648 : Int) ≤ (A 114) ((v25_2)).toNat from by first | omega | (simp only [wr_at] <;> omega)) (show (A 114) ((v25_2)).toNat ≤ (2147483647 : Int) from by first | omega | (simp only [wr_at] <;> omega)) (u1_up A [(84, y43_84), (89, y43_89)] 84 (wr y43_84 ((12 * ((A 109) ((v25_2)).toNat)) + ((A 110) ((v25_2)).toNat)) ((A 114) ((v25_2)).toNat))) (fun H locs hM => ?_)
                replace hM : MWd D dA h0 ad (mF dA h0 ad (f, g, A, L) s.heap.size) s.heap ((up f [(100, 1)]), g, (up A [(84, (wr y43_84 ((12 * ((A 109) ((v25_2)).toNat)) + ((A 110) ((v25_2)).toNat)) ((A 114) ((v25_2)).toNat))), (89, y43_89)]), L) H locs := hM
                refine lv_aload_n B.1 B.2.1 dX12_correct_160 rfl (lv_at hl 0 rfl) ?_
                refine m_geta (k := 89) B hM (by decide) rfl fl334 dX12_correct_161 ?_
                refine q_bip B dX12_correct_164 (by decide) ?_
                refine lv_aload_n B.1 B.2.1 dX12_correct_166 rfl (lv_at hl 0 rfl) ?_
                refine m_geta (k := 109) B hM (by decide) rfl fl364 dX12_correct_167 ?_
                refine lv_iload_n B.1 B.2.1 dX12_correct_170 rfl (lv_at hl 4 rfl) ?_
                refine m_ild (k := 109) (i := 77) (n := 500) (z := (v25_2)) (v := (A 109) ((v25_2)).toNat) B hM rfl rfl rfl (by decide) dX12_correct_171 (by omega) (by omega) rfl ?_
                refine q_mul B dX12_correct_172 ?_
                refine lv_aload_n B.1 B.2.1 dX12_correct_173 rfl (lv_at hl 0 rfl) ?_
                refine m_geta (k := 110) B hM (by decide) rfl fl367 dX12_correct_174 ?_
                refine lv_iload_n B.1 B.2.1 dX12_correct_177 rfl (lv_at hl 4 rfl) ?_
                refine m_ild (k := 110) (i := 78) (n := 500) (z := (v25_2)) (v := (A 110) ((v25_2)).toNat) B hM rfl rfl rfl (by decide) dX12_correct_178 (by omega) (by omega) rfl ?_
                refine q_add B dX12_correct_179 ?_
                refine q_con B dX12_correct_180 ?_
                refine m_zst (k := 89) (i := 67) (n := 2400) B hM rfl rfl rfl (by decide) dX12_correct_181 (by omega) (by omega) (by omega) (show (0 : Int) ≤ 1 from by first | omega | (simp only [wr_at] <;> omega)) (show 1 ≤ (1 : Int) from by first | omega | (simp only [wr_at] <;> omega)) (u1_up A [(84, (wr y43_84 ((12 * ((A 109) ((v25_2)).toNat)) + ((A 110) ((v25_2)).toNat)) ((A 114) ((v25_2)).toNat))), (89, y43_89)] 89 (wr y43_89 ((12 * ((A 109) ((v25_2)).toNat)) + ((A 110) ((v25_2)).toNat)) 1)) (fun H locs hM => ?_)
                replace hM : MWd D dA h0 ad (mF dA h0 ad (f, g, A, L) s.heap.size) s.heap ((up f [(100, 1)]), g, (up A [(84, (wr y43_84 ((12 * ((A 109) ((v25_2)).toNat)) + ((A 110) ((v25_2)).toNat)) ((A 114) ((v25_2)).toNat))), (89, (wr y43_89 ((12 * ((A 109) ((v25_2)).toNat)) + ((A 110) ((v25_2)).toNat)) 1))]), L) H locs := hM
                refine q_inc (k := 3) (x := v43_1) (lv' := [(1, .int (II (v43_1 + 1))), (0, .ref h0), (3, .int (II v43_3)), (4, .int (II v43_4)), (2, .int (II ((v25_2))))]) B dX12_correct_182 hl rfl (by decide) rfl (fun ls hl => ?_)
                refine q_inc (k := 4) (x := (v25_2)) (lv' := [(2, .int (II (((v25_2)) + 1))), (1, .int (II (v43_1 + 1))), (0, .ref h0), (3, .int (II v43_3)), (4, .int (II v43_4))]) B dX12_correct_185 hl rfl (by decide) rfl (fun ls hl => ?_)
                refine lv_goto (tgt := 25) B.1 B.2.1 dX12_correct_188 (by decide) ?_
                have hv16 : ((-2147483648 : Int) ≤ v43_1 + 1 ∧ (v43_1 + 1 : Int) ≤ 2147483647) ∧ ((-2147483648 : Int) ≤ ((v25_2)) + 1 ∧ (((v25_2)) + 1 : Int) ≤ 2147483647) ∧ (0 ≤ (v43_1 + 1)) ∧ ((v43_1 + 1) ≤ (((v25_2)) + 1)) ∧ (0 ≤ (((v25_2)) + 1)) ∧ ((((v25_2)) + 1) ≤ 500) ∧ ((f 99) = 1) ∧ (0 ≤ 501 - (((v25_2)) + 1)) := by first | omega | (simp only [wr_at] <;> omega) | exact ⟨by first | omega | (simp only [wr_at] <;> omega) | assumption | (intro _; exact wr_at _ _ _), by first | omega | (simp only [wr_at] <;> omega) | assumption | (intro _; exact wr_at _ _ _), by first | omega | (simp only [wr_at] <;> omega) | assumption | (intro _; exact wr_at _ _ _), by first | omega | (simp only [wr_at] <;> omega) | assumption | (intro _; exact wr_at _ _ _), by first | omega | (simp only [wr_at] <;> omega) | assumption | (intro _; exact wr_at _ _ _), by first | omega | (simp only [wr_at] <;> omega) | assumption | (intro _; exact wr_at _ _ _), by first | omega | (simp only [wr_at] <;> omega) | assumption | (intro _; exact wr_at _ _ _), by first | omega | (simp only [wr_at] <;> omega) | assumption | (intro _; exact wr_at _ _ _)⟩
                exact IH25 (v43_1 + 1) (((v25_2)) + 1) ((wr y43_84 ((12 * ((A 109) ((v25_2)).toNat)) + ((A 110) ((v25_2)).toNat)) ((A 114) ((v25_2)).toNat))) ((wr y43_89 ((12 * ((A 109) ((v25_2)).toNat)) + ((A 110) ((v25_2)).toNat)) 1)) _ _ ls hM (lv_sub hl [2, 1, 0] rfl) hv16.1 hv16.2.1 hv16.2.2.1 hv16.2.2.2.1 hv16.2.2.2.2.1 hv16.2.2.2.2.2.1 hv16.2.2.2.2.2.2.1 hv16.2.2.2.2.2.2.2 (by first | omega | (simp only [wr_at] <;> omega) | assumption | (intro _; exact wr_at _ _ _))
              · refine lv_goto (tgt := 185) B.1 B.2.1 dX12_correct_130 (by decide) ?_
                refine q_inc (k := 4) (x := (v25_2)) (lv' := [(2, .int (II (((v25_2)) + 1))), (0, .ref h0), (3, .int (II v43_3)), (4, .int (II v43_4)), (1, .int (II v43_1))]) B dX12_correct_185 hl rfl (by decide) rfl (fun ls hl => ?_)
                refine lv_goto (tgt := 25) B.1 B.2.1 dX12_correct_188 (by decide) ?_
                have hv17 : ((-2147483648 : Int) ≤ v43_1 ∧ (v43_1 : Int) ≤ 2147483647) ∧ ((-2147483648 : Int) ≤ ((v25_2)) + 1 ∧ (((v25_2)) + 1 : Int) ≤ 2147483647) ∧ (0 ≤ (v43_1)) ∧ ((v43_1) ≤ (((v25_2)) + 1)) ∧ (0 ≤ (((v25_2)) + 1)) ∧ ((((v25_2)) + 1) ≤ 500) ∧ ((f 99) = 1) ∧ (0 ≤ 501 - (((v25_2)) + 1)) := by first | omega | (simp only [wr_at] <;> omega) | exact ⟨by first | omega | (simp only [wr_at] <;> omega) | assumption | (intro _; exact wr_at _ _ _), by first | omega | (simp only [wr_at] <;> omega) | assumption | (intro _; exact wr_at _ _ _), by first | omega | (simp only [wr_at] <;> omega) | assumption | (intro _; exact wr_at _ _ _), by first | omega | (simp only [wr_at] <;> omega) | assumption | (intro _; exact wr_at _ _ _), by first | omega | (simp only [wr_at] <;> omega) | assumption | (intro _; exact wr_at _ _ _), by first | omega | (simp only [wr_at] <;> omega) | assumption | (intro _; exact wr_at _ _ _), by first | omega | (simp only [wr_at] <;> omega) | assumption | (intro _; exact wr_at _ _ _), by first | omega | (simp only [wr_at] <;> omega) | assumption | (intro _; exact wr_at _ _ _)⟩
                exact IH25 v43_1 (((v25_2)) + 1) y43_84 y43_89 _ _ ls hM (lv_sub hl [1, 4, 0] rfl) hv17.1 hv17.2.1 hv17.2.2.1 hv17.2.2.2.1 hv17.2.2.2.2.1 hv17.2.2.2.2.2.1 hv17.2.2.2.2.2.2.1 hv17.2.2.2.2.2.2.2 (by first | omega | (simp only [wr_at] <;> omega) | assumption | (intro _; exact wr_at _ _ _))
          · refine lv_iload B.1 B.2.1 dX12_correct_47 (lv_at hl 2 rfl) ?_
            refine lv_iload_n B.1 B.2.1 dX12_correct_49 rfl (lv_at hl 4 rfl) ?_
            refine q_cge (tgt := 107) B dX12_correct_50 (by decide) (by unfold inr; omega) (by unfold inr; omega) (fun c18 => ?_) (fun c18 => ?_)
            · refine lv_iload_n B.1 B.2.1 dX12_correct_107 rfl (lv_at hl 1 rfl) ?_
              refine q_ieq (tgt := 185) B dX12_correct_108 (by decide) (by unfold inr; omega) (fun c19 => ?_) (fun c19 => ?_)
              · refine q_inc (k := 4) (x := (v25_2)) (lv' := [(2, .int (II (((v25_2)) + 1))), (0, .ref h0), (3, .int (II v43_3)), (4, .int (II v43_4)), (1, .int (II v43_1))]) B dX12_correct_185 hl rfl (by decide) rfl (fun ls hl => ?_)
                refine lv_goto (tgt := 25) B.1 B.2.1 dX12_correct_188 (by decide) ?_
                have hv20 : ((-2147483648 : Int) ≤ v43_1 ∧ (v43_1 : Int) ≤ 2147483647) ∧ ((-2147483648 : Int) ≤ ((v25_2)) + 1 ∧ (((v25_2)) + 1 : Int) ≤ 2147483647) ∧ (0 ≤ (v43_1)) ∧ ((v43_1) ≤ (((v25_2)) + 1)) ∧ (0 ≤ (((v25_2)) + 1)) ∧ ((((v25_2)) + 1) ≤ 500) ∧ ((f 99) = 1) ∧ (0 ≤ 501 - (((v25_2)) + 1)) := by first | omega | (simp only [wr_at] <;> omega) | exact ⟨by first | omega | (simp only [wr_at] <;> omega) | assumption | (intro _; exact wr_at _ _ _), by first | omega | (simp only [wr_at] <;> omega) | assumption | (intro _; exact wr_at _ _ _), by first | omega | (simp only [wr_at] <;> omega) | assumption | (intro _; exact wr_at _ _ _), by first | omega | (simp only [wr_at] <;> omega) | assumption | (intro _; exact wr_at _ _ _), by first | omega | (simp only [wr_at] <;> omega) | assumption | (intro _; exact wr_at _ _ _), by first | omega | (simp only [wr_at] <;> omega) | assumption | (intro _; exact wr_at _ _ _), by first | omega | (simp only [wr_at] <;> omega) | assumption | (intro _; exact wr_at _ _ _), by first | omega | (simp only [wr_at] <;> omega) | assumption | (intro _; exact wr_at _ _ _)⟩
                exact IH25 v43_1 (((v25_2)) + 1) y43_84 y43_89 _ _ ls hM (lv_sub hl [1, 4, 0] rfl) hv20.1 hv20.2.1 hv20.2.2.1 hv20.2.2.2.1 hv20.2.2.2.2.1 hv20.2.2.2.2.2.1 hv20.2.2.2.2.2.2.1 hv20.2.2.2.2.2.2.2 (by first | omega | (simp only [wr_at] <;> omega) | assumption | (intro _; exact wr_at _ _ _))
              · have hfh := p_4 (((v25_2))).toNat (by omega)
                refine lv_aload_n B.1 B.2.1 dX12_correct_111 rfl (lv_at hl 0 rfl) ?_
                refine lv_aload_n B.1 B.2.1 dX12_correct_112 rfl (lv_at hl 0 rfl) ?_
                refine m_geta (k := 109) B hM (by decide) rfl fl364 dX12_correct_113 ?_
                refine lv_iload_n B.1 B.2.1 dX12_correct_116 rfl (lv_at hl 4 rfl) ?_
                refine m_ild (k := 109) (i := 77) (n := 500) (z := (v25_2)) (v := (A 109) ((v25_2)).toNat) B hM rfl rfl rfl (by decide) dX12_correct_117 (by omega) (by omega) rfl ?_
                have r21 : (0 : Int) ≤ (A 109) ((v25_2)).toNat ∧ (A 109) ((v25_2)).toNat ≤ 199 := hM.2.2.2.2 109 ((v25_2)).toNat
                refine lv_aload_n B.1 B.2.1 dX12_correct_118 rfl (lv_at hl 0 rfl) ?_
                refine m_geta (k := 110) B hM (by decide) rfl fl367 dX12_correct_119 ?_
                refine lv_iload_n B.1 B.2.1 dX12_correct_122 rfl (lv_at hl 4 rfl) ?_
                refine m_ild (k := 110) (i := 78) (n := 500) (z := (v25_2)) (v := (A 110) ((v25_2)).toNat) B hM rfl rfl rfl (by decide) dX12_correct_123 (by omega) (by omega) rfl ?_
                have r22 : (-1 : Int) ≤ (A 110) ((v25_2)).toNat ∧ (A 110) ((v25_2)).toNat ≤ 11 := hM.2.2.2.2 110 ((v25_2)).toNat
                have hv23 : ((-2147483648 : Int) ≤ (A 109) ((v25_2)).toNat ∧ ((A 109) ((v25_2)).toNat : Int) ≤ 2147483647) ∧ ((-2147483648 : Int) ≤ (A 110) ((v25_2)).toNat ∧ ((A 110) ((v25_2)).toNat : Int) ≤ 2147483647) ∧ (0 ≤ ((A 109) ((v25_2)).toNat)) ∧ (((A 109) ((v25_2)).toNat) < 200) ∧ ((0 < (f 60) → (A 34) (16 * (f 3)).toNat < 0)) ∧ (0 < (f 60)) := by first | omega | (simp only [wr_at] <;> omega) | exact ⟨by first | omega | (simp only [wr_at] <;> omega) | assumption | (intro _; exact wr_at _ _ _), by first | omega | (simp only [wr_at] <;> omega) | assumption | (intro _; exact wr_at _ _ _), by first | omega | (simp only [wr_at] <;> omega) | assumption | (intro _; exact wr_at _ _ _), by first | omega | (simp only [wr_at] <;> omega) | assumption | (intro _; exact wr_at _ _ _), by first | omega | (simp only [wr_at] <;> omega) | assumption | (intro _; exact wr_at _ _ _), by first | omega | (simp only [wr_at] <;> omega) | assumption | (intro _; exact wr_at _ _ _)⟩
                refine m_calli (n := 2) (rest := []) B hM hA hl.1 (k_isRead l D dA h0 ad (up f [(100, 1)]) g (up A [(84, y43_84), (89, y43_89)]) L ((A 109) ((v25_2)).toNat) ((A 110) ((v25_2)).toNat) hv23.1 hv23.2.1 hv23.2.2.1 hv23.2.2.2.1 (show KU (A 34) from by first | assumption | exact KU_wr (by assumption) (by assumption) (by omega) (by omega)) hv23.2.2.2.2.1 hv23.2.2.2.2.2 (show OI (f 3) (f 58) (A 64) (A 65) (A 72) (A 42) from by first | assumption | exact OI_wrR (by assumption) hoM (by omega) (by omega) | exact OI_wrA (by assumption) hoM (by omega) (by omega) (by omega) (by omega) | exact OI_push (by assumption) (by omega) (by assumption) | exact OI_z (by assumption) (by omega) | exact OI_bT (by assumption) (by assumption) (by omega) (by omega))) rfl ok_isRead nm_isRead ⟨rfl, rfl⟩ ⟨Nat.le_of_ble_eq_true rfl, Nat.le_of_ble_eq_true rfl⟩ dX12_correct_124 rfl rfl (Nat.le_of_ble_eq_true rfl) ⟨Nat.zero_le _, Nat.zero_le _⟩ (fun r24 σr24 H locs ir24 hp25 hM => ?_)
                obtain ⟨rfl, hp25⟩ := hp25
                unfold inr at ir24
                replace hp25 : 0 ≤ r24 ∧ r24 ≤ 1 := hp25
                obtain ⟨hp25_0, hp25_1⟩ := hp25
                refine q_ieq (tgt := 133) B dX12_correct_127 (by decide) (by unfold inr; omega) (fun c26 => ?_) (fun c26 => ?_)
                · refine lv_aload_n B.1 B.2.1 dX12_correct_133 rfl (lv_at hl 0 rfl) ?_
                  refine m_geta (k := 84) B hM (by decide) rfl fl318 dX12_correct_134 ?_
                  refine q_bip B dX12_correct_137 (by decide) ?_
                  refine lv_aload_n B.1 B.2.1 dX12_correct_139 rfl (lv_at hl 0 rfl) ?_
                  refine m_geta (k := 109) B hM (by decide) rfl fl364 dX12_correct_140 ?_
                  refine lv_iload_n B.1 B.2.1 dX12_correct_143 rfl (lv_at hl 4 rfl) ?_
                  refine m_ild (k := 109) (i := 77) (n := 500) (z := (v25_2)) (v := (A 109) ((v25_2)).toNat) B hM rfl rfl rfl (by decide) dX12_correct_144 (by omega) (by omega) rfl ?_
                  refine q_mul B dX12_correct_145 ?_
                  refine lv_aload_n B.1 B.2.1 dX12_correct_146 rfl (lv_at hl 0 rfl) ?_
                  refine m_geta (k := 110) B hM (by decide) rfl fl367 dX12_correct_147 ?_
                  refine lv_iload_n B.1 B.2.1 dX12_correct_150 rfl (lv_at hl 4 rfl) ?_
                  refine m_ild (k := 110) (i := 78) (n := 500) (z := (v25_2)) (v := (A 110) ((v25_2)).toNat) B hM rfl rfl rfl (by decide) dX12_correct_151 (by omega) (by omega) rfl ?_
                  refine q_add B dX12_correct_152 ?_
                  refine lv_aload_n B.1 B.2.1 dX12_correct_153 rfl (lv_at hl 0 rfl) ?_
                  refine m_geta (k := 114) B hM (by decide) rfl fl379 dX12_correct_154 ?_
                  refine lv_iload_n B.1 B.2.1 dX12_correct_157 rfl (lv_at hl 4 rfl) ?_
                  refine m_ild (k := 114) (i := 82) (n := 500) (z := (v25_2)) (v := (A 114) ((v25_2)).toNat) B hM rfl rfl rfl (by decide) dX12_correct_158 (by omega) (by omega) rfl ?_
                  have r27 : (-2147483648 : Int) ≤ (A 114) ((v25_2)).toNat ∧ (A 114) ((v25_2)).toNat ≤ 2147483647 := hM.2.2.2.2 114 ((v25_2)).toNat
                  refine m_ist (k := 84) (i := 62) (n := 2400) B hM rfl rfl rfl (by decide) dX12_correct_159 (by omega) (by omega) (show (-2147483648 : Int) ≤ (A 114) ((v25_2)).toNat from by first | omega | (simp only [wr_at] <;> omega)) (show (A 114) ((v25_2)).toNat ≤ (2147483647 : Int) from by first | omega | (simp only [wr_at] <;> omega)) (u1_up A [(84, y43_84), (89, y43_89)] 84 (wr y43_84 ((12 * ((A 109) ((v25_2)).toNat)) + ((A 110) ((v25_2)).toNat)) ((A 114) ((v25_2)).toNat))) (fun H locs hM => ?_)
                  replace hM : MWd D dA h0 ad (mF dA h0 ad (f, g, A, L) s.heap.size) s.heap ((up f [(100, 1)]), g, (up A [(84, (wr y43_84 ((12 * ((A 109) ((v25_2)).toNat)) + ((A 110) ((v25_2)).toNat)) ((A 114) ((v25_2)).toNat))), (89, y43_89)]), L) H locs := hM
                  refine lv_aload_n B.1 B.2.1 dX12_correct_160 rfl (lv_at hl 0 rfl) ?_
                  refine m_geta (k := 89) B hM (by decide) rfl fl334 dX12_correct_161 ?_
                  refine q_bip B dX12_correct_164 (by decide) ?_
                  refine lv_aload_n B.1 B.2.1 dX12_correct_166 rfl (lv_at hl 0 rfl) ?_
                  refine m_geta (k := 109) B hM (by decide) rfl fl364 dX12_correct_167 ?_
                  refine lv_iload_n B.1 B.2.1 dX12_correct_170 rfl (lv_at hl 4 rfl) ?_
                  refine m_ild (k := 109) (i := 77) (n := 500) (z := (v25_2)) (v := (A 109) ((v25_2)).toNat) B hM rfl rfl rfl (by decide) dX12_correct_171 (by omega) (by omega) rfl ?_
                  refine q_mul B dX12_correct_172 ?_
                  refine lv_aload_n B.1 B.2.1 dX12_correct_173 rfl (lv_at hl 0 rfl) ?_
                  refine m_geta (k := 110) B hM (by decide) rfl fl367 dX12_correct_174 ?_
                  refine lv_iload_n B.1 B.2.1 dX12_correct_177 rfl (lv_at hl 4 rfl) ?_
                  refine m_ild (k := 110) (i := 78) (n := 500) (z := (v25_2)) (v := (A 110) ((v25_2)).toNat) B hM rfl rfl rfl (by decide) dX12_correct_178 (by omega) (by omega) rfl ?_
                  refine q_add B dX12_correct_179 ?_
                  refine q_con B dX12_correct_180 ?_
                  refine m_zst (k := 89) (i := 67) (n := 2400) B hM rfl rfl rfl (by decide) dX12_correct_181 (by omega) (by omega) (by omega) (show (0 : Int) ≤ 1 from by first | omega | (simp only [wr_at] <;> omega)) (show 1 ≤ (1 : Int) from by first | omega | (simp only [wr_at] <;> omega)) (u1_up A [(84, (wr y43_84 ((12 * ((A 109) ((v25_2)).toNat)) + ((A 110) ((v25_2)).toNat)) ((A 114) ((v25_2)).toNat))), (89, y43_89)] 89 (wr y43_89 ((12 * ((A 109) ((v25_2)).toNat)) + ((A 110) ((v25_2)).toNat)) 1)) (fun H locs hM => ?_)
                  replace hM : MWd D dA h0 ad (mF dA h0 ad (f, g, A, L) s.heap.size) s.heap ((up f [(100, 1)]), g, (up A [(84, (wr y43_84 ((12 * ((A 109) ((v25_2)).toNat)) + ((A 110) ((v25_2)).toNat)) ((A 114) ((v25_2)).toNat))), (89, (wr y43_89 ((12 * ((A 109) ((v25_2)).toNat)) + ((A 110) ((v25_2)).toNat)) 1))]), L) H locs := hM
                  refine q_inc (k := 3) (x := v43_1) (lv' := [(1, .int (II (v43_1 + 1))), (0, .ref h0), (3, .int (II v43_3)), (4, .int (II v43_4)), (2, .int (II ((v25_2))))]) B dX12_correct_182 hl rfl (by decide) rfl (fun ls hl => ?_)
                  refine q_inc (k := 4) (x := (v25_2)) (lv' := [(2, .int (II (((v25_2)) + 1))), (1, .int (II (v43_1 + 1))), (0, .ref h0), (3, .int (II v43_3)), (4, .int (II v43_4))]) B dX12_correct_185 hl rfl (by decide) rfl (fun ls hl => ?_)
                  refine lv_goto (tgt := 25) B.1 B.2.1 dX12_correct_188 (by decide) ?_
                  have hv28 : ((-2147483648 : Int) ≤ v43_1 + 1 ∧ (v43_1 + 1 : Int) ≤ 2147483647) ∧ ((-2147483648 : Int) ≤ ((v25_2)) + 1 ∧ (((v25_2)) + 1 : Int) ≤ 2147483647) ∧ (0 ≤ (v43_1 + 1)) ∧ ((v43_1 + 1) ≤ (((v25_2)) + 1)) ∧ (0 ≤ (((v25_2)) + 1)) ∧ ((((v25_2)) + 1) ≤ 500) ∧ ((f 99) = 1) ∧ (0 ≤ 501 - (((v25_2)) + 1)) := by first | omega | (simp only [wr_at] <;> omega) | exact ⟨by first | omega | (simp only [wr_at] <;> omega) | assumption | (intro _; exact wr_at _ _ _), by first | omega | (simp only [wr_at] <;> omega) | assumption | (intro _; exact wr_at _ _ _), by first | omega | (simp only [wr_at] <;> omega) | assumption | (intro _; exact wr_at _ _ _), by first | omega | (simp only [wr_at] <;> omega) | assumption | (intro _; exact wr_at _ _ _), by first | omega | (simp only [wr_at] <;> omega) | assumption | (intro _; exact wr_at _ _ _), by first | omega | (simp only [wr_at] <;> omega) | assumption | (intro _; exact wr_at _ _ _), by first | omega | (simp only [wr_at] <;> omega) | assumption | (intro _; exact wr_at _ _ _), by first | omega | (simp only [wr_at] <;> omega) | assumption | (intro _; exact wr_at _ _ _)⟩
                  exact IH25 (v43_1 + 1) (((v25_2)) + 1) ((wr y43_84 ((12 * ((A 109) ((v25_2)).toNat)) + ((A 110) ((v25_2)).toNat)) ((A 114) ((v25_2)).toNat))) ((wr y43_89 ((12 * ((A 109) ((v25_2)).toNat)) + ((A 110) ((v25_2)).toNat)) 1)) _ _ ls hM (lv_sub hl [2, 1, 0] rfl) hv28.1 hv28.2.1 hv28.2.2.1 hv28.2.2.2.1 hv28.2.2.2.2.1 hv28.2.2.2.2.2.1 hv28.2.2.2.2.2.2.1 hv28.2.2.2.2.2.2.2 (by first | omega | (simp only [wr_at] <;> omega) | assumption | (intro _; exact wr_at _ _ _))
                · refine lv_goto (tgt := 185) B.1 B.2.1 dX12_correct_130 (by decide) ?_
                  refine q_inc (k := 4) (x := (v25_2)) (lv' := [(2, .int (II (((v25_2)) + 1))), (0, .ref h0), (3, .int (II v43_3)), (4, .int (II v43_4)), (1, .int (II v43_1))]) B dX12_correct_185 hl rfl (by decide) rfl (fun ls hl => ?_)
                  refine lv_goto (tgt := 25) B.1 B.2.1 dX12_correct_188 (by decide) ?_
                  have hv29 : ((-2147483648 : Int) ≤ v43_1 ∧ (v43_1 : Int) ≤ 2147483647) ∧ ((-2147483648 : Int) ≤ ((v25_2)) + 1 ∧ (((v25_2)) + 1 : Int) ≤ 2147483647) ∧ (0 ≤ (v43_1)) ∧ ((v43_1) ≤ (((v25_2)) + 1)) ∧ (0 ≤ (((v25_2)) + 1)) ∧ ((((v25_2)) + 1) ≤ 500) ∧ ((f 99) = 1) ∧ (0 ≤ 501 - (((v25_2)) + 1)) := by first | omega | (simp only [wr_at] <;> omega) | exact ⟨by first | omega | (simp only [wr_at] <;> omega) | assumption | (intro _; exact wr_at _ _ _), by first | omega | (simp only [wr_at] <;> omega) | assumption | (intro _; exact wr_at _ _ _), by first | omega | (simp only [wr_at] <;> omega) | assumption | (intro _; exact wr_at _ _ _), by first | omega | (simp only [wr_at] <;> omega) | assumption | (intro _; exact wr_at _ _ _), by first | omega | (simp only [wr_at] <;> omega) | assumption | (intro _; exact wr_at _ _ _), by first | omega | (simp only [wr_at] <;> omega) | assumption | (intro _; exact wr_at _ _ _), by first | omega | (simp only [wr_at] <;> omega) | assumption | (intro _; exact wr_at _ _ _), by first | omega | (simp only [wr_at] <;> omega) | assumption | (intro _; exact wr_at _ _ _)⟩
                  exact IH25 v43_1 (((v25_2)) + 1) y43_84 y43_89 _ _ ls hM (lv_sub hl [1, 4, 0] rfl) hv29.1 hv29.2.1 hv29.2.2.1 hv29.2.2.2.1 hv29.2.2.2.2.1 hv29.2.2.2.2.2.1 hv29.2.2.2.2.2.2.1 hv29.2.2.2.2.2.2.2 (by first | omega | (simp only [wr_at] <;> omega) | assumption | (intro _; exact wr_at _ _ _))
            · refine lv_aload_n B.1 B.2.1 dX12_correct_53 rfl (lv_at hl 0 rfl) ?_
              refine m_geta (k := 116) B hM (by decide) rfl fl385 dX12_correct_54 ?_
              refine lv_iload B.1 B.2.1 dX12_correct_57 (lv_at hl 2 rfl) ?_
              refine m_zld (k := 116) (i := 84) (n := 500) (z := v43_4) (v := (A 116) v43_4.toNat) B hM rfl rfl rfl (by decide) dX12_correct_59 (by omega) (by omega) rfl ?_
              have r30 : (0 : Int) ≤ (A 116) v43_4.toNat ∧ (A 116) v43_4.toNat ≤ 1 := hM.2.2.2.2 116 v43_4.toNat
              refine q_ieq (tgt := 95) B dX12_correct_60 (by decide) (by unfold inr; omega) (fun c31 => ?_) (fun c31 => ?_)
              · refine q_con B dX12_correct_95 ?_
                refine lv_goto (tgt := 100) B.1 B.2.1 dX12_correct_96 (by decide) ?_
                refine lv_istore_n (lv' := [(3, .int (II 1)), (0, .ref h0), (4, .int (II v43_4)), (1, .int (II v43_1)), (2, .int (II ((v25_2))))]) B.1 B.2.1 dX12_correct_100 rfl hl (by decide) rfl (fun ls hl => ?_)
                refine q_inc (k := 2) (x := v43_4) (lv' := [(4, .int (II (v43_4 + 1))), (3, .int (II 1)), (0, .ref h0), (1, .int (II v43_1)), (2, .int (II ((v25_2))))]) B dX12_correct_101 hl rfl (by decide) rfl (fun ls hl => ?_)
                refine lv_goto (tgt := 43) B.1 B.2.1 dX12_correct_104 (by decide) ?_
                have hv32 : ((-2147483648 : Int) ≤ 1 ∧ (1 : Int) ≤ 2147483647) ∧ ((-2147483648 : Int) ≤ v43_4 + 1 ∧ (v43_4 + 1 : Int) ≤ 2147483647) ∧ ((-2147483648 : Int) ≤ v43_1 ∧ (v43_1 : Int) ≤ 2147483647) ∧ ((v43_1) = (v25_1)) ∧ (0 ≤ (1 : Int)) ∧ ((1 : Int) ≤ 1) ∧ (((1 : Int) = 1 → (A 116) ((v25_2)).toNat = 1)) ∧ (0 ≤ (v43_4 + 1)) ∧ ((v43_4 + 1) ≤ (v25_2)) ∧ ((v25_2) < 500) ∧ (0 ≤ (v25_2)) ∧ (0 ≤ (v25_2) - (v43_4 + 1)) := by first | omega | (simp only [wr_at] <;> omega) | exact ⟨by first | omega | (simp only [wr_at] <;> omega) | assumption | (intro _; exact wr_at _ _ _), by first | omega | (simp only [wr_at] <;> omega) | assumption | (intro _; exact wr_at _ _ _), by first | omega | (simp only [wr_at] <;> omega) | assumption | (intro _; exact wr_at _ _ _), by first | omega | (simp only [wr_at] <;> omega) | assumption | (intro _; exact wr_at _ _ _), by first | omega | (simp only [wr_at] <;> omega) | assumption | (intro _; exact wr_at _ _ _), by first | omega | (simp only [wr_at] <;> omega) | assumption | (intro _; exact wr_at _ _ _), by first | omega | (simp only [wr_at] <;> omega) | assumption | (intro _; exact wr_at _ _ _), by first | omega | (simp only [wr_at] <;> omega) | assumption | (intro _; exact wr_at _ _ _), by first | omega | (simp only [wr_at] <;> omega) | assumption | (intro _; exact wr_at _ _ _), by first | omega | (simp only [wr_at] <;> omega) | assumption | (intro _; exact wr_at _ _ _), by first | omega | (simp only [wr_at] <;> omega) | assumption | (intro _; exact wr_at _ _ _), by first | omega | (simp only [wr_at] <;> omega) | assumption | (intro _; exact wr_at _ _ _)⟩
                exact IH43 1 (v43_4 + 1) v43_1 y43_84 y43_89 _ _ ls hM (lv_sub hl [2, 1, 0, 3, 4] rfl) hv32.1 hv32.2.1 hv32.2.2.1 hv32.2.2.2.1 hv32.2.2.2.2.1 hv32.2.2.2.2.2.1 hv32.2.2.2.2.2.2.1 hv32.2.2.2.2.2.2.2.1 hv32.2.2.2.2.2.2.2.2.1 hv32.2.2.2.2.2.2.2.2.2.1 hv32.2.2.2.2.2.2.2.2.2.2.1 hv32.2.2.2.2.2.2.2.2.2.2.2 (by first | omega | (simp only [wr_at] <;> omega) | assumption | (intro _; exact wr_at _ _ _))
              · refine lv_aload_n B.1 B.2.1 dX12_correct_63 rfl (lv_at hl 0 rfl) ?_
                refine m_geta (k := 109) B hM (by decide) rfl fl364 dX12_correct_64 ?_
                refine lv_iload B.1 B.2.1 dX12_correct_67 (lv_at hl 2 rfl) ?_
                refine m_ild (k := 109) (i := 77) (n := 500) (z := v43_4) (v := (A 109) v43_4.toNat) B hM rfl rfl rfl (by decide) dX12_correct_69 (by omega) (by omega) rfl ?_
                have r33 : (0 : Int) ≤ (A 109) v43_4.toNat ∧ (A 109) v43_4.toNat ≤ 199 := hM.2.2.2.2 109 v43_4.toNat
                refine lv_aload_n B.1 B.2.1 dX12_correct_70 rfl (lv_at hl 0 rfl) ?_
                refine m_geta (k := 109) B hM (by decide) rfl fl364 dX12_correct_71 ?_
                refine lv_iload_n B.1 B.2.1 dX12_correct_74 rfl (lv_at hl 4 rfl) ?_
                refine m_ild (k := 109) (i := 77) (n := 500) (z := (v25_2)) (v := (A 109) ((v25_2)).toNat) B hM rfl rfl rfl (by decide) dX12_correct_75 (by omega) (by omega) rfl ?_
                have r34 : (0 : Int) ≤ (A 109) ((v25_2)).toNat ∧ (A 109) ((v25_2)).toNat ≤ 199 := hM.2.2.2.2 109 ((v25_2)).toNat
                refine q_cne (tgt := 95) B dX12_correct_76 (by decide) (by unfold inr; omega) (by unfold inr; omega) (fun c35 => ?_) (fun c35 => ?_)
                · refine q_con B dX12_correct_95 ?_
                  refine lv_goto (tgt := 100) B.1 B.2.1 dX12_correct_96 (by decide) ?_
                  refine lv_istore_n (lv' := [(3, .int (II 1)), (0, .ref h0), (4, .int (II v43_4)), (1, .int (II v43_1)), (2, .int (II ((v25_2))))]) B.1 B.2.1 dX12_correct_100 rfl hl (by decide) rfl (fun ls hl => ?_)
                  refine q_inc (k := 2) (x := v43_4) (lv' := [(4, .int (II (v43_4 + 1))), (3, .int (II 1)), (0, .ref h0), (1, .int (II v43_1)), (2, .int (II ((v25_2))))]) B dX12_correct_101 hl rfl (by decide) rfl (fun ls hl => ?_)
                  refine lv_goto (tgt := 43) B.1 B.2.1 dX12_correct_104 (by decide) ?_
                  have hv36 : ((-2147483648 : Int) ≤ 1 ∧ (1 : Int) ≤ 2147483647) ∧ ((-2147483648 : Int) ≤ v43_4 + 1 ∧ (v43_4 + 1 : Int) ≤ 2147483647) ∧ ((-2147483648 : Int) ≤ v43_1 ∧ (v43_1 : Int) ≤ 2147483647) ∧ ((v43_1) = (v25_1)) ∧ (0 ≤ (1 : Int)) ∧ ((1 : Int) ≤ 1) ∧ (((1 : Int) = 1 → (A 116) ((v25_2)).toNat = 1)) ∧ (0 ≤ (v43_4 + 1)) ∧ ((v43_4 + 1) ≤ (v25_2)) ∧ ((v25_2) < 500) ∧ (0 ≤ (v25_2)) ∧ (0 ≤ (v25_2) - (v43_4 + 1)) := by first | omega | (simp only [wr_at] <;> omega) | exact ⟨by first | omega | (simp only [wr_at] <;> omega) | assumption | (intro _; exact wr_at _ _ _), by first | omega | (simp only [wr_at] <;> omega) | assumption | (intro _; exact wr_at _ _ _), by first | omega | (simp only [wr_at] <;> omega) | assumption | (intro _; exact wr_at _ _ _), by first | omega | (simp only [wr_at] <;> omega) | assumption | (intro _; exact wr_at _ _ _), by first | omega | (simp only [wr_at] <;> omega) | assumption | (intro _; exact wr_at _ _ _), by first | omega | (simp only [wr_at] <;> omega) | assumption | (intro _; exact wr_at _ _ _), by first | omega | (simp only [wr_at] <;> omega) | assumption | (intro _; exact wr_at _ _ _), by first | omega | (simp only [wr_at] <;> omega) | assumption | (intro _; exact wr_at _ _ _), by first | omega | (simp only [wr_at] <;> omega) | assumption | (intro _; exact wr_at _ _ _), by first | omega | (simp only [wr_at] <;> omega) | assumption | (intro _; exact wr_at _ _ _), by first | omega | (simp only [wr_at] <;> omega) | assumption | (intro _; exact wr_at _ _ _), by first | omega | (simp only [wr_at] <;> omega) | assumption | (intro _; exact wr_at _ _ _)⟩
                  exact IH43 1 (v43_4 + 1) v43_1 y43_84 y43_89 _ _ ls hM (lv_sub hl [2, 1, 0, 3, 4] rfl) hv36.1 hv36.2.1 hv36.2.2.1 hv36.2.2.2.1 hv36.2.2.2.2.1 hv36.2.2.2.2.2.1 hv36.2.2.2.2.2.2.1 hv36.2.2.2.2.2.2.2.1 hv36.2.2.2.2.2.2.2.2.1 hv36.2.2.2.2.2.2.2.2.2.1 hv36.2.2.2.2.2.2.2.2.2.2.1 hv36.2.2.2.2.2.2.2.2.2.2.2 (by first | omega | (simp only [wr_at] <;> omega) | assumption | (intro _; exact wr_at _ _ _))
                · refine lv_aload_n B.1 B.2.1 dX12_correct_79 rfl (lv_at hl 0 rfl) ?_
                  refine m_geta (k := 110) B hM (by decide) rfl fl367 dX12_correct_80 ?_
                  refine lv_iload B.1 B.2.1 dX12_correct_83 (lv_at hl 2 rfl) ?_
                  refine m_ild (k := 110) (i := 78) (n := 500) (z := v43_4) (v := (A 110) v43_4.toNat) B hM rfl rfl rfl (by decide) dX12_correct_85 (by omega) (by omega) rfl ?_
                  have r37 : (-1 : Int) ≤ (A 110) v43_4.toNat ∧ (A 110) v43_4.toNat ≤ 11 := hM.2.2.2.2 110 v43_4.toNat
                  refine lv_aload_n B.1 B.2.1 dX12_correct_86 rfl (lv_at hl 0 rfl) ?_
                  refine m_geta (k := 110) B hM (by decide) rfl fl367 dX12_correct_87 ?_
                  refine lv_iload_n B.1 B.2.1 dX12_correct_90 rfl (lv_at hl 4 rfl) ?_
                  refine m_ild (k := 110) (i := 78) (n := 500) (z := (v25_2)) (v := (A 110) ((v25_2)).toNat) B hM rfl rfl rfl (by decide) dX12_correct_91 (by omega) (by omega) rfl ?_
                  have r38 : (-1 : Int) ≤ (A 110) ((v25_2)).toNat ∧ (A 110) ((v25_2)).toNat ≤ 11 := hM.2.2.2.2 110 ((v25_2)).toNat
                  refine q_ceq (tgt := 99) B dX12_correct_92 (by decide) (by unfold inr; omega) (by unfold inr; omega) (fun c39 => ?_) (fun c39 => ?_)
                  · refine q_con B dX12_correct_99 ?_
                    refine lv_istore_n (lv' := [(3, .int (II 0)), (0, .ref h0), (4, .int (II v43_4)), (1, .int (II v43_1)), (2, .int (II ((v25_2))))]) B.1 B.2.1 dX12_correct_100 rfl hl (by decide) rfl (fun ls hl => ?_)
                    refine q_inc (k := 2) (x := v43_4) (lv' := [(4, .int (II (v43_4 + 1))), (3, .int (II 0)), (0, .ref h0), (1, .int (II v43_1)), (2, .int (II ((v25_2))))]) B dX12_correct_101 hl rfl (by decide) rfl (fun ls hl => ?_)
                    refine lv_goto (tgt := 43) B.1 B.2.1 dX12_correct_104 (by decide) ?_
                    have hv40 : ((-2147483648 : Int) ≤ 0 ∧ (0 : Int) ≤ 2147483647) ∧ ((-2147483648 : Int) ≤ v43_4 + 1 ∧ (v43_4 + 1 : Int) ≤ 2147483647) ∧ ((-2147483648 : Int) ≤ v43_1 ∧ (v43_1 : Int) ≤ 2147483647) ∧ ((v43_1) = (v25_1)) ∧ (0 ≤ (0 : Int)) ∧ ((0 : Int) ≤ 1) ∧ (((0 : Int) = 1 → (A 116) ((v25_2)).toNat = 1)) ∧ (0 ≤ (v43_4 + 1)) ∧ ((v43_4 + 1) ≤ (v25_2)) ∧ ((v25_2) < 500) ∧ (0 ≤ (v25_2)) ∧ (0 ≤ (v25_2) - (v43_4 + 1)) := by first | omega | (simp only [wr_at] <;> omega) | exact ⟨by first | omega | (simp only [wr_at] <;> omega) | assumption | (intro _; exact wr_at _ _ _), by first | omega | (simp only [wr_at] <;> omega) | assumption | (intro _; exact wr_at _ _ _), by first | omega | (simp only [wr_at] <;> omega) | assumption | (intro _; exact wr_at _ _ _), by first | omega | (simp only [wr_at] <;> omega) | assumption | (intro _; exact wr_at _ _ _), by first | omega | (simp only [wr_at] <;> omega) | assumption | (intro _; exact wr_at _ _ _), by first | omega | (simp only [wr_at] <;> omega) | assumption | (intro _; exact wr_at _ _ _), by first | omega | (simp only [wr_at] <;> omega) | assumption | (intro _; exact wr_at _ _ _), by first | omega | (simp only [wr_at] <;> omega) | assumption | (intro _; exact wr_at _ _ _), by first | omega | (simp only [wr_at] <;> omega) | assumption | (intro _; exact wr_at _ _ _), by first | omega | (simp only [wr_at] <;> omega) | assumption | (intro _; exact wr_at _ _ _), by first | omega | (simp only [wr_at] <;> omega) | assumption | (intro _; exact wr_at _ _ _), by first | omega | (simp only [wr_at] <;> omega) | assumption | (intro _; exact wr_at _ _ _)⟩
                    exact IH43 0 (v43_4 + 1) v43_1 y43_84 y43_89 _ _ ls hM (lv_sub hl [2, 1, 0, 3, 4] rfl) hv40.1 hv40.2.1 hv40.2.2.1 hv40.2.2.2.1 hv40.2.2.2.2.1 hv40.2.2.2.2.2.1 hv40.2.2.2.2.2.2.1 hv40.2.2.2.2.2.2.2.1 hv40.2.2.2.2.2.2.2.2.1 hv40.2.2.2.2.2.2.2.2.2.1 hv40.2.2.2.2.2.2.2.2.2.2.1 hv40.2.2.2.2.2.2.2.2.2.2.2 (by first | omega | (simp only [wr_at] <;> omega) | assumption | (intro _; exact wr_at _ _ _))
                  · refine q_con B dX12_correct_95 ?_
                    refine lv_goto (tgt := 100) B.1 B.2.1 dX12_correct_96 (by decide) ?_
                    refine lv_istore_n (lv' := [(3, .int (II 1)), (0, .ref h0), (4, .int (II v43_4)), (1, .int (II v43_1)), (2, .int (II ((v25_2))))]) B.1 B.2.1 dX12_correct_100 rfl hl (by decide) rfl (fun ls hl => ?_)
                    refine q_inc (k := 2) (x := v43_4) (lv' := [(4, .int (II (v43_4 + 1))), (3, .int (II 1)), (0, .ref h0), (1, .int (II v43_1)), (2, .int (II ((v25_2))))]) B dX12_correct_101 hl rfl (by decide) rfl (fun ls hl => ?_)
                    refine lv_goto (tgt := 43) B.1 B.2.1 dX12_correct_104 (by decide) ?_
                    have hv41 : ((-2147483648 : Int) ≤ 1 ∧ (1 : Int) ≤ 2147483647) ∧ ((-2147483648 : Int) ≤ v43_4 + 1 ∧ (v43_4 + 1 : Int) ≤ 2147483647) ∧ ((-2147483648 : Int) ≤ v43_1 ∧ (v43_1 : Int) ≤ 2147483647) ∧ ((v43_1) = (v25_1)) ∧ (0 ≤ (1 : Int)) ∧ ((1 : Int) ≤ 1) ∧ (((1 : Int) = 1 → (A 116) ((v25_2)).toNat = 1)) ∧ (0 ≤ (v43_4 + 1)) ∧ ((v43_4 + 1) ≤ (v25_2)) ∧ ((v25_2) < 500) ∧ (0 ≤ (v25_2)) ∧ (0 ≤ (v25_2) - (v43_4 + 1)) := by first | omega | (simp only [wr_at] <;> omega) | exact ⟨by first | omega | (simp only [wr_at] <;> omega) | assumption | (intro _; exact wr_at _ _ _), by first | omega | (simp only [wr_at] <;> omega) | assumption | (intro _; exact wr_at _ _ _), by first | omega | (simp only [wr_at] <;> omega) | assumption | (intro _; exact wr_at _ _ _), by first | omega | (simp only [wr_at] <;> omega) | assumption | (intro _; exact wr_at _ _ _), by first | omega | (simp only [wr_at] <;> omega) | assumption | (intro _; exact wr_at _ _ _), by first | omega | (simp only [wr_at] <;> omega) | assumption | (intro _; exact wr_at _ _ _), by first | omega | (simp only [wr_at] <;> omega) | assumption | (intro _; exact wr_at _ _ _), by first | omega | (simp only [wr_at] <;> omega) | assumption | (intro _; exact wr_at _ _ _), by first | omega | (simp only [wr_at] <;> omega) | assumption | (intro _; exact wr_at _ _ _), by first | omega | (simp only [wr_at] <;> omega) | assumption | (intro _; exact wr_at _ _ _), by first | omega | (simp only [wr_at] <;> omega) | assumption | (intro _; exact wr_at _ _ _), by first | omega | (simp only [wr_at] <;> omega) | assumption | (intro _; exact wr_at _ _ _)⟩
                    exact IH43 1 (v43_4 + 1) v43_1 y43_84 y43_89 _ _ ls hM (lv_sub hl [2, 1, 0, 3, 4] rfl) hv41.1 hv41.2.1 hv41.2.2.1 hv41.2.2.2.1 hv41.2.2.2.2.1 hv41.2.2.2.2.2.1 hv41.2.2.2.2.2.2.1 hv41.2.2.2.2.2.2.2.1 hv41.2.2.2.2.2.2.2.2.1 hv41.2.2.2.2.2.2.2.2.2.1 hv41.2.2.2.2.2.2.2.2.2.2.1 hv41.2.2.2.2.2.2.2.2.2.2.2 (by first | omega | (simp only [wr_at] <;> omega) | assumption | (intro _; exact wr_at _ _ _))
      refine lv_iload_n B.1 B.2.1 dX12_correct_25 rfl (lv_at hl 2 rfl) ?_
      refine lv_aload_n B.1 B.2.1 dX12_correct_26 rfl (lv_at hl 0 rfl) ?_
      refine m_calli (n := 0) (rest := [.int (II v25_2)]) B hM hA hl.1 (k_kept l D dA h0 ad (up f [(100, 1)]) g (up A [(84, y25_84), (89, y25_89)]) L   ) rfl ok_kept nm_kept ⟨rfl, rfl⟩ ⟨Nat.le_of_ble_eq_true rfl, Nat.le_of_ble_eq_true rfl⟩ dX12_correct_27 rfl rfl (Nat.le_of_ble_eq_true rfl) ⟨Nat.zero_le _, Nat.zero_le _⟩ (fun r42 σr42 H locs ir42 hp43 hM => ?_)
      obtain ⟨rfl, hp43⟩ := hp43
      unfold inr at ir42
      replace hp43 : 0 ≤ r42 ∧ r42 ≤ 500 ∧ r42 ≤ (f 101) := hp43
      obtain ⟨hp43_0, hp43_1, hp43_2⟩ := hp43
      refine q_cge (tgt := 191) B dX12_correct_30 (by decide) (by unfold inr; omega) (by unfold inr; omega) (fun c44 => ?_) (fun c44 => ?_)
      · refine lv_iload_n B.1 B.2.1 dX12_correct_191 rfl (lv_at hl 1 rfl) ?_
        subst hPST
        exact m_iret B hM dX12_correct_192 (by unfold inr; omega) ⟨1, y25_84, y25_89, rfl, by trivial⟩
      · refine lv_aload_n B.1 B.2.1 dX12_correct_33 rfl (lv_at hl 0 rfl) ?_
        refine m_geta (k := 116) B hM (by decide) rfl fl385 dX12_correct_34 ?_
        refine lv_iload_n B.1 B.2.1 dX12_correct_37 rfl (lv_at hl 2 rfl) ?_
        refine m_zld (k := 116) (i := 84) (n := 500) (z := v25_2) (v := (A 116) v25_2.toNat) B hM rfl rfl rfl (by decide) dX12_correct_38 (by omega) (by omega) rfl ?_
        have r45 : (0 : Int) ≤ (A 116) v25_2.toNat ∧ (A 116) v25_2.toNat ≤ 1 := hM.2.2.2.2 116 v25_2.toNat
        refine lv_istore_n (lv' := [(3, .int (II ((A 116) v25_2.toNat))), (0, .ref h0), (1, .int (II v25_1)), (2, .int (II v25_2))]) B.1 B.2.1 dX12_correct_39 rfl hl (by decide) rfl (fun ls hl => ?_)
        refine q_con B dX12_correct_40 ?_
        refine lv_istore (lv' := [(4, .int (II 0)), (3, .int (II ((A 116) v25_2.toNat))), (0, .ref h0), (1, .int (II v25_1)), (2, .int (II v25_2))]) B.1 B.2.1 dX12_correct_41 hl (by decide) rfl (fun ls hl => ?_)
        have hv46 : ((-2147483648 : Int) ≤ (A 116) v25_2.toNat ∧ ((A 116) v25_2.toNat : Int) ≤ 2147483647) ∧ ((-2147483648 : Int) ≤ 0 ∧ (0 : Int) ≤ 2147483647) ∧ ((-2147483648 : Int) ≤ v25_1 ∧ (v25_1 : Int) ≤ 2147483647) ∧ ((v25_1) = (v25_1)) ∧ (0 ≤ ((A 116) v25_2.toNat)) ∧ (((A 116) v25_2.toNat) ≤ 1) ∧ ((((A 116) v25_2.toNat) = 1 → (A 116) ((v25_2)).toNat = 1)) ∧ (0 ≤ (0 : Int)) ∧ ((0 : Int) ≤ (v25_2)) ∧ ((v25_2) < 500) ∧ (0 ≤ (v25_2)) ∧ (0 ≤ (v25_2) - (0 : Int)) := by first | omega | (simp only [wr_at] <;> omega) | exact ⟨by first | omega | (simp only [wr_at] <;> omega) | assumption | (intro _; exact wr_at _ _ _), by first | omega | (simp only [wr_at] <;> omega) | assumption | (intro _; exact wr_at _ _ _), by first | omega | (simp only [wr_at] <;> omega) | assumption | (intro _; exact wr_at _ _ _), by first | omega | (simp only [wr_at] <;> omega) | assumption | (intro _; exact wr_at _ _ _), by first | omega | (simp only [wr_at] <;> omega) | assumption | (intro _; exact wr_at _ _ _), by first | omega | (simp only [wr_at] <;> omega) | assumption | (intro _; exact wr_at _ _ _), by first | omega | (simp only [wr_at] <;> omega) | assumption | (intro _; exact wr_at _ _ _), by first | omega | (simp only [wr_at] <;> omega) | assumption | (intro _; exact wr_at _ _ _), by first | omega | (simp only [wr_at] <;> omega) | assumption | (intro _; exact wr_at _ _ _), by first | omega | (simp only [wr_at] <;> omega) | assumption | (intro _; exact wr_at _ _ _), by first | omega | (simp only [wr_at] <;> omega) | assumption | (intro _; exact wr_at _ _ _), by first | omega | (simp only [wr_at] <;> omega) | assumption | (intro _; exact wr_at _ _ _)⟩
        exact LL43 (Int.toNat ((v25_2) - (0 : Int) + 1)) ((A 116) v25_2.toNat) 0 v25_1 y25_84 y25_89 _ _ ls hM (lv_sub hl [2, 1, 0, 3, 4] rfl) hv46.1 hv46.2.1 hv46.2.2.1 hv46.2.2.2.1 hv46.2.2.2.2.1 hv46.2.2.2.2.2.1 hv46.2.2.2.2.2.2.1 hv46.2.2.2.2.2.2.2.1 hv46.2.2.2.2.2.2.2.2.1 hv46.2.2.2.2.2.2.2.2.2.1 hv46.2.2.2.2.2.2.2.2.2.2.1 hv46.2.2.2.2.2.2.2.2.2.2.2 (by first | omega | (simp only [wr_at] <;> omega) | assumption | (intro _; exact wr_at _ _ _))
  refine lv_aload_n B.1 B.2.1 dX12_correct_0 rfl (lv_at hl 0 rfl) ?_
  refine m_get (k := 99) (v := f 99) B hM (by decide) rfl fl530 dX12_correct_1 rfl ?_
  refine q_ieq (tgt := 14) B dX12_correct_4 (by decide) (by unfold inr; omega) (fun c47 => ?_) (fun c47 => ?_)
  · refine q_con B dX12_correct_14 ?_
    subst hPST
    exact m_iret B hM dX12_correct_15 (by unfold inr; omega) ⟨(f 100), ((A 84)), ((A 89)), rfl, by trivial⟩
  · refine lv_aload_n B.1 B.2.1 dX12_correct_7 rfl (lv_at hl 0 rfl) ?_
    refine m_get (k := 100) (v := f 100) B hM (by decide) rfl fl611 dX12_correct_8 rfl ?_
    have r48 : (0 : Int) ≤ f 100 ∧ f 100 ≤ 1 := hM.2.2.2.1 100
    refine q_ieq (tgt := 16) B dX12_correct_11 (by decide) (by unfold inr; omega) (fun c49 => ?_) (fun c49 => ?_)
    · refine lv_aload_n B.1 B.2.1 dX12_correct_16 rfl (lv_at hl 0 rfl) ?_
      refine q_con B dX12_correct_17 ?_
      refine m_put (k := 100) B hM (by decide) rfl fl611 rfl dX12_correct_18 (narZ (by omega)) rfl (show (0 : Int) ≤ 1 from by first | omega | (simp only [wr_at] <;> omega)) (show 1 ≤ (1 : Int) from by first | omega | (simp only [wr_at] <;> omega)) (u1_up f [(100, f 100)] 100 1) (fun H locs hM => ?_)
      replace hM : MWd D dA h0 ad (mF dA h0 ad (f, g, A, L) s.heap.size) s.heap ((up f [(100, 1)]), g, (up A [(84, (A 84)), (89, (A 89))]), L) H locs := hM
      refine q_con B dX12_correct_21 ?_
      refine lv_istore_n (lv' := [(1, .int (II 0)), (0, .ref h0)]) B.1 B.2.1 dX12_correct_22 rfl hl (by decide) rfl (fun ls hl => ?_)
      refine q_con B dX12_correct_23 ?_
      refine lv_istore_n (lv' := [(2, .int (II 0)), (1, .int (II 0)), (0, .ref h0)]) B.1 B.2.1 dX12_correct_24 rfl hl (by decide) rfl (fun ls hl => ?_)
      have hv50 : ((-2147483648 : Int) ≤ 0 ∧ (0 : Int) ≤ 2147483647) ∧ ((-2147483648 : Int) ≤ 0 ∧ (0 : Int) ≤ 2147483647) ∧ (0 ≤ (0 : Int)) ∧ ((0 : Int) ≤ (0 : Int)) ∧ (0 ≤ (0 : Int)) ∧ ((0 : Int) ≤ 500) ∧ ((f 99) = 1) ∧ (0 ≤ 501 - (0 : Int)) := by first | omega | (simp only [wr_at] <;> omega) | exact ⟨by first | omega | (simp only [wr_at] <;> omega) | assumption | (intro _; exact wr_at _ _ _), by first | omega | (simp only [wr_at] <;> omega) | assumption | (intro _; exact wr_at _ _ _), by first | omega | (simp only [wr_at] <;> omega) | assumption | (intro _; exact wr_at _ _ _), by first | omega | (simp only [wr_at] <;> omega) | assumption | (intro _; exact wr_at _ _ _), by first | omega | (simp only [wr_at] <;> omega) | assumption | (intro _; exact wr_at _ _ _), by first | omega | (simp only [wr_at] <;> omega) | assumption | (intro _; exact wr_at _ _ _), by first | omega | (simp only [wr_at] <;> omega) | assumption | (intro _; exact wr_at _ _ _), by first | omega | (simp only [wr_at] <;> omega) | assumption | (intro _; exact wr_at _ _ _)⟩
      exact LL25 (Int.toNat (501 - (0 : Int) + 1)) 0 0 ((A 84)) ((A 89)) _ _ ls hM (lv_sub hl [2, 1, 0] rfl) hv50.1 hv50.2.1 hv50.2.2.1 hv50.2.2.2.1 hv50.2.2.2.2.1 hv50.2.2.2.2.2.1 hv50.2.2.2.2.2.2.1 hv50.2.2.2.2.2.2.2 (by first | omega | (simp only [wr_at] <;> omega) | assumption | (intro _; exact wr_at _ _ _))
    · refine q_con B dX12_correct_14 ?_
      subst hPST
      exact m_iret B hM dX12_correct_15 (by unfold inr; omega) ⟨(f 100), ((A 84)), ((A 89)), rfl, by trivial⟩
