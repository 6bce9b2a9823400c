set_option maxHeartbeats 200000000 in
set_option maxRecDepth 20000 in
theorem k_listOf (l : Launch) (D : va_G) (dA : Nat → ClassId) (h0 : Nat) (ad : Nat → Nat) (f : Nat → Int) (g : Nat → Int64) (A : Nat → Nat → Int) (L : Nat → Nat → Int64) (a_kind : Int) (a_member : Int) (i_kind : (-2147483648 : Int) ≤ a_kind ∧ a_kind ≤ 2147483647) (i_member : (-2147483648 : Int) ≤ a_member ∧ a_member ≤ 2147483647) (p_0 : 0 ≤ (a_kind)) (p_1 : (a_kind) ≤ 15) (p_2 : 0 ≤ (a_member)) (p_3 : (a_member) < (A 37) (16 * (f 3) + (a_kind)).toNat) (p_4 : KG (A 37) (A 38)) : MCi l yX12_listOf cX12_listOf 3 (some .int) ({ frames := 0, cells := 0, slots := 0, locals := 0 }) D dA h0 ad (f, g, A, L) [.int (II a_kind), .int (II a_member)] (fun (r : Int) (σ : MS) => σ = (f, g, A, L) ∧ (r = (A 38) (12 * (16 * (f 3) + (a_kind)) + (a_member)).toNat - 200 * (f 3) ∧ 0 ≤ r ∧ r < 200 ∧ 200 * (f 3) + r = (A 38) (12 * (16 * (f 3) + (a_kind)) + (a_member)).toNat)) := by
  generalize hPST : (fun (r : Int) (σ : MS) => σ = (f, g, A, L) ∧ (r = (A 38) (12 * (16 * (f 3) + (a_kind)) + (a_member)).toNat - 200 * (f 3) ∧ 0 ≤ r ∧ r < 200 ∧ 200 * (f 3) + r = (A 38) (12 * (16 * (f 3) + (a_kind)) + (a_member)).toNat)) = PST
  refine m_enter (by decide) rfl (Nat.le_of_ble_eq_true rfl) (fun p e s m args below meth c ls B hM hl => ?_)
  have hA : ∀ q, s.heap.size ≤ q → mF dA h0 ad (f, g, A, L) s.heap.size q := fun q h => Or.inr h
  have hl : lv_has ls 3 [(0, .ref h0), (1, .int (II a_kind)), (2, .int (II a_member))] := hl
  have r1 : (0 : Int) ≤ f 3 ∧ f 3 ≤ 1 := hM.2.2.2.1 3
  have hk16 : (0 : Int) ≤ (A 37) (16 * (f 3) + (a_kind)).toNat ∧ (A 37) (16 * (f 3) + (a_kind)).toNat ≤ 12 := hM.2.2.2.2 37 (16 * (f 3) + (a_kind)).toNat
  have hkg := p_4 (16 * (f 3) + (a_kind)) (by omega) (by omega) ((a_member)) (by omega) (by omega)
  refine lv_aload_n B.1 B.2.1 dX12_listOf_0 rfl (lv_at hl 0 rfl) ?_
  refine m_geta (k := 38) B hM (by decide) rfl fl208 dX12_listOf_1 ?_
  refine q_bip B dX12_listOf_4 (by decide) ?_
  refine q_bip B dX12_listOf_6 (by decide) ?_
  refine lv_aload_n B.1 B.2.1 dX12_listOf_8 rfl (lv_at hl 0 rfl) ?_
  refine m_get (k := 3) (v := f 3) B hM (by decide) rfl fl11 dX12_listOf_9 rfl ?_
  refine q_mul B dX12_listOf_12 ?_
  refine lv_iload_n B.1 B.2.1 dX12_listOf_13 rfl (lv_at hl 1 rfl) ?_
  refine q_add B dX12_listOf_14 ?_
  refine q_mul B dX12_listOf_15 ?_
  refine lv_iload_n B.1 B.2.1 dX12_listOf_16 rfl (lv_at hl 2 rfl) ?_
  refine q_add B dX12_listOf_17 ?_
  refine m_ild (k := 38) (i := 26) (n := 384) (z := (12 * ((16 * (f 3)) + a_kind)) + a_member) (v := (A 38) ((12 * ((16 * (f 3)) + a_kind)) + a_member).toNat) B hM rfl rfl rfl (by decide) dX12_listOf_18 (by omega) (by omega) rfl ?_
  have r2 : (0 : Int) ≤ (A 38) ((12 * ((16 * (f 3)) + a_kind)) + a_member).toNat ∧ (A 38) ((12 * ((16 * (f 3)) + a_kind)) + a_member).toNat ≤ 399 := hM.2.2.2.2 38 ((12 * ((16 * (f 3)) + a_kind)) + a_member).toNat
  refine q_sip B dX12_listOf_19 (by decide) ?_
  refine lv_aload_n B.1 B.2.1 dX12_listOf_22 rfl (lv_at hl 0 rfl) ?_
  refine m_get (k := 3) (v := f 3) B hM (by decide) rfl fl11 dX12_listOf_23 rfl ?_
  refine q_mul B dX12_listOf_26 ?_
  refine q_sub B dX12_listOf_27 ?_
  subst hPST
  have hv3 : ((((A 38) ((12 * ((16 * (f 3)) + a_kind)) + a_member).toNat) - (200 * (f 3))) = (A 38) (12 * (16 * (f 3) + (a_kind)) + (a_member)).toNat - 200 * (f 3)) ∧ (0 ≤ (((A 38) ((12 * ((16 * (f 3)) + a_kind)) + a_member).toNat) - (200 * (f 3)))) ∧ ((((A 38) ((12 * ((16 * (f 3)) + a_kind)) + a_member).toNat) - (200 * (f 3))) < 200) ∧ (200 * (f 3) + (((A 38) ((12 * ((16 * (f 3)) + a_kind)) + a_member).toNat) - (200 * (f 3))) = (A 38) (12 * (16 * (f 3) + (a_kind)) + (a_member)).toNat) := by first | omega | (simp only [wr_at] <;> omega) | exact ⟨by first | omega | (simp only [wr_at] <;> omega) | assumption | (intro _; exact wr_at _ _ _), by first | omega | (simp only [wr_at] <;> omega) | assumption | (intro _; exact wr_at _ _ _), by first | omega | (simp only [wr_at] <;> omega) | assumption | (intro _; exact wr_at _ _ _), by first | omega | (simp only [wr_at] <;> omega) | assumption | (intro _; exact wr_at _ _ _)⟩
  exact m_iret B hM dX12_listOf_28 (by unfold inr; omega) ⟨rfl, hv3.1, hv3.2.1, hv3.2.2.1, hv3.2.2.2⟩
set_option maxHeartbeats 200000000 in
set_option maxRecDepth 20000 in
theorem k_goes (l : Launch) (D : va_G) (dA : Nat → ClassId) (h0 : Nat) (ad : Nat → Nat) (f : Nat → Int) (g : Nat → Int64) (A : Nat → Nat → Int) (L : Nat → Nat → Int64) (a_p : Int) (a_m : Int) (i_p : (-2147483648 : Int) ≤ a_p ∧ a_p ≤ 2147483647) (i_m : (-2147483648 : Int) ≤ a_m ∧ a_m ≤ 2147483647) (p_0 : 0 ≤ (a_p)) (p_1 : (a_p) < 200) (p_2 : 0 ≤ (a_m)) (p_3 : (a_m) < (A 37) (16 * (f 3) + (A 83) ((a_p)).toNat).toNat) (p_4 : KG (A 37) (A 38)) : MCi l yX12_goes cX12_goes 5 (some .boolean) ({ frames := 1, cells := 0, slots := 0, locals := 22 }) D dA h0 ad (f, g, A, L) [.int (II a_p), .int (II a_m)] (fun (r : Int) (σ : MS) => σ = (f, g, A, L) ∧ (0 ≤ r ∧ r ≤ 1)) := by
  generalize hPST : (fun (r : Int) (σ : MS) => σ = (f, g, A, L) ∧ (0 ≤ r ∧ r ≤ 1)) = PST
  refine m_enter (by decide) rfl (Nat.le_of_ble_eq_true rfl) (fun p e s m args below meth c ls B hM hl => ?_)
  have hA : ∀ q, s.heap.size ≤ q → mF dA h0 ad (f, g, A, L) s.heap.size q := fun q h => Or.inr h
  have hl : lv_has ls 5 [(0, .ref h0), (1, .int (II a_p)), (2, .int (II a_m))] := hl
  have r1 : (0 : Int) ≤ f 3 ∧ f 3 ≤ 1 := hM.2.2.2.1 3
  have LL15 : ∀ N : Nat, ∀ (v15_3 : Int) (v15_4 : Int) (H : Heap) (locs : List Loc) (ls : Array Slot), (MWd D dA h0 ad (mF dA h0 ad (f, g, A, L) s.heap.size) s.heap (f, g, A, L) H locs) → lv_has ls 5 [(0, .ref h0), (1, .int (II a_p)), (2, .int (II a_m)), (3, .int (II v15_3)), (4, .int (II v15_4))] → ((-2147483648 : Int) ≤ v15_3 ∧ v15_3 ≤ 2147483647) → ((-2147483648 : Int) ≤ v15_4 ∧ v15_4 ≤ 2147483647) → (0 ≤ (v15_3)) → ((v15_3) < 200) → (0 ≤ (v15_4)) → ((v15_4) ≤ 40) → (0 ≤ 40 - (v15_4)) → (40 - (v15_4) < (N : Int)) → W p l e ({ frames := 1, cells := 0, slots := 0, locals := 22 }) s m args below meth c H locs 0 0 (MQ below (mQi D dA h0 ad (f, g, A, L) s.heap.size PST) args s 0 0 (mF dA h0 ad (f, g, A, L) s.heap.size)) (F0 m 15 ls []) := by
    intro N
    induction N with
    | zero => intro v15_3 v15_4 H locs ls hM hl hLL15_0 hLL15_1 hLL15_2 hLL15_3 hLL15_4 hLL15_5 hLL15_6 hN; exfalso; omega
    | succ N IH15 =>
      intro v15_3 v15_4 H locs ls hM hl hLL15_0 hLL15_1 hLL15_2 hLL15_3 hLL15_4 hLL15_5 hLL15_6 hN
      refine lv_iload B.1 B.2.1 dX12_goes_15 (lv_at hl 4 rfl) ?_
      refine lv_aload_n B.1 B.2.1 dX12_goes_17 rfl (lv_at hl 0 rfl) ?_
      refine m_geta (k := 64) B hM (by decide) rfl fl263 dX12_goes_18 ?_
      refine lv_iload_n B.1 B.2.1 dX12_goes_21 rfl (lv_at hl 3 rfl) ?_
      refine m_ild (k := 64) (i := 44) (n := 216) (z := v15_3) (v := (A 64) v15_3.toNat) B hM rfl rfl rfl (by decide) dX12_goes_22 (by omega) (by omega) rfl ?_
      have r2 : (0 : Int) ≤ (A 64) v15_3.toNat ∧ (A 64) v15_3.toNat ≤ 40 := hM.2.2.2.2 64 v15_3.toNat
      refine q_cge (tgt := 50) B dX12_goes_23 (by decide) (by unfold inr; omega) (by unfold inr; omega) (fun c3 => ?_) (fun c3 => ?_)
      · refine q_con B dX12_goes_50 ?_
        subst hPST
        have hv4 : (0 ≤ (0 : Int)) ∧ ((0 : Int) ≤ 1) := by first | omega | (simp only [wr_at] <;> omega) | exact ⟨by first | omega | (simp only [wr_at] <;> omega) | assumption | (intro _; exact wr_at _ _ _), by first | omega | (simp only [wr_at] <;> omega) | assumption | (intro _; exact wr_at _ _ _)⟩
        exact m_zret B hM dX12_goes_51 (by omega) ⟨rfl, hv4.1, hv4.2⟩
      · refine lv_aload_n B.1 B.2.1 dX12_goes_26 rfl (lv_at hl 0 rfl) ?_
        refine m_geta (k := 65) B hM (by decide) rfl fl266 dX12_goes_27 ?_
        refine q_bip B dX12_goes_30 (by decide) ?_
        refine lv_iload_n B.1 B.2.1 dX12_goes_32 rfl (lv_at hl 3 rfl) ?_
        refine q_mul B dX12_goes_33 ?_
        refine lv_iload B.1 B.2.1 dX12_goes_34 (lv_at hl 4 rfl) ?_
        refine q_add B dX12_goes_36 ?_
        refine m_ild (k := 65) (i := 45) (n := 12960) (z := (40 * v15_3) + v15_4) (v := (A 65) ((40 * v15_3) + v15_4).toNat) B hM rfl rfl rfl (by decide) dX12_goes_37 (by omega) (by omega) rfl ?_
        have r5 : (0 : Int) ≤ (A 65) ((40 * v15_3) + v15_4).toNat ∧ (A 65) ((40 * v15_3) + v15_4).toNat ≤ 115 := hM.2.2.2.2 65 ((40 * v15_3) + v15_4).toNat
        refine q_con B dX12_goes_38 ?_
        refine q_cne (tgt := 44) B dX12_goes_39 (by decide) (by unfold inr; omega) (by unfold inr; omega) (fun c6 => ?_) (fun c6 => ?_)
        · refine q_inc (k := 4) (x := v15_4) (lv' := [(4, .int (II (v15_4 + 1))), (0, .ref h0), (1, .int (II a_p)), (2, .int (II a_m)), (3, .int (II v15_3))]) B dX12_goes_44 hl rfl (by decide) rfl (fun ls hl => ?_)
          refine lv_goto (tgt := 15) B.1 B.2.1 dX12_goes_47 (by decide) ?_
          have hv7 : ((-2147483648 : Int) ≤ v15_3 ∧ (v15_3 : Int) ≤ 2147483647) ∧ ((-2147483648 : Int) ≤ v15_4 + 1 ∧ (v15_4 + 1 : Int) ≤ 2147483647) ∧ (0 ≤ (v15_3)) ∧ ((v15_3) < 200) ∧ (0 ≤ (v15_4 + 1)) ∧ ((v15_4 + 1) ≤ 40) ∧ (0 ≤ 40 - (v15_4 + 1)) := by first | omega | (simp only [wr_at] <;> omega) | exact ⟨by first | omega | (simp only [wr_at] <;> omega) | assumption | (intro _; exact wr_at _ _ _), by first | omega | (simp only [wr_at] <;> omega) | assumption | (intro _; exact wr_at _ _ _), by first | omega | (simp only [wr_at] <;> omega) | assumption | (intro _; exact wr_at _ _ _), by first | omega | (simp only [wr_at] <;> omega) | assumption | (intro _; exact wr_at _ _ _), by first | omega | (simp only [wr_at] <;> omega) | assumption | (intro _; exact wr_at _ _ _), by first | omega | (simp only [wr_at] <;> omega) | assumption | (intro _; exact wr_at _ _ _), by first | omega | (simp only [wr_at] <;> omega) | assumption | (intro _; exact wr_at _ _ _)⟩
          exact IH15 v15_3 (v15_4 + 1) _ _ ls hM (lv_sub hl [1, 2, 3, 4, 0] rfl) hv7.1 hv7.2.1 hv7.2.2.1 hv7.2.2.2.1 hv7.2.2.2.2.1 hv7.2.2.2.2.2.1 hv7.2.2.2.2.2.2 (by first | omega | (simp only [wr_at] <;> omega) | assumption | (intro _; exact wr_at _ _ _))
        · refine q_con B dX12_goes_42 ?_
          subst hPST
          have hv8 : (0 ≤ (1 : Int)) ∧ ((1 : Int) ≤ 1) := by first | omega | (simp only [wr_at] <;> omega) | exact ⟨by first | omega | (simp only [wr_at] <;> omega) | assumption | (intro _; exact wr_at _ _ _), by first | omega | (simp only [wr_at] <;> omega) | assumption | (intro _; exact wr_at _ _ _)⟩
          exact m_zret B hM dX12_goes_43 (by omega) ⟨rfl, hv8.1, hv8.2⟩
  refine lv_aload_n B.1 B.2.1 dX12_goes_0 rfl (lv_at hl 0 rfl) ?_
  refine lv_aload_n B.1 B.2.1 dX12_goes_1 rfl (lv_at hl 0 rfl) ?_
  refine m_geta (k := 83) B hM (by decide) rfl fl315 dX12_goes_2 ?_
  refine lv_iload_n B.1 B.2.1 dX12_goes_5 rfl (lv_at hl 1 rfl) ?_
  refine m_ild (k := 83) (i := 61) (n := 200) (z := a_p) (v := (A 83) a_p.toNat) B hM rfl rfl rfl (by decide) dX12_goes_6 (by omega) (by omega) rfl ?_
  have r9 : (0 : Int) ≤ (A 83) a_p.toNat ∧ (A 83) a_p.toNat ≤ 15 := hM.2.2.2.2 83 a_p.toNat
  refine lv_iload_n B.1 B.2.1 dX12_goes_7 rfl (lv_at hl 2 rfl) ?_
  have hv10 : ((-2147483648 : Int) ≤ (A 83) a_p.toNat ∧ ((A 83) a_p.toNat : Int) ≤ 2147483647) ∧ ((-2147483648 : Int) ≤ a_m ∧ (a_m : Int) ≤ 2147483647) ∧ (0 ≤ ((A 83) a_p.toNat)) ∧ (((A 83) a_p.toNat) ≤ 15) ∧ (0 ≤ (a_m)) ∧ ((a_m) < (A 37) (16 * (f 3) + ((A 83) a_p.toNat)).toNat) := by first | omega | (simp only [wr_at] <;> omega) | exact ⟨by first | omega | (simp only [wr_at] <;> omega) | assumption | (intro _; exact wr_at _ _ _), by first | omega | (simp only [wr_at] <;> omega) | assumption | (intro _; exact wr_at _ _ _), by first | omega | (simp only [wr_at] <;> omega) | assumption | (intro _; exact wr_at _ _ _), by first | omega | (simp only [wr_at] <;> omega) | assumption | (intro _; exact wr_at _ _ _), by first | omega | (simp only [wr_at] <;> omega) | assumption | (intro _; exact wr_at _ _ _), by first | omega | (simp only [wr_at] <;> omega) | assumption | (intro _; exact wr_at _ _ _)⟩
  refine m_calli (n := 2) (rest := []) B hM hA hl.1 (k_listOf l D dA h0 ad f g A L ((A 83) a_p.toNat) a_m hv10.1 hv10.2.1 hv10.2.2.1 hv10.2.2.2.1 hv10.2.2.2.2.1 hv10.2.2.2.2.2 (show KG (A 37) (A 38) from by first | assumption | exact KG_row2 (by assumption) (by assumption) (by assumption) h12a (by assumption) (by omega) (by omega) (by omega))) rfl ok_listOf nm_listOf ⟨rfl, rfl⟩ ⟨Nat.le_of_ble_eq_true rfl, Nat.le_of_ble_eq_true rfl⟩ dX12_goes_8 rfl rfl (Nat.le_of_ble_eq_true rfl) ⟨Nat.zero_le _, Nat.zero_le _⟩ (fun r11 σr11 H locs ir11 hp12 hM => ?_)
  obtain ⟨rfl, hp12⟩ := hp12
  unfold inr at ir11
  replace hp12 : r11 = (A 38) (12 * (16 * (f 3) + ((A 83) a_p.toNat)) + (a_m)).toNat - 200 * (f 3) ∧ 0 ≤ r11 ∧ r11 < 200 ∧ 200 * (f 3) + r11 = (A 38) (12 * (16 * (f 3) + ((A 83) a_p.toNat)) + (a_m)).toNat := hp12
  obtain ⟨hp12_0, hp12_1, hp12_2, hp12_3⟩ := hp12
  refine lv_istore_n (lv' := [(3, .int (II r11)), (0, .ref h0), (1, .int (II a_p)), (2, .int (II a_m))]) B.1 B.2.1 dX12_goes_11 rfl hl (by decide) rfl (fun ls hl => ?_)
  refine q_con B dX12_goes_12 ?_
  refine lv_istore (lv' := [(4, .int (II 0)), (3, .int (II r11)), (0, .ref h0), (1, .int (II a_p)), (2, .int (II a_m))]) B.1 B.2.1 dX12_goes_13 hl (by decide) rfl (fun ls hl => ?_)
  have hv13 : ((-2147483648 : Int) ≤ r11 ∧ (r11 : Int) ≤ 2147483647) ∧ ((-2147483648 : Int) ≤ 0 ∧ (0 : Int) ≤ 2147483647) ∧ (0 ≤ (r11)) ∧ ((r11) < 200) ∧ (0 ≤ (0 : Int)) ∧ ((0 : Int) ≤ 40) ∧ (0 ≤ 40 - (0 : Int)) := by first | omega | (simp only [wr_at] <;> omega) | exact ⟨by first | omega | (simp only [wr_at] <;> omega) | assumption | (intro _; exact wr_at _ _ _), by first | omega | (simp only [wr_at] <;> omega) | assumption | (intro _; exact wr_at _ _ _), by first | omega | (simp only [wr_at] <;> omega) | assumption | (intro _; exact wr_at _ _ _), by first | omega | (simp only [wr_at] <;> omega) | assumption | (intro _; exact wr_at _ _ _), by first | omega | (simp only [wr_at] <;> omega) | assumption | (intro _; exact wr_at _ _ _), by first | omega | (simp only [wr_at] <;> omega) | assumption | (intro _; exact wr_at _ _ _), by first | omega | (simp only [wr_at] <;> omega) | assumption | (intro _; exact wr_at _ _ _)⟩
  exact LL15 (Int.toNat (40 - (0 : Int) + 1)) r11 0 _ _ ls hM (lv_sub hl [2, 3, 4, 1, 0] rfl) hv13.1 hv13.2.1 hv13.2.2.1 hv13.2.2.2.1 hv13.2.2.2.2.1 hv13.2.2.2.2.2.1 hv13.2.2.2.2.2.2 (by first | omega | (simp only [wr_at] <;> omega) | assumption | (intro _; exact wr_at _ _ _))
set_option maxHeartbeats 200000000 in
set_option maxRecDepth 20000 in
theorem k_nextOf (l : Launch) (D : va_G) (dA : Nat → ClassId) (h0 : Nat) (ad : Nat → Nat) (f : Nat → Int) (g : Nat → Int64) (A : Nat → Nat → Int) (L : Nat → Nat → Int64) (a_p : Int) (a_m : Int) (a_i : Int) (i_p : (-2147483648 : Int) ≤ a_p ∧ a_p ≤ 2147483647) (i_m : (-2147483648 : Int) ≤ a_m ∧ a_m ≤ 2147483647) (i_i : (-2147483648 : Int) ≤ a_i ∧ a_i ≤ 2147483647) (p_0 : 0 ≤ (a_p)) (p_1 : (a_p) < 200) (p_2 : 0 ≤ (a_m)) (p_3 : (a_m) ≤ 11) (p_4 : 0 ≤ (a_i)) : MCi l yX12_nextOf cX12_nextOf 5 (some .int) ({ frames := 1, cells := 0, slots := 0, locals := 22 }) D dA h0 ad (f, g, A, L) [.int (II a_p), .int (II a_m), .int (II a_i)] (fun (r : Int) (σ : MS) => σ = (f, g, A, L) ∧ (-1 ≤ r ∧ r ≤ 199 ∧ (0 ≤ r → (a_i) ≤ 19))) := by
  generalize hPST : (fun (r : Int) (σ : MS) => σ = (f, g, A, L) ∧ (-1 ≤ r ∧ r ≤ 199 ∧ (0 ≤ r → (a_i) ≤ 19))) = PST
  refine m_enter (by decide) rfl (Nat.le_of_ble_eq_true rfl) (fun p e s m args below meth c ls B hM hl => ?_)
  have hA : ∀ q, s.heap.size ≤ q → mF dA h0 ad (f, g, A, L) s.heap.size q := fun q h => Or.inr h
  have hl : lv_has ls 5 [(0, .ref h0), (1, .int (II a_p)), (2, .int (II a_m)), (3, .int (II a_i))] := hl
  have r1 : (0 : Int) ≤ f 3 ∧ f 3 ≤ 1 := hM.2.2.2.1 3
  refine q_bip B dX12_nextOf_0 (by decide) ?_
  refine lv_iload_n B.1 B.2.1 dX12_nextOf_2 rfl (lv_at hl 1 rfl) ?_
  refine q_mul B dX12_nextOf_3 ?_
  refine lv_iload_n B.1 B.2.1 dX12_nextOf_4 rfl (lv_at hl 2 rfl) ?_
  refine q_add B dX12_nextOf_5 ?_
  refine lv_istore (lv' := [(4, .int (II ((12 * a_p) + a_m))), (0, .ref h0), (1, .int (II a_p)), (2, .int (II a_m)), (3, .int (II a_i))]) B.1 B.2.1 dX12_nextOf_6 hl (by decide) rfl (fun ls hl => ?_)
  refine lv_aload_n B.1 B.2.1 dX12_nextOf_8 rfl (lv_at hl 1 rfl) ?_
  refine lv_aload_n B.1 B.2.1 dX12_nextOf_9 rfl (lv_at hl 1 rfl) ?_
  refine m_geta (k := 83) B hM (by decide) rfl fl315 dX12_nextOf_10 ?_
  refine lv_iload_n B.1 B.2.1 dX12_nextOf_13 rfl (lv_at hl 2 rfl) ?_
  refine m_ild (k := 83) (i := 61) (n := 200) (z := a_p) (v := (A 83) a_p.toNat) B hM rfl rfl rfl (by decide) dX12_nextOf_14 (by omega) (by omega) rfl ?_
  have r2 : (0 : Int) ≤ (A 83) a_p.toNat ∧ (A 83) a_p.toNat ≤ 15 := hM.2.2.2.2 83 a_p.toNat
  refine lv_iload_n B.1 B.2.1 dX12_nextOf_15 rfl (lv_at hl 3 rfl) ?_
  have hv3 : ((-2147483648 : Int) ≤ (A 83) a_p.toNat ∧ ((A 83) a_p.toNat : Int) ≤ 2147483647) ∧ ((-2147483648 : Int) ≤ a_m ∧ (a_m : Int) ≤ 2147483647) ∧ (0 ≤ ((A 83) a_p.toNat)) ∧ (((A 83) a_p.toNat) ≤ 15) ∧ ((a_m) ≤ 11) := by first | omega | (simp only [wr_at] <;> omega) | exact ⟨by first | omega | (simp only [wr_at] <;> omega) | assumption | (intro _; exact wr_at _ _ _), by first | omega | (simp only [wr_at] <;> omega) | assumption | (intro _; exact wr_at _ _ _), by first | omega | (simp only [wr_at] <;> omega) | assumption | (intro _; exact wr_at _ _ _), by first | omega | (simp only [wr_at] <;> omega) | assumption | (intro _; exact wr_at _ _ _), by first | omega | (simp only [wr_at] <;> omega) | assumption | (intro _; exact wr_at _ _ _)⟩
  refine m_calli (n := 2) (rest := []) B hM hA hl.1 (k_typeOf l D dA h0 ad f g A L ((A 83) a_p.toNat) a_m hv3.1 hv3.2.1 hv3.2.2.1 hv3.2.2.2.1 hv3.2.2.2.2) rfl ok_typeOf nm_typeOf ⟨rfl, rfl⟩ ⟨Nat.le_of_ble_eq_true rfl, Nat.le_of_ble_eq_true rfl⟩ dX12_nextOf_16 rfl rfl (Nat.le_of_ble_eq_true rfl) ⟨Nat.zero_le _, Nat.zero_le _⟩ (fun r4 σr4 H locs ir4 hp5 hM => ?_)
  obtain ⟨rfl, hp5⟩ := hp5
  unfold inr at ir4
  replace hp5 : ((a_m) < 0 → r4 = -1) ∧ (0 ≤ (a_m) → r4 = (A 42) ((A 38) (12 * (16 * (f 3) + ((A 83) a_p.toNat)) + (a_m)).toNat).toNat) ∧ -1 ≤ r4 ∧ r4 ≤ 3 ∧ (0 ≤ (a_m) → 0 ≤ r4) := hp5
  obtain ⟨hp5_0, hp5_1, hp5_2, hp5_3, hp5_4⟩ := hp5
  refine q_con B dX12_nextOf_19 ?_
  refine q_cne (tgt := 51) B dX12_nextOf_20 (by decide) (by unfold inr; omega) (by unfold inr; omega) (fun c6 => ?_) (fun c6 => ?_)
  · refine lv_iload_n B.1 B.2.1 dX12_nextOf_51 rfl (lv_at hl 4 rfl) ?_
    refine q_ine (tgt := 75) B dX12_nextOf_52 (by decide) (by unfold inr; omega) (fun c7 => ?_) (fun c7 => ?_)
    · refine q_con B dX12_nextOf_75 ?_
      subst hPST
      have hv8 : (-1 ≤ (-1 : Int)) ∧ ((-1 : Int) ≤ 199) ∧ ((0 ≤ (-1 : Int) → (a_i) ≤ 19)) := by first | omega | (simp only [wr_at] <;> omega) | exact ⟨by first | omega | (simp only [wr_at] <;> omega) | assumption | (intro _; exact wr_at _ _ _), by first | omega | (simp only [wr_at] <;> omega) | assumption | (intro _; exact wr_at _ _ _), by first | omega | (simp only [wr_at] <;> omega) | assumption | (intro _; exact wr_at _ _ _)⟩
      exact m_iret B hM dX12_nextOf_76 (by unfold inr; omega) ⟨rfl, hv8.1, hv8.2.1, hv8.2.2⟩
    · refine lv_aload_n B.1 B.2.1 dX12_nextOf_55 rfl (lv_at hl 1 rfl) ?_
      refine m_geta (k := 89) B hM (by decide) rfl fl334 dX12_nextOf_56 ?_
      refine lv_iload B.1 B.2.1 dX12_nextOf_59 (lv_at hl 0 rfl) ?_
      refine m_zld (k := 89) (i := 67) (n := 2400) (z := (12 * a_p) + a_m) (v := (A 89) ((12 * a_p) + a_m).toNat) B hM rfl rfl rfl (by decide) dX12_nextOf_61 (by omega) (by omega) rfl ?_
      have r9 : (0 : Int) ≤ (A 89) ((12 * a_p) + a_m).toNat ∧ (A 89) ((12 * a_p) + a_m).toNat ≤ 1 := hM.2.2.2.2 89 ((12 * a_p) + a_m).toNat
      refine q_ieq (tgt := 75) B dX12_nextOf_62 (by decide) (by unfold inr; omega) (fun c10 => ?_) (fun c10 => ?_)
      · refine q_con B dX12_nextOf_75 ?_
        subst hPST
        have hv11 : (-1 ≤ (-1 : Int)) ∧ ((-1 : Int) ≤ 199) ∧ ((0 ≤ (-1 : Int) → (a_i) ≤ 19)) := by first | omega | (simp only [wr_at] <;> omega) | exact ⟨by first | omega | (simp only [wr_at] <;> omega) | assumption | (intro _; exact wr_at _ _ _), by first | omega | (simp only [wr_at] <;> omega) | assumption | (intro _; exact wr_at _ _ _), by first | omega | (simp only [wr_at] <;> omega) | assumption | (intro _; exact wr_at _ _ _)⟩
        exact m_iret B hM dX12_nextOf_76 (by unfold inr; omega) ⟨rfl, hv11.1, hv11.2.1, hv11.2.2⟩
      · refine lv_aload_n B.1 B.2.1 dX12_nextOf_65 rfl (lv_at hl 1 rfl) ?_
        refine m_geta (k := 86) B hM (by decide) rfl fl324 dX12_nextOf_66 ?_
        refine lv_iload B.1 B.2.1 dX12_nextOf_69 (lv_at hl 0 rfl) ?_
        refine m_ild (k := 86) (i := 64) (n := 2400) (z := (12 * a_p) + a_m) (v := (A 86) ((12 * a_p) + a_m).toNat) B hM rfl rfl rfl (by decide) dX12_nextOf_71 (by omega) (by omega) rfl ?_
        have r12 : (-1 : Int) ≤ (A 86) ((12 * a_p) + a_m).toNat ∧ (A 86) ((12 * a_p) + a_m).toNat ≤ 199 := hM.2.2.2.2 86 ((12 * a_p) + a_m).toNat
        refine lv_goto (tgt := 76) B.1 B.2.1 dX12_nextOf_72 (by decide) ?_
        subst hPST
        have hv13 : (-1 ≤ ((A 86) ((12 * a_p) + a_m).toNat)) ∧ (((A 86) ((12 * a_p) + a_m).toNat) ≤ 199) ∧ ((0 ≤ ((A 86) ((12 * a_p) + a_m).toNat) → (a_i) ≤ 19)) := by first | omega | (simp only [wr_at] <;> omega) | exact ⟨by first | omega | (simp only [wr_at] <;> omega) | assumption | (intro _; exact wr_at _ _ _), by first | omega | (simp only [wr_at] <;> omega) | assumption | (intro _; exact wr_at _ _ _), by first | omega | (simp only [wr_at] <;> omega) | assumption | (intro _; exact wr_at _ _ _)⟩
        exact m_iret B hM dX12_nextOf_76 (by unfold inr; omega) ⟨rfl, hv13.1, hv13.2.1, hv13.2.2⟩
  · refine lv_iload_n B.1 B.2.1 dX12_nextOf_23 rfl (lv_at hl 4 rfl) ?_
    refine lv_aload_n B.1 B.2.1 dX12_nextOf_24 rfl (lv_at hl 1 rfl) ?_
    refine m_geta (k := 87) B hM (by decide) rfl fl327 dX12_nextOf_25 ?_
    refine lv_iload B.1 B.2.1 dX12_nextOf_28 (lv_at hl 0 rfl) ?_
    refine m_ild (k := 87) (i := 65) (n := 2400) (z := (12 * a_p) + a_m) (v := (A 87) ((12 * a_p) + a_m).toNat) B hM rfl rfl rfl (by decide) dX12_nextOf_30 (by omega) (by omega) rfl ?_
    have r14 : (0 : Int) ≤ (A 87) ((12 * a_p) + a_m).toNat ∧ (A 87) ((12 * a_p) + a_m).toNat ≤ 20 := hM.2.2.2.2 87 ((12 * a_p) + a_m).toNat
    refine q_cge (tgt := 49) B dX12_nextOf_31 (by decide) (by unfold inr; omega) (by unfold inr; omega) (fun c15 => ?_) (fun c15 => ?_)
    · refine q_con B dX12_nextOf_49 ?_
      subst hPST
      have hv16 : (-1 ≤ (-1 : Int)) ∧ ((-1 : Int) ≤ 199) ∧ ((0 ≤ (-1 : Int) → (a_i) ≤ 19)) := by first | omega | (simp only [wr_at] <;> omega) | exact ⟨by first | omega | (simp only [wr_at] <;> omega) | assumption | (intro _; exact wr_at _ _ _), by first | omega | (simp only [wr_at] <;> omega) | assumption | (intro _; exact wr_at _ _ _), by first | omega | (simp only [wr_at] <;> omega) | assumption | (intro _; exact wr_at _ _ _)⟩
      exact m_iret B hM dX12_nextOf_50 (by unfold inr; omega) ⟨rfl, hv16.1, hv16.2.1, hv16.2.2⟩
    · refine lv_aload_n B.1 B.2.1 dX12_nextOf_34 rfl (lv_at hl 1 rfl) ?_
      refine m_geta (k := 88) B hM (by decide) rfl fl331 dX12_nextOf_35 ?_
      refine q_bip B dX12_nextOf_38 (by decide) ?_
      refine lv_iload B.1 B.2.1 dX12_nextOf_40 (lv_at hl 0 rfl) ?_
      refine q_mul B dX12_nextOf_42 ?_
      refine lv_iload_n B.1 B.2.1 dX12_nextOf_43 rfl (lv_at hl 4 rfl) ?_
      refine q_add B dX12_nextOf_44 ?_
      refine m_ild (k := 88) (i := 66) (n := 48000) (z := (20 * ((12 * a_p) + a_m)) + a_i) (v := (A 88) ((20 * ((12 * a_p) + a_m)) + a_i).toNat) B hM rfl rfl rfl (by decide) dX12_nextOf_45 (by omega) (by omega) rfl ?_
      have r17 : (0 : Int) ≤ (A 88) ((20 * ((12 * a_p) + a_m)) + a_i).toNat ∧ (A 88) ((20 * ((12 * a_p) + a_m)) + a_i).toNat ≤ 199 := hM.2.2.2.2 88 ((20 * ((12 * a_p) + a_m)) + a_i).toNat
      refine lv_goto (tgt := 50) B.1 B.2.1 dX12_nextOf_46 (by decide) ?_
      subst hPST
      have hv18 : (-1 ≤ ((A 88) ((20 * ((12 * a_p) + a_m)) + a_i).toNat)) ∧ (((A 88) ((20 * ((12 * a_p) + a_m)) + a_i).toNat) ≤ 199) ∧ ((0 ≤ ((A 88) ((20 * ((12 * a_p) + a_m)) + a_i).toNat) → (a_i) ≤ 19)) := by first | omega | (simp only [wr_at] <;> omega) | exact ⟨by first | omega | (simp only [wr_at] <;> omega) | assumption | (intro _; exact wr_at _ _ _), by first | omega | (simp only [wr_at] <;> omega) | assumption | (intro _; exact wr_at _ _ _), by first | omega | (simp only [wr_at] <;> omega) | assumption | (intro _; exact wr_at _ _ _)⟩
      exact m_iret B hM dX12_nextOf_50 (by unfold inr; omega) ⟨rfl, hv18.1, hv18.2.1, hv18.2.2⟩
