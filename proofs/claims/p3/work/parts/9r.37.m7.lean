set_option maxHeartbeats 4000000 in
set_option maxRecDepth 20000 in
theorem k_memberOfF (l : Launch) (D : va_G) (dA : Nat → ClassId) (h0 : Nat) (ad : Nat → Nat) (f : Nat → Int) (g : Nat → Int64) (A : Nat → Nat → Int) (L : Nat → Nat → Int64) (a_k : Int) (a_v : Int64) (i_k : (-2147483648 : Int) ≤ a_k ∧ a_k ≤ 2147483647) (p_0 : 0 ≤ (a_k)) (p_1 : (a_k) < 32) : MCi l yX12_memberOf cX12_memberOf 5 (some .int) ({ frames := 0, cells := 0, slots := 0, locals := 0 }) D dA h0 ad (f, g, A, L) [.int (II a_k), .long a_v] (fun (r : Int) (σ : MS) => σ = (f, g, A, L) ∧ (-1 ≤ r ∧ r < (A 37) ((a_k)).toNat ∧ r = mOf (L 41) (A 38) (a_k) (a_v) ((A 37) ((a_k)).toNat))) := by
  generalize hPST : (fun (r : Int) (σ : MS) => σ = (f, g, A, L) ∧ (-1 ≤ r ∧ r < (A 37) ((a_k)).toNat ∧ r = mOf (L 41) (A 38) (a_k) (a_v) ((A 37) ((a_k)).toNat))) = PST
  refine m_enter (by decide) rfl (Nat.le_of_ble_eq_true rfl) (fun p e s m args below meth c ls B hM hl => ?_)
  have hA : ∀ q, s.heap.size ≤ q → mF dA h0 ad (f, g, A, L) s.heap.size q := fun q h => Or.inr h
  have hl : lv_has ls 5 [(0, .ref h0), (1, .int (II a_k)), (2, .long a_v)] := hl
  have LL3 : ∀ N : Nat, ∀ (v3_4 : Int) (H : Heap) (locs : List Loc) (ls : Array Slot), (MWd D dA h0 ad (mF dA h0 ad (f, g, A, L) s.heap.size) s.heap (f, g, A, L) H locs) → lv_has ls 5 [(0, .ref h0), (1, .int (II a_k)), (2, .long a_v), (4, .int (II v3_4))] → ((-2147483648 : Int) ≤ v3_4 ∧ v3_4 ≤ 2147483647) → (0 ≤ (v3_4)) → ((v3_4) ≤ (A 37) ((a_k)).toNat) → (0 ≤ (A 37) ((a_k)).toNat) → ((A 37) ((a_k)).toNat ≤ 12) → (MOi (L 41) (A 38) (a_k) (a_v) ((A 37) ((a_k)).toNat) (v3_4)) → (0 ≤ (A 37) ((a_k)).toNat - (v3_4)) → ((A 37) ((a_k)).toNat - (v3_4) < (N : Int)) → W p l e ({ frames := 0, cells := 0, slots := 0, locals := 0 }) s m args below meth c H locs 0 0 (MQ below (mQi D dA h0 ad (f, g, A, L) s.heap.size PST) args s 0 0 (mF dA h0 ad (f, g, A, L) s.heap.size)) (F0 m 3 ls []) := by
    intro N
    induction N with
    | zero => intro v3_4 H locs ls hM hl hLL3_0 hLL3_1 hLL3_2 hLL3_3 hLL3_4 hLL3_5 hLL3_6 hN; exfalso; omega
    | succ N IH3 =>
      intro v3_4 H locs ls hM hl hLL3_0 hLL3_1 hLL3_2 hLL3_3 hLL3_4 hLL3_5 hLL3_6 hN
      refine lv_iload B.1 B.2.1 dX12_memberOf_3 (lv_at hl 3 rfl) ?_
      refine lv_aload_n B.1 B.2.1 dX12_memberOf_5 rfl (lv_at hl 0 rfl) ?_
      refine m_geta (k := 37) B hM (by decide) rfl fl205 dX12_memberOf_6 ?_
      refine lv_iload_n B.1 B.2.1 dX12_memberOf_9 rfl (lv_at hl 1 rfl) ?_
      refine m_ild (k := 37) (i := 25) (n := 32) (z := a_k) (v := (A 37) a_k.toNat) B hM rfl rfl rfl (by decide) dX12_memberOf_10 (by omega) (by omega) rfl ?_
      have r1 : (0 : Int) ≤ (A 37) a_k.toNat ∧ (A 37) a_k.toNat ≤ 12 := hM.2.2.2.2 37 a_k.toNat
      refine q_cge (tgt := 45) B dX12_memberOf_11 (by decide) (by unfold inr; omega) (by unfold inr; omega) (fun c2 => ?_) (fun c2 => ?_)
      · refine q_con B dX12_memberOf_45 ?_
        subst hPST
        exact m_iret B hM dX12_memberOf_46 (by unfold inr; omega) ⟨rfl, by (refine ⟨by omega, by omega, ?_⟩; first | exact MOi_hit (by assumption) (by omega) (by omega) (‹_ ↔ (_ : Int64) = _›.mp (by omega)) | exact MOi_end (by assumption) (by omega))⟩
      · refine lv_aload_n B.1 B.2.1 dX12_memberOf_14 rfl (lv_at hl 0 rfl) ?_
        refine m_geta (k := 41) B hM (by decide) rfl fl217 dX12_memberOf_15 ?_
        refine lv_aload_n B.1 B.2.1 dX12_memberOf_18 rfl (lv_at hl 0 rfl) ?_
        refine m_geta (k := 38) B hM (by decide) rfl fl208 dX12_memberOf_19 ?_
        refine q_bip B dX12_memberOf_22 (by decide) ?_
        refine lv_iload_n B.1 B.2.1 dX12_memberOf_24 rfl (lv_at hl 1 rfl) ?_
        refine q_mul B dX12_memberOf_25 ?_
        refine lv_iload B.1 B.2.1 dX12_memberOf_26 (lv_at hl 3 rfl) ?_
        refine q_add B dX12_memberOf_28 ?_
        refine m_ild (k := 38) (i := 26) (n := 384) (z := (12 * a_k) + v3_4) (v := (A 38) ((12 * a_k) + v3_4).toNat) B hM rfl rfl rfl (by decide) dX12_memberOf_29 (by omega) (by omega) rfl ?_
        have r3 : (0 : Int) ≤ (A 38) ((12 * a_k) + v3_4).toNat ∧ (A 38) ((12 * a_k) + v3_4).toNat ≤ 399 := hM.2.2.2.2 38 ((12 * a_k) + v3_4).toNat
        refine m_lld (k := 41) (i := 29) (n := 400) (z := (A 38) ((12 * a_k) + v3_4).toNat) (v := (L 41) ((A 38) ((12 * a_k) + v3_4).toNat).toNat) B hM rfl rfl rfl (by decide) dX12_memberOf_30 (by omega) (by omega) rfl ?_
        refine lv_lload_n B.1 B.2.1 dX12_memberOf_31 rfl (lv_at hl 2 rfl) ?_
        refine q_lcmp B dX12_memberOf_32 (fun x4 lx4 ux4 ex4 => ?_)
        refine q_ine (tgt := 39) B dX12_memberOf_33 (by decide) (by unfold inr; omega) (fun c5 => ?_) (fun c5 => ?_)
        · refine q_inc (k := 3) (x := v3_4) (lv' := [(4, .int (II (v3_4 + 1))), (0, .ref h0), (1, .int (II a_k)), (2, .long a_v)]) B dX12_memberOf_39 hl rfl (by decide) rfl (fun ls hl => ?_)
          refine lv_goto (tgt := 3) B.1 B.2.1 dX12_memberOf_42 (by decide) ?_
          have hv6 : ((-2147483648 : Int) ≤ v3_4 + 1 ∧ (v3_4 + 1 : Int) ≤ 2147483647) ∧ (0 ≤ (v3_4 + 1)) ∧ ((v3_4 + 1) ≤ (A 37) ((a_k)).toNat) ∧ (0 ≤ (A 37) ((a_k)).toNat) ∧ ((A 37) ((a_k)).toNat ≤ 12) ∧ (0 ≤ (A 37) ((a_k)).toNat - (v3_4 + 1)) := by first | omega | (simp only [wr_at]; omega) | exact ⟨by first | omega | (simp only [wr_at]; omega) | assumption, by first | omega | (simp only [wr_at]; omega) | assumption, by first | omega | (simp only [wr_at]; omega) | assumption, by first | omega | (simp only [wr_at]; omega) | assumption, by first | omega | (simp only [wr_at]; omega) | assumption, by first | omega | (simp only [wr_at]; omega) | assumption⟩
          exact IH3 (v3_4 + 1) _ _ ls hM (lv_sub hl [1, 2, 3, 0] rfl) hv6.1 hv6.2.1 hv6.2.2.1 hv6.2.2.2.1 hv6.2.2.2.2.1 (by first | exact MOi_0 | exact MOi_step (by assumption) (by omega) (by omega) (fun hq => absurd (‹_ ↔ (_ : Int64) = _›.mpr hq) (by omega))) hv6.2.2.2.2.2 (by first | omega | (simp only [wr_at]; omega) | assumption)
        · refine lv_iload B.1 B.2.1 dX12_memberOf_36 (lv_at hl 3 rfl) ?_
          subst hPST
          exact m_iret B hM dX12_memberOf_38 (by unfold inr; omega) ⟨rfl, by (refine ⟨by omega, by omega, ?_⟩; first | exact MOi_hit (by assumption) (by omega) (by omega) (‹_ ↔ (_ : Int64) = _›.mp (by omega)) | exact MOi_end (by assumption) (by omega))⟩
  have hk12 : (0 : Int) ≤ (A 37) ((a_k)).toNat ∧ (A 37) ((a_k)).toNat ≤ 12 := hM.2.2.2.2 37 ((a_k)).toNat
  refine q_con B dX12_memberOf_0 ?_
  refine lv_istore (lv' := [(4, .int (II 0)), (0, .ref h0), (1, .int (II a_k)), (2, .long a_v)]) B.1 B.2.1 dX12_memberOf_1 hl (by decide) rfl (fun ls hl => ?_)
  have hv7 : ((-2147483648 : Int) ≤ 0 ∧ (0 : Int) ≤ 2147483647) ∧ (0 ≤ (0 : Int)) ∧ ((0 : Int) ≤ (A 37) ((a_k)).toNat) ∧ (0 ≤ (A 37) ((a_k)).toNat) ∧ ((A 37) ((a_k)).toNat ≤ 12) ∧ (0 ≤ (A 37) ((a_k)).toNat - (0 : Int)) := by first | omega | (simp only [wr_at]; omega) | exact ⟨by first | omega | (simp only [wr_at]; omega) | assumption, by first | omega | (simp only [wr_at]; omega) | assumption, by first | omega | (simp only [wr_at]; omega) | assumption, by first | omega | (simp only [wr_at]; omega) | assumption, by first | omega | (simp only [wr_at]; omega) | assumption, by first | omega | (simp only [wr_at]; omega) | assumption⟩
  exact LL3 (Int.toNat ((A 37) ((a_k)).toNat - (0 : Int) + 1)) 0 _ _ ls hM (lv_sub hl [1, 2, 3, 0] rfl) hv7.1 hv7.2.1 hv7.2.2.1 hv7.2.2.2.1 hv7.2.2.2.2.1 (by first | exact MOi_0 | exact MOi_step (by assumption) (by omega) (by omega) (fun hq => absurd (‹_ ↔ (_ : Int64) = _›.mpr hq) (by omega))) hv7.2.2.2.2.2 (by first | omega | (simp only [wr_at]; omega) | assumption)
set_option maxHeartbeats 4000000 in
set_option maxRecDepth 20000 in
theorem k_typeOf (l : Launch) (D : va_G) (dA : Nat → ClassId) (h0 : Nat) (ad : Nat → Nat) (f : Nat → Int) (g : Nat → Int64) (A : Nat → Nat → Int) (L : Nat → Nat → Int64) (a_kind : Int) (a_member : Int) (i_kind : (-2147483648 : Int) ≤ a_kind ∧ a_kind ≤ 2147483647) (i_member : (-2147483648 : Int) ≤ a_member ∧ a_member ≤ 2147483647) (p_0 : 0 ≤ (a_kind)) (p_1 : (a_kind) ≤ 15) (p_2 : (a_member) ≤ 11) : MCi l yX12_typeOf cX12_typeOf 3 (some .int) ({ frames := 0, cells := 0, slots := 0, locals := 0 }) D dA h0 ad (f, g, A, L) [.int (II a_kind), .int (II a_member)] (fun (r : Int) (σ : MS) => σ = (f, g, A, L) ∧ (((a_member) < 0 → r = -1) ∧ (0 ≤ (a_member) → r = (A 42) ((A 38) (12 * (16 * (f 3) + (a_kind)) + (a_member)).toNat).toNat) ∧ -1 ≤ r ∧ r ≤ 3 ∧ (0 ≤ (a_member) → 0 ≤ r))) := by
  generalize hPST : (fun (r : Int) (σ : MS) => σ = (f, g, A, L) ∧ (((a_member) < 0 → r = -1) ∧ (0 ≤ (a_member) → r = (A 42) ((A 38) (12 * (16 * (f 3) + (a_kind)) + (a_member)).toNat).toNat) ∧ -1 ≤ r ∧ r ≤ 3 ∧ (0 ≤ (a_member) → 0 ≤ r))) = PST
  refine m_enter (by decide) rfl (Nat.le_of_ble_eq_true rfl) (fun p e s m args below meth c ls B hM hl => ?_)
  have hA : ∀ q, s.heap.size ≤ q → mF dA h0 ad (f, g, A, L) s.heap.size q := fun q h => Or.inr h
  have hl : lv_has ls 3 [(0, .ref h0), (1, .int (II a_kind)), (2, .int (II a_member))] := hl
  have r1 : (0 : Int) ≤ f 3 ∧ f 3 ≤ 1 := hM.2.2.2.1 3
  refine lv_iload_n B.1 B.2.1 dX12_typeOf_0 rfl (lv_at hl 2 rfl) ?_
  refine q_ige (tgt := 8) B dX12_typeOf_1 (by decide) (by unfold inr; omega) (fun c2 => ?_) (fun c2 => ?_)
  · refine lv_aload_n B.1 B.2.1 dX12_typeOf_8 rfl (lv_at hl 0 rfl) ?_
    refine m_geta (k := 42) B hM (by decide) rfl fl220 dX12_typeOf_9 ?_
    refine lv_aload_n B.1 B.2.1 dX12_typeOf_12 rfl (lv_at hl 0 rfl) ?_
    refine m_geta (k := 38) B hM (by decide) rfl fl208 dX12_typeOf_13 ?_
    refine q_bip B dX12_typeOf_16 (by decide) ?_
    refine q_bip B dX12_typeOf_18 (by decide) ?_
    refine lv_aload_n B.1 B.2.1 dX12_typeOf_20 rfl (lv_at hl 0 rfl) ?_
    refine m_get (k := 3) (v := f 3) B hM (by decide) rfl fl11 dX12_typeOf_21 rfl ?_
    refine q_mul B dX12_typeOf_24 ?_
    refine lv_iload_n B.1 B.2.1 dX12_typeOf_25 rfl (lv_at hl 1 rfl) ?_
    refine q_add B dX12_typeOf_26 ?_
    refine q_mul B dX12_typeOf_27 ?_
    refine lv_iload_n B.1 B.2.1 dX12_typeOf_28 rfl (lv_at hl 2 rfl) ?_
    refine q_add B dX12_typeOf_29 ?_
    refine m_ild (k := 38) (i := 26) (n := 384) (z := (12 * ((16 * (f 3)) + a_kind)) + a_member) (v := (A 38) ((12 * ((16 * (f 3)) + a_kind)) + a_member).toNat) B hM rfl rfl rfl (by decide) dX12_typeOf_30 (by omega) (by omega) rfl ?_
    have r3 : (0 : Int) ≤ (A 38) ((12 * ((16 * (f 3)) + a_kind)) + a_member).toNat ∧ (A 38) ((12 * ((16 * (f 3)) + a_kind)) + a_member).toNat ≤ 399 := hM.2.2.2.2 38 ((12 * ((16 * (f 3)) + a_kind)) + a_member).toNat
    refine m_ild (k := 42) (i := 30) (n := 400) (z := (A 38) ((12 * ((16 * (f 3)) + a_kind)) + a_member).toNat) (v := (A 42) ((A 38) ((12 * ((16 * (f 3)) + a_kind)) + a_member).toNat).toNat) B hM rfl rfl rfl (by decide) dX12_typeOf_31 (by omega) (by omega) rfl ?_
    have r4 : (0 : Int) ≤ (A 42) ((A 38) ((12 * ((16 * (f 3)) + a_kind)) + a_member).toNat).toNat ∧ (A 42) ((A 38) ((12 * ((16 * (f 3)) + a_kind)) + a_member).toNat).toNat ≤ 3 := hM.2.2.2.2 42 ((A 38) ((12 * ((16 * (f 3)) + a_kind)) + a_member).toNat).toNat
    subst hPST
    have hv5 : (((a_member) < 0 → ((A 42) ((A 38) ((12 * ((16 * (f 3)) + a_kind)) + a_member).toNat).toNat) = -1)) ∧ ((0 ≤ (a_member) → ((A 42) ((A 38) ((12 * ((16 * (f 3)) + a_kind)) + a_member).toNat).toNat) = (A 42) ((A 38) (12 * (16 * (f 3) + (a_kind)) + (a_member)).toNat).toNat)) ∧ (-1 ≤ ((A 42) ((A 38) ((12 * ((16 * (f 3)) + a_kind)) + a_member).toNat).toNat)) ∧ (((A 42) ((A 38) ((12 * ((16 * (f 3)) + a_kind)) + a_member).toNat).toNat) ≤ 3) ∧ ((0 ≤ (a_member) → 0 ≤ ((A 42) ((A 38) ((12 * ((16 * (f 3)) + a_kind)) + a_member).toNat).toNat))) := by first | omega | (simp only [wr_at]; omega) | exact ⟨by first | omega | (simp only [wr_at]; omega) | assumption, by first | omega | (simp only [wr_at]; omega) | assumption, by first | omega | (simp only [wr_at]; omega) | assumption, by first | omega | (simp only [wr_at]; omega) | assumption, by first | omega | (simp only [wr_at]; omega) | assumption⟩
    exact m_iret B hM dX12_typeOf_32 (by unfold inr; omega) ⟨rfl, hv5.1, hv5.2.1, hv5.2.2.1, hv5.2.2.2.1, hv5.2.2.2.2⟩
  · refine q_con B dX12_typeOf_4 ?_
    refine lv_goto (tgt := 32) B.1 B.2.1 dX12_typeOf_5 (by decide) ?_
    subst hPST
    have hv6 : (((a_member) < 0 → (-1) = -1)) ∧ ((0 ≤ (a_member) → (-1) = (A 42) ((A 38) (12 * (16 * (f 3) + (a_kind)) + (a_member)).toNat).toNat)) ∧ (-1 ≤ (-1)) ∧ ((-1) ≤ 3) ∧ ((0 ≤ (a_member) → 0 ≤ (-1))) := by first | omega | (simp only [wr_at]; omega) | exact ⟨by first | omega | (simp only [wr_at]; omega) | assumption, by first | omega | (simp only [wr_at]; omega) | assumption, by first | omega | (simp only [wr_at]; omega) | assumption, by first | omega | (simp only [wr_at]; omega) | assumption, by first | omega | (simp only [wr_at]; omega) | assumption⟩
    exact m_iret B hM dX12_typeOf_32 (by unfold inr; omega) ⟨rfl, hv6.1, hv6.2.1, hv6.2.2.1, hv6.2.2.2.1, hv6.2.2.2.2⟩
set_option maxHeartbeats 4000000 in
set_option maxRecDepth 20000 in
theorem k_kindIn (l : Launch) (D : va_G) (dA : Nat → ClassId) (h0 : Nat) (ad : Nat → Nat) (f : Nat → Int) (g : Nat → Int64) (A : Nat → Nat → Int) (L : Nat → Nat → Int64) (a_kind : Int) (a_member : Int) (i_kind : (-2147483648 : Int) ≤ a_kind ∧ a_kind ≤ 2147483647) (i_member : (-2147483648 : Int) ≤ a_member ∧ a_member ≤ 2147483647) (p_0 : 0 ≤ (a_kind)) (p_1 : (a_kind) ≤ 15) (p_2 : 0 ≤ (a_member)) (p_3 : (a_member) ≤ 11) : MCi l yX12_kindIn cX12_kindIn 3 (some .int) ({ frames := 0, cells := 0, slots := 0, locals := 0 }) D dA h0 ad (f, g, A, L) [.int (II a_kind), .int (II a_member)] (fun (r : Int) (σ : MS) => σ = (f, g, A, L) ∧ (r = (A 43) ((A 38) (12 * (16 * (f 3) + (a_kind)) + (a_member)).toNat).toNat ∧ -1 ≤ r ∧ r ≤ 15)) := by
  generalize hPST : (fun (r : Int) (σ : MS) => σ = (f, g, A, L) ∧ (r = (A 43) ((A 38) (12 * (16 * (f 3) + (a_kind)) + (a_member)).toNat).toNat ∧ -1 ≤ r ∧ r ≤ 15)) = PST
  refine m_enter (by decide) rfl (Nat.le_of_ble_eq_true rfl) (fun p e s m args below meth c ls B hM hl => ?_)
  have hA : ∀ q, s.heap.size ≤ q → mF dA h0 ad (f, g, A, L) s.heap.size q := fun q h => Or.inr h
  have hl : lv_has ls 3 [(0, .ref h0), (1, .int (II a_kind)), (2, .int (II a_member))] := hl
  have r1 : (0 : Int) ≤ f 3 ∧ f 3 ≤ 1 := hM.2.2.2.1 3
  refine lv_aload_n B.1 B.2.1 dX12_kindIn_0 rfl (lv_at hl 0 rfl) ?_
  refine m_geta (k := 43) B hM (by decide) rfl fl223 dX12_kindIn_1 ?_
  refine lv_aload_n B.1 B.2.1 dX12_kindIn_4 rfl (lv_at hl 0 rfl) ?_
  refine m_geta (k := 38) B hM (by decide) rfl fl208 dX12_kindIn_5 ?_
  refine q_bip B dX12_kindIn_8 (by decide) ?_
  refine q_bip B dX12_kindIn_10 (by decide) ?_
  refine lv_aload_n B.1 B.2.1 dX12_kindIn_12 rfl (lv_at hl 0 rfl) ?_
  refine m_get (k := 3) (v := f 3) B hM (by decide) rfl fl11 dX12_kindIn_13 rfl ?_
  refine q_mul B dX12_kindIn_16 ?_
  refine lv_iload_n B.1 B.2.1 dX12_kindIn_17 rfl (lv_at hl 1 rfl) ?_
  refine q_add B dX12_kindIn_18 ?_
  refine q_mul B dX12_kindIn_19 ?_
  refine lv_iload_n B.1 B.2.1 dX12_kindIn_20 rfl (lv_at hl 2 rfl) ?_
  refine q_add B dX12_kindIn_21 ?_
  refine m_ild (k := 38) (i := 26) (n := 384) (z := (12 * ((16 * (f 3)) + a_kind)) + a_member) (v := (A 38) ((12 * ((16 * (f 3)) + a_kind)) + a_member).toNat) B hM rfl rfl rfl (by decide) dX12_kindIn_22 (by omega) (by omega) rfl ?_
  have r2 : (0 : Int) ≤ (A 38) ((12 * ((16 * (f 3)) + a_kind)) + a_member).toNat ∧ (A 38) ((12 * ((16 * (f 3)) + a_kind)) + a_member).toNat ≤ 399 := hM.2.2.2.2 38 ((12 * ((16 * (f 3)) + a_kind)) + a_member).toNat
  refine m_ild (k := 43) (i := 31) (n := 400) (z := (A 38) ((12 * ((16 * (f 3)) + a_kind)) + a_member).toNat) (v := (A 43) ((A 38) ((12 * ((16 * (f 3)) + a_kind)) + a_member).toNat).toNat) B hM rfl rfl rfl (by decide) dX12_kindIn_23 (by omega) (by omega) rfl ?_
  have r3 : (-1 : Int) ≤ (A 43) ((A 38) ((12 * ((16 * (f 3)) + a_kind)) + a_member).toNat).toNat ∧ (A 43) ((A 38) ((12 * ((16 * (f 3)) + a_kind)) + a_member).toNat).toNat ≤ 15 := hM.2.2.2.2 43 ((A 38) ((12 * ((16 * (f 3)) + a_kind)) + a_member).toNat).toNat
  subst hPST
  have hv4 : (((A 43) ((A 38) ((12 * ((16 * (f 3)) + a_kind)) + a_member).toNat).toNat) = (A 43) ((A 38) (12 * (16 * (f 3) + (a_kind)) + (a_member)).toNat).toNat) ∧ (-1 ≤ ((A 43) ((A 38) ((12 * ((16 * (f 3)) + a_kind)) + a_member).toNat).toNat)) ∧ (((A 43) ((A 38) ((12 * ((16 * (f 3)) + a_kind)) + a_member).toNat).toNat) ≤ 15) := by first | omega | (simp only [wr_at]; omega) | exact ⟨by first | omega | (simp only [wr_at]; omega) | assumption, by first | omega | (simp only [wr_at]; omega) | assumption, by first | omega | (simp only [wr_at]; omega) | assumption⟩
  exact m_iret B hM dX12_kindIn_24 (by unfold inr; omega) ⟨rfl, hv4.1, hv4.2.1, hv4.2.2⟩
set_option maxHeartbeats 4000000 in
set_option maxRecDepth 20000 in
theorem k_isFor (l : Launch) (D : va_G) (dA : Nat → ClassId) (h0 : Nat) (ad : Nat → Nat) (f : Nat → Int) (g : Nat → Int64) (A : Nat → Nat → Int) (L : Nat → Nat → Int64) (a_w : Int) (a_kind : Int) (a_member : Int) (i_w : (-2147483648 : Int) ≤ a_w ∧ a_w ≤ 2147483647) (i_kind : (-2147483648 : Int) ≤ a_kind ∧ a_kind ≤ 2147483647) (i_member : (-2147483648 : Int) ≤ a_member ∧ a_member ≤ 2147483647) (p_0 : 0 ≤ (a_kind)) (p_1 : (a_kind) ≤ 15) (p_2 : (a_member) ≤ 11) : MCi l yX12_isFor cX12_isFor 5 (some .boolean) ({ frames := 1, cells := 0, slots := 0, locals := 22 }) D dA h0 ad (f, g, A, L) [.int (II a_w), .int (II a_kind), .int (II a_member)] (fun (r : Int) (σ : MS) => σ = (f, g, A, L) ∧ (0 ≤ r ∧ r ≤ 1 ∧ (r = 1 → ((a_member) < 0 → (a_w) = 7 ∨ (a_w) = 8) ∧ (0 ≤ (a_member) → (a_w) ≠ 7 ∧ (a_w) ≠ 8 ∧ ((a_w) = 2 → 2 ≤ (A 42) ((A 38) (12 * (16 * (f 3) + (a_kind)) + (a_member)).toNat).toNat))))) := by
  generalize hPST : (fun (r : Int) (σ : MS) => σ = (f, g, A, L) ∧ (0 ≤ r ∧ r ≤ 1 ∧ (r = 1 → ((a_member) < 0 → (a_w) = 7 ∨ (a_w) = 8) ∧ (0 ≤ (a_member) → (a_w) ≠ 7 ∧ (a_w) ≠ 8 ∧ ((a_w) = 2 → 2 ≤ (A 42) ((A 38) (12 * (16 * (f 3) + (a_kind)) + (a_member)).toNat).toNat))))) = PST
  refine m_enter (by decide) rfl (Nat.le_of_ble_eq_true rfl) (fun p e s m args below meth c ls B hM hl => ?_)
  have hA : ∀ q, s.heap.size ≤ q → mF dA h0 ad (f, g, A, L) s.heap.size q := fun q h => Or.inr h
  have hl : lv_has ls 5 [(0, .ref h0), (1, .int (II a_w)), (2, .int (II a_kind)), (3, .int (II a_member))] := hl
  have r1 : (0 : Int) ≤ f 3 ∧ f 3 ≤ 1 := hM.2.2.2.1 3
  refine lv_aload_n B.1 B.2.1 dX12_isFor_0 rfl (lv_at hl 0 rfl) ?_
  refine lv_iload_n B.1 B.2.1 dX12_isFor_1 rfl (lv_at hl 2 rfl) ?_
  refine lv_iload_n B.1 B.2.1 dX12_isFor_2 rfl (lv_at hl 3 rfl) ?_
  have hv2 : ((-2147483648 : Int) ≤ a_kind ∧ (a_kind : Int) ≤ 2147483647) ∧ ((-2147483648 : Int) ≤ a_member ∧ (a_member : Int) ≤ 2147483647) ∧ (0 ≤ (a_kind)) ∧ ((a_kind) ≤ 15) ∧ ((a_member) ≤ 11) := by first | omega | (simp only [wr_at]; omega) | exact ⟨by first | omega | (simp only [wr_at]; omega) | assumption, by first | omega | (simp only [wr_at]; omega) | assumption, by first | omega | (simp only [wr_at]; omega) | assumption, by first | omega | (simp only [wr_at]; omega) | assumption, by first | omega | (simp only [wr_at]; omega) | assumption⟩
  refine m_calli (n := 2) (rest := []) B hM hA hl.1 (k_typeOf l D dA h0 ad f g A L a_kind a_member hv2.1 hv2.2.1 hv2.2.2.1 hv2.2.2.2.1 hv2.2.2.2.2) rfl ok_typeOf nm_typeOf ⟨rfl, rfl⟩ ⟨Nat.le_of_ble_eq_true rfl, Nat.le_of_ble_eq_true rfl⟩ dX12_isFor_3 rfl rfl (Nat.le_of_ble_eq_true rfl) ⟨Nat.zero_le _, Nat.zero_le _⟩ (fun r3 σr3 H locs ir3 hp4 hM => ?_)
  obtain ⟨rfl, hp4⟩ := hp4
  unfold inr at ir3
  replace hp4 : ((a_member) < 0 → r3 = -1) ∧ (0 ≤ (a_member) → r3 = (A 42) ((A 38) (12 * (16 * (f 3) + (a_kind)) + (a_member)).toNat).toNat) ∧ -1 ≤ r3 ∧ r3 ≤ 3 ∧ (0 ≤ (a_member) → 0 ≤ r3) := hp4
  obtain ⟨hp4_0, hp4_1, hp4_2, hp4_3, hp4_4⟩ := hp4
  refine lv_istore (lv' := [(4, .int (II r3)), (0, .ref h0), (1, .int (II a_w)), (2, .int (II a_kind)), (3, .int (II a_member))]) B.1 B.2.1 dX12_isFor_6 hl (by decide) rfl (fun ls hl => ?_)
  refine lv_iload_n B.1 B.2.1 dX12_isFor_8 rfl (lv_at hl 2 rfl) ?_
  refine q_bip B dX12_isFor_9 (by decide) ?_
  refine q_ceq (tgt := 20) B dX12_isFor_11 (by decide) (by unfold inr; omega) (by unfold inr; omega) (fun c5 => ?_) (fun c5 => ?_)
  · refine lv_iload B.1 B.2.1 dX12_isFor_20 (lv_at hl 0 rfl) ?_
    refine q_con B dX12_isFor_22 ?_
    refine q_cne (tgt := 30) B dX12_isFor_23 (by decide) (by unfold inr; omega) (by unfold inr; omega) (fun c6 => ?_) (fun c6 => ?_)
    · refine q_con B dX12_isFor_30 ?_
      subst hPST
      exact m_zret B hM dX12_isFor_31 (by omega) ⟨rfl, by omega⟩
    · refine q_con B dX12_isFor_26 ?_
      refine lv_goto (tgt := 31) B.1 B.2.1 dX12_isFor_27 (by decide) ?_
      subst hPST
      exact m_zret B hM dX12_isFor_31 (by omega) ⟨rfl, by omega⟩
  · refine lv_iload_n B.1 B.2.1 dX12_isFor_14 rfl (lv_at hl 2 rfl) ?_
    refine q_bip B dX12_isFor_15 (by decide) ?_
    refine q_cne (tgt := 32) B dX12_isFor_17 (by decide) (by unfold inr; omega) (by unfold inr; omega) (fun c7 => ?_) (fun c7 => ?_)
    · refine lv_iload B.1 B.2.1 dX12_isFor_32 (lv_at hl 0 rfl) ?_
      refine q_con B dX12_isFor_34 ?_
      refine q_cne (tgt := 40) B dX12_isFor_35 (by decide) (by unfold inr; omega) (by unfold inr; omega) (fun c8 => ?_) (fun c8 => ?_)
      · refine lv_iload_n B.1 B.2.1 dX12_isFor_40 rfl (lv_at hl 2 rfl) ?_
        refine q_con B dX12_isFor_41 ?_
        refine q_cne (tgt := 47) B dX12_isFor_42 (by decide) (by unfold inr; omega) (by unfold inr; omega) (fun c9 => ?_) (fun c9 => ?_)
        · refine lv_iload_n B.1 B.2.1 dX12_isFor_47 rfl (lv_at hl 2 rfl) ?_
          refine q_con B dX12_isFor_48 ?_
          refine q_cne (tgt := 70) B dX12_isFor_49 (by decide) (by unfold inr; omega) (by unfold inr; omega) (fun c10 => ?_) (fun c10 => ?_)
          · refine lv_iload_n B.1 B.2.1 dX12_isFor_70 rfl (lv_at hl 2 rfl) ?_
            refine q_con B dX12_isFor_71 ?_
            refine q_cne (tgt := 95) B dX12_isFor_72 (by decide) (by unfold inr; omega) (by unfold inr; omega) (fun c11 => ?_) (fun c11 => ?_)
            · refine lv_iload B.1 B.2.1 dX12_isFor_95 (lv_at hl 0 rfl) ?_
              refine q_ine (tgt := 104) B dX12_isFor_97 (by decide) (by unfold inr; omega) (fun c12 => ?_) (fun c12 => ?_)
              · refine q_con B dX12_isFor_104 ?_
                subst hPST
                exact m_zret B hM dX12_isFor_105 (by omega) ⟨rfl, by omega⟩
              · refine q_con B dX12_isFor_100 ?_
                refine lv_goto (tgt := 105) B.1 B.2.1 dX12_isFor_101 (by decide) ?_
                subst hPST
                exact m_zret B hM dX12_isFor_105 (by omega) ⟨rfl, by omega⟩
            · refine lv_iload B.1 B.2.1 dX12_isFor_75 (lv_at hl 0 rfl) ?_
              refine q_con B dX12_isFor_77 ?_
              refine q_ceq (tgt := 87) B dX12_isFor_78 (by decide) (by unfold inr; omega) (by unfold inr; omega) (fun c13 => ?_) (fun c13 => ?_)
              · refine q_con B dX12_isFor_87 ?_
                refine lv_goto (tgt := 105) B.1 B.2.1 dX12_isFor_88 (by decide) ?_
                subst hPST
                exact m_zret B hM dX12_isFor_105 (by omega) ⟨rfl, by omega⟩
              · refine lv_iload B.1 B.2.1 dX12_isFor_81 (lv_at hl 0 rfl) ?_
                refine q_con B dX12_isFor_83 ?_
                refine q_cne (tgt := 91) B dX12_isFor_84 (by decide) (by unfold inr; omega) (by unfold inr; omega) (fun c14 => ?_) (fun c14 => ?_)
                · refine q_con B dX12_isFor_91 ?_
                  refine lv_goto (tgt := 105) B.1 B.2.1 dX12_isFor_92 (by decide) ?_
                  subst hPST
                  exact m_zret B hM dX12_isFor_105 (by omega) ⟨rfl, by omega⟩
                · refine q_con B dX12_isFor_87 ?_
                  refine lv_goto (tgt := 105) B.1 B.2.1 dX12_isFor_88 (by decide) ?_
                  subst hPST
                  exact m_zret B hM dX12_isFor_105 (by omega) ⟨rfl, by omega⟩
          · refine lv_iload B.1 B.2.1 dX12_isFor_52 (lv_at hl 0 rfl) ?_
            refine q_con B dX12_isFor_54 ?_
            refine q_ceq (tgt := 64) B dX12_isFor_55 (by decide) (by unfold inr; omega) (by unfold inr; omega) (fun c15 => ?_) (fun c15 => ?_)
            · refine q_con B dX12_isFor_64 ?_
              refine lv_goto (tgt := 69) B.1 B.2.1 dX12_isFor_65 (by decide) ?_
              subst hPST
              exact m_zret B hM dX12_isFor_69 (by omega) ⟨rfl, by omega⟩
            · refine lv_iload B.1 B.2.1 dX12_isFor_58 (lv_at hl 0 rfl) ?_
              refine q_con B dX12_isFor_60 ?_
              refine q_cne (tgt := 68) B dX12_isFor_61 (by decide) (by unfold inr; omega) (by unfold inr; omega) (fun c16 => ?_) (fun c16 => ?_)
              · refine q_con B dX12_isFor_68 ?_
                subst hPST
                exact m_zret B hM dX12_isFor_69 (by omega) ⟨rfl, by omega⟩
              · refine q_con B dX12_isFor_64 ?_
                refine lv_goto (tgt := 69) B.1 B.2.1 dX12_isFor_65 (by decide) ?_
                subst hPST
                exact m_zret B hM dX12_isFor_69 (by omega) ⟨rfl, by omega⟩
        · refine q_con B dX12_isFor_45 ?_
          subst hPST
          exact m_zret B hM dX12_isFor_46 (by omega) ⟨rfl, by omega⟩
      · refine q_con B dX12_isFor_38 ?_
        subst hPST
        exact m_zret B hM dX12_isFor_39 (by omega) ⟨rfl, by omega⟩
    · refine lv_iload B.1 B.2.1 dX12_isFor_20 (lv_at hl 0 rfl) ?_
      refine q_con B dX12_isFor_22 ?_
      refine q_cne (tgt := 30) B dX12_isFor_23 (by decide) (by unfold inr; omega) (by unfold inr; omega) (fun c17 => ?_) (fun c17 => ?_)
      · refine q_con B dX12_isFor_30 ?_
        subst hPST
        exact m_zret B hM dX12_isFor_31 (by omega) ⟨rfl, by omega⟩
      · refine q_con B dX12_isFor_26 ?_
        refine lv_goto (tgt := 31) B.1 B.2.1 dX12_isFor_27 (by decide) ?_
        subst hPST
        exact m_zret B hM dX12_isFor_31 (by omega) ⟨rfl, by omega⟩
set_option maxHeartbeats 4000000 in
set_option maxRecDepth 20000 in
theorem k_areNumbers (l : Launch) (D : va_G) (dA : Nat → ClassId) (h0 : Nat) (ad : Nat → Nat) (f : Nat → Int) (g : Nat → Int64) (A : Nat → Nat → Int) (L : Nat → Nat → Int64) (a_u : Int) (i_u : (-2147483648 : Int) ≤ a_u ∧ a_u ≤ 2147483647) (p_0 : 0 ≤ (a_u)) (p_1 : (a_u) ≤ 3199) : MCi l yX12_areNumbers cX12_areNumbers 4 (some .boolean) ({ frames := 0, cells := 0, slots := 0, locals := 0 }) D dA h0 ad (f, g, A, L) [.int (II a_u)] (fun (r : Int) (σ : MS) => σ = (f, g, A, L) ∧ (0 ≤ r ∧ r ≤ 1)) := by
  generalize hPST : (fun (r : Int) (σ : MS) => σ = (f, g, A, L) ∧ (0 ≤ r ∧ r ≤ 1)) = PST
  refine m_enter (by decide) rfl (Nat.le_of_ble_eq_true rfl) (fun p e s m args below meth c ls B hM hl => ?_)
  have hA : ∀ q, s.heap.size ≤ q → mF dA h0 ad (f, g, A, L) s.heap.size q := fun q h => Or.inr h
  have hl : lv_has ls 4 [(0, .ref h0), (1, .int (II a_u))] := hl
  have LL4 : ∀ N : Nat, ∀ (v4_2 : Int) (v4_3 : Int) (H : Heap) (locs : List Loc) (ls : Array Slot), (MWd D dA h0 ad (mF dA h0 ad (f, g, A, L) s.heap.size) s.heap (f, g, A, L) H locs) → lv_has ls 4 [(0, .ref h0), (1, .int (II a_u)), (2, .int (II v4_2)), (3, .int (II v4_3))] → ((-2147483648 : Int) ≤ v4_2 ∧ v4_2 ≤ 2147483647) → ((-2147483648 : Int) ≤ v4_3 ∧ v4_3 ≤ 2147483647) → (0 ≤ (v4_2)) → ((v4_2) ≤ 1) → (0 ≤ (v4_3)) → ((v4_3) ≤ 4) → (0 ≤ 4 - (v4_3)) → (4 - (v4_3) < (N : Int)) → W p l e ({ frames := 0, cells := 0, slots := 0, locals := 0 }) s m args below meth c H locs 0 0 (MQ below (mQi D dA h0 ad (f, g, A, L) s.heap.size PST) args s 0 0 (mF dA h0 ad (f, g, A, L) s.heap.size)) (F0 m 4 ls []) := by
    intro N
    induction N with
    | zero => intro v4_2 v4_3 H locs ls hM hl hLL4_0 hLL4_1 hLL4_2 hLL4_3 hLL4_4 hLL4_5 hLL4_6 hN; exfalso; omega
    | succ N IH4 =>
      intro v4_2 v4_3 H locs ls hM hl hLL4_0 hLL4_1 hLL4_2 hLL4_3 hLL4_4 hLL4_5 hLL4_6 hN
      refine lv_iload_n B.1 B.2.1 dX12_areNumbers_4 rfl (lv_at hl 3 rfl) ?_
      refine lv_aload_n B.1 B.2.1 dX12_areNumbers_5 rfl (lv_at hl 0 rfl) ?_
      refine m_geta (k := 47) B hM (by decide) rfl fl235 dX12_areNumbers_6 ?_
      refine lv_iload_n B.1 B.2.1 dX12_areNumbers_9 rfl (lv_at hl 1 rfl) ?_
      refine m_ild (k := 47) (i := 35) (n := 3200) (z := a_u) (v := (A 47) a_u.toNat) B hM rfl rfl rfl (by decide) dX12_areNumbers_10 (by omega) (by omega) rfl ?_
      have r1 : (0 : Int) ≤ (A 47) a_u.toNat ∧ (A 47) a_u.toNat ≤ 4 := hM.2.2.2.2 47 a_u.toNat
      refine q_cge (tgt := 45) B dX12_areNumbers_11 (by decide) (by unfold inr; omega) (by unfold inr; omega) (fun c2 => ?_) (fun c2 => ?_)
      · refine lv_iload_n B.1 B.2.1 dX12_areNumbers_45 rfl (lv_at hl 2 rfl) ?_
        subst hPST
        have hv3 : (0 ≤ v4_2) ∧ (v4_2 ≤ 1) := by first | omega | (simp only [wr_at]; omega) | exact ⟨by first | omega | (simp only [wr_at]; omega) | assumption, by first | omega | (simp only [wr_at]; omega) | assumption⟩
        exact m_zret B hM dX12_areNumbers_46 (by omega) ⟨rfl, hv3.1, hv3.2⟩
      · refine lv_iload_n B.1 B.2.1 dX12_areNumbers_14 rfl (lv_at hl 2 rfl) ?_
        refine q_ieq (tgt := 37) B dX12_areNumbers_15 (by decide) (by unfold inr; omega) (fun c4 => ?_) (fun c4 => ?_)
        · refine q_con B dX12_areNumbers_37 ?_
          refine lv_istore_n (lv' := [(2, .int (II 0)), (0, .ref h0), (1, .int (II a_u)), (3, .int (II v4_3))]) B.1 B.2.1 dX12_areNumbers_38 rfl hl (by decide) rfl (fun ls hl => ?_)
          refine q_inc (k := 3) (x := v4_3) (lv' := [(3, .int (II (v4_3 + 1))), (2, .int (II 0)), (0, .ref h0), (1, .int (II a_u))]) B dX12_areNumbers_39 hl rfl (by decide) rfl (fun ls hl => ?_)
          refine lv_goto (tgt := 4) B.1 B.2.1 dX12_areNumbers_42 (by decide) ?_
          have hv5 : ((-2147483648 : Int) ≤ 0 ∧ (0 : Int) ≤ 2147483647) ∧ ((-2147483648 : Int) ≤ v4_3 + 1 ∧ (v4_3 + 1 : Int) ≤ 2147483647) ∧ (0 ≤ (0 : Int)) ∧ ((0 : Int) ≤ 1) ∧ (0 ≤ (v4_3 + 1)) ∧ ((v4_3 + 1) ≤ 4) ∧ (0 ≤ 4 - (v4_3 + 1)) := by first | omega | (simp only [wr_at]; omega) | exact ⟨by first | omega | (simp only [wr_at]; omega) | assumption, by first | omega | (simp only [wr_at]; omega) | assumption, by first | omega | (simp only [wr_at]; omega) | assumption, by first | omega | (simp only [wr_at]; omega) | assumption, by first | omega | (simp only [wr_at]; omega) | assumption, by first | omega | (simp only [wr_at]; omega) | assumption, by first | omega | (simp only [wr_at]; omega) | assumption⟩
          exact IH4 0 (v4_3 + 1) _ _ ls hM (lv_sub hl [2, 3, 1, 0] rfl) hv5.1 hv5.2.1 hv5.2.2.1 hv5.2.2.2.1 hv5.2.2.2.2.1 hv5.2.2.2.2.2.1 hv5.2.2.2.2.2.2 (by first | omega | (simp only [wr_at]; omega) | assumption)
        · refine lv_aload_n B.1 B.2.1 dX12_areNumbers_18 rfl (lv_at hl 0 rfl) ?_
          refine m_geta (k := 55) B hM (by decide) rfl fl260 dX12_areNumbers_19 ?_
          refine q_con B dX12_areNumbers_22 ?_
          refine lv_iload_n B.1 B.2.1 dX12_areNumbers_23 rfl (lv_at hl 1 rfl) ?_
          refine q_mul B dX12_areNumbers_24 ?_
          refine lv_iload_n B.1 B.2.1 dX12_areNumbers_25 rfl (lv_at hl 3 rfl) ?_
          refine q_add B dX12_areNumbers_26 ?_
          refine m_lld (k := 55) (i := 43) (n := 12800) (z := (4 * a_u) + v4_3) (v := (L 55) ((4 * a_u) + v4_3).toNat) B hM rfl rfl rfl (by decide) dX12_areNumbers_27 (by omega) (by omega) rfl ?_
          refine lv_lconst (v := 0) B.1 B.2.1 dX12_areNumbers_28 (by decide) ?_
          refine q_lcmp B dX12_areNumbers_29 (fun x6 lx6 ux6 ex6 => ?_)
          refine q_ine (tgt := 37) B dX12_areNumbers_30 (by decide) (by unfold inr; omega) (fun c7 => ?_) (fun c7 => ?_)
          · refine q_con B dX12_areNumbers_37 ?_
            refine lv_istore_n (lv' := [(2, .int (II 0)), (0, .ref h0), (1, .int (II a_u)), (3, .int (II v4_3))]) B.1 B.2.1 dX12_areNumbers_38 rfl hl (by decide) rfl (fun ls hl => ?_)
            refine q_inc (k := 3) (x := v4_3) (lv' := [(3, .int (II (v4_3 + 1))), (2, .int (II 0)), (0, .ref h0), (1, .int (II a_u))]) B dX12_areNumbers_39 hl rfl (by decide) rfl (fun ls hl => ?_)
            refine lv_goto (tgt := 4) B.1 B.2.1 dX12_areNumbers_42 (by decide) ?_
            have hv8 : ((-2147483648 : Int) ≤ 0 ∧ (0 : Int) ≤ 2147483647) ∧ ((-2147483648 : Int) ≤ v4_3 + 1 ∧ (v4_3 + 1 : Int) ≤ 2147483647) ∧ (0 ≤ (0 : Int)) ∧ ((0 : Int) ≤ 1) ∧ (0 ≤ (v4_3 + 1)) ∧ ((v4_3 + 1) ≤ 4) ∧ (0 ≤ 4 - (v4_3 + 1)) := by first | omega | (simp only [wr_at]; omega) | exact ⟨by first | omega | (simp only [wr_at]; omega) | assumption, by first | omega | (simp only [wr_at]; omega) | assumption, by first | omega | (simp only [wr_at]; omega) | assumption, by first | omega | (simp only [wr_at]; omega) | assumption, by first | omega | (simp only [wr_at]; omega) | assumption, by first | omega | (simp only [wr_at]; omega) | assumption, by first | omega | (simp only [wr_at]; omega) | assumption⟩
            exact IH4 0 (v4_3 + 1) _ _ ls hM (lv_sub hl [2, 3, 1, 0] rfl) hv8.1 hv8.2.1 hv8.2.2.1 hv8.2.2.2.1 hv8.2.2.2.2.1 hv8.2.2.2.2.2.1 hv8.2.2.2.2.2.2 (by first | omega | (simp only [wr_at]; omega) | assumption)
          · refine q_con B dX12_areNumbers_33 ?_
            refine lv_goto (tgt := 38) B.1 B.2.1 dX12_areNumbers_34 (by decide) ?_
            refine lv_istore_n (lv' := [(2, .int (II 1)), (0, .ref h0), (1, .int (II a_u)), (3, .int (II v4_3))]) B.1 B.2.1 dX12_areNumbers_38 rfl hl (by decide) rfl (fun ls hl => ?_)
            refine q_inc (k := 3) (x := v4_3) (lv' := [(3, .int (II (v4_3 + 1))), (2, .int (II 1)), (0, .ref h0), (1, .int (II a_u))]) B dX12_areNumbers_39 hl rfl (by decide) rfl (fun ls hl => ?_)
            refine lv_goto (tgt := 4) B.1 B.2.1 dX12_areNumbers_42 (by decide) ?_
            have hv9 : ((-2147483648 : Int) ≤ 1 ∧ (1 : Int) ≤ 2147483647) ∧ ((-2147483648 : Int) ≤ v4_3 + 1 ∧ (v4_3 + 1 : Int) ≤ 2147483647) ∧ (0 ≤ (1 : Int)) ∧ ((1 : Int) ≤ 1) ∧ (0 ≤ (v4_3 + 1)) ∧ ((v4_3 + 1) ≤ 4) ∧ (0 ≤ 4 - (v4_3 + 1)) := by first | omega | (simp only [wr_at]; omega) | exact ⟨by first | omega | (simp only [wr_at]; omega) | assumption, by first | omega | (simp only [wr_at]; omega) | assumption, by first | omega | (simp only [wr_at]; omega) | assumption, by first | omega | (simp only [wr_at]; omega) | assumption, by first | omega | (simp only [wr_at]; omega) | assumption, by first | omega | (simp only [wr_at]; omega) | assumption, by first | omega | (simp only [wr_at]; omega) | assumption⟩
            exact IH4 1 (v4_3 + 1) _ _ ls hM (lv_sub hl [2, 3, 1, 0] rfl) hv9.1 hv9.2.1 hv9.2.2.1 hv9.2.2.2.1 hv9.2.2.2.2.1 hv9.2.2.2.2.2.1 hv9.2.2.2.2.2.2 (by first | omega | (simp only [wr_at]; omega) | assumption)
  refine q_con B dX12_areNumbers_0 ?_
  refine lv_istore_n (lv' := [(2, .int (II 1)), (0, .ref h0), (1, .int (II a_u))]) B.1 B.2.1 dX12_areNumbers_1 rfl hl (by decide) rfl (fun ls hl => ?_)
  refine q_con B dX12_areNumbers_2 ?_
  refine lv_istore_n (lv' := [(3, .int (II 0)), (2, .int (II 1)), (0, .ref h0), (1, .int (II a_u))]) B.1 B.2.1 dX12_areNumbers_3 rfl hl (by decide) rfl (fun ls hl => ?_)
  have hv10 : ((-2147483648 : Int) ≤ 1 ∧ (1 : Int) ≤ 2147483647) ∧ ((-2147483648 : Int) ≤ 0 ∧ (0 : Int) ≤ 2147483647) ∧ (0 ≤ (1 : Int)) ∧ ((1 : Int) ≤ 1) ∧ (0 ≤ (0 : Int)) ∧ ((0 : Int) ≤ 4) ∧ (0 ≤ 4 - (0 : Int)) := by first | omega | (simp only [wr_at]; omega) | exact ⟨by first | omega | (simp only [wr_at]; omega) | assumption, by first | omega | (simp only [wr_at]; omega) | assumption, by first | omega | (simp only [wr_at]; omega) | assumption, by first | omega | (simp only [wr_at]; omega) | assumption, by first | omega | (simp only [wr_at]; omega) | assumption, by first | omega | (simp only [wr_at]; omega) | assumption, by first | omega | (simp only [wr_at]; omega) | assumption⟩
  exact LL4 (Int.toNat (4 - (0 : Int) + 1)) 1 0 _ _ ls hM (lv_sub hl [2, 3, 1, 0] rfl) hv10.1 hv10.2.1 hv10.2.2.1 hv10.2.2.2.1 hv10.2.2.2.2.1 hv10.2.2.2.2.2.1 hv10.2.2.2.2.2.2 (by first | omega | (simp only [wr_at]; omega) | assumption)
set_option maxHeartbeats 4000000 in
set_option maxRecDepth 20000 in
theorem k_intMember (l : Launch) (D : va_G) (dA : Nat → ClassId) (h0 : Nat) (ad : Nat → Nat) (f : Nat → Int) (g : Nat → Int64) (A : Nat → Nat → Int) (L : Nat → Nat → Int64) (a_u : Int) (a_i : Int) (a_kind : Int) (i_u : (-2147483648 : Int) ≤ a_u ∧ a_u ≤ 2147483647) (i_i : (-2147483648 : Int) ≤ a_i ∧ a_i ≤ 2147483647) (i_kind : (-2147483648 : Int) ≤ a_kind ∧ a_kind ≤ 2147483647) (p_0 : 0 ≤ (a_u)) (p_1 : (a_u) ≤ 3199) (p_2 : 0 ≤ (a_i)) (p_3 : (a_i) ≤ 3) (p_4 : 0 ≤ (a_kind)) (p_5 : (a_kind) ≤ 15) : MCi l yX12_intMember cX12_intMember 5 (some .int) ({ frames := 1, cells := 0, slots := 0, locals := 24 }) D dA h0 ad (f, g, A, L) [.int (II a_u), .int (II a_i), .int (II a_kind)] (fun (r : Int) (σ : MS) => σ = (f, g, A, L) ∧ (r = iMem 0 (L 55) (L 41) (A 38) (A 37) (A 42) (f 3) (4 * (a_u) + (a_i)) (a_kind) ∧ -1 ≤ r ∧ r ≤ 11 ∧ r < (A 37) (16 * (f 3) + (a_kind)).toNat)) := by
  generalize hPST : (fun (r : Int) (σ : MS) => σ = (f, g, A, L) ∧ (r = iMem 0 (L 55) (L 41) (A 38) (A 37) (A 42) (f 3) (4 * (a_u) + (a_i)) (a_kind) ∧ -1 ≤ r ∧ r ≤ 11 ∧ r < (A 37) (16 * (f 3) + (a_kind)).toNat)) = PST
  refine m_enter (by decide) rfl (Nat.le_of_ble_eq_true rfl) (fun p e s m args below meth c ls B hM hl => ?_)
  have hA : ∀ q, s.heap.size ≤ q → mF dA h0 ad (f, g, A, L) s.heap.size q := fun q h => Or.inr h
  have hl : lv_has ls 5 [(0, .ref h0), (1, .int (II a_u)), (2, .int (II a_i)), (3, .int (II a_kind))] := hl
  have r1 : (0 : Int) ≤ f 3 ∧ f 3 ≤ 1 := hM.2.2.2.1 3
  have hk16 : (0 : Int) ≤ (A 37) (16 * (f 3) + (a_kind)).toNat ∧ (A 37) (16 * (f 3) + (a_kind)).toNat ≤ 12 := hM.2.2.2.2 37 (16 * (f 3) + (a_kind)).toNat
  refine lv_aload_n B.1 B.2.1 dX12_intMember_0 rfl (lv_at hl 0 rfl) ?_
  refine m_geta (k := 55) B hM (by decide) rfl fl260 dX12_intMember_1 ?_
  refine q_con B dX12_intMember_4 ?_
  refine lv_iload_n B.1 B.2.1 dX12_intMember_5 rfl (lv_at hl 1 rfl) ?_
  refine q_mul B dX12_intMember_6 ?_
  refine lv_iload_n B.1 B.2.1 dX12_intMember_7 rfl (lv_at hl 2 rfl) ?_
  refine q_add B dX12_intMember_8 ?_
  refine m_lld (k := 55) (i := 43) (n := 12800) (z := (4 * a_u) + a_i) (v := (L 55) ((4 * a_u) + a_i).toNat) B hM rfl rfl rfl (by decide) dX12_intMember_9 (by omega) (by omega) rfl ?_
  refine lv_lconst (v := 0) B.1 B.2.1 dX12_intMember_10 (by decide) ?_
  refine q_lcmp B dX12_intMember_11 (fun x2 lx2 ux2 ex2 => ?_)
  refine q_ine (tgt := 19) B dX12_intMember_12 (by decide) (by unfold inr; omega) (fun c3 => ?_) (fun c3 => ?_)
  · refine lv_aload_n B.1 B.2.1 dX12_intMember_19 rfl (lv_at hl 0 rfl) ?_
    refine q_bip B dX12_intMember_20 (by decide) ?_
    refine lv_aload_n B.1 B.2.1 dX12_intMember_22 rfl (lv_at hl 0 rfl) ?_
    refine m_get (k := 3) (v := f 3) B hM (by decide) rfl fl11 dX12_intMember_23 rfl ?_
    refine q_mul B dX12_intMember_26 ?_
    refine lv_iload_n B.1 B.2.1 dX12_intMember_27 rfl (lv_at hl 3 rfl) ?_
    refine q_add B dX12_intMember_28 ?_
    refine lv_aload_n B.1 B.2.1 dX12_intMember_29 rfl (lv_at hl 0 rfl) ?_
    refine m_geta (k := 55) B hM (by decide) rfl fl260 dX12_intMember_30 ?_
    refine q_con B dX12_intMember_33 ?_
    refine lv_iload_n B.1 B.2.1 dX12_intMember_34 rfl (lv_at hl 1 rfl) ?_
    refine q_mul B dX12_intMember_35 ?_
    refine lv_iload_n B.1 B.2.1 dX12_intMember_36 rfl (lv_at hl 2 rfl) ?_
    refine q_add B dX12_intMember_37 ?_
    refine m_lld (k := 55) (i := 43) (n := 12800) (z := (4 * a_u) + a_i) (v := (L 55) ((4 * a_u) + a_i).toNat) B hM rfl rfl rfl (by decide) dX12_intMember_38 (by omega) (by omega) rfl ?_
    have hv4 : ((-2147483648 : Int) ≤ (16 * (f 3)) + a_kind ∧ ((16 * (f 3)) + a_kind : Int) ≤ 2147483647) ∧ (0 ≤ ((16 * (f 3)) + a_kind)) ∧ (((16 * (f 3)) + a_kind) < 32) := by first | omega | (simp only [wr_at]; omega) | exact ⟨by first | omega | (simp only [wr_at]; omega) | assumption, by first | omega | (simp only [wr_at]; omega) | assumption, by first | omega | (simp only [wr_at]; omega) | assumption⟩
    refine m_calli (n := 2) (rest := []) B hM hA hl.1 (k_memberOfF l D dA h0 ad f g A L ((16 * (f 3)) + a_kind) ((L 55) ((4 * a_u) + a_i).toNat) hv4.1 hv4.2.1 hv4.2.2) rfl ok_memberOf nm_memberOf ⟨rfl, rfl⟩ ⟨Nat.le_of_ble_eq_true rfl, Nat.le_of_ble_eq_true rfl⟩ dX12_intMember_39 rfl rfl (Nat.le_of_ble_eq_true rfl) ⟨Nat.zero_le _, Nat.zero_le _⟩ (fun r5 σr5 H locs ir5 hp6 hM => ?_)
    obtain ⟨rfl, hp6⟩ := hp6
    unfold inr at ir5
    replace hp6 : -1 ≤ r5 ∧ r5 < (A 37) (((16 * (f 3)) + a_kind)).toNat ∧ r5 = mOf (L 41) (A 38) ((16 * (f 3)) + a_kind) ((L 55) ((4 * a_u) + a_i).toNat) ((A 37) (((16 * (f 3)) + a_kind)).toNat) := hp6
    obtain ⟨hp6_0, hp6_1, hp6_2⟩ := hp6
    refine lv_istore (lv' := [(4, .int (II r5)), (0, .ref h0), (1, .int (II a_u)), (2, .int (II a_i)), (3, .int (II a_kind))]) B.1 B.2.1 dX12_intMember_42 hl (by decide) rfl (fun ls hl => ?_)
    refine lv_iload B.1 B.2.1 dX12_intMember_44 (lv_at hl 0 rfl) ?_
    refine q_ilt (tgt := 64) B dX12_intMember_46 (by decide) (by unfold inr; omega) (fun c7 => ?_) (fun c7 => ?_)
    · refine q_con B dX12_intMember_64 ?_
      subst hPST
      exact m_iret B hM dX12_intMember_65 (by unfold inr; omega) ⟨rfl, by (refine ⟨?_, by omega, by omega, by omega⟩; first | exact iMem_0 (‹_ ↔ (_ : Int64) = _›.mp (by omega)) (by omega) | exact iMem_1 (fun hq => absurd (‹_ ↔ (_ : Int64) = _›.mpr hq) (by omega)) (by assumption) (by omega) (by omega) | exact iMem_2 (fun hq => absurd (‹_ ↔ (_ : Int64) = _›.mpr hq) (by omega)) (by assumption) (by omega) (by omega))⟩
    · refine lv_aload_n B.1 B.2.1 dX12_intMember_49 rfl (lv_at hl 1 rfl) ?_
      refine lv_iload_n B.1 B.2.1 dX12_intMember_50 rfl (lv_at hl 4 rfl) ?_
      refine lv_iload B.1 B.2.1 dX12_intMember_51 (lv_at hl 0 rfl) ?_
      have hv8 : ((-2147483648 : Int) ≤ a_kind ∧ (a_kind : Int) ≤ 2147483647) ∧ ((-2147483648 : Int) ≤ r5 ∧ (r5 : Int) ≤ 2147483647) ∧ (0 ≤ (a_kind)) ∧ ((a_kind) ≤ 15) ∧ ((r5) ≤ 11) := by first | omega | (simp only [wr_at]; omega) | exact ⟨by first | omega | (simp only [wr_at]; omega) | assumption, by first | omega | (simp only [wr_at]; omega) | assumption, by first | omega | (simp only [wr_at]; omega) | assumption, by first | omega | (simp only [wr_at]; omega) | assumption, by first | omega | (simp only [wr_at]; omega) | assumption⟩
      refine m_calli (n := 2) (rest := []) B hM hA hl.1 (k_typeOf l D dA h0 ad f g A L a_kind r5 hv8.1 hv8.2.1 hv8.2.2.1 hv8.2.2.2.1 hv8.2.2.2.2) rfl ok_typeOf nm_typeOf ⟨rfl, rfl⟩ ⟨Nat.le_of_ble_eq_true rfl, Nat.le_of_ble_eq_true rfl⟩ dX12_intMember_53 rfl rfl (Nat.le_of_ble_eq_true rfl) ⟨Nat.zero_le _, Nat.zero_le _⟩ (fun r9 σr9 H locs ir9 hp10 hM => ?_)
      obtain ⟨rfl, hp10⟩ := hp10
      unfold inr at ir9
      replace hp10 : ((r5) < 0 → r9 = -1) ∧ (0 ≤ (r5) → r9 = (A 42) ((A 38) (12 * (16 * (f 3) + (a_kind)) + (r5)).toNat).toNat) ∧ -1 ≤ r9 ∧ r9 ≤ 3 ∧ (0 ≤ (r5) → 0 ≤ r9) := hp10
      obtain ⟨hp10_0, hp10_1, hp10_2, hp10_3, hp10_4⟩ := hp10
      refine q_ine (tgt := 64) B dX12_intMember_56 (by decide) (by unfold inr; omega) (fun c11 => ?_) (fun c11 => ?_)
      · refine q_con B dX12_intMember_64 ?_
        subst hPST
        exact m_iret B hM dX12_intMember_65 (by unfold inr; omega) ⟨rfl, by (refine ⟨?_, by omega, by omega, by omega⟩; first | exact iMem_0 (‹_ ↔ (_ : Int64) = _›.mp (by omega)) (by omega) | exact iMem_1 (fun hq => absurd (‹_ ↔ (_ : Int64) = _›.mpr hq) (by omega)) (by assumption) (by omega) (by omega) | exact iMem_2 (fun hq => absurd (‹_ ↔ (_ : Int64) = _›.mpr hq) (by omega)) (by assumption) (by omega) (by omega))⟩
      · refine lv_iload B.1 B.2.1 dX12_intMember_59 (lv_at hl 0 rfl) ?_
        refine lv_goto (tgt := 65) B.1 B.2.1 dX12_intMember_61 (by decide) ?_
        subst hPST
        exact m_iret B hM dX12_intMember_65 (by unfold inr; omega) ⟨rfl, by (refine ⟨?_, by omega, by omega, by omega⟩; first | exact iMem_0 (‹_ ↔ (_ : Int64) = _›.mp (by omega)) (by omega) | exact iMem_1 (fun hq => absurd (‹_ ↔ (_ : Int64) = _›.mpr hq) (by omega)) (by assumption) (by omega) (by omega) | exact iMem_2 (fun hq => absurd (‹_ ↔ (_ : Int64) = _›.mpr hq) (by omega)) (by assumption) (by omega) (by omega))⟩
  · refine q_con B dX12_intMember_15 ?_
    refine lv_goto (tgt := 42) B.1 B.2.1 dX12_intMember_16 (by decide) ?_
    refine lv_istore (lv' := [(4, .int (II (-1))), (0, .ref h0), (1, .int (II a_u)), (2, .int (II a_i)), (3, .int (II a_kind))]) B.1 B.2.1 dX12_intMember_42 hl (by decide) rfl (fun ls hl => ?_)
    refine lv_iload B.1 B.2.1 dX12_intMember_44 (lv_at hl 0 rfl) ?_
    refine q_ilt (tgt := 64) B dX12_intMember_46 (by decide) (by unfold inr; omega) (fun _ => ?_) (fun c12 => absurd c12 (by omega))
    refine q_con B dX12_intMember_64 ?_
    subst hPST
    exact m_iret B hM dX12_intMember_65 (by unfold inr; omega) ⟨rfl, by (refine ⟨?_, by omega, by omega, by omega⟩; first | exact iMem_0 (‹_ ↔ (_ : Int64) = _›.mp (by omega)) (by omega) | exact iMem_1 (fun hq => absurd (‹_ ↔ (_ : Int64) = _›.mpr hq) (by omega)) (by assumption) (by omega) (by omega) | exact iMem_2 (fun hq => absurd (‹_ ↔ (_ : Int64) = _›.mpr hq) (by omega)) (by assumption) (by omega) (by omega))⟩
set_option maxHeartbeats 4000000 in
set_option maxRecDepth 20000 in
theorem k_listMember (l : Launch) (D : va_G) (dA : Nat → ClassId) (h0 : Nat) (ad : Nat → Nat) (f : Nat → Int) (g : Nat → Int64) (A : Nat → Nat → Int) (L : Nat → Nat → Int64) (a_u : Int) (a_kind : Int) (i_u : (-2147483648 : Int) ≤ a_u ∧ a_u ≤ 2147483647) (i_kind : (-2147483648 : Int) ≤ a_kind ∧ a_kind ≤ 2147483647) (p_0 : 0 ≤ (a_u)) (p_1 : (a_u) ≤ 3199) (p_2 : 0 ≤ (a_kind)) (p_3 : (a_kind) ≤ 15) : MCi l yX12_listMember cX12_listMember 4 (some .int) ({ frames := 1, cells := 0, slots := 0, locals := 24 }) D dA h0 ad (f, g, A, L) [.int (II a_u), .int (II a_kind)] (fun (r : Int) (σ : MS) => σ = (f, g, A, L) ∧ (r = iMem 2 (L 55) (L 41) (A 38) (A 37) (A 42) (f 3) (4 * (a_u)) (a_kind) ∧ -1 ≤ r ∧ r ≤ 11 ∧ r < (A 37) (16 * (f 3) + (a_kind)).toNat)) := by
  generalize hPST : (fun (r : Int) (σ : MS) => σ = (f, g, A, L) ∧ (r = iMem 2 (L 55) (L 41) (A 38) (A 37) (A 42) (f 3) (4 * (a_u)) (a_kind) ∧ -1 ≤ r ∧ r ≤ 11 ∧ r < (A 37) (16 * (f 3) + (a_kind)).toNat)) = PST
  refine m_enter (by decide) rfl (Nat.le_of_ble_eq_true rfl) (fun p e s m args below meth c ls B hM hl => ?_)
  have hA : ∀ q, s.heap.size ≤ q → mF dA h0 ad (f, g, A, L) s.heap.size q := fun q h => Or.inr h
  have hl : lv_has ls 4 [(0, .ref h0), (1, .int (II a_u)), (2, .int (II a_kind))] := hl
  have r1 : (0 : Int) ≤ f 3 ∧ f 3 ≤ 1 := hM.2.2.2.1 3
  have hk16 : (0 : Int) ≤ (A 37) (16 * (f 3) + (a_kind)).toNat ∧ (A 37) (16 * (f 3) + (a_kind)).toNat ≤ 12 := hM.2.2.2.2 37 (16 * (f 3) + (a_kind)).toNat
  refine lv_aload_n B.1 B.2.1 dX12_listMember_0 rfl (lv_at hl 0 rfl) ?_
  refine m_geta (k := 55) B hM (by decide) rfl fl260 dX12_listMember_1 ?_
  refine q_con B dX12_listMember_4 ?_
  refine lv_iload_n B.1 B.2.1 dX12_listMember_5 rfl (lv_at hl 1 rfl) ?_
  refine q_mul B dX12_listMember_6 ?_
  refine m_lld (k := 55) (i := 43) (n := 12800) (z := 4 * a_u) (v := (L 55) (4 * a_u).toNat) B hM rfl rfl rfl (by decide) dX12_listMember_7 (by omega) (by omega) rfl ?_
  refine lv_lconst (v := 0) B.1 B.2.1 dX12_listMember_8 (by decide) ?_
  refine q_lcmp B dX12_listMember_9 (fun x2 lx2 ux2 ex2 => ?_)
  refine q_ine (tgt := 17) B dX12_listMember_10 (by decide) (by unfold inr; omega) (fun c3 => ?_) (fun c3 => ?_)
  · refine lv_aload_n B.1 B.2.1 dX12_listMember_17 rfl (lv_at hl 0 rfl) ?_
    refine q_bip B dX12_listMember_18 (by decide) ?_
    refine lv_aload_n B.1 B.2.1 dX12_listMember_20 rfl (lv_at hl 0 rfl) ?_
    refine m_get (k := 3) (v := f 3) B hM (by decide) rfl fl11 dX12_listMember_21 rfl ?_
    refine q_mul B dX12_listMember_24 ?_
    refine lv_iload_n B.1 B.2.1 dX12_listMember_25 rfl (lv_at hl 2 rfl) ?_
    refine q_add B dX12_listMember_26 ?_
    refine lv_aload_n B.1 B.2.1 dX12_listMember_27 rfl (lv_at hl 0 rfl) ?_
    refine m_geta (k := 55) B hM (by decide) rfl fl260 dX12_listMember_28 ?_
    refine q_con B dX12_listMember_31 ?_
    refine lv_iload_n B.1 B.2.1 dX12_listMember_32 rfl (lv_at hl 1 rfl) ?_
    refine q_mul B dX12_listMember_33 ?_
    refine m_lld (k := 55) (i := 43) (n := 12800) (z := 4 * a_u) (v := (L 55) (4 * a_u).toNat) B hM rfl rfl rfl (by decide) dX12_listMember_34 (by omega) (by omega) rfl ?_
    have hv4 : ((-2147483648 : Int) ≤ (16 * (f 3)) + a_kind ∧ ((16 * (f 3)) + a_kind : Int) ≤ 2147483647) ∧ (0 ≤ ((16 * (f 3)) + a_kind)) ∧ (((16 * (f 3)) + a_kind) < 32) := by first | omega | (simp only [wr_at]; omega) | exact ⟨by first | omega | (simp only [wr_at]; omega) | assumption, by first | omega | (simp only [wr_at]; omega) | assumption, by first | omega | (simp only [wr_at]; omega) | assumption⟩
    refine m_calli (n := 2) (rest := []) B hM hA hl.1 (k_memberOfF l D dA h0 ad f g A L ((16 * (f 3)) + a_kind) ((L 55) (4 * a_u).toNat) hv4.1 hv4.2.1 hv4.2.2) rfl ok_memberOf nm_memberOf ⟨rfl, rfl⟩ ⟨Nat.le_of_ble_eq_true rfl, Nat.le_of_ble_eq_true rfl⟩ dX12_listMember_35 rfl rfl (Nat.le_of_ble_eq_true rfl) ⟨Nat.zero_le _, Nat.zero_le _⟩ (fun r5 σr5 H locs ir5 hp6 hM => ?_)
    obtain ⟨rfl, hp6⟩ := hp6
    unfold inr at ir5
    replace hp6 : -1 ≤ r5 ∧ r5 < (A 37) (((16 * (f 3)) + a_kind)).toNat ∧ r5 = mOf (L 41) (A 38) ((16 * (f 3)) + a_kind) ((L 55) (4 * a_u).toNat) ((A 37) (((16 * (f 3)) + a_kind)).toNat) := hp6
    obtain ⟨hp6_0, hp6_1, hp6_2⟩ := hp6
    refine lv_istore_n (lv' := [(3, .int (II r5)), (0, .ref h0), (1, .int (II a_u)), (2, .int (II a_kind))]) B.1 B.2.1 dX12_listMember_38 rfl hl (by decide) rfl (fun ls hl => ?_)
    refine lv_iload_n B.1 B.2.1 dX12_listMember_39 rfl (lv_at hl 0 rfl) ?_
    refine q_ilt (tgt := 57) B dX12_listMember_40 (by decide) (by unfold inr; omega) (fun c7 => ?_) (fun c7 => ?_)
    · refine q_con B dX12_listMember_57 ?_
      subst hPST
      exact m_iret B hM dX12_listMember_58 (by unfold inr; omega) ⟨rfl, by (refine ⟨?_, by omega, by omega, by omega⟩; first | exact iMem_0 (‹_ ↔ (_ : Int64) = _›.mp (by omega)) (by omega) | exact iMem_1 (fun hq => absurd (‹_ ↔ (_ : Int64) = _›.mpr hq) (by omega)) (by assumption) (by omega) (by omega) | exact iMem_2 (fun hq => absurd (‹_ ↔ (_ : Int64) = _›.mpr hq) (by omega)) (by assumption) (by omega) (by omega))⟩
    · refine lv_aload_n B.1 B.2.1 dX12_listMember_43 rfl (lv_at hl 1 rfl) ?_
      refine lv_iload_n B.1 B.2.1 dX12_listMember_44 rfl (lv_at hl 3 rfl) ?_
      refine lv_iload_n B.1 B.2.1 dX12_listMember_45 rfl (lv_at hl 0 rfl) ?_
      have hv8 : ((-2147483648 : Int) ≤ a_kind ∧ (a_kind : Int) ≤ 2147483647) ∧ ((-2147483648 : Int) ≤ r5 ∧ (r5 : Int) ≤ 2147483647) ∧ (0 ≤ (a_kind)) ∧ ((a_kind) ≤ 15) ∧ ((r5) ≤ 11) := by first | omega | (simp only [wr_at]; omega) | exact ⟨by first | omega | (simp only [wr_at]; omega) | assumption, by first | omega | (simp only [wr_at]; omega) | assumption, by first | omega | (simp only [wr_at]; omega) | assumption, by first | omega | (simp only [wr_at]; omega) | assumption, by first | omega | (simp only [wr_at]; omega) | assumption⟩
      refine m_calli (n := 2) (rest := []) B hM hA hl.1 (k_typeOf l D dA h0 ad f g A L a_kind r5 hv8.1 hv8.2.1 hv8.2.2.1 hv8.2.2.2.1 hv8.2.2.2.2) rfl ok_typeOf nm_typeOf ⟨rfl, rfl⟩ ⟨Nat.le_of_ble_eq_true rfl, Nat.le_of_ble_eq_true rfl⟩ dX12_listMember_46 rfl rfl (Nat.le_of_ble_eq_true rfl) ⟨Nat.zero_le _, Nat.zero_le _⟩ (fun r9 σr9 H locs ir9 hp10 hM => ?_)
      obtain ⟨rfl, hp10⟩ := hp10
      unfold inr at ir9
      replace hp10 : ((r5) < 0 → r9 = -1) ∧ (0 ≤ (r5) → r9 = (A 42) ((A 38) (12 * (16 * (f 3) + (a_kind)) + (r5)).toNat).toNat) ∧ -1 ≤ r9 ∧ r9 ≤ 3 ∧ (0 ≤ (r5) → 0 ≤ r9) := hp10
      obtain ⟨hp10_0, hp10_1, hp10_2, hp10_3, hp10_4⟩ := hp10
      refine q_con B dX12_listMember_49 ?_
      refine q_cne (tgt := 57) B dX12_listMember_50 (by decide) (by unfold inr; omega) (by unfold inr; omega) (fun c11 => ?_) (fun c11 => ?_)
      · refine q_con B dX12_listMember_57 ?_
        subst hPST
        exact m_iret B hM dX12_listMember_58 (by unfold inr; omega) ⟨rfl, by (refine ⟨?_, by omega, by omega, by omega⟩; first | exact iMem_0 (‹_ ↔ (_ : Int64) = _›.mp (by omega)) (by omega) | exact iMem_1 (fun hq => absurd (‹_ ↔ (_ : Int64) = _›.mpr hq) (by omega)) (by assumption) (by omega) (by omega) | exact iMem_2 (fun hq => absurd (‹_ ↔ (_ : Int64) = _›.mpr hq) (by omega)) (by assumption) (by omega) (by omega))⟩
      · refine lv_iload_n B.1 B.2.1 dX12_listMember_53 rfl (lv_at hl 0 rfl) ?_
        refine lv_goto (tgt := 58) B.1 B.2.1 dX12_listMember_54 (by decide) ?_
        subst hPST
        exact m_iret B hM dX12_listMember_58 (by unfold inr; omega) ⟨rfl, by (refine ⟨?_, by omega, by omega, by omega⟩; first | exact iMem_0 (‹_ ↔ (_ : Int64) = _›.mp (by omega)) (by omega) | exact iMem_1 (fun hq => absurd (‹_ ↔ (_ : Int64) = _›.mpr hq) (by omega)) (by assumption) (by omega) (by omega) | exact iMem_2 (fun hq => absurd (‹_ ↔ (_ : Int64) = _›.mpr hq) (by omega)) (by assumption) (by omega) (by omega))⟩
  · refine q_con B dX12_listMember_13 ?_
    refine lv_goto (tgt := 38) B.1 B.2.1 dX12_listMember_14 (by decide) ?_
    refine lv_istore_n (lv' := [(3, .int (II (-1))), (0, .ref h0), (1, .int (II a_u)), (2, .int (II a_kind))]) B.1 B.2.1 dX12_listMember_38 rfl hl (by decide) rfl (fun ls hl => ?_)
    refine lv_iload_n B.1 B.2.1 dX12_listMember_39 rfl (lv_at hl 0 rfl) ?_
    refine q_ilt (tgt := 57) B dX12_listMember_40 (by decide) (by unfold inr; omega) (fun _ => ?_) (fun c12 => absurd c12 (by omega))
    refine q_con B dX12_listMember_57 ?_
    subst hPST
    exact m_iret B hM dX12_listMember_58 (by unfold inr; omega) ⟨rfl, by (refine ⟨?_, by omega, by omega, by omega⟩; first | exact iMem_0 (‹_ ↔ (_ : Int64) = _›.mp (by omega)) (by omega) | exact iMem_1 (fun hq => absurd (‹_ ↔ (_ : Int64) = _›.mpr hq) (by omega)) (by assumption) (by omega) (by omega) | exact iMem_2 (fun hq => absurd (‹_ ↔ (_ : Int64) = _›.mpr hq) (by omega)) (by assumption) (by omega) (by omega))⟩
set_option maxHeartbeats 4000000 in
set_option maxRecDepth 20000 in
theorem k_hasArgs (l : Launch) (D : va_G) (dA : Nat → ClassId) (h0 : Nat) (ad : Nat → Nat) (f : Nat → Int) (g : Nat → Int64) (A : Nat → Nat → Int) (L : Nat → Nat → Int64) (a_u : Int) (a_w : Int) (a_kind : Int) (i_u : (-2147483648 : Int) ≤ a_u ∧ a_u ≤ 2147483647) (i_w : (-2147483648 : Int) ≤ a_w ∧ a_w ≤ 2147483647) (i_kind : (-2147483648 : Int) ≤ a_kind ∧ a_kind ≤ 2147483647) (p_0 : 0 ≤ (a_u)) (p_1 : (a_u) ≤ 3199) (p_2 : 0 ≤ (a_kind)) (p_3 : (a_kind) < (f 60)) (p_4 : (f 5) = 0) (p_5 : KIv (f 5) (f 3) (f 60) (f 61) (A 34) (A 37) (A 36) (A 38)) (p_6 : BKp (f 5) (f 3) (f 61) (A 42) (A 43)) : MCi l yX12_hasArgs cX12_hasArgs 6 (some .boolean) ({ frames := 2, cells := 0, slots := 0, locals := 48 }) D dA h0 ad (f, g, A, L) [.int (II a_u), .int (II a_w), .int (II a_kind)] (fun (r : Int) (σ : MS) => σ = (f, g, A, L) ∧ (0 ≤ r ∧ r ≤ 1 ∧ (r = 1 → ((a_w) = 7 → (A 47) ((a_u)).toNat = 2) ∧ ((a_w) = 8 → (A 47) ((a_u)).toNat = 3)) ∧ (r = 1 → (a_w) = 8 → 0 ≤ iMem 2 (L 55) (L 41) (A 38) (A 37) (A 42) (f 3) (4 * (a_u)) (a_kind)) ∧ (r = 1 → ARG (L 55) (L 41) (A 54) (A 38) (A 37) (A 42) (A 43) (f 3) (a_w) (a_u) (a_kind) ((A 47) ((a_u)).toNat)))) := by
  generalize hPST : (fun (r : Int) (σ : MS) => σ = (f, g, A, L) ∧ (0 ≤ r ∧ r ≤ 1 ∧ (r = 1 → ((a_w) = 7 → (A 47) ((a_u)).toNat = 2) ∧ ((a_w) = 8 → (A 47) ((a_u)).toNat = 3)) ∧ (r = 1 → (a_w) = 8 → 0 ≤ iMem 2 (L 55) (L 41) (A 38) (A 37) (A 42) (f 3) (4 * (a_u)) (a_kind)) ∧ (r = 1 → ARG (L 55) (L 41) (A 54) (A 38) (A 37) (A 42) (A 43) (f 3) (a_w) (a_u) (a_kind) ((A 47) ((a_u)).toNat)))) = PST
  refine m_enter (by decide) rfl (Nat.le_of_ble_eq_true rfl) (fun p e s m args below meth c ls B hM hl => ?_)
  have hA : ∀ q, s.heap.size ≤ q → mF dA h0 ad (f, g, A, L) s.heap.size q := fun q h => Or.inr h
  have hl : lv_has ls 6 [(0, .ref h0), (1, .int (II a_u)), (2, .int (II a_w)), (3, .int (II a_kind))] := hl
  have r1 : (0 : Int) ≤ f 3 ∧ f 3 ≤ 1 := hM.2.2.2.1 3
  have r2 : (0 : Int) ≤ f 60 ∧ f 60 ≤ 16 := hM.2.2.2.1 60
  have r3 : (0 : Int) ≤ f 61 ∧ f 61 ≤ 200 := hM.2.2.2.1 61
  refine lv_aload_n B.1 B.2.1 dX12_hasArgs_0 rfl (lv_at hl 0 rfl) ?_
  refine m_geta (k := 47) B hM (by decide) rfl fl235 dX12_hasArgs_1 ?_
  refine lv_iload_n B.1 B.2.1 dX12_hasArgs_4 rfl (lv_at hl 1 rfl) ?_
  refine m_ild (k := 47) (i := 35) (n := 3200) (z := a_u) (v := (A 47) a_u.toNat) B hM rfl rfl rfl (by decide) dX12_hasArgs_5 (by omega) (by omega) rfl ?_
  have r4 : (0 : Int) ≤ (A 47) a_u.toNat ∧ (A 47) a_u.toNat ≤ 4 := hM.2.2.2.2 47 a_u.toNat
  refine lv_istore (lv' := [(4, .int (II ((A 47) a_u.toNat))), (0, .ref h0), (1, .int (II a_u)), (2, .int (II a_w)), (3, .int (II a_kind))]) B.1 B.2.1 dX12_hasArgs_6 hl (by decide) rfl (fun ls hl => ?_)
  refine lv_iload_n B.1 B.2.1 dX12_hasArgs_8 rfl (lv_at hl 3 rfl) ?_
  refine q_bip B dX12_hasArgs_9 (by decide) ?_
  refine q_cne (tgt := 46) B dX12_hasArgs_11 (by decide) (by unfold inr; omega) (by unfold inr; omega) (fun c5 => ?_) (fun c5 => ?_)
  · refine lv_iload_n B.1 B.2.1 dX12_hasArgs_46 rfl (lv_at hl 3 rfl) ?_
    refine q_bip B dX12_hasArgs_47 (by decide) ?_
    refine q_cne (tgt := 107) B dX12_hasArgs_49 (by decide) (by unfold inr; omega) (by unfold inr; omega) (fun c6 => ?_) (fun c6 => ?_)
    · refine lv_aload_n B.1 B.2.1 dX12_hasArgs_107 rfl (lv_at hl 1 rfl) ?_
      refine lv_iload_n B.1 B.2.1 dX12_hasArgs_108 rfl (lv_at hl 2 rfl) ?_
      have hv7 : ((-2147483648 : Int) ≤ a_u ∧ (a_u : Int) ≤ 2147483647) ∧ (0 ≤ (a_u)) ∧ ((a_u) ≤ 3199) := by first | omega | (simp only [wr_at]; omega) | exact ⟨by first | omega | (simp only [wr_at]; omega) | assumption, by first | omega | (simp only [wr_at]; omega) | assumption, by first | omega | (simp only [wr_at]; omega) | assumption⟩
      refine m_calli (n := 1) (rest := []) B hM hA hl.1 (k_areNumbers l D dA h0 ad f g A L a_u hv7.1 hv7.2.1 hv7.2.2) rfl ok_areNumbers nm_areNumbers ⟨rfl, rfl⟩ ⟨Nat.le_of_ble_eq_true rfl, Nat.le_of_ble_eq_true rfl⟩ dX12_hasArgs_109 rfl rfl (Nat.le_of_ble_eq_true rfl) ⟨Nat.zero_le _, Nat.zero_le _⟩ (fun r8 σr8 H locs ir8 hp9 hM => ?_)
      obtain ⟨rfl, hp9⟩ := hp9
      unfold inr at ir8
      replace hp9 : 0 ≤ r8 ∧ r8 ≤ 1 := hp9
      obtain ⟨hp9_0, hp9_1⟩ := hp9
      refine q_ine (tgt := 117) B dX12_hasArgs_112 (by decide) (by unfold inr; omega) (fun c10 => ?_) (fun c10 => ?_)
      · refine lv_iload_n B.1 B.2.1 dX12_hasArgs_117 rfl (lv_at hl 3 rfl) ?_
        refine q_bip B dX12_hasArgs_118 (by decide) ?_
        refine q_clt (tgt := 135) B dX12_hasArgs_120 (by decide) (by unfold inr; omega) (by unfold inr; omega) (fun c11 => ?_) (fun c11 => ?_)
        · refine lv_iload_n B.1 B.2.1 dX12_hasArgs_135 rfl (lv_at hl 3 rfl) ?_
          refine q_con B dX12_hasArgs_136 ?_
          refine q_ceq (tgt := 145) B dX12_hasArgs_137 (by decide) (by unfold inr; omega) (by unfold inr; omega) (fun c12 => ?_) (fun c12 => ?_)
          · refine lv_iload B.1 B.2.1 dX12_hasArgs_145 (lv_at hl 0 rfl) ?_
            refine q_ine (tgt := 154) B dX12_hasArgs_147 (by decide) (by unfold inr; omega) (fun c13 => ?_) (fun c13 => ?_)
            · refine q_con B dX12_hasArgs_154 ?_
              refine lv_goto (tgt := 211) B.1 B.2.1 dX12_hasArgs_155 (by decide) ?_
              subst hPST
              exact m_zret B hM dX12_hasArgs_211 (by omega) ⟨rfl, by (refine ⟨by omega, by omega, by omega, by omega, ?_⟩; first | (intro hq; exfalso; omega) | (intro _; exact ARG_n (by omega) (by omega)) | (intro _; exact ARG_7 (by omega) (by omega) (by assumption) (by assumption) (by omega) (by omega)) | (intro _; exact ARG_8 (by omega) (by omega) ‹_ = iMem 2 _ _ _ _ _ _ _ _› (by assumption) (by assumption) (by assumption) (by omega) (by omega) (by omega)))⟩
            · refine q_con B dX12_hasArgs_150 ?_
              refine lv_goto (tgt := 211) B.1 B.2.1 dX12_hasArgs_151 (by decide) ?_
              subst hPST
              exact m_zret B hM dX12_hasArgs_211 (by omega) ⟨rfl, by (refine ⟨by omega, by omega, by omega, by omega, ?_⟩; first | (intro hq; exfalso; omega) | (intro _; exact ARG_n (by omega) (by omega)) | (intro _; exact ARG_7 (by omega) (by omega) (by assumption) (by assumption) (by omega) (by omega)) | (intro _; exact ARG_8 (by omega) (by omega) ‹_ = iMem 2 _ _ _ _ _ _ _ _› (by assumption) (by assumption) (by assumption) (by omega) (by omega) (by omega)))⟩
          · refine lv_iload_n B.1 B.2.1 dX12_hasArgs_140 rfl (lv_at hl 3 rfl) ?_
            refine q_con B dX12_hasArgs_141 ?_
            refine q_cne (tgt := 158) B dX12_hasArgs_142 (by decide) (by unfold inr; omega) (by unfold inr; omega) (fun c14 => ?_) (fun c14 => ?_)
            · refine lv_iload_n B.1 B.2.1 dX12_hasArgs_158 rfl (lv_at hl 3 rfl) ?_
              refine q_con B dX12_hasArgs_159 ?_
              refine q_ceq (tgt := 168) B dX12_hasArgs_160 (by decide) (by unfold inr; omega) (by unfold inr; omega) (fun c15 => ?_) (fun c15 => ?_)
              · refine lv_iload B.1 B.2.1 dX12_hasArgs_168 (lv_at hl 0 rfl) ?_
                refine q_con B dX12_hasArgs_170 ?_
                refine q_cne (tgt := 178) B dX12_hasArgs_171 (by decide) (by unfold inr; omega) (by unfold inr; omega) (fun c16 => ?_) (fun c16 => ?_)
                · refine q_con B dX12_hasArgs_178 ?_
                  refine lv_goto (tgt := 211) B.1 B.2.1 dX12_hasArgs_179 (by decide) ?_
                  subst hPST
                  exact m_zret B hM dX12_hasArgs_211 (by omega) ⟨rfl, by (refine ⟨by omega, by omega, by omega, by omega, ?_⟩; first | (intro hq; exfalso; omega) | (intro _; exact ARG_n (by omega) (by omega)) | (intro _; exact ARG_7 (by omega) (by omega) (by assumption) (by assumption) (by omega) (by omega)) | (intro _; exact ARG_8 (by omega) (by omega) ‹_ = iMem 2 _ _ _ _ _ _ _ _› (by assumption) (by assumption) (by assumption) (by omega) (by omega) (by omega)))⟩
                · refine q_con B dX12_hasArgs_174 ?_
                  refine lv_goto (tgt := 211) B.1 B.2.1 dX12_hasArgs_175 (by decide) ?_
                  subst hPST
                  exact m_zret B hM dX12_hasArgs_211 (by omega) ⟨rfl, by (refine ⟨by omega, by omega, by omega, by omega, ?_⟩; first | (intro hq; exfalso; omega) | (intro _; exact ARG_n (by omega) (by omega)) | (intro _; exact ARG_7 (by omega) (by omega) (by assumption) (by assumption) (by omega) (by omega)) | (intro _; exact ARG_8 (by omega) (by omega) ‹_ = iMem 2 _ _ _ _ _ _ _ _› (by assumption) (by assumption) (by assumption) (by omega) (by omega) (by omega)))⟩
              · refine lv_iload_n B.1 B.2.1 dX12_hasArgs_163 rfl (lv_at hl 3 rfl) ?_
                refine q_con B dX12_hasArgs_164 ?_
                refine q_cne (tgt := 182) B dX12_hasArgs_165 (by decide) (by unfold inr; omega) (by unfold inr; omega) (fun c17 => ?_) (fun c17 => ?_)
                · refine lv_iload_n B.1 B.2.1 dX12_hasArgs_182 rfl (lv_at hl 3 rfl) ?_
                  refine q_con B dX12_hasArgs_183 ?_
                  refine q_cne (tgt := 201) B dX12_hasArgs_184 (by decide) (by unfold inr; omega) (by unfold inr; omega) (fun c18 => ?_) (fun c18 => ?_)
                  · refine lv_iload B.1 B.2.1 dX12_hasArgs_201 (lv_at hl 0 rfl) ?_
                    refine q_ile (tgt := 210) B dX12_hasArgs_203 (by decide) (by unfold inr; omega) (fun c19 => ?_) (fun c19 => ?_)
                    · refine q_con B dX12_hasArgs_210 ?_
                      subst hPST
                      exact m_zret B hM dX12_hasArgs_211 (by omega) ⟨rfl, by (refine ⟨by omega, by omega, by omega, by omega, ?_⟩; first | (intro hq; exfalso; omega) | (intro _; exact ARG_n (by omega) (by omega)) | (intro _; exact ARG_7 (by omega) (by omega) (by assumption) (by assumption) (by omega) (by omega)) | (intro _; exact ARG_8 (by omega) (by omega) ‹_ = iMem 2 _ _ _ _ _ _ _ _› (by assumption) (by assumption) (by assumption) (by omega) (by omega) (by omega)))⟩
                    · refine q_con B dX12_hasArgs_206 ?_
                      refine lv_goto (tgt := 211) B.1 B.2.1 dX12_hasArgs_207 (by decide) ?_
                      subst hPST
                      exact m_zret B hM dX12_hasArgs_211 (by omega) ⟨rfl, by (refine ⟨by omega, by omega, by omega, by omega, ?_⟩; first | (intro hq; exfalso; omega) | (intro _; exact ARG_n (by omega) (by omega)) | (intro _; exact ARG_7 (by omega) (by omega) (by assumption) (by assumption) (by omega) (by omega)) | (intro _; exact ARG_8 (by omega) (by omega) ‹_ = iMem 2 _ _ _ _ _ _ _ _› (by assumption) (by assumption) (by assumption) (by omega) (by omega) (by omega)))⟩
                  · refine lv_iload B.1 B.2.1 dX12_hasArgs_187 (lv_at hl 0 rfl) ?_
                    refine q_con B dX12_hasArgs_189 ?_
                    refine q_cne (tgt := 197) B dX12_hasArgs_190 (by decide) (by unfold inr; omega) (by unfold inr; omega) (fun c20 => ?_) (fun c20 => ?_)
                    · refine q_con B dX12_hasArgs_197 ?_
                      refine lv_goto (tgt := 211) B.1 B.2.1 dX12_hasArgs_198 (by decide) ?_
                      subst hPST
                      exact m_zret B hM dX12_hasArgs_211 (by omega) ⟨rfl, by (refine ⟨by omega, by omega, by omega, by omega, ?_⟩; first | (intro hq; exfalso; omega) | (intro _; exact ARG_n (by omega) (by omega)) | (intro _; exact ARG_7 (by omega) (by omega) (by assumption) (by assumption) (by omega) (by omega)) | (intro _; exact ARG_8 (by omega) (by omega) ‹_ = iMem 2 _ _ _ _ _ _ _ _› (by assumption) (by assumption) (by assumption) (by omega) (by omega) (by omega)))⟩
                    · refine q_con B dX12_hasArgs_193 ?_
                      refine lv_goto (tgt := 211) B.1 B.2.1 dX12_hasArgs_194 (by decide) ?_
                      subst hPST
                      exact m_zret B hM dX12_hasArgs_211 (by omega) ⟨rfl, by (refine ⟨by omega, by omega, by omega, by omega, ?_⟩; first | (intro hq; exfalso; omega) | (intro _; exact ARG_n (by omega) (by omega)) | (intro _; exact ARG_7 (by omega) (by omega) (by assumption) (by assumption) (by omega) (by omega)) | (intro _; exact ARG_8 (by omega) (by omega) ‹_ = iMem 2 _ _ _ _ _ _ _ _› (by assumption) (by assumption) (by assumption) (by omega) (by omega) (by omega)))⟩
                · refine lv_iload B.1 B.2.1 dX12_hasArgs_168 (lv_at hl 0 rfl) ?_
                  refine q_con B dX12_hasArgs_170 ?_
                  refine q_cne (tgt := 178) B dX12_hasArgs_171 (by decide) (by unfold inr; omega) (by unfold inr; omega) (fun c21 => ?_) (fun c21 => ?_)
                  · refine q_con B dX12_hasArgs_178 ?_
                    refine lv_goto (tgt := 211) B.1 B.2.1 dX12_hasArgs_179 (by decide) ?_
                    subst hPST
                    exact m_zret B hM dX12_hasArgs_211 (by omega) ⟨rfl, by (refine ⟨by omega, by omega, by omega, by omega, ?_⟩; first | (intro hq; exfalso; omega) | (intro _; exact ARG_n (by omega) (by omega)) | (intro _; exact ARG_7 (by omega) (by omega) (by assumption) (by assumption) (by omega) (by omega)) | (intro _; exact ARG_8 (by omega) (by omega) ‹_ = iMem 2 _ _ _ _ _ _ _ _› (by assumption) (by assumption) (by assumption) (by omega) (by omega) (by omega)))⟩
                  · refine q_con B dX12_hasArgs_174 ?_
                    refine lv_goto (tgt := 211) B.1 B.2.1 dX12_hasArgs_175 (by decide) ?_
                    subst hPST
                    exact m_zret B hM dX12_hasArgs_211 (by omega) ⟨rfl, by (refine ⟨by omega, by omega, by omega, by omega, ?_⟩; first | (intro hq; exfalso; omega) | (intro _; exact ARG_n (by omega) (by omega)) | (intro _; exact ARG_7 (by omega) (by omega) (by assumption) (by assumption) (by omega) (by omega)) | (intro _; exact ARG_8 (by omega) (by omega) ‹_ = iMem 2 _ _ _ _ _ _ _ _› (by assumption) (by assumption) (by assumption) (by omega) (by omega) (by omega)))⟩
            · refine lv_iload B.1 B.2.1 dX12_hasArgs_145 (lv_at hl 0 rfl) ?_
              refine q_ine (tgt := 154) B dX12_hasArgs_147 (by decide) (by unfold inr; omega) (fun c22 => ?_) (fun c22 => ?_)
              · refine q_con B dX12_hasArgs_154 ?_
                refine lv_goto (tgt := 211) B.1 B.2.1 dX12_hasArgs_155 (by decide) ?_
                subst hPST
                exact m_zret B hM dX12_hasArgs_211 (by omega) ⟨rfl, by (refine ⟨by omega, by omega, by omega, by omega, ?_⟩; first | (intro hq; exfalso; omega) | (intro _; exact ARG_n (by omega) (by omega)) | (intro _; exact ARG_7 (by omega) (by omega) (by assumption) (by assumption) (by omega) (by omega)) | (intro _; exact ARG_8 (by omega) (by omega) ‹_ = iMem 2 _ _ _ _ _ _ _ _› (by assumption) (by assumption) (by assumption) (by omega) (by omega) (by omega)))⟩
              · refine q_con B dX12_hasArgs_150 ?_
                refine lv_goto (tgt := 211) B.1 B.2.1 dX12_hasArgs_151 (by decide) ?_
                subst hPST
                exact m_zret B hM dX12_hasArgs_211 (by omega) ⟨rfl, by (refine ⟨by omega, by omega, by omega, by omega, ?_⟩; first | (intro hq; exfalso; omega) | (intro _; exact ARG_n (by omega) (by omega)) | (intro _; exact ARG_7 (by omega) (by omega) (by assumption) (by assumption) (by omega) (by omega)) | (intro _; exact ARG_8 (by omega) (by omega) ‹_ = iMem 2 _ _ _ _ _ _ _ _› (by assumption) (by assumption) (by assumption) (by omega) (by omega) (by omega)))⟩
        · refine lv_iload B.1 B.2.1 dX12_hasArgs_123 (lv_at hl 0 rfl) ?_
          refine q_con B dX12_hasArgs_125 ?_
          refine q_cgt (tgt := 133) B dX12_hasArgs_126 (by decide) (by unfold inr; omega) (by unfold inr; omega) (fun c23 => ?_) (fun c23 => ?_)
          · refine q_con B dX12_hasArgs_133 ?_
            subst hPST
            exact m_zret B hM dX12_hasArgs_134 (by omega) ⟨rfl, by (refine ⟨by omega, by omega, by omega, by omega, ?_⟩; first | (intro hq; exfalso; omega) | (intro _; exact ARG_n (by omega) (by omega)) | (intro _; exact ARG_7 (by omega) (by omega) (by assumption) (by assumption) (by omega) (by omega)) | (intro _; exact ARG_8 (by omega) (by omega) ‹_ = iMem 2 _ _ _ _ _ _ _ _› (by assumption) (by assumption) (by assumption) (by omega) (by omega) (by omega)))⟩
          · refine q_con B dX12_hasArgs_129 ?_
            refine lv_goto (tgt := 134) B.1 B.2.1 dX12_hasArgs_130 (by decide) ?_
            subst hPST
            exact m_zret B hM dX12_hasArgs_134 (by omega) ⟨rfl, by (refine ⟨by omega, by omega, by omega, by omega, ?_⟩; first | (intro hq; exfalso; omega) | (intro _; exact ARG_n (by omega) (by omega)) | (intro _; exact ARG_7 (by omega) (by omega) (by assumption) (by assumption) (by omega) (by omega)) | (intro _; exact ARG_8 (by omega) (by omega) ‹_ = iMem 2 _ _ _ _ _ _ _ _› (by assumption) (by assumption) (by assumption) (by omega) (by omega) (by omega)))⟩
      · refine q_con B dX12_hasArgs_115 ?_
        subst hPST
        exact m_zret B hM dX12_hasArgs_116 (by omega) ⟨rfl, by (refine ⟨by omega, by omega, by omega, by omega, ?_⟩; first | (intro hq; exfalso; omega) | (intro _; exact ARG_n (by omega) (by omega)) | (intro _; exact ARG_7 (by omega) (by omega) (by assumption) (by assumption) (by omega) (by omega)) | (intro _; exact ARG_8 (by omega) (by omega) ‹_ = iMem 2 _ _ _ _ _ _ _ _› (by assumption) (by assumption) (by assumption) (by omega) (by omega) (by omega)))⟩
    · refine lv_iload B.1 B.2.1 dX12_hasArgs_52 (lv_at hl 0 rfl) ?_
      refine q_con B dX12_hasArgs_54 ?_
      refine q_cne (tgt := 67) B dX12_hasArgs_55 (by decide) (by unfold inr; omega) (by unfold inr; omega) (fun c24 => ?_) (fun c24 => ?_)
      · refine q_con B dX12_hasArgs_67 ?_
        refine lv_istore (lv' := [(5, .int (II (-1))), (4, .int (II ((A 47) a_u.toNat))), (0, .ref h0), (1, .int (II a_u)), (2, .int (II a_w)), (3, .int (II a_kind))]) B.1 B.2.1 dX12_hasArgs_68 hl (by decide) rfl (fun ls hl => ?_)
        refine lv_iload B.1 B.2.1 dX12_hasArgs_70 (lv_at hl 0 rfl) ?_
        refine q_ilt (tgt := 105) B dX12_hasArgs_72 (by decide) (by unfold inr; omega) (fun _ => ?_) (fun c25 => absurd c25 (by omega))
        refine q_con B dX12_hasArgs_105 ?_
        subst hPST
        exact m_zret B hM dX12_hasArgs_106 (by omega) ⟨rfl, by (refine ⟨by omega, by omega, by omega, by omega, ?_⟩; first | (intro hq; exfalso; omega) | (intro _; exact ARG_n (by omega) (by omega)) | (intro _; exact ARG_7 (by omega) (by omega) (by assumption) (by assumption) (by omega) (by omega)) | (intro _; exact ARG_8 (by omega) (by omega) ‹_ = iMem 2 _ _ _ _ _ _ _ _› (by assumption) (by assumption) (by assumption) (by omega) (by omega) (by omega)))⟩
      · refine lv_aload_n B.1 B.2.1 dX12_hasArgs_58 rfl (lv_at hl 1 rfl) ?_
        refine lv_iload_n B.1 B.2.1 dX12_hasArgs_59 rfl (lv_at hl 2 rfl) ?_
        refine lv_iload_n B.1 B.2.1 dX12_hasArgs_60 rfl (lv_at hl 4 rfl) ?_
        have hv26 : ((-2147483648 : Int) ≤ a_u ∧ (a_u : Int) ≤ 2147483647) ∧ ((-2147483648 : Int) ≤ a_kind ∧ (a_kind : Int) ≤ 2147483647) ∧ (0 ≤ (a_u)) ∧ ((a_u) ≤ 3199) ∧ (0 ≤ (a_kind)) ∧ ((a_kind) ≤ 15) := by first | omega | (simp only [wr_at]; omega) | exact ⟨by first | omega | (simp only [wr_at]; omega) | assumption, by first | omega | (simp only [wr_at]; omega) | assumption, by first | omega | (simp only [wr_at]; omega) | assumption, by first | omega | (simp only [wr_at]; omega) | assumption, by first | omega | (simp only [wr_at]; omega) | assumption, by first | omega | (simp only [wr_at]; omega) | assumption⟩
        refine m_calli (n := 2) (rest := []) B hM hA hl.1 (k_listMember l D dA h0 ad f g A L a_u a_kind hv26.1 hv26.2.1 hv26.2.2.1 hv26.2.2.2.1 hv26.2.2.2.2.1 hv26.2.2.2.2.2) rfl ok_listMember nm_listMember ⟨rfl, rfl⟩ ⟨Nat.le_of_ble_eq_true rfl, Nat.le_of_ble_eq_true rfl⟩ dX12_hasArgs_61 rfl rfl (Nat.le_of_ble_eq_true rfl) ⟨Nat.zero_le _, Nat.zero_le _⟩ (fun r27 σr27 H locs ir27 hp28 hM => ?_)
        obtain ⟨rfl, hp28⟩ := hp28
        unfold inr at ir27
        replace hp28 : r27 = iMem 2 (L 55) (L 41) (A 38) (A 37) (A 42) (f 3) (4 * (a_u)) (a_kind) ∧ -1 ≤ r27 ∧ r27 ≤ 11 ∧ r27 < (A 37) (16 * (f 3) + (a_kind)).toNat := hp28
        obtain ⟨hp28_0, hp28_1, hp28_2, hp28_3⟩ := hp28
        refine lv_goto (tgt := 68) B.1 B.2.1 dX12_hasArgs_64 (by decide) ?_
        refine lv_istore (lv' := [(5, .int (II r27)), (4, .int (II ((A 47) a_u.toNat))), (0, .ref h0), (1, .int (II a_u)), (2, .int (II a_w)), (3, .int (II a_kind))]) B.1 B.2.1 dX12_hasArgs_68 hl (by decide) rfl (fun ls hl => ?_)
        refine lv_iload B.1 B.2.1 dX12_hasArgs_70 (lv_at hl 0 rfl) ?_
        refine q_ilt (tgt := 105) B dX12_hasArgs_72 (by decide) (by unfold inr; omega) (fun c29 => ?_) (fun c29 => ?_)
        · refine q_con B dX12_hasArgs_105 ?_
          subst hPST
          exact m_zret B hM dX12_hasArgs_106 (by omega) ⟨rfl, by (refine ⟨by omega, by omega, by omega, by omega, ?_⟩; first | (intro hq; exfalso; omega) | (intro _; exact ARG_n (by omega) (by omega)) | (intro _; exact ARG_7 (by omega) (by omega) (by assumption) (by assumption) (by omega) (by omega)) | (intro _; exact ARG_8 (by omega) (by omega) ‹_ = iMem 2 _ _ _ _ _ _ _ _› (by assumption) (by assumption) (by assumption) (by omega) (by omega) (by omega)))⟩
        · refine lv_aload_n B.1 B.2.1 dX12_hasArgs_75 rfl (lv_at hl 2 rfl) ?_
          refine lv_iload_n B.1 B.2.1 dX12_hasArgs_76 rfl (lv_at hl 3 rfl) ?_
          refine q_con B dX12_hasArgs_77 ?_
          refine lv_aload_n B.1 B.2.1 dX12_hasArgs_78 rfl (lv_at hl 2 rfl) ?_
          refine lv_iload_n B.1 B.2.1 dX12_hasArgs_79 rfl (lv_at hl 5 rfl) ?_
          refine lv_iload B.1 B.2.1 dX12_hasArgs_80 (lv_at hl 0 rfl) ?_
          have hv30 : ((-2147483648 : Int) ≤ a_kind ∧ (a_kind : Int) ≤ 2147483647) ∧ ((-2147483648 : Int) ≤ r27 ∧ (r27 : Int) ≤ 2147483647) ∧ (0 ≤ (a_kind)) ∧ ((a_kind) ≤ 15) ∧ (0 ≤ (r27)) ∧ ((r27) ≤ 11) := by first | omega | (simp only [wr_at]; omega) | exact ⟨by first | omega | (simp only [wr_at]; omega) | assumption, by first | omega | (simp only [wr_at]; omega) | assumption, by first | omega | (simp only [wr_at]; omega) | assumption, by first | omega | (simp only [wr_at]; omega) | assumption, by first | omega | (simp only [wr_at]; omega) | assumption, by first | omega | (simp only [wr_at]; omega) | assumption⟩
          refine m_calli (n := 2) (rest := [.int (II 1), .int (II a_u), .ref h0]) B hM hA hl.1 (k_kindIn l D dA h0 ad f g A L a_kind r27 hv30.1 hv30.2.1 hv30.2.2.1 hv30.2.2.2.1 hv30.2.2.2.2.1 hv30.2.2.2.2.2) rfl ok_kindIn nm_kindIn ⟨rfl, rfl⟩ ⟨Nat.le_of_ble_eq_true rfl, Nat.le_of_ble_eq_true rfl⟩ dX12_hasArgs_82 rfl rfl (Nat.le_of_ble_eq_true rfl) ⟨Nat.zero_le _, Nat.zero_le _⟩ (fun r31 σr31 H locs ir31 hp32 hM => ?_)
          obtain ⟨rfl, hp32⟩ := hp32
          unfold inr at ir31
          replace hp32 : r31 = (A 43) ((A 38) (12 * (16 * (f 3) + (a_kind)) + (r27)).toNat).toNat ∧ -1 ≤ r31 ∧ r31 ≤ 15 := hp32
          obtain ⟨hp32_0, hp32_1, hp32_2⟩ := hp32
          have hx := iMem_ty ‹_ = iMem 2 _ _ _ _ _ _ _ _› (by omega)
          have hk := (p_5 (by omega) ((a_kind)) (by omega) (by omega)).2.2 ((r27)) (by omega) (by omega)
          have hb := p_6 (by omega) ((A 38) (12 * (16 * (f 3) + (a_kind)) + (r27)).toNat) (by omega) (by omega) (by omega)
          have hv33 : ((-2147483648 : Int) ≤ a_u ∧ (a_u : Int) ≤ 2147483647) ∧ ((-2147483648 : Int) ≤ 1 ∧ (1 : Int) ≤ 2147483647) ∧ ((-2147483648 : Int) ≤ r31 ∧ (r31 : Int) ≤ 2147483647) ∧ (0 ≤ (a_u)) ∧ ((a_u) ≤ 3199) ∧ (0 ≤ (1 : Int)) ∧ ((1 : Int) ≤ 3) ∧ (0 ≤ (r31)) ∧ ((r31) ≤ 15) := by first | omega | (simp only [wr_at]; omega) | exact ⟨by first | omega | (simp only [wr_at]; omega) | assumption, by first | omega | (simp only [wr_at]; omega) | assumption, by first | omega | (simp only [wr_at]; omega) | assumption, by first | omega | (simp only [wr_at]; omega) | assumption, by first | omega | (simp only [wr_at]; omega) | assumption, by first | omega | (simp only [wr_at]; omega) | assumption, by first | omega | (simp only [wr_at]; omega) | assumption, by first | omega | (simp only [wr_at]; omega) | assumption, by first | omega | (simp only [wr_at]; omega) | assumption⟩
          refine m_calli (n := 3) (rest := []) B hM hA hl.1 (k_intMember l D dA h0 ad f g A L a_u 1 r31 hv33.1 hv33.2.1 hv33.2.2.1 hv33.2.2.2.1 hv33.2.2.2.2.1 hv33.2.2.2.2.2.1 hv33.2.2.2.2.2.2.1 hv33.2.2.2.2.2.2.2.1 hv33.2.2.2.2.2.2.2.2) rfl ok_intMember nm_intMember ⟨rfl, rfl⟩ ⟨Nat.le_of_ble_eq_true rfl, Nat.le_of_ble_eq_true rfl⟩ dX12_hasArgs_85 rfl rfl (Nat.le_of_ble_eq_true rfl) ⟨Nat.zero_le _, Nat.zero_le _⟩ (fun r34 σr34 H locs ir34 hp35 hM => ?_)
          obtain ⟨rfl, hp35⟩ := hp35
          unfold inr at ir34
          replace hp35 : r34 = iMem 0 (L 55) (L 41) (A 38) (A 37) (A 42) (f 3) (4 * (a_u) + (1 : Int)) (r31) ∧ -1 ≤ r34 ∧ r34 ≤ 11 ∧ r34 < (A 37) (16 * (f 3) + (r31)).toNat := hp35
          obtain ⟨hp35_0, hp35_1, hp35_2, hp35_3⟩ := hp35
          refine q_ilt (tgt := 105) B dX12_hasArgs_88 (by decide) (by unfold inr; omega) (fun c36 => ?_) (fun c36 => ?_)
          · refine q_con B dX12_hasArgs_105 ?_
            subst hPST
            exact m_zret B hM dX12_hasArgs_106 (by omega) ⟨rfl, by (refine ⟨by omega, by omega, by omega, by omega, ?_⟩; first | (intro hq; exfalso; omega) | (intro _; exact ARG_n (by omega) (by omega)) | (intro _; exact ARG_7 (by omega) (by omega) (by assumption) (by assumption) (by omega) (by omega)) | (intro _; exact ARG_8 (by omega) (by omega) ‹_ = iMem 2 _ _ _ _ _ _ _ _› (by assumption) (by assumption) (by assumption) (by omega) (by omega) (by omega)))⟩
          · refine lv_aload_n B.1 B.2.1 dX12_hasArgs_91 rfl (lv_at hl 2 rfl) ?_
            refine lv_iload_n B.1 B.2.1 dX12_hasArgs_92 rfl (lv_at hl 3 rfl) ?_
            refine q_con B dX12_hasArgs_93 ?_
            refine lv_iload_n B.1 B.2.1 dX12_hasArgs_94 rfl (lv_at hl 5 rfl) ?_
            have hv37 : ((-2147483648 : Int) ≤ a_u ∧ (a_u : Int) ≤ 2147483647) ∧ ((-2147483648 : Int) ≤ 2 ∧ (2 : Int) ≤ 2147483647) ∧ ((-2147483648 : Int) ≤ a_kind ∧ (a_kind : Int) ≤ 2147483647) ∧ (0 ≤ (a_u)) ∧ ((a_u) ≤ 3199) ∧ (0 ≤ (2 : Int)) ∧ ((2 : Int) ≤ 3) ∧ (0 ≤ (a_kind)) ∧ ((a_kind) ≤ 15) := by first | omega | (simp only [wr_at]; omega) | exact ⟨by first | omega | (simp only [wr_at]; omega) | assumption, by first | omega | (simp only [wr_at]; omega) | assumption, by first | omega | (simp only [wr_at]; omega) | assumption, by first | omega | (simp only [wr_at]; omega) | assumption, by first | omega | (simp only [wr_at]; omega) | assumption, by first | omega | (simp only [wr_at]; omega) | assumption, by first | omega | (simp only [wr_at]; omega) | assumption, by first | omega | (simp only [wr_at]; omega) | assumption, by first | omega | (simp only [wr_at]; omega) | assumption⟩
            refine m_calli (n := 3) (rest := []) B hM hA hl.1 (k_intMember l D dA h0 ad f g A L a_u 2 a_kind hv37.1 hv37.2.1 hv37.2.2.1 hv37.2.2.2.1 hv37.2.2.2.2.1 hv37.2.2.2.2.2.1 hv37.2.2.2.2.2.2.1 hv37.2.2.2.2.2.2.2.1 hv37.2.2.2.2.2.2.2.2) rfl ok_intMember nm_intMember ⟨rfl, rfl⟩ ⟨Nat.le_of_ble_eq_true rfl, Nat.le_of_ble_eq_true rfl⟩ dX12_hasArgs_95 rfl rfl (Nat.le_of_ble_eq_true rfl) ⟨Nat.zero_le _, Nat.zero_le _⟩ (fun r38 σr38 H locs ir38 hp39 hM => ?_)
            obtain ⟨rfl, hp39⟩ := hp39
            unfold inr at ir38
            replace hp39 : r38 = iMem 0 (L 55) (L 41) (A 38) (A 37) (A 42) (f 3) (4 * (a_u) + (2 : Int)) (a_kind) ∧ -1 ≤ r38 ∧ r38 ≤ 11 ∧ r38 < (A 37) (16 * (f 3) + (a_kind)).toNat := hp39
            obtain ⟨hp39_0, hp39_1, hp39_2, hp39_3⟩ := hp39
            refine q_ilt (tgt := 105) B dX12_hasArgs_98 (by decide) (by unfold inr; omega) (fun c40 => ?_) (fun c40 => ?_)
            · refine q_con B dX12_hasArgs_105 ?_
              subst hPST
              exact m_zret B hM dX12_hasArgs_106 (by omega) ⟨rfl, by (refine ⟨by omega, by omega, by omega, by omega, ?_⟩; first | (intro hq; exfalso; omega) | (intro _; exact ARG_n (by omega) (by omega)) | (intro _; exact ARG_7 (by omega) (by omega) (by assumption) (by assumption) (by omega) (by omega)) | (intro _; exact ARG_8 (by omega) (by omega) ‹_ = iMem 2 _ _ _ _ _ _ _ _› (by assumption) (by assumption) (by assumption) (by omega) (by omega) (by omega)))⟩
            · refine q_con B dX12_hasArgs_101 ?_
              refine lv_goto (tgt := 106) B.1 B.2.1 dX12_hasArgs_102 (by decide) ?_
              subst hPST
              exact m_zret B hM dX12_hasArgs_106 (by omega) ⟨rfl, by (refine ⟨by omega, by omega, by omega, by omega, ?_⟩; first | (intro hq; exfalso; omega) | (intro _; exact ARG_n (by omega) (by omega)) | (intro _; exact ARG_7 (by omega) (by omega) (by assumption) (by assumption) (by omega) (by omega)) | (intro _; exact ARG_8 (by omega) (by omega) ‹_ = iMem 2 _ _ _ _ _ _ _ _› (by assumption) (by assumption) (by assumption) (by omega) (by omega) (by omega)))⟩
  · refine lv_iload B.1 B.2.1 dX12_hasArgs_14 (lv_at hl 0 rfl) ?_
    refine q_con B dX12_hasArgs_16 ?_
    refine q_cne (tgt := 44) B dX12_hasArgs_17 (by decide) (by unfold inr; omega) (by unfold inr; omega) (fun c41 => ?_) (fun c41 => ?_)
    · refine q_con B dX12_hasArgs_44 ?_
      subst hPST
      exact m_zret B hM dX12_hasArgs_45 (by omega) ⟨rfl, by (refine ⟨by omega, by omega, by omega, by omega, ?_⟩; first | (intro hq; exfalso; omega) | (intro _; exact ARG_n (by omega) (by omega)) | (intro _; exact ARG_7 (by omega) (by omega) (by assumption) (by assumption) (by omega) (by omega)) | (intro _; exact ARG_8 (by omega) (by omega) ‹_ = iMem 2 _ _ _ _ _ _ _ _› (by assumption) (by assumption) (by assumption) (by omega) (by omega) (by omega)))⟩
    · refine lv_aload_n B.1 B.2.1 dX12_hasArgs_20 rfl (lv_at hl 1 rfl) ?_
      refine lv_iload_n B.1 B.2.1 dX12_hasArgs_21 rfl (lv_at hl 2 rfl) ?_
      refine q_con B dX12_hasArgs_22 ?_
      refine lv_iload_n B.1 B.2.1 dX12_hasArgs_23 rfl (lv_at hl 4 rfl) ?_
      have hv42 : ((-2147483648 : Int) ≤ a_u ∧ (a_u : Int) ≤ 2147483647) ∧ ((-2147483648 : Int) ≤ 0 ∧ (0 : Int) ≤ 2147483647) ∧ ((-2147483648 : Int) ≤ a_kind ∧ (a_kind : Int) ≤ 2147483647) ∧ (0 ≤ (a_u)) ∧ ((a_u) ≤ 3199) ∧ (0 ≤ (0 : Int)) ∧ ((0 : Int) ≤ 3) ∧ (0 ≤ (a_kind)) ∧ ((a_kind) ≤ 15) := by first | omega | (simp only [wr_at]; omega) | exact ⟨by first | omega | (simp only [wr_at]; omega) | assumption, by first | omega | (simp only [wr_at]; omega) | assumption, by first | omega | (simp only [wr_at]; omega) | assumption, by first | omega | (simp only [wr_at]; omega) | assumption, by first | omega | (simp only [wr_at]; omega) | assumption, by first | omega | (simp only [wr_at]; omega) | assumption, by first | omega | (simp only [wr_at]; omega) | assumption, by first | omega | (simp only [wr_at]; omega) | assumption, by first | omega | (simp only [wr_at]; omega) | assumption⟩
      refine m_calli (n := 3) (rest := []) B hM hA hl.1 (k_intMember l D dA h0 ad f g A L a_u 0 a_kind hv42.1 hv42.2.1 hv42.2.2.1 hv42.2.2.2.1 hv42.2.2.2.2.1 hv42.2.2.2.2.2.1 hv42.2.2.2.2.2.2.1 hv42.2.2.2.2.2.2.2.1 hv42.2.2.2.2.2.2.2.2) rfl ok_intMember nm_intMember ⟨rfl, rfl⟩ ⟨Nat.le_of_ble_eq_true rfl, Nat.le_of_ble_eq_true rfl⟩ dX12_hasArgs_24 rfl rfl (Nat.le_of_ble_eq_true rfl) ⟨Nat.zero_le _, Nat.zero_le _⟩ (fun r43 σr43 H locs ir43 hp44 hM => ?_)
      obtain ⟨rfl, hp44⟩ := hp44
      unfold inr at ir43
      replace hp44 : r43 = iMem 0 (L 55) (L 41) (A 38) (A 37) (A 42) (f 3) (4 * (a_u) + (0 : Int)) (a_kind) ∧ -1 ≤ r43 ∧ r43 ≤ 11 ∧ r43 < (A 37) (16 * (f 3) + (a_kind)).toNat := hp44
      obtain ⟨hp44_0, hp44_1, hp44_2, hp44_3⟩ := hp44
      refine q_ilt (tgt := 44) B dX12_hasArgs_27 (by decide) (by unfold inr; omega) (fun c45 => ?_) (fun c45 => ?_)
      · refine q_con B dX12_hasArgs_44 ?_
        subst hPST
        exact m_zret B hM dX12_hasArgs_45 (by omega) ⟨rfl, by (refine ⟨by omega, by omega, by omega, by omega, ?_⟩; first | (intro hq; exfalso; omega) | (intro _; exact ARG_n (by omega) (by omega)) | (intro _; exact ARG_7 (by omega) (by omega) (by assumption) (by assumption) (by omega) (by omega)) | (intro _; exact ARG_8 (by omega) (by omega) ‹_ = iMem 2 _ _ _ _ _ _ _ _› (by assumption) (by assumption) (by assumption) (by omega) (by omega) (by omega)))⟩
      · refine lv_aload_n B.1 B.2.1 dX12_hasArgs_30 rfl (lv_at hl 1 rfl) ?_
        refine lv_iload_n B.1 B.2.1 dX12_hasArgs_31 rfl (lv_at hl 2 rfl) ?_
        refine q_con B dX12_hasArgs_32 ?_
        refine lv_iload_n B.1 B.2.1 dX12_hasArgs_33 rfl (lv_at hl 4 rfl) ?_
        have hv46 : ((-2147483648 : Int) ≤ a_u ∧ (a_u : Int) ≤ 2147483647) ∧ ((-2147483648 : Int) ≤ 1 ∧ (1 : Int) ≤ 2147483647) ∧ ((-2147483648 : Int) ≤ a_kind ∧ (a_kind : Int) ≤ 2147483647) ∧ (0 ≤ (a_u)) ∧ ((a_u) ≤ 3199) ∧ (0 ≤ (1 : Int)) ∧ ((1 : Int) ≤ 3) ∧ (0 ≤ (a_kind)) ∧ ((a_kind) ≤ 15) := by first | omega | (simp only [wr_at]; omega) | exact ⟨by first | omega | (simp only [wr_at]; omega) | assumption, by first | omega | (simp only [wr_at]; omega) | assumption, by first | omega | (simp only [wr_at]; omega) | assumption, by first | omega | (simp only [wr_at]; omega) | assumption, by first | omega | (simp only [wr_at]; omega) | assumption, by first | omega | (simp only [wr_at]; omega) | assumption, by first | omega | (simp only [wr_at]; omega) | assumption, by first | omega | (simp only [wr_at]; omega) | assumption, by first | omega | (simp only [wr_at]; omega) | assumption⟩
        refine m_calli (n := 3) (rest := []) B hM hA hl.1 (k_intMember l D dA h0 ad f g A L a_u 1 a_kind hv46.1 hv46.2.1 hv46.2.2.1 hv46.2.2.2.1 hv46.2.2.2.2.1 hv46.2.2.2.2.2.1 hv46.2.2.2.2.2.2.1 hv46.2.2.2.2.2.2.2.1 hv46.2.2.2.2.2.2.2.2) rfl ok_intMember nm_intMember ⟨rfl, rfl⟩ ⟨Nat.le_of_ble_eq_true rfl, Nat.le_of_ble_eq_true rfl⟩ dX12_hasArgs_34 rfl rfl (Nat.le_of_ble_eq_true rfl) ⟨Nat.zero_le _, Nat.zero_le _⟩ (fun r47 σr47 H locs ir47 hp48 hM => ?_)
        obtain ⟨rfl, hp48⟩ := hp48
        unfold inr at ir47
        replace hp48 : r47 = iMem 0 (L 55) (L 41) (A 38) (A 37) (A 42) (f 3) (4 * (a_u) + (1 : Int)) (a_kind) ∧ -1 ≤ r47 ∧ r47 ≤ 11 ∧ r47 < (A 37) (16 * (f 3) + (a_kind)).toNat := hp48
        obtain ⟨hp48_0, hp48_1, hp48_2, hp48_3⟩ := hp48
        refine q_ilt (tgt := 44) B dX12_hasArgs_37 (by decide) (by unfold inr; omega) (fun c49 => ?_) (fun c49 => ?_)
        · refine q_con B dX12_hasArgs_44 ?_
          subst hPST
          exact m_zret B hM dX12_hasArgs_45 (by omega) ⟨rfl, by (refine ⟨by omega, by omega, by omega, by omega, ?_⟩; first | (intro hq; exfalso; omega) | (intro _; exact ARG_n (by omega) (by omega)) | (intro _; exact ARG_7 (by omega) (by omega) (by assumption) (by assumption) (by omega) (by omega)) | (intro _; exact ARG_8 (by omega) (by omega) ‹_ = iMem 2 _ _ _ _ _ _ _ _› (by assumption) (by assumption) (by assumption) (by omega) (by omega) (by omega)))⟩
        · refine q_con B dX12_hasArgs_40 ?_
          refine lv_goto (tgt := 45) B.1 B.2.1 dX12_hasArgs_41 (by decide) ?_
          subst hPST
          exact m_zret B hM dX12_hasArgs_45 (by omega) ⟨rfl, by (refine ⟨by omega, by omega, by omega, by omega, ?_⟩; first | (intro hq; exfalso; omega) | (intro _; exact ARG_n (by omega) (by omega)) | (intro _; exact ARG_7 (by omega) (by omega) (by assumption) (by assumption) (by omega) (by omega)) | (intro _; exact ARG_8 (by omega) (by omega) ‹_ = iMem 2 _ _ _ _ _ _ _ _› (by assumption) (by assumption) (by assumption) (by omega) (by omega) (by omega)))⟩
set_option maxHeartbeats 4000000 in
set_option maxRecDepth 20000 in
theorem k_argOf (l : Launch) (D : va_G) (dA : Nat → ClassId) (h0 : Nat) (ad : Nat → Nat) (f : Nat → Int) (g : Nat → Int64) (A : Nat → Nat → Int) (L : Nat → Nat → Int64) (a_u : Int) (a_w : Int) (a_kind : Int) (a_i : Int) (i_u : (-2147483648 : Int) ≤ a_u ∧ a_u ≤ 2147483647) (i_w : (-2147483648 : Int) ≤ a_w ∧ a_w ≤ 2147483647) (i_kind : (-2147483648 : Int) ≤ a_kind ∧ a_kind ≤ 2147483647) (i_i : (-2147483648 : Int) ≤ a_i ∧ a_i ≤ 2147483647) (p_0 : 0 ≤ (a_u)) (p_1 : (a_u) ≤ 3199) (p_2 : 0 ≤ (a_kind)) (p_3 : (a_kind) < (f 60)) (p_4 : 0 ≤ (a_i)) (p_5 : (a_i) ≤ 3) (p_6 : (f 5) = 0) (p_7 : KIv (f 5) (f 3) (f 60) (f 61) (A 34) (A 37) (A 36) (A 38)) (p_8 : BKp (f 5) (f 3) (f 61) (A 42) (A 43)) (p_9 : ((a_w) = 8 → 0 ≤ iMem 2 (L 55) (L 41) (A 38) (A 37) (A 42) (f 3) (4 * (a_u)) (a_kind))) : MCi l yX12_argOf cX12_argOf 5 (some .int) ({ frames := 2, cells := 0, slots := 0, locals := 48 }) D dA h0 ad (f, g, A, L) [.int (II a_u), .int (II a_w), .int (II a_kind), .int (II a_i)] (fun (r : Int) (σ : MS) => σ = (f, g, A, L) ∧ (r = argV (L 55) (L 41) (A 54) (A 38) (A 37) (A 42) (A 43) (f 3) (a_w) (a_u) (a_kind) (a_i))) := by
  generalize hPST : (fun (r : Int) (σ : MS) => σ = (f, g, A, L) ∧ (r = argV (L 55) (L 41) (A 54) (A 38) (A 37) (A 42) (A 43) (f 3) (a_w) (a_u) (a_kind) (a_i))) = PST
  refine m_enter (by decide) rfl (Nat.le_of_ble_eq_true rfl) (fun p e s m args below meth c ls B hM hl => ?_)
  have hA : ∀ q, s.heap.size ≤ q → mF dA h0 ad (f, g, A, L) s.heap.size q := fun q h => Or.inr h
  have hl : lv_has ls 5 [(0, .ref h0), (1, .int (II a_u)), (2, .int (II a_w)), (3, .int (II a_kind)), (4, .int (II a_i))] := hl
  have r1 : (0 : Int) ≤ f 3 ∧ f 3 ≤ 1 := hM.2.2.2.1 3
  have r2 : (0 : Int) ≤ f 60 ∧ f 60 ≤ 16 := hM.2.2.2.1 60
  have r3 : (0 : Int) ≤ f 61 ∧ f 61 ≤ 200 := hM.2.2.2.1 61
  refine lv_iload_n B.1 B.2.1 dX12_argOf_0 rfl (lv_at hl 2 rfl) ?_
  refine q_bip B dX12_argOf_1 (by decide) ?_
  refine q_cne (tgt := 15) B dX12_argOf_3 (by decide) (by unfold inr; omega) (by unfold inr; omega) (fun c4 => ?_) (fun c4 => ?_)
  · refine lv_iload_n B.1 B.2.1 dX12_argOf_15 rfl (lv_at hl 2 rfl) ?_
    refine q_bip B dX12_argOf_16 (by decide) ?_
    refine q_ceq (tgt := 33) B dX12_argOf_18 (by decide) (by unfold inr; omega) (by unfold inr; omega) (fun c5 => ?_) (fun c5 => ?_)
    · refine lv_iload B.1 B.2.1 dX12_argOf_33 (lv_at hl 4 rfl) ?_
      refine q_ine (tgt := 47) B dX12_argOf_35 (by decide) (by unfold inr; omega) (fun c6 => ?_) (fun c6 => ?_)
      · refine lv_iload B.1 B.2.1 dX12_argOf_47 (lv_at hl 4 rfl) ?_
        refine q_con B dX12_argOf_49 ?_
        refine q_cne (tgt := 73) B dX12_argOf_50 (by decide) (by unfold inr; omega) (by unfold inr; omega) (fun c7 => ?_) (fun c7 => ?_)
        · refine lv_aload_n B.1 B.2.1 dX12_argOf_73 rfl (lv_at hl 0 rfl) ?_
          refine lv_iload_n B.1 B.2.1 dX12_argOf_74 rfl (lv_at hl 1 rfl) ?_
          refine q_con B dX12_argOf_75 ?_
          refine lv_iload_n B.1 B.2.1 dX12_argOf_76 rfl (lv_at hl 3 rfl) ?_
          have hv8 : ((-2147483648 : Int) ≤ a_u ∧ (a_u : Int) ≤ 2147483647) ∧ ((-2147483648 : Int) ≤ 2 ∧ (2 : Int) ≤ 2147483647) ∧ ((-2147483648 : Int) ≤ a_kind ∧ (a_kind : Int) ≤ 2147483647) ∧ (0 ≤ (a_u)) ∧ ((a_u) ≤ 3199) ∧ (0 ≤ (2 : Int)) ∧ ((2 : Int) ≤ 3) ∧ (0 ≤ (a_kind)) ∧ ((a_kind) ≤ 15) := by first | omega | (simp only [wr_at]; omega) | exact ⟨by first | omega | (simp only [wr_at]; omega) | assumption, by first | omega | (simp only [wr_at]; omega) | assumption, by first | omega | (simp only [wr_at]; omega) | assumption, by first | omega | (simp only [wr_at]; omega) | assumption, by first | omega | (simp only [wr_at]; omega) | assumption, by first | omega | (simp only [wr_at]; omega) | assumption, by first | omega | (simp only [wr_at]; omega) | assumption, by first | omega | (simp only [wr_at]; omega) | assumption, by first | omega | (simp only [wr_at]; omega) | assumption⟩
          refine m_calli (n := 3) (rest := []) B hM hA hl.1 (k_intMember l D dA h0 ad f g A L a_u 2 a_kind hv8.1 hv8.2.1 hv8.2.2.1 hv8.2.2.2.1 hv8.2.2.2.2.1 hv8.2.2.2.2.2.1 hv8.2.2.2.2.2.2.1 hv8.2.2.2.2.2.2.2.1 hv8.2.2.2.2.2.2.2.2) rfl ok_intMember nm_intMember ⟨rfl, rfl⟩ ⟨Nat.le_of_ble_eq_true rfl, Nat.le_of_ble_eq_true rfl⟩ dX12_argOf_77 rfl rfl (Nat.le_of_ble_eq_true rfl) ⟨Nat.zero_le _, Nat.zero_le _⟩ (fun r9 σr9 H locs ir9 hp10 hM => ?_)
          obtain ⟨rfl, hp10⟩ := hp10
          unfold inr at ir9
          replace hp10 : r9 = iMem 0 (L 55) (L 41) (A 38) (A 37) (A 42) (f 3) (4 * (a_u) + (2 : Int)) (a_kind) ∧ -1 ≤ r9 ∧ r9 ≤ 11 ∧ r9 < (A 37) (16 * (f 3) + (a_kind)).toNat := hp10
          obtain ⟨hp10_0, hp10_1, hp10_2, hp10_3⟩ := hp10
          subst hPST
          exact m_iret B hM dX12_argOf_80 (by unfold inr; omega) ⟨rfl, by (first | exact argV_7 (by omega) (by assumption) | exact argV_80 (by omega) (by omega) (by assumption) | exact argV_81 (by omega) (by omega) ‹_ = iMem 2 _ _ _ _ _ _ _ _› (by assumption) (by assumption) | exact argV_82 (by omega) (by omega) (by assumption) | exact argV_n (by omega) (by omega) rfl)⟩
        · refine lv_aload_n B.1 B.2.1 dX12_argOf_53 rfl (lv_at hl 0 rfl) ?_
          refine lv_iload_n B.1 B.2.1 dX12_argOf_54 rfl (lv_at hl 1 rfl) ?_
          refine q_con B dX12_argOf_55 ?_
          refine lv_aload_n B.1 B.2.1 dX12_argOf_56 rfl (lv_at hl 0 rfl) ?_
          refine lv_iload_n B.1 B.2.1 dX12_argOf_57 rfl (lv_at hl 3 rfl) ?_
          refine lv_aload_n B.1 B.2.1 dX12_argOf_58 rfl (lv_at hl 0 rfl) ?_
          refine lv_iload_n B.1 B.2.1 dX12_argOf_59 rfl (lv_at hl 1 rfl) ?_
          refine lv_iload_n B.1 B.2.1 dX12_argOf_60 rfl (lv_at hl 3 rfl) ?_
          have hv11 : ((-2147483648 : Int) ≤ a_u ∧ (a_u : Int) ≤ 2147483647) ∧ ((-2147483648 : Int) ≤ a_kind ∧ (a_kind : Int) ≤ 2147483647) ∧ (0 ≤ (a_u)) ∧ ((a_u) ≤ 3199) ∧ (0 ≤ (a_kind)) ∧ ((a_kind) ≤ 15) := by first | omega | (simp only [wr_at]; omega) | exact ⟨by first | omega | (simp only [wr_at]; omega) | assumption, by first | omega | (simp only [wr_at]; omega) | assumption, by first | omega | (simp only [wr_at]; omega) | assumption, by first | omega | (simp only [wr_at]; omega) | assumption, by first | omega | (simp only [wr_at]; omega) | assumption, by first | omega | (simp only [wr_at]; omega) | assumption⟩
          refine m_calli (n := 2) (rest := [.int (II a_kind), .ref h0, .int (II 1), .int (II a_u), .ref h0]) B hM hA hl.1 (k_listMember l D dA h0 ad f g A L a_u a_kind hv11.1 hv11.2.1 hv11.2.2.1 hv11.2.2.2.1 hv11.2.2.2.2.1 hv11.2.2.2.2.2) rfl ok_listMember nm_listMember ⟨rfl, rfl⟩ ⟨Nat.le_of_ble_eq_true rfl, Nat.le_of_ble_eq_true rfl⟩ dX12_argOf_61 rfl rfl (Nat.le_of_ble_eq_true rfl) ⟨Nat.zero_le _, Nat.zero_le _⟩ (fun r12 σr12 H locs ir12 hp13 hM => ?_)
          obtain ⟨rfl, hp13⟩ := hp13
          unfold inr at ir12
          replace hp13 : r12 = iMem 2 (L 55) (L 41) (A 38) (A 37) (A 42) (f 3) (4 * (a_u)) (a_kind) ∧ -1 ≤ r12 ∧ r12 ≤ 11 ∧ r12 < (A 37) (16 * (f 3) + (a_kind)).toNat := hp13
          obtain ⟨hp13_0, hp13_1, hp13_2, hp13_3⟩ := hp13
          have hx := iMem_ty ‹_ = iMem 2 _ _ _ _ _ _ _ _› (by omega)
          have hk := (p_7 (by omega) ((a_kind)) (by omega) (by omega)).2.2 ((r12)) (by omega) (by omega)
          have hb := p_8 (by omega) ((A 38) (12 * (16 * (f 3) + (a_kind)) + (r12)).toNat) (by omega) (by omega) (by omega)
          have hv14 : ((-2147483648 : Int) ≤ a_kind ∧ (a_kind : Int) ≤ 2147483647) ∧ ((-2147483648 : Int) ≤ r12 ∧ (r12 : Int) ≤ 2147483647) ∧ (0 ≤ (a_kind)) ∧ ((a_kind) ≤ 15) ∧ (0 ≤ (r12)) ∧ ((r12) ≤ 11) := by first | omega | (simp only [wr_at]; omega) | exact ⟨by first | omega | (simp only [wr_at]; omega) | assumption, by first | omega | (simp only [wr_at]; omega) | assumption, by first | omega | (simp only [wr_at]; omega) | assumption, by first | omega | (simp only [wr_at]; omega) | assumption, by first | omega | (simp only [wr_at]; omega) | assumption, by first | omega | (simp only [wr_at]; omega) | assumption⟩
          refine m_calli (n := 2) (rest := [.int (II 1), .int (II a_u), .ref h0]) B hM hA hl.1 (k_kindIn l D dA h0 ad f g A L a_kind r12 hv14.1 hv14.2.1 hv14.2.2.1 hv14.2.2.2.1 hv14.2.2.2.2.1 hv14.2.2.2.2.2) rfl ok_kindIn nm_kindIn ⟨rfl, rfl⟩ ⟨Nat.le_of_ble_eq_true rfl, Nat.le_of_ble_eq_true rfl⟩ dX12_argOf_64 rfl rfl (Nat.le_of_ble_eq_true rfl) ⟨Nat.zero_le _, Nat.zero_le _⟩ (fun r15 σr15 H locs ir15 hp16 hM => ?_)
          obtain ⟨rfl, hp16⟩ := hp16
          unfold inr at ir15
          replace hp16 : r15 = (A 43) ((A 38) (12 * (16 * (f 3) + (a_kind)) + (r12)).toNat).toNat ∧ -1 ≤ r15 ∧ r15 ≤ 15 := hp16
          obtain ⟨hp16_0, hp16_1, hp16_2⟩ := hp16
          have hv17 : ((-2147483648 : Int) ≤ a_u ∧ (a_u : Int) ≤ 2147483647) ∧ ((-2147483648 : Int) ≤ 1 ∧ (1 : Int) ≤ 2147483647) ∧ ((-2147483648 : Int) ≤ r15 ∧ (r15 : Int) ≤ 2147483647) ∧ (0 ≤ (a_u)) ∧ ((a_u) ≤ 3199) ∧ (0 ≤ (1 : Int)) ∧ ((1 : Int) ≤ 3) ∧ (0 ≤ (r15)) ∧ ((r15) ≤ 15) := by first | omega | (simp only [wr_at]; omega) | exact ⟨by first | omega | (simp only [wr_at]; omega) | assumption, by first | omega | (simp only [wr_at]; omega) | assumption, by first | omega | (simp only [wr_at]; omega) | assumption, by first | omega | (simp only [wr_at]; omega) | assumption, by first | omega | (simp only [wr_at]; omega) | assumption, by first | omega | (simp only [wr_at]; omega) | assumption, by first | omega | (simp only [wr_at]; omega) | assumption, by first | omega | (simp only [wr_at]; omega) | assumption, by first | omega | (simp only [wr_at]; omega) | assumption⟩
          refine m_calli (n := 3) (rest := []) B hM hA hl.1 (k_intMember l D dA h0 ad f g A L a_u 1 r15 hv17.1 hv17.2.1 hv17.2.2.1 hv17.2.2.2.1 hv17.2.2.2.2.1 hv17.2.2.2.2.2.1 hv17.2.2.2.2.2.2.1 hv17.2.2.2.2.2.2.2.1 hv17.2.2.2.2.2.2.2.2) rfl ok_intMember nm_intMember ⟨rfl, rfl⟩ ⟨Nat.le_of_ble_eq_true rfl, Nat.le_of_ble_eq_true rfl⟩ dX12_argOf_67 rfl rfl (Nat.le_of_ble_eq_true rfl) ⟨Nat.zero_le _, Nat.zero_le _⟩ (fun r18 σr18 H locs ir18 hp19 hM => ?_)
          obtain ⟨rfl, hp19⟩ := hp19
          unfold inr at ir18
          replace hp19 : r18 = iMem 0 (L 55) (L 41) (A 38) (A 37) (A 42) (f 3) (4 * (a_u) + (1 : Int)) (r15) ∧ -1 ≤ r18 ∧ r18 ≤ 11 ∧ r18 < (A 37) (16 * (f 3) + (r15)).toNat := hp19
          obtain ⟨hp19_0, hp19_1, hp19_2, hp19_3⟩ := hp19
          refine lv_goto (tgt := 80) B.1 B.2.1 dX12_argOf_70 (by decide) ?_
          subst hPST
          exact m_iret B hM dX12_argOf_80 (by unfold inr; omega) ⟨rfl, by (first | exact argV_7 (by omega) (by assumption) | exact argV_80 (by omega) (by omega) (by assumption) | exact argV_81 (by omega) (by omega) ‹_ = iMem 2 _ _ _ _ _ _ _ _› (by assumption) (by assumption) | exact argV_82 (by omega) (by omega) (by assumption) | exact argV_n (by omega) (by omega) rfl)⟩
      · refine lv_aload_n B.1 B.2.1 dX12_argOf_38 rfl (lv_at hl 0 rfl) ?_
        refine lv_iload_n B.1 B.2.1 dX12_argOf_39 rfl (lv_at hl 1 rfl) ?_
        refine lv_iload_n B.1 B.2.1 dX12_argOf_40 rfl (lv_at hl 3 rfl) ?_
        have hv20 : ((-2147483648 : Int) ≤ a_u ∧ (a_u : Int) ≤ 2147483647) ∧ ((-2147483648 : Int) ≤ a_kind ∧ (a_kind : Int) ≤ 2147483647) ∧ (0 ≤ (a_u)) ∧ ((a_u) ≤ 3199) ∧ (0 ≤ (a_kind)) ∧ ((a_kind) ≤ 15) := by first | omega | (simp only [wr_at]; omega) | exact ⟨by first | omega | (simp only [wr_at]; omega) | assumption, by first | omega | (simp only [wr_at]; omega) | assumption, by first | omega | (simp only [wr_at]; omega) | assumption, by first | omega | (simp only [wr_at]; omega) | assumption, by first | omega | (simp only [wr_at]; omega) | assumption, by first | omega | (simp only [wr_at]; omega) | assumption⟩
        refine m_calli (n := 2) (rest := []) B hM hA hl.1 (k_listMember l D dA h0 ad f g A L a_u a_kind hv20.1 hv20.2.1 hv20.2.2.1 hv20.2.2.2.1 hv20.2.2.2.2.1 hv20.2.2.2.2.2) rfl ok_listMember nm_listMember ⟨rfl, rfl⟩ ⟨Nat.le_of_ble_eq_true rfl, Nat.le_of_ble_eq_true rfl⟩ dX12_argOf_41 rfl rfl (Nat.le_of_ble_eq_true rfl) ⟨Nat.zero_le _, Nat.zero_le _⟩ (fun r21 σr21 H locs ir21 hp22 hM => ?_)
        obtain ⟨rfl, hp22⟩ := hp22
        unfold inr at ir21
        replace hp22 : r21 = iMem 2 (L 55) (L 41) (A 38) (A 37) (A 42) (f 3) (4 * (a_u)) (a_kind) ∧ -1 ≤ r21 ∧ r21 ≤ 11 ∧ r21 < (A 37) (16 * (f 3) + (a_kind)).toNat := hp22
        obtain ⟨hp22_0, hp22_1, hp22_2, hp22_3⟩ := hp22
        refine lv_goto (tgt := 80) B.1 B.2.1 dX12_argOf_44 (by decide) ?_
        subst hPST
        exact m_iret B hM dX12_argOf_80 (by unfold inr; omega) ⟨rfl, by (first | exact argV_7 (by omega) (by assumption) | exact argV_80 (by omega) (by omega) (by assumption) | exact argV_81 (by omega) (by omega) ‹_ = iMem 2 _ _ _ _ _ _ _ _› (by assumption) (by assumption) | exact argV_82 (by omega) (by omega) (by assumption) | exact argV_n (by omega) (by omega) rfl)⟩
    · refine lv_aload_n B.1 B.2.1 dX12_argOf_21 rfl (lv_at hl 0 rfl) ?_
      refine m_geta (k := 54) B hM (by decide) rfl fl257 dX12_argOf_22 ?_
      refine q_con B dX12_argOf_25 ?_
      refine lv_iload_n B.1 B.2.1 dX12_argOf_26 rfl (lv_at hl 1 rfl) ?_
      refine q_mul B dX12_argOf_27 ?_
      refine lv_iload B.1 B.2.1 dX12_argOf_28 (lv_at hl 4 rfl) ?_
      refine q_add B dX12_argOf_30 ?_
      refine m_ild (k := 54) (i := 42) (n := 12800) (z := (4 * a_u) + a_i) (v := (A 54) ((4 * a_u) + a_i).toNat) B hM rfl rfl rfl (by decide) dX12_argOf_31 (by omega) (by omega) rfl ?_
      have r23 : (-2147483648 : Int) ≤ (A 54) ((4 * a_u) + a_i).toNat ∧ (A 54) ((4 * a_u) + a_i).toNat ≤ 2147483647 := hM.2.2.2.2 54 ((4 * a_u) + a_i).toNat
      subst hPST
      exact m_iret B hM dX12_argOf_32 (by unfold inr; omega) ⟨rfl, by (first | exact argV_7 (by omega) (by assumption) | exact argV_80 (by omega) (by omega) (by assumption) | exact argV_81 (by omega) (by omega) ‹_ = iMem 2 _ _ _ _ _ _ _ _› (by assumption) (by assumption) | exact argV_82 (by omega) (by omega) (by assumption) | exact argV_n (by omega) (by omega) rfl)⟩
  · refine lv_aload_n B.1 B.2.1 dX12_argOf_6 rfl (lv_at hl 0 rfl) ?_
    refine lv_iload_n B.1 B.2.1 dX12_argOf_7 rfl (lv_at hl 1 rfl) ?_
    refine lv_iload B.1 B.2.1 dX12_argOf_8 (lv_at hl 4 rfl) ?_
    refine lv_iload_n B.1 B.2.1 dX12_argOf_10 rfl (lv_at hl 3 rfl) ?_
    have hv24 : ((-2147483648 : Int) ≤ a_u ∧ (a_u : Int) ≤ 2147483647) ∧ ((-2147483648 : Int) ≤ a_i ∧ (a_i : Int) ≤ 2147483647) ∧ ((-2147483648 : Int) ≤ a_kind ∧ (a_kind : Int) ≤ 2147483647) ∧ (0 ≤ (a_u)) ∧ ((a_u) ≤ 3199) ∧ (0 ≤ (a_i)) ∧ ((a_i) ≤ 3) ∧ (0 ≤ (a_kind)) ∧ ((a_kind) ≤ 15) := by first | omega | (simp only [wr_at]; omega) | exact ⟨by first | omega | (simp only [wr_at]; omega) | assumption, by first | omega | (simp only [wr_at]; omega) | assumption, by first | omega | (simp only [wr_at]; omega) | assumption, by first | omega | (simp only [wr_at]; omega) | assumption, by first | omega | (simp only [wr_at]; omega) | assumption, by first | omega | (simp only [wr_at]; omega) | assumption, by first | omega | (simp only [wr_at]; omega) | assumption, by first | omega | (simp only [wr_at]; omega) | assumption, by first | omega | (simp only [wr_at]; omega) | assumption⟩
    refine m_calli (n := 3) (rest := []) B hM hA hl.1 (k_intMember l D dA h0 ad f g A L a_u a_i a_kind hv24.1 hv24.2.1 hv24.2.2.1 hv24.2.2.2.1 hv24.2.2.2.2.1 hv24.2.2.2.2.2.1 hv24.2.2.2.2.2.2.1 hv24.2.2.2.2.2.2.2.1 hv24.2.2.2.2.2.2.2.2) rfl ok_intMember nm_intMember ⟨rfl, rfl⟩ ⟨Nat.le_of_ble_eq_true rfl, Nat.le_of_ble_eq_true rfl⟩ dX12_argOf_11 rfl rfl (Nat.le_of_ble_eq_true rfl) ⟨Nat.zero_le _, Nat.zero_le _⟩ (fun r25 σr25 H locs ir25 hp26 hM => ?_)
    obtain ⟨rfl, hp26⟩ := hp26
    unfold inr at ir25
    replace hp26 : r25 = iMem 0 (L 55) (L 41) (A 38) (A 37) (A 42) (f 3) (4 * (a_u) + (a_i)) (a_kind) ∧ -1 ≤ r25 ∧ r25 ≤ 11 ∧ r25 < (A 37) (16 * (f 3) + (a_kind)).toNat := hp26
    obtain ⟨hp26_0, hp26_1, hp26_2, hp26_3⟩ := hp26
    subst hPST
    exact m_iret B hM dX12_argOf_14 (by unfold inr; omega) ⟨rfl, by (first | exact argV_7 (by omega) (by assumption) | exact argV_80 (by omega) (by omega) (by assumption) | exact argV_81 (by omega) (by omega) ‹_ = iMem 2 _ _ _ _ _ _ _ _› (by assumption) (by assumption) | exact argV_82 (by omega) (by omega) (by assumption) | exact argV_n (by omega) (by omega) rfl)⟩
set_option maxHeartbeats 4000000 in
set_option maxRecDepth 20000 in
theorem k_leads (l : Launch) (D : va_G) (dA : Nat → ClassId) (h0 : Nat) (ad : Nat → Nat) (f : Nat → Int) (g : Nat → Int64) (A : Nat → Nat → Int) (L : Nat → Nat → Int64) (a_from : Int) (a_to : Int) (a_deep : Int) (i_from : (-2147483648 : Int) ≤ a_from ∧ a_from ≤ 2147483647) (i_to : (-2147483648 : Int) ≤ a_to ∧ a_to ≤ 2147483647) (i_deep : (-2147483648 : Int) ≤ a_deep ∧ a_deep ≤ 2147483647) (p_0 : 0 ≤ (a_from)) (p_1 : (a_from) ≤ 15) (p_2 : 0 ≤ (a_to)) (p_3 : (a_to) ≤ 15) (p_4 : 0 ≤ (a_deep)) (p_5 : (a_deep) ≤ 16) : MCi l yX12_leads cX12_leads 6 (some .boolean) ({ frames := 0, cells := 0, slots := 0, locals := 0 }) D dA h0 ad (f, g, A, L) [.int (II a_from), .int (II a_to), .int (II a_deep)] (fun (r : Int) (σ : MS) => σ = (f, g, A, L) ∧ (0 ≤ r ∧ r ≤ 1 ∧ (r = 0 → ¬ LdC (f 3) (A 46) (A 32) (A 33) (A 80) (a_from) (a_to)))) := by
  generalize hPST : (fun (r : Int) (σ : MS) => σ = (f, g, A, L) ∧ (0 ≤ r ∧ r ≤ 1 ∧ (r = 0 → ¬ LdC (f 3) (A 46) (A 32) (A 33) (A 80) (a_from) (a_to)))) = PST
  refine m_enter (by decide) rfl (Nat.le_of_ble_eq_true rfl) (fun p e s m args below meth c ls B hM hl => ?_)
  have hA : ∀ q, s.heap.size ≤ q → mF dA h0 ad (f, g, A, L) s.heap.size q := fun q h => Or.inr h
  have hl : lv_has ls 6 [(0, .ref h0), (1, .int (II a_from)), (2, .int (II a_to)), (3, .int (II a_deep))] := hl
  have r1 : (0 : Int) ≤ f 3 ∧ f 3 ≤ 1 := hM.2.2.2.1 3
  have LL11 : ∀ N : Nat, ∀ (v11_4 : Int) (H : Heap) (locs : List Loc) (ls : Array Slot), (MWd D dA h0 ad (mF dA h0 ad (f, g, A, L) s.heap.size) s.heap (f, g, A, L) H locs) → lv_has ls 6 [(0, .ref h0), (1, .int (II a_from)), (2, .int (II a_to)), (3, .int (II a_deep)), (4, .int (II v11_4))] → ((-2147483648 : Int) ≤ v11_4 ∧ v11_4 ≤ 2147483647) → (0 ≤ (v11_4)) → ((v11_4) ≤ 8) → (LdN (f 3) (A 46) (A 32) (A 33) (A 80) (a_from) (a_to) (v11_4)) → (0 ≤ 8 - (v11_4)) → (8 - (v11_4) < (N : Int)) → W p l e ({ frames := 0, cells := 0, slots := 0, locals := 0 }) s m args below meth c H locs 0 0 (MQ below (mQi D dA h0 ad (f, g, A, L) s.heap.size PST) args s 0 0 (mF dA h0 ad (f, g, A, L) s.heap.size)) (F0 m 11 ls []) := by
    intro N
    induction N with
    | zero => intro v11_4 H locs ls hM hl hLL11_0 hLL11_1 hLL11_2 hLL11_3 hLL11_4 hN; exfalso; omega
    | succ N IH11 =>
      intro v11_4 H locs ls hM hl hLL11_0 hLL11_1 hLL11_2 hLL11_3 hLL11_4 hN
      refine lv_iload B.1 B.2.1 dX12_leads_11 (lv_at hl 4 rfl) ?_
      refine lv_aload_n B.1 B.2.1 dX12_leads_13 rfl (lv_at hl 0 rfl) ?_
      refine m_geta (k := 33) B hM (by decide) rfl fl193 dX12_leads_14 ?_
      refine q_bip B dX12_leads_17 (by decide) ?_
      refine lv_aload_n B.1 B.2.1 dX12_leads_19 rfl (lv_at hl 0 rfl) ?_
      refine m_get (k := 3) (v := f 3) B hM (by decide) rfl fl11 dX12_leads_20 rfl ?_
      refine q_mul B dX12_leads_23 ?_
      refine lv_iload_n B.1 B.2.1 dX12_leads_24 rfl (lv_at hl 1 rfl) ?_
      refine q_add B dX12_leads_25 ?_
      refine m_ild (k := 33) (i := 21) (n := 32) (z := (16 * (f 3)) + a_from) (v := (A 33) ((16 * (f 3)) + a_from).toNat) B hM rfl rfl rfl (by decide) dX12_leads_26 (by omega) (by omega) rfl ?_
      have r2 : (0 : Int) ≤ (A 33) ((16 * (f 3)) + a_from).toNat ∧ (A 33) ((16 * (f 3)) + a_from).toNat ≤ 8 := hM.2.2.2.2 33 ((16 * (f 3)) + a_from).toNat
      refine q_cge (tgt := 99) B dX12_leads_27 (by decide) (by unfold inr; omega) (by unfold inr; omega) (fun c3 => ?_) (fun c3 => ?_)
      · refine q_con B dX12_leads_99 ?_
        subst hPST
        exact m_zret B hM dX12_leads_100 (by omega) ⟨rfl, by (refine ⟨by omega, by omega, ?_⟩; first | (intro hq; exfalso; omega) | (intro _; exact LdN_end (by assumption) (by omega)))⟩
      · refine lv_aload_n B.1 B.2.1 dX12_leads_30 rfl (lv_at hl 0 rfl) ?_
        refine m_geta (k := 46) B hM (by decide) rfl fl232 dX12_leads_31 ?_
        refine lv_aload_n B.1 B.2.1 dX12_leads_34 rfl (lv_at hl 0 rfl) ?_
        refine m_geta (k := 32) B hM (by decide) rfl fl190 dX12_leads_35 ?_
        refine q_bip B dX12_leads_38 (by decide) ?_
        refine lv_aload_n B.1 B.2.1 dX12_leads_40 rfl (lv_at hl 0 rfl) ?_
        refine m_get (k := 3) (v := f 3) B hM (by decide) rfl fl11 dX12_leads_41 rfl ?_
        refine q_mul B dX12_leads_44 ?_
        refine lv_iload_n B.1 B.2.1 dX12_leads_45 rfl (lv_at hl 1 rfl) ?_
        refine q_add B dX12_leads_46 ?_
        refine m_ild (k := 32) (i := 20) (n := 32) (z := (16 * (f 3)) + a_from) (v := (A 32) ((16 * (f 3)) + a_from).toNat) B hM rfl rfl rfl (by decide) dX12_leads_47 (by omega) (by omega) rfl ?_
        have r4 : (0 : Int) ≤ (A 32) ((16 * (f 3)) + a_from).toNat ∧ (A 32) ((16 * (f 3)) + a_from).toNat ≤ 3190 := hM.2.2.2.2 32 ((16 * (f 3)) + a_from).toNat
        refine lv_iload B.1 B.2.1 dX12_leads_48 (lv_at hl 4 rfl) ?_
        refine q_add B dX12_leads_50 ?_
        refine m_ild (k := 46) (i := 34) (n := 3200) (z := ((A 32) ((16 * (f 3)) + a_from).toNat) + v11_4) (v := (A 46) (((A 32) ((16 * (f 3)) + a_from).toNat) + v11_4).toNat) B hM rfl rfl rfl (by decide) dX12_leads_51 (by omega) (by omega) rfl ?_
        have r5 : (0 : Int) ≤ (A 46) (((A 32) ((16 * (f 3)) + a_from).toNat) + v11_4).toNat ∧ (A 46) (((A 32) ((16 * (f 3)) + a_from).toNat) + v11_4).toNat ≤ 215 := hM.2.2.2.2 46 (((A 32) ((16 * (f 3)) + a_from).toNat) + v11_4).toNat
        refine lv_istore (lv' := [(5, .int (II ((A 46) (((A 32) ((16 * (f 3)) + a_from).toNat) + v11_4).toNat))), (0, .ref h0), (1, .int (II a_from)), (2, .int (II a_to)), (3, .int (II a_deep)), (4, .int (II v11_4))]) B.1 B.2.1 dX12_leads_52 hl (by decide) rfl (fun ls hl => ?_)
        refine lv_iload B.1 B.2.1 dX12_leads_54 (lv_at hl 0 rfl) ?_
        refine q_sip B dX12_leads_56 (by decide) ?_
        refine q_clt (tgt := 93) B dX12_leads_59 (by decide) (by unfold inr; omega) (by unfold inr; omega) (fun c6 => ?_) (fun c6 => ?_)
        · refine q_inc (k := 5) (x := v11_4) (lv' := [(4, .int (II (v11_4 + 1))), (5, .int (II ((A 46) (((A 32) ((16 * (f 3)) + a_from).toNat) + v11_4).toNat))), (0, .ref h0), (1, .int (II a_from)), (2, .int (II a_to)), (3, .int (II a_deep))]) B dX12_leads_93 hl rfl (by decide) rfl (fun ls hl => ?_)
          refine lv_goto (tgt := 11) B.1 B.2.1 dX12_leads_96 (by decide) ?_
          have hv7 : ((-2147483648 : Int) ≤ v11_4 + 1 ∧ (v11_4 + 1 : Int) ≤ 2147483647) ∧ (0 ≤ (v11_4 + 1)) ∧ ((v11_4 + 1) ≤ 8) ∧ (0 ≤ 8 - (v11_4 + 1)) := by first | omega | (simp only [wr_at]; omega) | exact ⟨by first | omega | (simp only [wr_at]; omega) | assumption, by first | omega | (simp only [wr_at]; omega) | assumption, by first | omega | (simp only [wr_at]; omega) | assumption, by first | omega | (simp only [wr_at]; omega) | assumption⟩
          exact IH11 (v11_4 + 1) _ _ ls hM (lv_sub hl [2, 3, 4, 5, 0] rfl) hv7.1 hv7.2.1 hv7.2.2.1 (by first | exact LdN_0 (by omega) | exact LdN_step (by assumption) rfl (by omega)) hv7.2.2.2 (by first | omega | (simp only [wr_at]; omega) | assumption)
        · refine lv_iload B.1 B.2.1 dX12_leads_62 (lv_at hl 0 rfl) ?_
          refine q_sip B dX12_leads_64 (by decide) ?_
          refine q_sub B dX12_leads_67 ?_
          refine lv_iload_n B.1 B.2.1 dX12_leads_68 rfl (lv_at hl 3 rfl) ?_
          refine q_ceq (tgt := 91) B dX12_leads_69 (by decide) (by unfold inr; omega) (by unfold inr; omega) (fun c8 => ?_) (fun c8 => ?_)
          · refine q_con B dX12_leads_91 ?_
            subst hPST
            exact m_zret B hM dX12_leads_92 (by omega) ⟨rfl, by (refine ⟨by omega, by omega, ?_⟩; first | (intro hq; exfalso; omega) | (intro _; exact LdN_end (by assumption) (by omega)))⟩
          · refine lv_aload_n B.1 B.2.1 dX12_leads_72 rfl (lv_at hl 1 rfl) ?_
            refine m_geta (k := 80) B hM (by decide) rfl fl306 dX12_leads_73 ?_
            refine q_bip B dX12_leads_76 (by decide) ?_
            refine lv_iload B.1 B.2.1 dX12_leads_78 (lv_at hl 0 rfl) ?_
            refine q_sip B dX12_leads_80 (by decide) ?_
            refine q_sub B dX12_leads_83 ?_
            refine q_mul B dX12_leads_84 ?_
            refine lv_iload_n B.1 B.2.1 dX12_leads_85 rfl (lv_at hl 3 rfl) ?_
            refine q_add B dX12_leads_86 ?_
            refine m_zld (k := 80) (i := 58) (n := 256) (z := (16 * (((A 46) (((A 32) ((16 * (f 3)) + a_from).toNat) + v11_4).toNat) - 200)) + a_to) (v := (A 80) ((16 * (((A 46) (((A 32) ((16 * (f 3)) + a_from).toNat) + v11_4).toNat) - 200)) + a_to).toNat) B hM rfl rfl rfl (by decide) dX12_leads_87 (by omega) (by omega) rfl ?_
            have r9 : (0 : Int) ≤ (A 80) ((16 * (((A 46) (((A 32) ((16 * (f 3)) + a_from).toNat) + v11_4).toNat) - 200)) + a_to).toNat ∧ (A 80) ((16 * (((A 46) (((A 32) ((16 * (f 3)) + a_from).toNat) + v11_4).toNat) - 200)) + a_to).toNat ≤ 1 := hM.2.2.2.2 80 ((16 * (((A 46) (((A 32) ((16 * (f 3)) + a_from).toNat) + v11_4).toNat) - 200)) + a_to).toNat
            refine q_ieq (tgt := 93) B dX12_leads_88 (by decide) (by unfold inr; omega) (fun c10 => ?_) (fun c10 => ?_)
            · refine q_inc (k := 5) (x := v11_4) (lv' := [(4, .int (II (v11_4 + 1))), (5, .int (II ((A 46) (((A 32) ((16 * (f 3)) + a_from).toNat) + v11_4).toNat))), (0, .ref h0), (1, .int (II a_from)), (2, .int (II a_to)), (3, .int (II a_deep))]) B dX12_leads_93 hl rfl (by decide) rfl (fun ls hl => ?_)
              refine lv_goto (tgt := 11) B.1 B.2.1 dX12_leads_96 (by decide) ?_
              have hv11 : ((-2147483648 : Int) ≤ v11_4 + 1 ∧ (v11_4 + 1 : Int) ≤ 2147483647) ∧ (0 ≤ (v11_4 + 1)) ∧ ((v11_4 + 1) ≤ 8) ∧ (0 ≤ 8 - (v11_4 + 1)) := by first | omega | (simp only [wr_at]; omega) | exact ⟨by first | omega | (simp only [wr_at]; omega) | assumption, by first | omega | (simp only [wr_at]; omega) | assumption, by first | omega | (simp only [wr_at]; omega) | assumption, by first | omega | (simp only [wr_at]; omega) | assumption⟩
              exact IH11 (v11_4 + 1) _ _ ls hM (lv_sub hl [2, 3, 4, 5, 0] rfl) hv11.1 hv11.2.1 hv11.2.2.1 (by first | exact LdN_0 (by omega) | exact LdN_step (by assumption) rfl (by omega)) hv11.2.2.2 (by first | omega | (simp only [wr_at]; omega) | assumption)
            · refine q_con B dX12_leads_91 ?_
              subst hPST
              exact m_zret B hM dX12_leads_92 (by omega) ⟨rfl, by (refine ⟨by omega, by omega, ?_⟩; first | (intro hq; exfalso; omega) | (intro _; exact LdN_end (by assumption) (by omega)))⟩
  refine lv_iload_n B.1 B.2.1 dX12_leads_0 rfl (lv_at hl 3 rfl) ?_
  refine q_bip B dX12_leads_1 (by decide) ?_
  refine q_cle (tgt := 8) B dX12_leads_3 (by decide) (by unfold inr; omega) (by unfold inr; omega) (fun c12 => ?_) (fun c12 => ?_)
  · refine q_con B dX12_leads_8 ?_
    refine lv_istore (lv' := [(4, .int (II 0)), (0, .ref h0), (1, .int (II a_from)), (2, .int (II a_to)), (3, .int (II a_deep))]) B.1 B.2.1 dX12_leads_9 hl (by decide) rfl (fun ls hl => ?_)
    have hv13 : ((-2147483648 : Int) ≤ 0 ∧ (0 : Int) ≤ 2147483647) ∧ (0 ≤ (0 : Int)) ∧ ((0 : Int) ≤ 8) ∧ (0 ≤ 8 - (0 : Int)) := by first | omega | (simp only [wr_at]; omega) | exact ⟨by first | omega | (simp only [wr_at]; omega) | assumption, by first | omega | (simp only [wr_at]; omega) | assumption, by first | omega | (simp only [wr_at]; omega) | assumption, by first | omega | (simp only [wr_at]; omega) | assumption⟩
    exact LL11 (Int.toNat (8 - (0 : Int) + 1)) 0 _ _ ls hM (lv_sub hl [1, 2, 3, 4, 0] rfl) hv13.1 hv13.2.1 hv13.2.2.1 (by first | exact LdN_0 (by omega) | exact LdN_step (by assumption) rfl (by omega)) hv13.2.2.2 (by first | omega | (simp only [wr_at]; omega) | assumption)
  · refine q_con B dX12_leads_6 ?_
    subst hPST
    exact m_zret B hM dX12_leads_7 (by omega) ⟨rfl, by (refine ⟨by omega, by omega, ?_⟩; first | (intro hq; exfalso; omega) | (intro _; exact LdN_end (by assumption) (by omega)))⟩
set_option maxHeartbeats 4000000 in
set_option maxRecDepth 20000 in
theorem k_findRings (l : Launch) (D : va_G) (dA : Nat → ClassId) (h0 : Nat) (ad : Nat → Nat) (f : Nat → Int) (g : Nat → Int64) (A : Nat → Nat → Int) (L : Nat → Nat → Int64) : MCv l yX12_findRings cX12_findRings 4 ({ frames := 1, cells := 0, slots := 0, locals := 25 }) D dA h0 ad (f, g, A, L) [] (fun (σ : MS) => ∃ b80 : Nat → Int, ∃ b79 : Nat → Int, σ = (f, g, (up A [(80, b80), (79, b79)]), L) ∧ (RGp (f 3) (f 59) (A 46) (A 32) (A 33) b79)) := by
  generalize hPST : (fun (σ : MS) => ∃ b80 : Nat → Int, ∃ b79 : Nat → Int, σ = (f, g, (up A [(80, b80), (79, b79)]), L) ∧ (RGp (f 3) (f 59) (A 46) (A 32) (A 33) b79)) = PST
  refine m_enterv (by decide) rfl (Nat.le_of_ble_eq_true rfl) (fun p e s m args below meth c ls B hM hl => ?_)
  have hA : ∀ q, s.heap.size ≤ q → mF dA h0 ad (f, g, A, L) s.heap.size q := fun q h => Or.inr h
  have hM : MWd D dA h0 ad (mF dA h0 ad (f, g, A, L) s.heap.size) s.heap (f, g, (up A [(80, (A 80)), (79, (A 79))]), L) s.heap [] := MW_pad hM rfl rfl (up_self A [80, 79]) rfl
  have hl : lv_has ls 4 [(0, .ref h0)] := hl
  have r1 : (0 : Int) ≤ f 3 ∧ f 3 ≤ 1 := hM.2.2.2.1 3
  have r2 : (0 : Int) ≤ f 59 ∧ f 59 ≤ 16 := hM.2.2.2.1 59
  have LL92 : ∀ N : Nat, ∀ (v92_1 : Int) (y92_80 : Nat → Int) (y92_79 : Nat → Int) (H : Heap) (locs : List Loc) (ls : Array Slot), (MWd D dA h0 ad (mF dA h0 ad (f, g, A, L) s.heap.size) s.heap (f, g, (up A [(80, y92_80), (79, y92_79)]), L) H locs) → lv_has ls 4 [(0, .ref h0), (1, .int (II v92_1))] → ((-2147483648 : Int) ≤ v92_1 ∧ v92_1 ≤ 2147483647) → (0 ≤ (v92_1)) → ((v92_1) ≤ (f 59)) → (RcP (f 3) (f 59) 16 (A 46) (A 32) (A 33) y92_80) → (RGi (v92_1) y92_80 y92_79) → (0 ≤ (f 59) - (v92_1)) → ((f 59) - (v92_1) < (N : Int)) → W p l e ({ frames := 1, cells := 0, slots := 0, locals := 25 }) s m args below meth c H locs 0 0 (MQ below (mQv D dA h0 ad (f, g, A, L) s.heap.size PST) args s 0 0 (mF dA h0 ad (f, g, A, L) s.heap.size)) (F0 m 92 ls []) := by
    intro N
    induction N with
    | zero => intro v92_1 y92_80 y92_79 H locs ls hM hl hLL92_0 hLL92_1 hLL92_2 hLL92_3 hLL92_4 hLL92_5 hN; exfalso; omega
    | succ N IH92 =>
      intro v92_1 y92_80 y92_79 H locs ls hM hl hLL92_0 hLL92_1 hLL92_2 hLL92_3 hLL92_4 hLL92_5 hN
      refine lv_iload_n B.1 B.2.1 dX12_findRings_92 rfl (lv_at hl 1 rfl) ?_
      refine lv_aload_n B.1 B.2.1 dX12_findRings_93 rfl (lv_at hl 0 rfl) ?_
      refine m_get (k := 59) (v := f 59) B hM (by decide) rfl fl472 dX12_findRings_94 rfl ?_
      refine q_cge (tgt := 121) B dX12_findRings_97 (by decide) (by unfold inr; omega) (by unfold inr; omega) (fun c3 => ?_) (fun c3 => ?_)
      · subst hPST
        exact m_vret B hM dX12_findRings_121 ⟨y92_80, y92_79, rfl, (by first | assumption | exact RGp_of (by assumption) (by assumption) (by omega) (by omega))⟩
      · refine lv_aload_n B.1 B.2.1 dX12_findRings_100 rfl (lv_at hl 0 rfl) ?_
        refine m_geta (k := 79) B hM (by decide) rfl fl303 dX12_findRings_101 ?_
        refine lv_iload_n B.1 B.2.1 dX12_findRings_104 rfl (lv_at hl 1 rfl) ?_
        refine lv_aload_n B.1 B.2.1 dX12_findRings_105 rfl (lv_at hl 0 rfl) ?_
        refine m_geta (k := 80) B hM (by decide) rfl fl306 dX12_findRings_106 ?_
        refine q_bip B dX12_findRings_109 (by decide) ?_
        refine lv_iload_n B.1 B.2.1 dX12_findRings_111 rfl (lv_at hl 1 rfl) ?_
        refine q_mul B dX12_findRings_112 ?_
        refine m_zld (k := 80) (i := 58) (n := 256) (z := 17 * v92_1) (v := y92_80 (17 * v92_1).toNat) B hM rfl rfl rfl (by decide) dX12_findRings_113 (by omega) (by omega) rfl ?_
        have r4 : (0 : Int) ≤ y92_80 (17 * v92_1).toNat ∧ y92_80 (17 * v92_1).toNat ≤ 1 := hM.2.2.2.2 80 (17 * v92_1).toNat
        refine m_zst (k := 79) (i := 57) (n := 16) B hM rfl rfl rfl (by decide) dX12_findRings_114 (by omega) (by omega) (by omega) (show (0 : Int) ≤ y92_80 (17 * v92_1).toNat from by first | omega | (simp only [wr_at]; omega)) (show y92_80 (17 * v92_1).toNat ≤ (1 : Int) from by first | omega | (simp only [wr_at]; omega)) (u1_up A [(80, y92_80), (79, y92_79)] 79 (wr y92_79 v92_1 (y92_80 (17 * v92_1).toNat))) (fun H locs hM => ?_)
        replace hM : MWd D dA h0 ad (mF dA h0 ad (f, g, A, L) s.heap.size) s.heap (f, g, (up A [(80, y92_80), (79, (wr y92_79 v92_1 (y92_80 (17 * v92_1).toNat)))]), L) H locs := hM
        refine q_inc (k := 1) (x := v92_1) (lv' := [(1, .int (II (v92_1 + 1))), (0, .ref h0)]) B dX12_findRings_115 hl rfl (by decide) rfl (fun ls hl => ?_)
        refine lv_goto (tgt := 92) B.1 B.2.1 dX12_findRings_118 (by decide) ?_
        have hv5 : ((-2147483648 : Int) ≤ v92_1 + 1 ∧ (v92_1 + 1 : Int) ≤ 2147483647) ∧ (0 ≤ (v92_1 + 1)) ∧ ((v92_1 + 1) ≤ (f 59)) ∧ (0 ≤ (f 59) - (v92_1 + 1)) := by first | omega | (simp only [wr_at]; omega) | exact ⟨by first | omega | (simp only [wr_at]; omega) | assumption, by first | omega | (simp only [wr_at]; omega) | assumption, by first | omega | (simp only [wr_at]; omega) | assumption, by first | omega | (simp only [wr_at]; omega) | assumption⟩
        exact IH92 (v92_1 + 1) y92_80 ((wr y92_79 v92_1 (y92_80 (17 * v92_1).toNat))) _ _ ls hM (lv_sub hl [1, 0] rfl) hv5.1 hv5.2.1 hv5.2.2.1 (by first | assumption | exact RcP_0 (by omega) | exact RcP_wr (by assumption) | exact RcP_next (by assumption) (by assumption) (by omega) (by omega) | exact RcP_mono (by assumption) (by omega)) (by first | assumption | exact RGi_0 (by omega) | exact RGi_push (by assumption) (by omega) rfl) hv5.2.2.2 (by first | omega | (simp only [wr_at]; omega) | assumption)
  have LL24 : ∀ N : Nat, ∀ (v24_1 : Int) (y24_80 : Nat → Int) (H : Heap) (locs : List Loc) (ls : Array Slot), (MWd D dA h0 ad (mF dA h0 ad (f, g, A, L) s.heap.size) s.heap (f, g, (up A [(80, y24_80), (79, (A 79))]), L) H locs) → lv_has ls 4 [(0, .ref h0), (1, .int (II v24_1))] → ((-2147483648 : Int) ≤ v24_1 ∧ v24_1 ≤ 2147483647) → (0 ≤ (v24_1)) → ((v24_1) ≤ 16) → (RcP (f 3) (f 59) (v24_1) (A 46) (A 32) (A 33) y24_80) → (0 ≤ 16 - (v24_1)) → (16 - (v24_1) < (N : Int)) → W p l e ({ frames := 1, cells := 0, slots := 0, locals := 25 }) s m args below meth c H locs 0 0 (MQ below (mQv D dA h0 ad (f, g, A, L) s.heap.size PST) args s 0 0 (mF dA h0 ad (f, g, A, L) s.heap.size)) (F0 m 24 ls []) := by
    intro N
    induction N with
    | zero => intro v24_1 y24_80 H locs ls hM hl hLL24_0 hLL24_1 hLL24_2 hLL24_3 hLL24_4 hN; exfalso; omega
    | succ N IH24 =>
      intro v24_1 y24_80 H locs ls hM hl hLL24_0 hLL24_1 hLL24_2 hLL24_3 hLL24_4 hN
      have LL32 : ∀ N : Nat, ∀ (v32_2 : Int) (y32_80 : Nat → Int) (H : Heap) (locs : List Loc) (ls : Array Slot), (MWd D dA h0 ad (mF dA h0 ad (f, g, A, L) s.heap.size) s.heap (f, g, (up A [(80, y32_80), (79, (A 79))]), L) H locs) → lv_has ls 4 [(0, .ref h0), (2, .int (II v32_2)), (1, .int (II ((v24_1))))] → ((-2147483648 : Int) ≤ v32_2 ∧ v32_2 ≤ 2147483647) → (0 ≤ (v32_2)) → ((v32_2) ≤ (f 59)) → (0 ≤ (v24_1)) → ((v24_1) < 16) → (RcP (f 3) (f 59) (v24_1) (A 46) (A 32) (A 33) y32_80) → (SwP (f 3) (f 59) (v24_1) (v32_2) 0 (A 46) (A 32) (A 33) y32_80) → (0 ≤ (f 59) - (v32_2)) → ((f 59) - (v32_2) < (N : Int)) → W p l e ({ frames := 1, cells := 0, slots := 0, locals := 25 }) s m args below meth c H locs 0 0 (MQ below (mQv D dA h0 ad (f, g, A, L) s.heap.size PST) args s 0 0 (mF dA h0 ad (f, g, A, L) s.heap.size)) (F0 m 32 ls []) := by
        intro N
        induction N with
        | zero => intro v32_2 y32_80 H locs ls hM hl hLL32_0 hLL32_1 hLL32_2 hLL32_3 hLL32_4 hLL32_5 hLL32_6 hLL32_7 hN; exfalso; omega
        | succ N IH32 =>
          intro v32_2 y32_80 H locs ls hM hl hLL32_0 hLL32_1 hLL32_2 hLL32_3 hLL32_4 hLL32_5 hLL32_6 hLL32_7 hN
          have LL42 : ∀ N : Nat, ∀ (v42_3 : Int) (y42_80 : Nat → Int) (H : Heap) (locs : List Loc) (ls : Array Slot), (MWd D dA h0 ad (mF dA h0 ad (f, g, A, L) s.heap.size) s.heap (f, g, (up A [(80, y42_80), (79, (A 79))]), L) H locs) → lv_has ls 4 [(0, .ref h0), (3, .int (II v42_3)), (1, .int (II (((v24_1))))), (2, .int (II ((v32_2))))] → ((-2147483648 : Int) ≤ v42_3 ∧ v42_3 ≤ 2147483647) → (0 ≤ (v42_3)) → ((v42_3) ≤ (f 59)) → (0 ≤ (v32_2)) → ((v32_2) < (f 59)) → (0 ≤ ((v24_1))) → (((v24_1)) < 16) → (RcP (f 3) (f 59) ((v24_1)) (A 46) (A 32) (A 33) y42_80) → (SwP (f 3) (f 59) ((v24_1)) (v32_2) (v42_3) (A 46) (A 32) (A 33) y42_80) → (0 ≤ (f 59) - (v42_3)) → ((f 59) - (v42_3) < (N : Int)) → W p l e ({ frames := 1, cells := 0, slots := 0, locals := 25 }) s m args below meth c H locs 0 0 (MQ below (mQv D dA h0 ad (f, g, A, L) s.heap.size PST) args s 0 0 (mF dA h0 ad (f, g, A, L) s.heap.size)) (F0 m 42 ls []) := by
            intro N
            induction N with
            | zero => intro v42_3 y42_80 H locs ls hM hl hLL42_0 hLL42_1 hLL42_2 hLL42_3 hLL42_4 hLL42_5 hLL42_6 hLL42_7 hLL42_8 hLL42_9 hN; exfalso; omega
            | succ N IH42 =>
              intro v42_3 y42_80 H locs ls hM hl hLL42_0 hLL42_1 hLL42_2 hLL42_3 hLL42_4 hLL42_5 hLL42_6 hLL42_7 hLL42_8 hLL42_9 hN
              refine lv_iload_n B.1 B.2.1 dX12_findRings_42 rfl (lv_at hl 1 rfl) ?_
              refine lv_aload_n B.1 B.2.1 dX12_findRings_43 rfl (lv_at hl 0 rfl) ?_
              refine m_get (k := 59) (v := f 59) B hM (by decide) rfl fl472 dX12_findRings_44 rfl ?_
              refine q_cge (tgt := 78) B dX12_findRings_47 (by decide) (by unfold inr; omega) (by unfold inr; omega) (fun c6 => ?_) (fun c6 => ?_)
              · refine q_inc (k := 3) (x := (v32_2)) (lv' := [(2, .int (II (((v32_2)) + 1))), (0, .ref h0), (3, .int (II v42_3)), (1, .int (II (((v24_1)))))]) B dX12_findRings_78 hl rfl (by decide) rfl (fun ls hl => ?_)
                refine lv_goto (tgt := 32) B.1 B.2.1 dX12_findRings_81 (by decide) ?_
                have hv7 : ((-2147483648 : Int) ≤ ((v32_2)) + 1 ∧ (((v32_2)) + 1 : Int) ≤ 2147483647) ∧ (0 ≤ (((v32_2)) + 1)) ∧ ((((v32_2)) + 1) ≤ (f 59)) ∧ (0 ≤ (v24_1)) ∧ ((v24_1) < 16) ∧ (0 ≤ (f 59) - (((v32_2)) + 1)) := by first | omega | (simp only [wr_at]; omega) | exact ⟨by first | omega | (simp only [wr_at]; omega) | assumption, by first | omega | (simp only [wr_at]; omega) | assumption, by first | omega | (simp only [wr_at]; omega) | assumption, by first | omega | (simp only [wr_at]; omega) | assumption, by first | omega | (simp only [wr_at]; omega) | assumption, by first | omega | (simp only [wr_at]; omega) | assumption⟩
                exact IH32 (((v32_2)) + 1) y42_80 _ _ ls hM (lv_sub hl [1, 0, 3] rfl) hv7.1 hv7.2.1 hv7.2.2.1 hv7.2.2.2.1 hv7.2.2.2.2.1 (by first | assumption | exact RcP_0 (by omega) | exact RcP_wr (by assumption) | exact RcP_next (by assumption) (by assumption) (by omega) (by omega) | exact RcP_mono (by assumption) (by omega)) (by first | assumption | exact SwP_0 (by omega) (by omega) | exact SwP_set (by assumption) | exact SwP_no (by assumption) (by assumption) (by omega) (‹(_ : Int) = 0 → ¬ LdC _ _ _ _ _ _ _› (by omega)) | exact SwP_row (by assumption) (by omega) (by omega) (by omega)) hv7.2.2.2.2.2 (by first | omega | (simp only [wr_at]; omega) | assumption)
              · refine lv_aload_n B.1 B.2.1 dX12_findRings_50 rfl (lv_at hl 0 rfl) ?_
                refine lv_iload_n B.1 B.2.1 dX12_findRings_51 rfl (lv_at hl 3 rfl) ?_
                refine lv_iload_n B.1 B.2.1 dX12_findRings_52 rfl (lv_at hl 1 rfl) ?_
                refine q_con B dX12_findRings_53 ?_
                have hv8 : ((-2147483648 : Int) ≤ (v32_2) ∧ ((v32_2) : Int) ≤ 2147483647) ∧ ((-2147483648 : Int) ≤ v42_3 ∧ (v42_3 : Int) ≤ 2147483647) ∧ ((-2147483648 : Int) ≤ 0 ∧ (0 : Int) ≤ 2147483647) ∧ (0 ≤ ((v32_2))) ∧ (((v32_2)) ≤ 15) ∧ (0 ≤ (v42_3)) ∧ ((v42_3) ≤ 15) ∧ (0 ≤ (0 : Int)) ∧ ((0 : Int) ≤ 16) := by first | omega | (simp only [wr_at]; omega) | exact ⟨by first | omega | (simp only [wr_at]; omega) | assumption, by first | omega | (simp only [wr_at]; omega) | assumption, by first | omega | (simp only [wr_at]; omega) | assumption, by first | omega | (simp only [wr_at]; omega) | assumption, by first | omega | (simp only [wr_at]; omega) | assumption, by first | omega | (simp only [wr_at]; omega) | assumption, by first | omega | (simp only [wr_at]; omega) | assumption, by first | omega | (simp only [wr_at]; omega) | assumption, by first | omega | (simp only [wr_at]; omega) | assumption⟩
                refine m_calli (n := 3) (rest := []) B hM hA hl.1 (k_leads l D dA h0 ad f g (up A [(80, y42_80), (79, (A 79))]) L ((v32_2)) v42_3 0 hv8.1 hv8.2.1 hv8.2.2.1 hv8.2.2.2.1 hv8.2.2.2.2.1 hv8.2.2.2.2.2.1 hv8.2.2.2.2.2.2.1 hv8.2.2.2.2.2.2.2.1 hv8.2.2.2.2.2.2.2.2) rfl ok_leads nm_leads ⟨rfl, rfl⟩ ⟨Nat.le_of_ble_eq_true rfl, Nat.le_of_ble_eq_true rfl⟩ dX12_findRings_54 rfl rfl (Nat.le_of_ble_eq_true rfl) ⟨Nat.zero_le _, Nat.zero_le _⟩ (fun r9 σr9 H locs ir9 hp10 hM => ?_)
                obtain ⟨rfl, hp10⟩ := hp10
                unfold inr at ir9
                replace hp10 : 0 ≤ r9 ∧ r9 ≤ 1 ∧ (r9 = 0 → ¬ LdC (f 3) (A 46) (A 32) (A 33) y42_80 ((v32_2)) (v42_3)) := hp10
                obtain ⟨hp10_0, hp10_1, hp10_2⟩ := hp10
                refine q_ieq (tgt := 72) B dX12_findRings_57 (by decide) (by unfold inr; omega) (fun c11 => ?_) (fun c11 => ?_)
                · refine q_inc (k := 1) (x := v42_3) (lv' := [(3, .int (II (v42_3 + 1))), (0, .ref h0), (1, .int (II (((v24_1))))), (2, .int (II ((v32_2))))]) B dX12_findRings_72 hl rfl (by decide) rfl (fun ls hl => ?_)
                  refine lv_goto (tgt := 42) B.1 B.2.1 dX12_findRings_75 (by decide) ?_
                  have hv12 : ((-2147483648 : Int) ≤ v42_3 + 1 ∧ (v42_3 + 1 : Int) ≤ 2147483647) ∧ (0 ≤ (v42_3 + 1)) ∧ ((v42_3 + 1) ≤ (f 59)) ∧ (0 ≤ (v32_2)) ∧ ((v32_2) < (f 59)) ∧ (0 ≤ ((v24_1))) ∧ (((v24_1)) < 16) ∧ (0 ≤ (f 59) - (v42_3 + 1)) := by first | omega | (simp only [wr_at]; omega) | exact ⟨by first | omega | (simp only [wr_at]; omega) | assumption, by first | omega | (simp only [wr_at]; omega) | assumption, by first | omega | (simp only [wr_at]; omega) | assumption, by first | omega | (simp only [wr_at]; omega) | assumption, by first | omega | (simp only [wr_at]; omega) | assumption, by first | omega | (simp only [wr_at]; omega) | assumption, by first | omega | (simp only [wr_at]; omega) | assumption, by first | omega | (simp only [wr_at]; omega) | assumption⟩
                  exact IH42 (v42_3 + 1) y42_80 _ _ ls hM (lv_sub hl [1, 0, 2, 3] rfl) hv12.1 hv12.2.1 hv12.2.2.1 hv12.2.2.2.1 hv12.2.2.2.2.1 hv12.2.2.2.2.2.1 hv12.2.2.2.2.2.2.1 (by first | assumption | exact RcP_0 (by omega) | exact RcP_wr (by assumption) | exact RcP_next (by assumption) (by assumption) (by omega) (by omega) | exact RcP_mono (by assumption) (by omega)) (by first | assumption | exact SwP_0 (by omega) (by omega) | exact SwP_set (by assumption) | exact SwP_no (by assumption) (by assumption) (by omega) (‹(_ : Int) = 0 → ¬ LdC _ _ _ _ _ _ _› (by omega)) | exact SwP_row (by assumption) (by omega) (by omega) (by omega)) hv12.2.2.2.2.2.2.2 (by first | omega | (simp only [wr_at]; omega) | assumption)
                · refine lv_aload_n B.1 B.2.1 dX12_findRings_60 rfl (lv_at hl 0 rfl) ?_
                  refine m_geta (k := 80) B hM (by decide) rfl fl306 dX12_findRings_61 ?_
                  refine q_bip B dX12_findRings_64 (by decide) ?_
                  refine lv_iload_n B.1 B.2.1 dX12_findRings_66 rfl (lv_at hl 3 rfl) ?_
                  refine q_mul B dX12_findRings_67 ?_
                  refine lv_iload_n B.1 B.2.1 dX12_findRings_68 rfl (lv_at hl 1 rfl) ?_
                  refine q_add B dX12_findRings_69 ?_
                  refine q_con B dX12_findRings_70 ?_
                  refine m_zst (k := 80) (i := 58) (n := 256) B hM rfl rfl rfl (by decide) dX12_findRings_71 (by omega) (by omega) (by omega) (show (0 : Int) ≤ 1 from by first | omega | (simp only [wr_at]; omega)) (show 1 ≤ (1 : Int) from by first | omega | (simp only [wr_at]; omega)) (u1_up A [(80, y42_80), (79, (A 79))] 80 (wr y42_80 ((16 * ((v32_2))) + v42_3) 1)) (fun H locs hM => ?_)
                  replace hM : MWd D dA h0 ad (mF dA h0 ad (f, g, A, L) s.heap.size) s.heap (f, g, (up A [(80, (wr y42_80 ((16 * ((v32_2))) + v42_3) 1)), (79, (A 79))]), L) H locs := hM
                  refine q_inc (k := 1) (x := v42_3) (lv' := [(3, .int (II (v42_3 + 1))), (0, .ref h0), (1, .int (II (((v24_1))))), (2, .int (II ((v32_2))))]) B dX12_findRings_72 hl rfl (by decide) rfl (fun ls hl => ?_)
                  refine lv_goto (tgt := 42) B.1 B.2.1 dX12_findRings_75 (by decide) ?_
                  have hv13 : ((-2147483648 : Int) ≤ v42_3 + 1 ∧ (v42_3 + 1 : Int) ≤ 2147483647) ∧ (0 ≤ (v42_3 + 1)) ∧ ((v42_3 + 1) ≤ (f 59)) ∧ (0 ≤ (v32_2)) ∧ ((v32_2) < (f 59)) ∧ (0 ≤ ((v24_1))) ∧ (((v24_1)) < 16) ∧ (0 ≤ (f 59) - (v42_3 + 1)) := by first | omega | (simp only [wr_at]; omega) | exact ⟨by first | omega | (simp only [wr_at]; omega) | assumption, by first | omega | (simp only [wr_at]; omega) | assumption, by first | omega | (simp only [wr_at]; omega) | assumption, by first | omega | (simp only [wr_at]; omega) | assumption, by first | omega | (simp only [wr_at]; omega) | assumption, by first | omega | (simp only [wr_at]; omega) | assumption, by first | omega | (simp only [wr_at]; omega) | assumption, by first | omega | (simp only [wr_at]; omega) | assumption⟩
                  exact IH42 (v42_3 + 1) ((wr y42_80 ((16 * ((v32_2))) + v42_3) 1)) _ _ ls hM (lv_sub hl [1, 0, 2, 3] rfl) hv13.1 hv13.2.1 hv13.2.2.1 hv13.2.2.2.1 hv13.2.2.2.2.1 hv13.2.2.2.2.2.1 hv13.2.2.2.2.2.2.1 (by first | assumption | exact RcP_0 (by omega) | exact RcP_wr (by assumption) | exact RcP_next (by assumption) (by assumption) (by omega) (by omega) | exact RcP_mono (by assumption) (by omega)) (by first | assumption | exact SwP_0 (by omega) (by omega) | exact SwP_set (by assumption) | exact SwP_no (by assumption) (by assumption) (by omega) (‹(_ : Int) = 0 → ¬ LdC _ _ _ _ _ _ _› (by omega)) | exact SwP_row (by assumption) (by omega) (by omega) (by omega)) hv13.2.2.2.2.2.2.2 (by first | omega | (simp only [wr_at]; omega) | assumption)
          refine lv_iload_n B.1 B.2.1 dX12_findRings_32 rfl (lv_at hl 1 rfl) ?_
          refine lv_aload_n B.1 B.2.1 dX12_findRings_33 rfl (lv_at hl 0 rfl) ?_
          refine m_get (k := 59) (v := f 59) B hM (by decide) rfl fl472 dX12_findRings_34 rfl ?_
          refine q_cge (tgt := 84) B dX12_findRings_37 (by decide) (by unfold inr; omega) (by unfold inr; omega) (fun c14 => ?_) (fun c14 => ?_)
          · refine q_inc (k := 2) (x := (v24_1)) (lv' := [(1, .int (II (((v24_1)) + 1))), (0, .ref h0), (2, .int (II v32_2))]) B dX12_findRings_84 hl rfl (by decide) rfl (fun ls hl => ?_)
            refine lv_goto (tgt := 24) B.1 B.2.1 dX12_findRings_87 (by decide) ?_
            have hv15 : ((-2147483648 : Int) ≤ ((v24_1)) + 1 ∧ (((v24_1)) + 1 : Int) ≤ 2147483647) ∧ (0 ≤ (((v24_1)) + 1)) ∧ ((((v24_1)) + 1) ≤ 16) ∧ (0 ≤ 16 - (((v24_1)) + 1)) := by first | omega | (simp only [wr_at]; omega) | exact ⟨by first | omega | (simp only [wr_at]; omega) | assumption, by first | omega | (simp only [wr_at]; omega) | assumption, by first | omega | (simp only [wr_at]; omega) | assumption, by first | omega | (simp only [wr_at]; omega) | assumption⟩
            exact IH24 (((v24_1)) + 1) y32_80 _ _ ls hM (lv_sub hl [1, 0] rfl) hv15.1 hv15.2.1 hv15.2.2.1 (by first | assumption | exact RcP_0 (by omega) | exact RcP_wr (by assumption) | exact RcP_next (by assumption) (by assumption) (by omega) (by omega) | exact RcP_mono (by assumption) (by omega)) hv15.2.2.2 (by first | omega | (simp only [wr_at]; omega) | assumption)
          · refine q_con B dX12_findRings_40 ?_
            refine lv_istore_n (lv' := [(3, .int (II 0)), (0, .ref h0), (2, .int (II v32_2)), (1, .int (II ((v24_1))))]) B.1 B.2.1 dX12_findRings_41 rfl hl (by decide) rfl (fun ls hl => ?_)
            have hv16 : ((-2147483648 : Int) ≤ 0 ∧ (0 : Int) ≤ 2147483647) ∧ (0 ≤ (0 : Int)) ∧ ((0 : Int) ≤ (f 59)) ∧ (0 ≤ (v32_2)) ∧ ((v32_2) < (f 59)) ∧ (0 ≤ ((v24_1))) ∧ (((v24_1)) < 16) ∧ (0 ≤ (f 59) - (0 : Int)) := by first | omega | (simp only [wr_at]; omega) | exact ⟨by first | omega | (simp only [wr_at]; omega) | assumption, by first | omega | (simp only [wr_at]; omega) | assumption, by first | omega | (simp only [wr_at]; omega) | assumption, by first | omega | (simp only [wr_at]; omega) | assumption, by first | omega | (simp only [wr_at]; omega) | assumption, by first | omega | (simp only [wr_at]; omega) | assumption, by first | omega | (simp only [wr_at]; omega) | assumption, by first | omega | (simp only [wr_at]; omega) | assumption⟩
            exact LL42 (Int.toNat ((f 59) - (0 : Int) + 1)) 0 y32_80 _ _ ls hM (lv_sub hl [1, 0, 3, 2] rfl) hv16.1 hv16.2.1 hv16.2.2.1 hv16.2.2.2.1 hv16.2.2.2.2.1 hv16.2.2.2.2.2.1 hv16.2.2.2.2.2.2.1 (by first | assumption | exact RcP_0 (by omega) | exact RcP_wr (by assumption) | exact RcP_next (by assumption) (by assumption) (by omega) (by omega) | exact RcP_mono (by assumption) (by omega)) (by first | assumption | exact SwP_0 (by omega) (by omega) | exact SwP_set (by assumption) | exact SwP_no (by assumption) (by assumption) (by omega) (‹(_ : Int) = 0 → ¬ LdC _ _ _ _ _ _ _› (by omega)) | exact SwP_row (by assumption) (by omega) (by omega) (by omega)) hv16.2.2.2.2.2.2.2 (by first | omega | (simp only [wr_at]; omega) | assumption)
      refine lv_iload_n B.1 B.2.1 dX12_findRings_24 rfl (lv_at hl 1 rfl) ?_
      refine q_bip B dX12_findRings_25 (by decide) ?_
      refine q_cge (tgt := 90) B dX12_findRings_27 (by decide) (by unfold inr; omega) (by unfold inr; omega) (fun c17 => ?_) (fun c17 => ?_)
      · refine q_con B dX12_findRings_90 ?_
        refine lv_istore_n (lv' := [(1, .int (II 0)), (0, .ref h0)]) B.1 B.2.1 dX12_findRings_91 rfl hl (by decide) rfl (fun ls hl => ?_)
        have hv18 : ((-2147483648 : Int) ≤ 0 ∧ (0 : Int) ≤ 2147483647) ∧ (0 ≤ (0 : Int)) ∧ ((0 : Int) ≤ (f 59)) ∧ (0 ≤ (f 59) - (0 : Int)) := by first | omega | (simp only [wr_at]; omega) | exact ⟨by first | omega | (simp only [wr_at]; omega) | assumption, by first | omega | (simp only [wr_at]; omega) | assumption, by first | omega | (simp only [wr_at]; omega) | assumption, by first | omega | (simp only [wr_at]; omega) | assumption⟩
        exact LL92 (Int.toNat ((f 59) - (0 : Int) + 1)) 0 y24_80 ((A 79)) _ _ ls hM (lv_sub hl [1, 0] rfl) hv18.1 hv18.2.1 hv18.2.2.1 (by first | assumption | exact RcP_0 (by omega) | exact RcP_wr (by assumption) | exact RcP_next (by assumption) (by assumption) (by omega) (by omega) | exact RcP_mono (by assumption) (by omega)) (by first | assumption | exact RGi_0 (by omega) | exact RGi_push (by assumption) (by omega) rfl) hv18.2.2.2 (by first | omega | (simp only [wr_at]; omega) | assumption)
      · refine q_con B dX12_findRings_30 ?_
        refine lv_istore_n (lv' := [(2, .int (II 0)), (0, .ref h0), (1, .int (II v24_1))]) B.1 B.2.1 dX12_findRings_31 rfl hl (by decide) rfl (fun ls hl => ?_)
        have hv19 : ((-2147483648 : Int) ≤ 0 ∧ (0 : Int) ≤ 2147483647) ∧ (0 ≤ (0 : Int)) ∧ ((0 : Int) ≤ (f 59)) ∧ (0 ≤ (v24_1)) ∧ ((v24_1) < 16) ∧ (0 ≤ (f 59) - (0 : Int)) := by first | omega | (simp only [wr_at]; omega) | exact ⟨by first | omega | (simp only [wr_at]; omega) | assumption, by first | omega | (simp only [wr_at]; omega) | assumption, by first | omega | (simp only [wr_at]; omega) | assumption, by first | omega | (simp only [wr_at]; omega) | assumption, by first | omega | (simp only [wr_at]; omega) | assumption, by first | omega | (simp only [wr_at]; omega) | assumption⟩
        exact LL32 (Int.toNat ((f 59) - (0 : Int) + 1)) 0 y24_80 _ _ ls hM (lv_sub hl [1, 0, 2] rfl) hv19.1 hv19.2.1 hv19.2.2.1 hv19.2.2.2.1 hv19.2.2.2.2.1 (by first | assumption | exact RcP_0 (by omega) | exact RcP_wr (by assumption) | exact RcP_next (by assumption) (by assumption) (by omega) (by omega) | exact RcP_mono (by assumption) (by omega)) (by first | assumption | exact SwP_0 (by omega) (by omega) | exact SwP_set (by assumption) | exact SwP_no (by assumption) (by assumption) (by omega) (‹(_ : Int) = 0 → ¬ LdC _ _ _ _ _ _ _› (by omega)) | exact SwP_row (by assumption) (by omega) (by omega) (by omega)) hv19.2.2.2.2.2 (by first | omega | (simp only [wr_at]; omega) | assumption)
  have LL2 : ∀ N : Nat, ∀ (v2_1 : Int) (y2_80 : Nat → Int) (H : Heap) (locs : List Loc) (ls : Array Slot), (MWd D dA h0 ad (mF dA h0 ad (f, g, A, L) s.heap.size) s.heap (f, g, (up A [(80, y2_80), (79, (A 79))]), L) H locs) → lv_has ls 4 [(0, .ref h0), (1, .int (II v2_1))] → ((-2147483648 : Int) ≤ v2_1 ∧ v2_1 ≤ 2147483647) → (0 ≤ (v2_1)) → ((v2_1) ≤ 256) → (0 ≤ 256 - (v2_1)) → (256 - (v2_1) < (N : Int)) → W p l e ({ frames := 1, cells := 0, slots := 0, locals := 25 }) s m args below meth c H locs 0 0 (MQ below (mQv D dA h0 ad (f, g, A, L) s.heap.size PST) args s 0 0 (mF dA h0 ad (f, g, A, L) s.heap.size)) (F0 m 2 ls []) := by
    intro N
    induction N with
    | zero => intro v2_1 y2_80 H locs ls hM hl hLL2_0 hLL2_1 hLL2_2 hLL2_3 hN; exfalso; omega
    | succ N IH2 =>
      intro v2_1 y2_80 H locs ls hM hl hLL2_0 hLL2_1 hLL2_2 hLL2_3 hN
      refine lv_iload_n B.1 B.2.1 dX12_findRings_2 rfl (lv_at hl 1 rfl) ?_
      refine q_sip B dX12_findRings_3 (by decide) ?_
      refine q_cge (tgt := 22) B dX12_findRings_6 (by decide) (by unfold inr; omega) (by unfold inr; omega) (fun c20 => ?_) (fun c20 => ?_)
      · refine q_con B dX12_findRings_22 ?_
        refine lv_istore_n (lv' := [(1, .int (II 0)), (0, .ref h0)]) B.1 B.2.1 dX12_findRings_23 rfl hl (by decide) rfl (fun ls hl => ?_)
        have hv21 : ((-2147483648 : Int) ≤ 0 ∧ (0 : Int) ≤ 2147483647) ∧ (0 ≤ (0 : Int)) ∧ ((0 : Int) ≤ 16) ∧ (0 ≤ 16 - (0 : Int)) := by first | omega | (simp only [wr_at]; omega) | exact ⟨by first | omega | (simp only [wr_at]; omega) | assumption, by first | omega | (simp only [wr_at]; omega) | assumption, by first | omega | (simp only [wr_at]; omega) | assumption, by first | omega | (simp only [wr_at]; omega) | assumption⟩
        exact LL24 (Int.toNat (16 - (0 : Int) + 1)) 0 y2_80 _ _ ls hM (lv_sub hl [1, 0] rfl) hv21.1 hv21.2.1 hv21.2.2.1 (by first | assumption | exact RcP_0 (by omega) | exact RcP_wr (by assumption) | exact RcP_next (by assumption) (by assumption) (by omega) (by omega) | exact RcP_mono (by assumption) (by omega)) hv21.2.2.2 (by first | omega | (simp only [wr_at]; omega) | assumption)
      · refine lv_aload_n B.1 B.2.1 dX12_findRings_9 rfl (lv_at hl 0 rfl) ?_
        refine m_geta (k := 80) B hM (by decide) rfl fl306 dX12_findRings_10 ?_
        refine lv_iload_n B.1 B.2.1 dX12_findRings_13 rfl (lv_at hl 1 rfl) ?_
        refine q_con B dX12_findRings_14 ?_
        refine m_zst (k := 80) (i := 58) (n := 256) B hM rfl rfl rfl (by decide) dX12_findRings_15 (by omega) (by omega) (by omega) (show (0 : Int) ≤ 0 from by first | omega | (simp only [wr_at]; omega)) (show 0 ≤ (1 : Int) from by first | omega | (simp only [wr_at]; omega)) (u1_up A [(80, y2_80), (79, (A 79))] 80 (wr y2_80 v2_1 0)) (fun H locs hM => ?_)
        replace hM : MWd D dA h0 ad (mF dA h0 ad (f, g, A, L) s.heap.size) s.heap (f, g, (up A [(80, (wr y2_80 v2_1 0)), (79, (A 79))]), L) H locs := hM
        refine q_inc (k := 1) (x := v2_1) (lv' := [(1, .int (II (v2_1 + 1))), (0, .ref h0)]) B dX12_findRings_16 hl rfl (by decide) rfl (fun ls hl => ?_)
        refine lv_goto (tgt := 2) B.1 B.2.1 dX12_findRings_19 (by decide) ?_
        have hv22 : ((-2147483648 : Int) ≤ v2_1 + 1 ∧ (v2_1 + 1 : Int) ≤ 2147483647) ∧ (0 ≤ (v2_1 + 1)) ∧ ((v2_1 + 1) ≤ 256) ∧ (0 ≤ 256 - (v2_1 + 1)) := by first | omega | (simp only [wr_at]; omega) | exact ⟨by first | omega | (simp only [wr_at]; omega) | assumption, by first | omega | (simp only [wr_at]; omega) | assumption, by first | omega | (simp only [wr_at]; omega) | assumption, by first | omega | (simp only [wr_at]; omega) | assumption⟩
        exact IH2 (v2_1 + 1) ((wr y2_80 v2_1 0)) _ _ ls hM (lv_sub hl [1, 0] rfl) hv22.1 hv22.2.1 hv22.2.2.1 hv22.2.2.2 (by first | omega | (simp only [wr_at]; omega) | assumption)
  refine q_con B dX12_findRings_0 ?_
  refine lv_istore_n (lv' := [(1, .int (II 0)), (0, .ref h0)]) B.1 B.2.1 dX12_findRings_1 rfl hl (by decide) rfl (fun ls hl => ?_)
  have hv23 : ((-2147483648 : Int) ≤ 0 ∧ (0 : Int) ≤ 2147483647) ∧ (0 ≤ (0 : Int)) ∧ ((0 : Int) ≤ 256) ∧ (0 ≤ 256 - (0 : Int)) := by first | omega | (simp only [wr_at]; omega) | exact ⟨by first | omega | (simp only [wr_at]; omega) | assumption, by first | omega | (simp only [wr_at]; omega) | assumption, by first | omega | (simp only [wr_at]; omega) | assumption, by first | omega | (simp only [wr_at]; omega) | assumption⟩
  exact LL2 (Int.toNat (256 - (0 : Int) + 1)) 0 ((A 80)) _ _ ls hM (lv_sub hl [1, 0] rfl) hv23.1 hv23.2.1 hv23.2.2.1 hv23.2.2.2 (by first | omega | (simp only [wr_at]; omega) | assumption)

