set_option maxHeartbeats 4000000 in
set_option maxRecDepth 20000 in
theorem k_fault (l : Launch) (D : va_G) (dA : Nat → ClassId) (h0 : Nat) (ad : Nat → Nat) (f : Nat → Int) (g : Nat → Int64) (A : Nat → Nat → Int) (L : Nat → Nat → Int64) (a_what : Int) (i_what : (-2147483648 : Int) ≤ a_what ∧ a_what ≤ 2147483647) : MCi l yX12_fault cX12_fault 2 (some .int) ({ frames := 0, cells := 0, slots := 0, locals := 0 }) D dA h0 ad (f, g, A, L) [.int (II a_what)] (fun (r : Int) (σ : MS) => σ = (f, g, A, L) ∧ (True)) := by
  generalize hPST : (fun (r : Int) (σ : MS) => σ = (f, g, A, L) ∧ (True)) = PST
  refine m_enter (by decide) rfl (Nat.le_of_ble_eq_true rfl) (fun p e s m args below meth c ls B hM hl => ?_)
  have hA : ∀ q, s.heap.size ≤ q → mF dA h0 ad (f, g, A, L) s.heap.size q := fun q h => Or.inr h
  have hl : lv_has ls 2 [(0, .ref h0), (1, .int (II a_what))] := hl
  refine lv_iload_n B.1 B.2.1 dX12_fault_0 rfl (lv_at hl 1 rfl) ?_
  refine q_ine (tgt := 11) B dX12_fault_1 (by decide) (by unfold inr; omega) (fun c1 => ?_) (fun c1 => ?_)
  · refine lv_iload_n B.1 B.2.1 dX12_fault_11 rfl (lv_at hl 1 rfl) ?_
    refine q_con B dX12_fault_12 ?_
    refine q_cne (tgt := 23) B dX12_fault_13 (by decide) (by unfold inr; omega) (by unfold inr; omega) (fun c2 => ?_) (fun c2 => ?_)
    · refine q_con B dX12_fault_23 ?_
      subst hPST
      exact m_iret B hM dX12_fault_24 (by unfold inr; omega) ⟨rfl, by trivial⟩
    · refine lv_aload_n B.1 B.2.1 dX12_fault_16 rfl (lv_at hl 0 rfl) ?_
      refine m_get (k := 6) (v := f 6) B hM (by decide) rfl fl17 dX12_fault_17 rfl ?_
      have r3 : (-2147483648 : Int) ≤ f 6 ∧ f 6 ≤ 2147483647 := hM.2.2.2.1 6
      refine lv_goto (tgt := 24) B.1 B.2.1 dX12_fault_20 (by decide) ?_
      subst hPST
      exact m_iret B hM dX12_fault_24 (by unfold inr; omega) ⟨rfl, by trivial⟩
  · refine lv_aload_n B.1 B.2.1 dX12_fault_4 rfl (lv_at hl 0 rfl) ?_
    refine m_get (k := 5) (v := f 5) B hM (by decide) rfl fl14 dX12_fault_5 rfl ?_
    have r4 : (-2147483648 : Int) ≤ f 5 ∧ f 5 ≤ 2147483647 := hM.2.2.2.1 5
    refine lv_goto (tgt := 24) B.1 B.2.1 dX12_fault_8 (by decide) ?_
    subst hPST
    exact m_iret B hM dX12_fault_24 (by unfold inr; omega) ⟨rfl, by trivial⟩
set_option maxHeartbeats 4000000 in
set_option maxRecDepth 20000 in
theorem k_plain (l : Launch) (D : va_G) (dA : Nat → ClassId) (a_v : Int64) : SCl l yX12_plain cX12_plain 5 ({ frames := 0, cells := 0, slots := 0, locals := 0 }) D dA [.long a_v] (fun r => True) := by
  refine s_start (by decide) rfl (Nat.le_of_ble_eq_true rfl) (fun p e s m args below meth c ls B hl => ?_)
  have hl : lv_has ls 5 [(0, .long a_v)] := hl
  have LL6 : ∀ N : Nat, ∀ (v6_2 : Int64) (v6_4 : Int) (ls : Array Slot), lv_has ls 5 [(0, .long a_v), (2, .long v6_2), (4, .int (II v6_4))] → ((-2147483648 : Int) ≤ v6_4 ∧ v6_4 ≤ 2147483647) → (-8 ≤ (v6_4)) → ((v6_4) ≤ 56) → (0 ≤ (v6_4) + 8) → ((v6_4) + 8 < (N : Int)) → W p l e ({ frames := 0, cells := 0, slots := 0, locals := 0 }) s m args below meth c s.heap [] 0 0 (MQ below (fun _ st o t => ∃ r : Int64, o = .returned (some (.long r)) ∧ (fun r => True) r ∧ t.heap = st.heap) args s 0 0 (fun _ => False)) (F0 m 6 ls []) := by
    intro N
    induction N with
    | zero => intro v6_2 v6_4  ls hl hLL6_0 hLL6_1 hLL6_2 hLL6_3 hN; exfalso; omega
    | succ N IH6 =>
      intro v6_2 v6_4  ls hl hLL6_0 hLL6_1 hLL6_2 hLL6_3 hN
      refine lv_iload B.1 B.2.1 dX12_plain_6 (lv_at hl 2 rfl) ?_
      refine q_ilt (tgt := 44) B dX12_plain_8 (by decide) (by unfold inr; omega) (fun c1 => ?_) (fun c1 => ?_)
      · refine lv_lload_n B.1 B.2.1 dX12_plain_44 rfl (lv_at hl 1 rfl) ?_
        exact s_lret B dX12_plain_45 (by trivial)
      · refine lv_lload_n B.1 B.2.1 dX12_plain_11 rfl (lv_at hl 0 rfl) ?_
        refine lv_iload B.1 B.2.1 dX12_plain_12 (lv_at hl 2 rfl) ?_
        refine lv_lshr B.1 B.2.1 dX12_plain_14 rfl ?_
        refine lv_topl (fun w2 ew2 => ?_)
        refine lv_ldc2 B.1 B.2.1 B.2.2.2.1 (B.2.2.2.2.1 _ lc586) dX12_plain_15 ?_
        refine lv_land B.1 B.2.1 dX12_plain_18 ?_
        refine lv_topl (fun w3 ew3 => ?_)
        refine lv_lconst (v := 0) B.1 B.2.1 dX12_plain_19 (by decide) ?_
        refine q_lcmp B dX12_plain_20 (fun x4 lx4 ux4 ex4 => ?_)
        refine q_ieq (tgt := 38) B dX12_plain_21 (by decide) (by unfold inr; omega) (fun c5 => ?_) (fun c5 => ?_)
        · refine q_inc (k := 2) (x := v6_4) (lv' := [(4, .int (II (v6_4 + (-8)))), (0, .long a_v), (2, .long v6_2)]) B dX12_plain_38 hl rfl (by decide) rfl (fun ls hl => ?_)
          refine lv_goto (tgt := 6) B.1 B.2.1 dX12_plain_41 (by decide) ?_
          have hv6 : ((-2147483648 : Int) ≤ v6_4 + (-8) ∧ (v6_4 + (-8) : Int) ≤ 2147483647) ∧ (-8 ≤ (v6_4 + (-8))) ∧ ((v6_4 + (-8)) ≤ 56) ∧ (0 ≤ (v6_4 + (-8)) + 8) := by first | omega | (simp only [wr_at]; omega) | exact ⟨by first | omega | (simp only [wr_at]; omega) | assumption, by first | omega | (simp only [wr_at]; omega) | assumption, by first | omega | (simp only [wr_at]; omega) | assumption, by first | omega | (simp only [wr_at]; omega) | assumption⟩
          exact IH6 v6_2 (v6_4 + (-8)) ls (lv_sub hl [1, 2, 0] rfl) hv6.1 hv6.2.1 hv6.2.2.1 hv6.2.2.2 (by first | omega | (simp only [wr_at]; omega) | assumption)
        · refine lv_lload_n B.1 B.2.1 dX12_plain_24 rfl (lv_at hl 1 rfl) ?_
          refine q_bip B dX12_plain_25 (by decide) ?_
          refine lv_lshl B.1 B.2.1 dX12_plain_27 rfl ?_
          refine lv_topl (fun w7 ew7 => ?_)
          refine lv_lload_n B.1 B.2.1 dX12_plain_28 rfl (lv_at hl 0 rfl) ?_
          refine lv_iload B.1 B.2.1 dX12_plain_29 (lv_at hl 2 rfl) ?_
          refine lv_lshr B.1 B.2.1 dX12_plain_31 rfl ?_
          refine lv_topl (fun w8 ew8 => ?_)
          refine lv_ldc2 B.1 B.2.1 B.2.2.2.1 (B.2.2.2.2.1 _ lc586) dX12_plain_32 ?_
          refine lv_land B.1 B.2.1 dX12_plain_35 ?_
          refine lv_topl (fun w9 ew9 => ?_)
          refine lv_lor B.1 B.2.1 dX12_plain_36 ?_
          refine lv_topl (fun w10 ew10 => ?_)
          refine lv_lstore_n (lv' := [(2, .long w10), (0, .long a_v), (4, .int (II v6_4))]) B.1 B.2.1 dX12_plain_37 rfl hl (by decide) rfl (fun ls hl => ?_)
          refine q_inc (k := 2) (x := v6_4) (lv' := [(4, .int (II (v6_4 + (-8)))), (2, .long w10), (0, .long a_v)]) B dX12_plain_38 hl rfl (by decide) rfl (fun ls hl => ?_)
          refine lv_goto (tgt := 6) B.1 B.2.1 dX12_plain_41 (by decide) ?_
          have hv11 : ((-2147483648 : Int) ≤ v6_4 + (-8) ∧ (v6_4 + (-8) : Int) ≤ 2147483647) ∧ (-8 ≤ (v6_4 + (-8))) ∧ ((v6_4 + (-8)) ≤ 56) ∧ (0 ≤ (v6_4 + (-8)) + 8) := by first | omega | (simp only [wr_at]; omega) | exact ⟨by first | omega | (simp only [wr_at]; omega) | assumption, by first | omega | (simp only [wr_at]; omega) | assumption, by first | omega | (simp only [wr_at]; omega) | assumption, by first | omega | (simp only [wr_at]; omega) | assumption⟩
          exact IH6 w10 (v6_4 + (-8)) ls (lv_sub hl [2, 1, 0] rfl) hv11.1 hv11.2.1 hv11.2.2.1 hv11.2.2.2 (by first | omega | (simp only [wr_at]; omega) | assumption)
  refine lv_lconst (v := 0) B.1 B.2.1 dX12_plain_0 (by decide) ?_
  refine lv_lstore_n (lv' := [(2, .long ((0 : Int64))), (0, .long a_v)]) B.1 B.2.1 dX12_plain_1 rfl hl (by decide) rfl (fun ls hl => ?_)
  refine q_bip B dX12_plain_2 (by decide) ?_
  refine lv_istore (lv' := [(4, .int (II 56)), (2, .long ((0 : Int64))), (0, .long a_v)]) B.1 B.2.1 dX12_plain_4 hl (by decide) rfl (fun ls hl => ?_)
  have hv12 : ((-2147483648 : Int) ≤ 56 ∧ (56 : Int) ≤ 2147483647) ∧ (-8 ≤ (56 : Int)) ∧ ((56 : Int) ≤ 56) ∧ (0 ≤ (56 : Int) + 8) := by first | omega | (simp only [wr_at]; omega) | exact ⟨by first | omega | (simp only [wr_at]; omega) | assumption, by first | omega | (simp only [wr_at]; omega) | assumption, by first | omega | (simp only [wr_at]; omega) | assumption, by first | omega | (simp only [wr_at]; omega) | assumption⟩
  exact LL6 (Int.toNat ((56 : Int) + 8 + 1)) ((0 : Int64)) 56 ls (lv_sub hl [2, 1, 0] rfl) hv12.1 hv12.2.1 hv12.2.2.1 hv12.2.2.2 (by first | omega | (simp only [wr_at]; omega) | assumption)
set_option maxHeartbeats 4000000 in
set_option maxRecDepth 20000 in
theorem k_named (l : Launch) (D : va_G) (dA : Nat → ClassId) (h0 : Nat) (ad : Nat → Nat) (f : Nat → Int) (g : Nat → Int64) (A : Nat → Nat → Int) (L : Nat → Nat → Int64) (a_name : Int64) : MCi l yX12_named cX12_named 4 (some .int) ({ frames := 1, cells := 0, slots := 0, locals := 24 }) D dA h0 ad (f, g, A, L) [.long a_name] (fun (r : Int) (σ : MS) => σ = (f, g, A, L) ∧ (True)) := by
  generalize hPST : (fun (r : Int) (σ : MS) => σ = (f, g, A, L) ∧ (True)) = PST
  refine m_enter (by decide) rfl (Nat.le_of_ble_eq_true rfl) (fun p e s m args below meth c ls B hM hl => ?_)
  have hA : ∀ q, s.heap.size ≤ q → mF dA h0 ad (f, g, A, L) s.heap.size q := fun q h => Or.inr h
  have hl : lv_has ls 4 [(0, .ref h0), (1, .long a_name)] := hl
  have r1 : (0 : Int) ≤ f 3 ∧ f 3 ≤ 1 := hM.2.2.2.1 3
  have r2 : (0 : Int) ≤ f 15 ∧ f 15 ≤ 64 := hM.2.2.2.1 15
  refine lv_aload_n B.1 B.2.1 dX12_named_0 rfl (lv_at hl 0 rfl) ?_
  refine lv_lload_n B.1 B.2.1 dX12_named_1 rfl (lv_at hl 1 rfl) ?_
  refine s_calll (n := 1) (rest := [.ref h0]) B hl.1 (k_plain l D dA a_name  ) rfl ok_plain nm_plain ⟨rfl, rfl⟩ ⟨Nat.le_of_ble_eq_true rfl, Nat.le_of_ble_eq_true rfl⟩ dX12_named_2 rfl rfl (Nat.le_of_ble_eq_true rfl) ⟨Nat.zero_le _, Nat.zero_le _⟩ (fun r3 hp4 => ?_)
  replace hp4 : True := hp4
  refine m_calli (n := 1) (rest := []) B hM hA hl.1 (k_nameOf l D dA h0 ad f g A L r3  ) rfl ok_nameOf nm_nameOf ⟨rfl, rfl⟩ ⟨Nat.le_of_ble_eq_true rfl, Nat.le_of_ble_eq_true rfl⟩ dX12_named_5 rfl rfl (Nat.le_of_ble_eq_true rfl) ⟨Nat.zero_le _, Nat.zero_le _⟩ (fun r5 σr5 H locs ir5 hp6 hM => ?_)
  obtain ⟨rfl, hp6⟩ := hp6
  unfold inr at ir5
  replace hp6 : r5 = -1 ∨ (64 * (f 3) ≤ r5 ∧ r5 < 64 * (f 3) + (f 15)) := hp6
  refine lv_istore_n (lv' := [(3, .int (II r5)), (0, .ref h0), (1, .long a_name)]) B.1 B.2.1 dX12_named_8 rfl hl (by decide) rfl (fun ls hl => ?_)
  refine lv_iload_n B.1 B.2.1 dX12_named_9 rfl (lv_at hl 0 rfl) ?_
  refine q_ige (tgt := 17) B dX12_named_10 (by decide) (by unfold inr; omega) (fun c7 => ?_) (fun c7 => ?_)
  · refine q_bip B dX12_named_17 (by decide) ?_
    refine lv_aload_n B.1 B.2.1 dX12_named_19 rfl (lv_at hl 1 rfl) ?_
    refine m_geta (k := 13) B hM (by decide) rfl fl138 dX12_named_20 ?_
    refine lv_iload_n B.1 B.2.1 dX12_named_23 rfl (lv_at hl 0 rfl) ?_
    refine m_ild (k := 13) (i := 3) (n := 128) (z := r5) (v := (A 13) r5.toNat) B hM rfl rfl rfl (by decide) dX12_named_24 (by omega) (by omega) rfl ?_
    have r8 : (0 : Int) ≤ (A 13) r5.toNat ∧ (A 13) r5.toNat ≤ 5 := hM.2.2.2.2 13 r5.toNat
    refine q_mul B dX12_named_25 ?_
    refine lv_aload_n B.1 B.2.1 dX12_named_26 rfl (lv_at hl 1 rfl) ?_
    refine m_geta (k := 14) B hM (by decide) rfl fl142 dX12_named_27 ?_
    refine lv_iload_n B.1 B.2.1 dX12_named_30 rfl (lv_at hl 0 rfl) ?_
    refine m_ild (k := 14) (i := 4) (n := 128) (z := r5) (v := (A 14) r5.toNat) B hM rfl rfl rfl (by decide) dX12_named_31 (by omega) (by omega) rfl ?_
    have r9 : (0 : Int) ≤ (A 14) r5.toNat ∧ (A 14) r5.toNat ≤ 15 := hM.2.2.2.2 14 r5.toNat
    refine q_add B dX12_named_32 ?_
    subst hPST
    exact m_iret B hM dX12_named_33 (by unfold inr; omega) ⟨rfl, by trivial⟩
  · refine q_con B dX12_named_13 ?_
    refine lv_goto (tgt := 33) B.1 B.2.1 dX12_named_14 (by decide) ?_
    subst hPST
    exact m_iret B hM dX12_named_33 (by unfold inr; omega) ⟨rfl, by trivial⟩
set_option maxHeartbeats 4000000 in
set_option maxRecDepth 20000 in
theorem k_kind (l : Launch) (D : va_G) (dA : Nat → ClassId) (h0 : Nat) (ad : Nat → Nat) (f : Nat → Int) (g : Nat → Int64) (A : Nat → Nat → Int) (L : Nat → Nat → Int64) (a_kind : Int) (a_what : Int) (i_kind : (-2147483648 : Int) ≤ a_kind ∧ a_kind ≤ 2147483647) (i_what : (-2147483648 : Int) ≤ a_what ∧ a_what ≤ 2147483647) : MCi l yX12_kind cX12_kind 3 (some .int) ({ frames := 0, cells := 0, slots := 0, locals := 0 }) D dA h0 ad (f, g, A, L) [.int (II a_kind), .int (II a_what)] (fun (r : Int) (σ : MS) => σ = (f, g, A, L) ∧ (True)) := by
  generalize hPST : (fun (r : Int) (σ : MS) => σ = (f, g, A, L) ∧ (True)) = PST
  refine m_enter (by decide) rfl (Nat.le_of_ble_eq_true rfl) (fun p e s m args below meth c ls B hM hl => ?_)
  have hA : ∀ q, s.heap.size ≤ q → mF dA h0 ad (f, g, A, L) s.heap.size q := fun q h => Or.inr h
  have hl : lv_has ls 3 [(0, .ref h0), (1, .int (II a_kind)), (2, .int (II a_what))] := hl
  refine lv_iload_n B.1 B.2.1 dX12_kind_0 rfl (lv_at hl 1 rfl) ?_
  refine q_ilt (tgt := 12) B dX12_kind_1 (by decide) (by unfold inr; omega) (fun c1 => ?_) (fun c1 => ?_)
  · refine q_con B dX12_kind_12 ?_
    subst hPST
    exact m_iret B hM dX12_kind_13 (by unfold inr; omega) ⟨rfl, by trivial⟩
  · refine lv_iload_n B.1 B.2.1 dX12_kind_4 rfl (lv_at hl 1 rfl) ?_
    refine lv_aload_n B.1 B.2.1 dX12_kind_5 rfl (lv_at hl 0 rfl) ?_
    refine m_get (k := 60) (v := f 60) B hM (by decide) rfl fl478 dX12_kind_6 rfl ?_
    have r2 : (0 : Int) ≤ f 60 ∧ f 60 ≤ 16 := hM.2.2.2.1 60
    refine q_clt (tgt := 14) B dX12_kind_9 (by decide) (by unfold inr; omega) (by unfold inr; omega) (fun c3 => ?_) (fun c3 => ?_)
    · refine lv_iload_n B.1 B.2.1 dX12_kind_14 rfl (lv_at hl 2 rfl) ?_
      refine q_ine (tgt := 35) B dX12_kind_15 (by decide) (by unfold inr; omega) (fun c4 => ?_) (fun c4 => ?_)
      · refine lv_iload_n B.1 B.2.1 dX12_kind_35 rfl (lv_at hl 2 rfl) ?_
        refine q_con B dX12_kind_36 ?_
        refine q_cne (tgt := 57) B dX12_kind_37 (by decide) (by unfold inr; omega) (by unfold inr; omega) (fun c5 => ?_) (fun c5 => ?_)
        · refine q_con B dX12_kind_57 ?_
          subst hPST
          exact m_iret B hM dX12_kind_58 (by unfold inr; omega) ⟨rfl, by trivial⟩
        · refine lv_aload_n B.1 B.2.1 dX12_kind_40 rfl (lv_at hl 0 rfl) ?_
          refine m_geta (k := 34) B hM (by decide) rfl fl196 dX12_kind_41 ?_
          refine q_bip B dX12_kind_44 (by decide) ?_
          refine lv_aload_n B.1 B.2.1 dX12_kind_46 rfl (lv_at hl 0 rfl) ?_
          refine m_get (k := 3) (v := f 3) B hM (by decide) rfl fl11 dX12_kind_47 rfl ?_
          have r6 : (0 : Int) ≤ f 3 ∧ f 3 ≤ 1 := hM.2.2.2.1 3
          refine q_mul B dX12_kind_50 ?_
          refine lv_iload_n B.1 B.2.1 dX12_kind_51 rfl (lv_at hl 1 rfl) ?_
          refine q_add B dX12_kind_52 ?_
          refine m_ild (k := 34) (i := 22) (n := 32) (z := (16 * (f 3)) + a_kind) (v := (A 34) ((16 * (f 3)) + a_kind).toNat) B hM rfl rfl rfl (by decide) dX12_kind_53 (by omega) (by omega) rfl ?_
          have r7 : (-1 : Int) ≤ (A 34) ((16 * (f 3)) + a_kind).toNat ∧ (A 34) ((16 * (f 3)) + a_kind).toNat ≤ 15 := hM.2.2.2.2 34 ((16 * (f 3)) + a_kind).toNat
          refine lv_goto (tgt := 58) B.1 B.2.1 dX12_kind_54 (by decide) ?_
          subst hPST
          exact m_iret B hM dX12_kind_58 (by unfold inr; omega) ⟨rfl, by trivial⟩
      · refine lv_aload_n B.1 B.2.1 dX12_kind_18 rfl (lv_at hl 0 rfl) ?_
        refine m_geta (k := 37) B hM (by decide) rfl fl205 dX12_kind_19 ?_
        refine q_bip B dX12_kind_22 (by decide) ?_
        refine lv_aload_n B.1 B.2.1 dX12_kind_24 rfl (lv_at hl 0 rfl) ?_
        refine m_get (k := 3) (v := f 3) B hM (by decide) rfl fl11 dX12_kind_25 rfl ?_
        have r8 : (0 : Int) ≤ f 3 ∧ f 3 ≤ 1 := hM.2.2.2.1 3
        refine q_mul B dX12_kind_28 ?_
        refine lv_iload_n B.1 B.2.1 dX12_kind_29 rfl (lv_at hl 1 rfl) ?_
        refine q_add B dX12_kind_30 ?_
        refine m_ild (k := 37) (i := 25) (n := 32) (z := (16 * (f 3)) + a_kind) (v := (A 37) ((16 * (f 3)) + a_kind).toNat) B hM rfl rfl rfl (by decide) dX12_kind_31 (by omega) (by omega) rfl ?_
        have r9 : (0 : Int) ≤ (A 37) ((16 * (f 3)) + a_kind).toNat ∧ (A 37) ((16 * (f 3)) + a_kind).toNat ≤ 12 := hM.2.2.2.2 37 ((16 * (f 3)) + a_kind).toNat
        refine lv_goto (tgt := 58) B.1 B.2.1 dX12_kind_32 (by decide) ?_
        subst hPST
        exact m_iret B hM dX12_kind_58 (by unfold inr; omega) ⟨rfl, by trivial⟩
    · refine q_con B dX12_kind_12 ?_
      subst hPST
      exact m_iret B hM dX12_kind_13 (by unfold inr; omega) ⟨rfl, by trivial⟩
set_option maxHeartbeats 4000000 in
set_option maxRecDepth 20000 in
theorem k_member (l : Launch) (D : va_G) (dA : Nat → ClassId) (h0 : Nat) (ad : Nat → Nat) (f : Nat → Int) (g : Nat → Int64) (A : Nat → Nat → Int) (L : Nat → Nat → Int64) (a_kind : Int) (a_name : Int64) (i_kind : (-2147483648 : Int) ≤ a_kind ∧ a_kind ≤ 2147483647) : MCi l yX12_member cX12_member 4 (some .int) ({ frames := 1, cells := 0, slots := 0, locals := 24 }) D dA h0 ad (f, g, A, L) [.int (II a_kind), .long a_name] (fun (r : Int) (σ : MS) => σ = (f, g, A, L) ∧ (True)) := by
  generalize hPST : (fun (r : Int) (σ : MS) => σ = (f, g, A, L) ∧ (True)) = PST
  refine m_enter (by decide) rfl (Nat.le_of_ble_eq_true rfl) (fun p e s m args below meth c ls B hM hl => ?_)
  have hA : ∀ q, s.heap.size ≤ q → mF dA h0 ad (f, g, A, L) s.heap.size q := fun q h => Or.inr h
  have hl : lv_has ls 4 [(0, .ref h0), (1, .int (II a_kind)), (2, .long a_name)] := hl
  refine lv_iload_n B.1 B.2.1 dX12_member_0 rfl (lv_at hl 1 rfl) ?_
  refine q_ilt (tgt := 12) B dX12_member_1 (by decide) (by unfold inr; omega) (fun c1 => ?_) (fun c1 => ?_)
  · refine q_con B dX12_member_12 ?_
    refine lv_goto (tgt := 33) B.1 B.2.1 dX12_member_13 (by decide) ?_
    subst hPST
    exact m_iret B hM dX12_member_33 (by unfold inr; omega) ⟨rfl, by trivial⟩
  · refine lv_iload_n B.1 B.2.1 dX12_member_4 rfl (lv_at hl 1 rfl) ?_
    refine lv_aload_n B.1 B.2.1 dX12_member_5 rfl (lv_at hl 0 rfl) ?_
    refine m_get (k := 60) (v := f 60) B hM (by decide) rfl fl478 dX12_member_6 rfl ?_
    have r2 : (0 : Int) ≤ f 60 ∧ f 60 ≤ 16 := hM.2.2.2.1 60
    refine q_clt (tgt := 16) B dX12_member_9 (by decide) (by unfold inr; omega) (by unfold inr; omega) (fun c3 => ?_) (fun c3 => ?_)
    · refine lv_aload_n B.1 B.2.1 dX12_member_16 rfl (lv_at hl 0 rfl) ?_
      refine q_bip B dX12_member_17 (by decide) ?_
      refine lv_aload_n B.1 B.2.1 dX12_member_19 rfl (lv_at hl 0 rfl) ?_
      refine m_get (k := 3) (v := f 3) B hM (by decide) rfl fl11 dX12_member_20 rfl ?_
      have r4 : (0 : Int) ≤ f 3 ∧ f 3 ≤ 1 := hM.2.2.2.1 3
      refine q_mul B dX12_member_23 ?_
      refine lv_iload_n B.1 B.2.1 dX12_member_24 rfl (lv_at hl 1 rfl) ?_
      refine q_add B dX12_member_25 ?_
      refine lv_lload_n B.1 B.2.1 dX12_member_26 rfl (lv_at hl 2 rfl) ?_
      refine s_calll (n := 1) (rest := [.int (II ((16 * (f 3)) + a_kind)), .ref h0]) B hl.1 (k_plain l D dA a_name  ) rfl ok_plain nm_plain ⟨rfl, rfl⟩ ⟨Nat.le_of_ble_eq_true rfl, Nat.le_of_ble_eq_true rfl⟩ dX12_member_27 rfl rfl (Nat.le_of_ble_eq_true rfl) ⟨Nat.zero_le _, Nat.zero_le _⟩ (fun r5 hp6 => ?_)
      replace hp6 : True := hp6
      have hv7 : ((-2147483648 : Int) ≤ (16 * (f 3)) + a_kind ∧ ((16 * (f 3)) + a_kind : Int) ≤ 2147483647) ∧ (0 ≤ ((16 * (f 3)) + a_kind)) ∧ (((16 * (f 3)) + a_kind) < 32) := by first | omega | (simp only [wr_at]; omega) | exact ⟨by first | omega | (simp only [wr_at]; omega) | assumption, by first | omega | (simp only [wr_at]; omega) | assumption, by first | omega | (simp only [wr_at]; omega) | assumption⟩
      refine m_calli (n := 2) (rest := []) B hM hA hl.1 (k_memberOfF l D dA h0 ad f g A L ((16 * (f 3)) + a_kind) r5 hv7.1 hv7.2.1 hv7.2.2) rfl ok_memberOf nm_memberOf ⟨rfl, rfl⟩ ⟨Nat.le_of_ble_eq_true rfl, Nat.le_of_ble_eq_true rfl⟩ dX12_member_30 rfl rfl (Nat.le_of_ble_eq_true rfl) ⟨Nat.zero_le _, Nat.zero_le _⟩ (fun r8 σr8 H locs ir8 hp9 hM => ?_)
      obtain ⟨rfl, hp9⟩ := hp9
      unfold inr at ir8
      replace hp9 : -1 ≤ r8 ∧ r8 < (A 37) (((16 * (f 3)) + a_kind)).toNat ∧ r8 = mOf (L 41) (A 38) ((16 * (f 3)) + a_kind) (r5) ((A 37) (((16 * (f 3)) + a_kind)).toNat) := hp9
      obtain ⟨hp9_0, hp9_1, hp9_2⟩ := hp9
      subst hPST
      exact m_iret B hM dX12_member_33 (by unfold inr; omega) ⟨rfl, by trivial⟩
    · refine q_con B dX12_member_12 ?_
      refine lv_goto (tgt := 33) B.1 B.2.1 dX12_member_13 (by decide) ?_
      subst hPST
      exact m_iret B hM dX12_member_33 (by unfold inr; omega) ⟨rfl, by trivial⟩
set_option maxHeartbeats 4000000 in
set_option maxRecDepth 20000 in
theorem k_isPaper (l : Launch) (D : va_G) (dA : Nat → ClassId) (h0 : Nat) (ad : Nat → Nat) (f : Nat → Int) (g : Nat → Int64) (A : Nat → Nat → Int) (L : Nat → Nat → Int64) (a_p : Int) (i_p : (-2147483648 : Int) ≤ a_p ∧ a_p ≤ 2147483647) : MCi l yX12_isPaper cX12_isPaper 2 (some .boolean) ({ frames := 0, cells := 0, slots := 0, locals := 0 }) D dA h0 ad (f, g, A, L) [.int (II a_p)] (fun (r : Int) (σ : MS) => σ = (f, g, A, L) ∧ (0 ≤ r ∧ r ≤ 1 ∧ (r = 1 ↔ 0 ≤ (a_p) ∧ (a_p) < (f 90)))) := by
  generalize hPST : (fun (r : Int) (σ : MS) => σ = (f, g, A, L) ∧ (0 ≤ r ∧ r ≤ 1 ∧ (r = 1 ↔ 0 ≤ (a_p) ∧ (a_p) < (f 90)))) = PST
  refine m_enter (by decide) rfl (Nat.le_of_ble_eq_true rfl) (fun p e s m args below meth c ls B hM hl => ?_)
  have hA : ∀ q, s.heap.size ≤ q → mF dA h0 ad (f, g, A, L) s.heap.size q := fun q h => Or.inr h
  have hl : lv_has ls 2 [(0, .ref h0), (1, .int (II a_p))] := hl
  have r1 : (0 : Int) ≤ f 90 ∧ f 90 ≤ 200 := hM.2.2.2.1 90
  refine lv_iload_n B.1 B.2.1 dX12_isPaper_0 rfl (lv_at hl 1 rfl) ?_
  refine q_ilt (tgt := 16) B dX12_isPaper_1 (by decide) (by unfold inr; omega) (fun c2 => ?_) (fun c2 => ?_)
  · refine q_con B dX12_isPaper_16 ?_
    subst hPST
    exact m_zret B hM dX12_isPaper_17 (by omega) ⟨rfl, by omega⟩
  · refine lv_iload_n B.1 B.2.1 dX12_isPaper_4 rfl (lv_at hl 1 rfl) ?_
    refine lv_aload_n B.1 B.2.1 dX12_isPaper_5 rfl (lv_at hl 0 rfl) ?_
    refine m_get (k := 90) (v := f 90) B hM (by decide) rfl fl524 dX12_isPaper_6 rfl ?_
    refine q_cge (tgt := 16) B dX12_isPaper_9 (by decide) (by unfold inr; omega) (by unfold inr; omega) (fun c3 => ?_) (fun c3 => ?_)
    · refine q_con B dX12_isPaper_16 ?_
      subst hPST
      exact m_zret B hM dX12_isPaper_17 (by omega) ⟨rfl, by omega⟩
    · refine q_con B dX12_isPaper_12 ?_
      refine lv_goto (tgt := 17) B.1 B.2.1 dX12_isPaper_13 (by decide) ?_
      subst hPST
      exact m_zret B hM dX12_isPaper_17 (by omega) ⟨rfl, by omega⟩
set_option maxHeartbeats 4000000 in
set_option maxRecDepth 20000 in
theorem k_has (l : Launch) (D : va_G) (dA : Nat → ClassId) (h0 : Nat) (ad : Nat → Nat) (f : Nat → Int) (g : Nat → Int64) (A : Nat → Nat → Int) (L : Nat → Nat → Int64) (a_p : Int) (a_m : Int) (a_type : Int) (i_p : (-2147483648 : Int) ≤ a_p ∧ a_p ≤ 2147483647) (i_m : (-2147483648 : Int) ≤ a_m ∧ a_m ≤ 2147483647) (i_type : (-2147483648 : Int) ≤ a_type ∧ a_type ≤ 2147483647) : MCi l yX12_has cX12_has 4 (some .boolean) ({ frames := 1, cells := 0, slots := 0, locals := 22 }) D dA h0 ad (f, g, A, L) [.int (II a_p), .int (II a_m), .int (II a_type)] (fun (r : Int) (σ : MS) => σ = (f, g, A, L) ∧ (0 ≤ r ∧ r ≤ 1 ∧ (r = 1 → 0 ≤ (a_p) ∧ (a_p) < (f 90) ∧ 0 ≤ (a_m) ∧ (a_m) ≤ 11 ∧ (a_m) < (A 37) (16 * (f 3) + (A 83) ((a_p)).toNat).toNat ∧ (A 42) ((A 38) (12 * (16 * (f 3) + (A 83) ((a_p)).toNat) + (a_m)).toNat).toNat = (a_type)))) := by
  generalize hPST : (fun (r : Int) (σ : MS) => σ = (f, g, A, L) ∧ (0 ≤ r ∧ r ≤ 1 ∧ (r = 1 → 0 ≤ (a_p) ∧ (a_p) < (f 90) ∧ 0 ≤ (a_m) ∧ (a_m) ≤ 11 ∧ (a_m) < (A 37) (16 * (f 3) + (A 83) ((a_p)).toNat).toNat ∧ (A 42) ((A 38) (12 * (16 * (f 3) + (A 83) ((a_p)).toNat) + (a_m)).toNat).toNat = (a_type)))) = PST
  refine m_enter (by decide) rfl (Nat.le_of_ble_eq_true rfl) (fun p e s m args below meth c ls B hM hl => ?_)
  have hA : ∀ q, s.heap.size ≤ q → mF dA h0 ad (f, g, A, L) s.heap.size q := fun q h => Or.inr h
  have hl : lv_has ls 4 [(0, .ref h0), (1, .int (II a_p)), (2, .int (II a_m)), (3, .int (II a_type))] := hl
  have r1 : (0 : Int) ≤ f 3 ∧ f 3 ≤ 1 := hM.2.2.2.1 3
  have r2 : (0 : Int) ≤ f 90 ∧ f 90 ≤ 200 := hM.2.2.2.1 90
  refine lv_aload_n B.1 B.2.1 dX12_has_0 rfl (lv_at hl 0 rfl) ?_
  refine lv_iload_n B.1 B.2.1 dX12_has_1 rfl (lv_at hl 1 rfl) ?_
  refine m_calli (n := 1) (rest := []) B hM hA hl.1 (k_isPaper l D dA h0 ad f g A L a_p (show (-2147483648 : Int) ≤ a_p ∧ (a_p : Int) ≤ 2147483647 from by first | omega | (simp only [wr_at]; omega) | assumption) ) rfl ok_isPaper nm_isPaper ⟨rfl, rfl⟩ ⟨Nat.le_of_ble_eq_true rfl, Nat.le_of_ble_eq_true rfl⟩ dX12_has_2 rfl rfl (Nat.le_of_ble_eq_true rfl) ⟨Nat.zero_le _, Nat.zero_le _⟩ (fun r3 σr3 H locs ir3 hp4 hM => ?_)
  obtain ⟨rfl, hp4⟩ := hp4
  unfold inr at ir3
  replace hp4 : 0 ≤ r3 ∧ r3 ≤ 1 ∧ (r3 = 1 ↔ 0 ≤ (a_p) ∧ (a_p) < (f 90)) := hp4
  obtain ⟨hp4_0, hp4_1, hp4_2⟩ := hp4
  refine q_ieq (tgt := 54) B dX12_has_5 (by decide) (by unfold inr; omega) (fun c5 => ?_) (fun c5 => ?_)
  · refine q_con B dX12_has_54 ?_
    subst hPST
    exact m_zret B hM dX12_has_55 (by omega) ⟨rfl, by omega⟩
  · refine lv_iload_n B.1 B.2.1 dX12_has_8 rfl (lv_at hl 2 rfl) ?_
    refine q_ilt (tgt := 54) B dX12_has_9 (by decide) (by unfold inr; omega) (fun c6 => ?_) (fun c6 => ?_)
    · refine q_con B dX12_has_54 ?_
      subst hPST
      exact m_zret B hM dX12_has_55 (by omega) ⟨rfl, by omega⟩
    · refine lv_iload_n B.1 B.2.1 dX12_has_12 rfl (lv_at hl 2 rfl) ?_
      refine lv_aload_n B.1 B.2.1 dX12_has_13 rfl (lv_at hl 0 rfl) ?_
      refine m_geta (k := 37) B hM (by decide) rfl fl205 dX12_has_14 ?_
      refine q_bip B dX12_has_17 (by decide) ?_
      refine lv_aload_n B.1 B.2.1 dX12_has_19 rfl (lv_at hl 0 rfl) ?_
      refine m_get (k := 3) (v := f 3) B hM (by decide) rfl fl11 dX12_has_20 rfl ?_
      refine q_mul B dX12_has_23 ?_
      refine lv_aload_n B.1 B.2.1 dX12_has_24 rfl (lv_at hl 0 rfl) ?_
      refine m_geta (k := 83) B hM (by decide) rfl fl315 dX12_has_25 ?_
      refine lv_iload_n B.1 B.2.1 dX12_has_28 rfl (lv_at hl 1 rfl) ?_
      refine m_ild (k := 83) (i := 61) (n := 200) (z := a_p) (v := (A 83) a_p.toNat) B hM rfl rfl rfl (by decide) dX12_has_29 (by omega) (by omega) rfl ?_
      have r7 : (0 : Int) ≤ (A 83) a_p.toNat ∧ (A 83) a_p.toNat ≤ 15 := hM.2.2.2.2 83 a_p.toNat
      refine q_add B dX12_has_30 ?_
      refine m_ild (k := 37) (i := 25) (n := 32) (z := (16 * (f 3)) + ((A 83) a_p.toNat)) (v := (A 37) ((16 * (f 3)) + ((A 83) a_p.toNat)).toNat) B hM rfl rfl rfl (by decide) dX12_has_31 (by omega) (by omega) rfl ?_
      have r8 : (0 : Int) ≤ (A 37) ((16 * (f 3)) + ((A 83) a_p.toNat)).toNat ∧ (A 37) ((16 * (f 3)) + ((A 83) a_p.toNat)).toNat ≤ 12 := hM.2.2.2.2 37 ((16 * (f 3)) + ((A 83) a_p.toNat)).toNat
      refine q_cge (tgt := 54) B dX12_has_32 (by decide) (by unfold inr; omega) (by unfold inr; omega) (fun c9 => ?_) (fun c9 => ?_)
      · refine q_con B dX12_has_54 ?_
        subst hPST
        exact m_zret B hM dX12_has_55 (by omega) ⟨rfl, by omega⟩
      · refine lv_aload_n B.1 B.2.1 dX12_has_35 rfl (lv_at hl 0 rfl) ?_
        refine lv_aload_n B.1 B.2.1 dX12_has_36 rfl (lv_at hl 0 rfl) ?_
        refine m_geta (k := 83) B hM (by decide) rfl fl315 dX12_has_37 ?_
        refine lv_iload_n B.1 B.2.1 dX12_has_40 rfl (lv_at hl 1 rfl) ?_
        refine m_ild (k := 83) (i := 61) (n := 200) (z := a_p) (v := (A 83) a_p.toNat) B hM rfl rfl rfl (by decide) dX12_has_41 (by omega) (by omega) rfl ?_
        refine lv_iload_n B.1 B.2.1 dX12_has_42 rfl (lv_at hl 2 rfl) ?_
        have hv10 : ((-2147483648 : Int) ≤ (A 83) a_p.toNat ∧ ((A 83) a_p.toNat : Int) ≤ 2147483647) ∧ ((-2147483648 : Int) ≤ a_m ∧ (a_m : Int) ≤ 2147483647) ∧ (0 ≤ ((A 83) a_p.toNat)) ∧ (((A 83) a_p.toNat) ≤ 15) ∧ ((a_m) ≤ 11) := by first | omega | (simp only [wr_at]; omega) | exact ⟨by first | omega | (simp only [wr_at]; omega) | assumption, by first | omega | (simp only [wr_at]; omega) | assumption, by first | omega | (simp only [wr_at]; omega) | assumption, by first | omega | (simp only [wr_at]; omega) | assumption, by first | omega | (simp only [wr_at]; omega) | assumption⟩
        refine m_calli (n := 2) (rest := []) B hM hA hl.1 (k_typeOf l D dA h0 ad f g A L ((A 83) a_p.toNat) a_m hv10.1 hv10.2.1 hv10.2.2.1 hv10.2.2.2.1 hv10.2.2.2.2) rfl ok_typeOf nm_typeOf ⟨rfl, rfl⟩ ⟨Nat.le_of_ble_eq_true rfl, Nat.le_of_ble_eq_true rfl⟩ dX12_has_43 rfl rfl (Nat.le_of_ble_eq_true rfl) ⟨Nat.zero_le _, Nat.zero_le _⟩ (fun r11 σr11 H locs ir11 hp12 hM => ?_)
        obtain ⟨rfl, hp12⟩ := hp12
        unfold inr at ir11
        replace hp12 : ((a_m) < 0 → r11 = -1) ∧ (0 ≤ (a_m) → r11 = (A 42) ((A 38) (12 * (16 * (f 3) + ((A 83) a_p.toNat)) + (a_m)).toNat).toNat) ∧ -1 ≤ r11 ∧ r11 ≤ 3 ∧ (0 ≤ (a_m) → 0 ≤ r11) := hp12
        obtain ⟨hp12_0, hp12_1, hp12_2, hp12_3, hp12_4⟩ := hp12
        refine lv_iload_n B.1 B.2.1 dX12_has_46 rfl (lv_at hl 3 rfl) ?_
        refine q_cne (tgt := 54) B dX12_has_47 (by decide) (by unfold inr; omega) (by unfold inr; omega) (fun c13 => ?_) (fun c13 => ?_)
        · refine q_con B dX12_has_54 ?_
          subst hPST
          exact m_zret B hM dX12_has_55 (by omega) ⟨rfl, by omega⟩
        · refine q_con B dX12_has_50 ?_
          refine lv_goto (tgt := 55) B.1 B.2.1 dX12_has_51 (by decide) ?_
          subst hPST
          exact m_zret B hM dX12_has_55 (by omega) ⟨rfl, by omega⟩
set_option maxHeartbeats 4000000 in
set_option maxRecDepth 20000 in
theorem k_paper (l : Launch) (D : va_G) (dA : Nat → ClassId) (h0 : Nat) (ad : Nat → Nat) (f : Nat → Int) (g : Nat → Int64) (A : Nat → Nat → Int) (L : Nat → Nat → Int64) (a_kind : Int) (i_kind : (-2147483648 : Int) ≤ a_kind ∧ a_kind ≤ 2147483647) : MCi l yX12_paper cX12_paper 3 (some .int) ({ frames := 0, cells := 0, slots := 0, locals := 0 }) D dA h0 ad (f, g, A, L) [.int (II a_kind)] (fun (r : Int) (σ : MS) => ∃ n90 : Int, ∃ b83 : Nat → Int, ∃ b89 : Nat → Int, ∃ b87 : Nat → Int, σ = ((up f [(90, n90)]), g, (up A [(83, b83), (89, b89), (87, b87)]), L) ∧ (((n90) = (f 90) ∨ 0 < (f 60)))) := by
  generalize hPST : (fun (r : Int) (σ : MS) => ∃ n90 : Int, ∃ b83 : Nat → Int, ∃ b89 : Nat → Int, ∃ b87 : Nat → Int, σ = ((up f [(90, n90)]), g, (up A [(83, b83), (89, b89), (87, b87)]), L) ∧ (((n90) = (f 90) ∨ 0 < (f 60)))) = PST
  refine m_enter (by decide) rfl (Nat.le_of_ble_eq_true rfl) (fun p e s m args below meth c ls B hM hl => ?_)
  have hA : ∀ q, s.heap.size ≤ q → mF dA h0 ad (f, g, A, L) s.heap.size q := fun q h => Or.inr h
  have hM : MWd D dA h0 ad (mF dA h0 ad (f, g, A, L) s.heap.size) s.heap ((up f [(90, f 90)]), g, (up A [(83, (A 83)), (89, (A 89)), (87, (A 87))]), L) s.heap [] := MW_pad hM (up_self f [90]) rfl (up_self A [83, 89, 87]) rfl
  have hl : lv_has ls 3 [(0, .ref h0), (1, .int (II a_kind))] := hl
  have r1 : (0 : Int) ≤ f 60 ∧ f 60 ≤ 16 := hM.2.2.2.1 60
  have r2 : (0 : Int) ≤ f 90 ∧ f 90 ≤ 200 := hM.2.2.2.1 90
  have LL42 : ∀ N : Nat, ∀ (v42_2 : Int) (y42_83 : Nat → Int) (y42_89 : Nat → Int) (y42_87 : Nat → Int) (H : Heap) (locs : List Loc) (ls : Array Slot), (MWd D dA h0 ad (mF dA h0 ad (f, g, A, L) s.heap.size) s.heap ((up f [(90, f 90)]), g, (up A [(83, y42_83), (89, y42_89), (87, y42_87)]), L) H locs) → lv_has ls 3 [(0, .ref h0), (1, .int (II a_kind)), (2, .int (II v42_2))] → ((-2147483648 : Int) ≤ v42_2 ∧ v42_2 ≤ 2147483647) → (12 * (f 90) ≤ (v42_2)) → ((v42_2) ≤ 12 * (f 90) + 12) → ((f 90) < 200) → (0 < (f 60)) → (0 ≤ 12 * (f 90) + 12 - (v42_2)) → (12 * (f 90) + 12 - (v42_2) < (N : Int)) → W p l e ({ frames := 0, cells := 0, slots := 0, locals := 0 }) s m args below meth c H locs 0 0 (MQ below (mQi D dA h0 ad (f, g, A, L) s.heap.size PST) args s 0 0 (mF dA h0 ad (f, g, A, L) s.heap.size)) (F0 m 42 ls []) := by
    intro N
    induction N with
    | zero => intro v42_2 y42_83 y42_89 y42_87 H locs ls hM hl hLL42_0 hLL42_1 hLL42_2 hLL42_3 hLL42_4 hLL42_5 hN; exfalso; omega
    | succ N IH42 =>
      intro v42_2 y42_83 y42_89 y42_87 H locs ls hM hl hLL42_0 hLL42_1 hLL42_2 hLL42_3 hLL42_4 hLL42_5 hN
      refine lv_iload_n B.1 B.2.1 dX12_paper_42 rfl (lv_at hl 2 rfl) ?_
      refine q_bip B dX12_paper_43 (by decide) ?_
      refine lv_aload_n B.1 B.2.1 dX12_paper_45 rfl (lv_at hl 0 rfl) ?_
      refine m_get (k := 90) (v := f 90) B hM (by decide) rfl fl524 dX12_paper_46 rfl ?_
      refine q_mul B dX12_paper_49 ?_
      refine q_bip B dX12_paper_50 (by decide) ?_
      refine q_add B dX12_paper_52 ?_
      refine q_cge (tgt := 76) B dX12_paper_53 (by decide) (by unfold inr; omega) (by unfold inr; omega) (fun c3 => ?_) (fun c3 => ?_)
      · refine lv_aload_n B.1 B.2.1 dX12_paper_76 rfl (lv_at hl 0 rfl) ?_
        refine lv_dup B.1 B.2.1 dX12_paper_77 rfl ?_
        refine m_get (k := 90) (v := f 90) B hM (by decide) rfl fl524 dX12_paper_78 rfl ?_
        refine q_con B dX12_paper_81 ?_
        refine q_add B dX12_paper_82 ?_
        refine m_put (k := 90) B hM (by decide) rfl fl524 rfl dX12_paper_83 rfl rfl (show (0 : Int) ≤ (f 90) + 1 from by first | omega | (simp only [wr_at]; omega)) (show (f 90) + 1 ≤ (200 : Int) from by first | omega | (simp only [wr_at]; omega)) (u1_up f [(90, f 90)] 90 ((f 90) + 1)) (fun H locs hM => ?_)
        replace hM : MWd D dA h0 ad (mF dA h0 ad (f, g, A, L) s.heap.size) s.heap ((up f [(90, (f 90) + 1)]), g, (up A [(83, y42_83), (89, y42_89), (87, y42_87)]), L) H locs := hM
        refine lv_aload_n B.1 B.2.1 dX12_paper_86 rfl (lv_at hl 0 rfl) ?_
        refine m_get (k := 90) (v := (f 90) + 1) B hM (by decide) rfl fl524 dX12_paper_87 rfl ?_
        have r4 : (0 : Int) ≤ (f 90) + 1 ∧ (f 90) + 1 ≤ 200 := hM.2.2.2.1 90
        refine q_con B dX12_paper_90 ?_
        refine q_sub B dX12_paper_91 ?_
        subst hPST
        exact m_iret B hM dX12_paper_92 (by unfold inr; omega) ⟨((f 90) + 1), y42_83, y42_89, y42_87, rfl, (by first | omega | (simp only [wr_at]; omega) | assumption)⟩
      · refine lv_aload_n B.1 B.2.1 dX12_paper_56 rfl (lv_at hl 0 rfl) ?_
        refine m_geta (k := 89) B hM (by decide) rfl fl334 dX12_paper_57 ?_
        refine lv_iload_n B.1 B.2.1 dX12_paper_60 rfl (lv_at hl 2 rfl) ?_
        refine q_con B dX12_paper_61 ?_
        refine m_zst (k := 89) (i := 67) (n := 2400) B hM rfl rfl rfl (by decide) dX12_paper_62 (by omega) (by omega) (by omega) (show (0 : Int) ≤ 0 from by first | omega | (simp only [wr_at]; omega)) (show 0 ≤ (1 : Int) from by first | omega | (simp only [wr_at]; omega)) (u1_up A [(83, y42_83), (89, y42_89), (87, y42_87)] 89 (wr y42_89 v42_2 0)) (fun H locs hM => ?_)
        replace hM : MWd D dA h0 ad (mF dA h0 ad (f, g, A, L) s.heap.size) s.heap ((up f [(90, f 90)]), g, (up A [(83, y42_83), (89, (wr y42_89 v42_2 0)), (87, y42_87)]), L) H locs := hM
        refine lv_aload_n B.1 B.2.1 dX12_paper_63 rfl (lv_at hl 0 rfl) ?_
        refine m_geta (k := 87) B hM (by decide) rfl fl327 dX12_paper_64 ?_
        refine lv_iload_n B.1 B.2.1 dX12_paper_67 rfl (lv_at hl 2 rfl) ?_
        refine q_con B dX12_paper_68 ?_
        refine m_ist (k := 87) (i := 65) (n := 2400) B hM rfl rfl rfl (by decide) dX12_paper_69 (by omega) (by omega) (show (0 : Int) ≤ 0 from by first | omega | (simp only [wr_at]; omega)) (show 0 ≤ (20 : Int) from by first | omega | (simp only [wr_at]; omega)) (u1_up A [(83, y42_83), (89, (wr y42_89 v42_2 0)), (87, y42_87)] 87 (wr y42_87 v42_2 0)) (fun H locs hM => ?_)
        replace hM : MWd D dA h0 ad (mF dA h0 ad (f, g, A, L) s.heap.size) s.heap ((up f [(90, f 90)]), g, (up A [(83, y42_83), (89, (wr y42_89 v42_2 0)), (87, (wr y42_87 v42_2 0))]), L) H locs := hM
        refine q_inc (k := 2) (x := v42_2) (lv' := [(2, .int (II (v42_2 + 1))), (0, .ref h0), (1, .int (II a_kind))]) B dX12_paper_70 hl rfl (by decide) rfl (fun ls hl => ?_)
        refine lv_goto (tgt := 42) B.1 B.2.1 dX12_paper_73 (by decide) ?_
        have hv5 : ((-2147483648 : Int) ≤ v42_2 + 1 ∧ (v42_2 + 1 : Int) ≤ 2147483647) ∧ (12 * (f 90) ≤ (v42_2 + 1)) ∧ ((v42_2 + 1) ≤ 12 * (f 90) + 12) ∧ ((f 90) < 200) ∧ (0 < (f 60)) ∧ (0 ≤ 12 * (f 90) + 12 - (v42_2 + 1)) := by first | omega | (simp only [wr_at]; omega) | exact ⟨by first | omega | (simp only [wr_at]; omega) | assumption, by first | omega | (simp only [wr_at]; omega) | assumption, by first | omega | (simp only [wr_at]; omega) | assumption, by first | omega | (simp only [wr_at]; omega) | assumption, by first | omega | (simp only [wr_at]; omega) | assumption, by first | omega | (simp only [wr_at]; omega) | assumption⟩
        exact IH42 (v42_2 + 1) y42_83 ((wr y42_89 v42_2 0)) ((wr y42_87 v42_2 0)) _ _ ls hM (lv_sub hl [1, 2, 0] rfl) hv5.1 hv5.2.1 hv5.2.2.1 hv5.2.2.2.1 hv5.2.2.2.2.1 hv5.2.2.2.2.2 (by first | omega | (simp only [wr_at]; omega) | assumption)
  refine lv_iload_n B.1 B.2.1 dX12_paper_0 rfl (lv_at hl 1 rfl) ?_
  refine q_ilt (tgt := 22) B dX12_paper_1 (by decide) (by unfold inr; omega) (fun c6 => ?_) (fun c6 => ?_)
  · refine q_con B dX12_paper_22 ?_
    subst hPST
    exact m_iret B hM dX12_paper_23 (by unfold inr; omega) ⟨(f 90), ((A 83)), ((A 89)), ((A 87)), rfl, (by first | omega | (simp only [wr_at]; omega) | assumption)⟩
  · refine lv_iload_n B.1 B.2.1 dX12_paper_4 rfl (lv_at hl 1 rfl) ?_
    refine lv_aload_n B.1 B.2.1 dX12_paper_5 rfl (lv_at hl 0 rfl) ?_
    refine m_get (k := 60) (v := f 60) B hM (by decide) rfl fl478 dX12_paper_6 rfl ?_
    refine q_cge (tgt := 22) B dX12_paper_9 (by decide) (by unfold inr; omega) (by unfold inr; omega) (fun c7 => ?_) (fun c7 => ?_)
    · refine q_con B dX12_paper_22 ?_
      subst hPST
      exact m_iret B hM dX12_paper_23 (by unfold inr; omega) ⟨(f 90), ((A 83)), ((A 89)), ((A 87)), rfl, (by first | omega | (simp only [wr_at]; omega) | assumption)⟩
    · refine lv_aload_n B.1 B.2.1 dX12_paper_12 rfl (lv_at hl 0 rfl) ?_
      refine m_get (k := 90) (v := f 90) B hM (by decide) rfl fl524 dX12_paper_13 rfl ?_
      refine q_sip B dX12_paper_16 (by decide) ?_
      refine q_cne (tgt := 24) B dX12_paper_19 (by decide) (by unfold inr; omega) (by unfold inr; omega) (fun c8 => ?_) (fun c8 => ?_)
      · refine lv_aload_n B.1 B.2.1 dX12_paper_24 rfl (lv_at hl 0 rfl) ?_
        refine m_geta (k := 83) B hM (by decide) rfl fl315 dX12_paper_25 ?_
        refine lv_aload_n B.1 B.2.1 dX12_paper_28 rfl (lv_at hl 0 rfl) ?_
        refine m_get (k := 90) (v := f 90) B hM (by decide) rfl fl524 dX12_paper_29 rfl ?_
        refine lv_iload_n B.1 B.2.1 dX12_paper_32 rfl (lv_at hl 1 rfl) ?_
        refine m_ist (k := 83) (i := 61) (n := 200) B hM rfl rfl rfl (by decide) dX12_paper_33 (by omega) (by omega) (show (0 : Int) ≤ a_kind from by first | omega | (simp only [wr_at]; omega)) (show a_kind ≤ (15 : Int) from by first | omega | (simp only [wr_at]; omega)) (u1_up A [(83, (A 83)), (89, (A 89)), (87, (A 87))] 83 (wr (A 83) (f 90) a_kind)) (fun H locs hM => ?_)
        replace hM : MWd D dA h0 ad (mF dA h0 ad (f, g, A, L) s.heap.size) s.heap ((up f [(90, f 90)]), g, (up A [(83, (wr (A 83) (f 90) a_kind)), (89, (A 89)), (87, (A 87))]), L) H locs := hM
        refine q_bip B dX12_paper_34 (by decide) ?_
        refine lv_aload_n B.1 B.2.1 dX12_paper_36 rfl (lv_at hl 0 rfl) ?_
        refine m_get (k := 90) (v := f 90) B hM (by decide) rfl fl524 dX12_paper_37 rfl ?_
        refine q_mul B dX12_paper_40 ?_
        refine lv_istore_n (lv' := [(2, .int (II (12 * (f 90)))), (0, .ref h0), (1, .int (II a_kind))]) B.1 B.2.1 dX12_paper_41 rfl hl (by decide) rfl (fun ls hl => ?_)
        have hv9 : ((-2147483648 : Int) ≤ 12 * (f 90) ∧ (12 * (f 90) : Int) ≤ 2147483647) ∧ (12 * (f 90) ≤ (12 * (f 90))) ∧ ((12 * (f 90)) ≤ 12 * (f 90) + 12) ∧ ((f 90) < 200) ∧ (0 < (f 60)) ∧ (0 ≤ 12 * (f 90) + 12 - (12 * (f 90))) := by first | omega | (simp only [wr_at]; omega) | exact ⟨by first | omega | (simp only [wr_at]; omega) | assumption, by first | omega | (simp only [wr_at]; omega) | assumption, by first | omega | (simp only [wr_at]; omega) | assumption, by first | omega | (simp only [wr_at]; omega) | assumption, by first | omega | (simp only [wr_at]; omega) | assumption, by first | omega | (simp only [wr_at]; omega) | assumption⟩
        exact LL42 (Int.toNat (12 * (f 90) + 12 - (12 * (f 90)) + 1)) (12 * (f 90)) ((wr (A 83) (f 90) a_kind)) ((A 89)) ((A 87)) _ _ ls hM (lv_sub hl [1, 2, 0] rfl) hv9.1 hv9.2.1 hv9.2.2.1 hv9.2.2.2.1 hv9.2.2.2.2.1 hv9.2.2.2.2.2 (by first | omega | (simp only [wr_at]; omega) | assumption)
      · refine q_con B dX12_paper_22 ?_
        subst hPST
        exact m_iret B hM dX12_paper_23 (by unfold inr; omega) ⟨(f 90), ((A 83)), ((A 89)), ((A 87)), rfl, (by first | omega | (simp only [wr_at]; omega) | assumption)⟩
set_option maxHeartbeats 4000000 in
set_option maxRecDepth 20000 in
theorem k_setInt (l : Launch) (D : va_G) (dA : Nat → ClassId) (h0 : Nat) (ad : Nat → Nat) (f : Nat → Int) (g : Nat → Int64) (A : Nat → Nat → Int) (L : Nat → Nat → Int64) (a_paper : Int) (a_member : Int) (a_v : Int) (a_there : Int) (i_paper : (-2147483648 : Int) ≤ a_paper ∧ a_paper ≤ 2147483647) (i_member : (-2147483648 : Int) ≤ a_member ∧ a_member ≤ 2147483647) (i_v : (-2147483648 : Int) ≤ a_v ∧ a_v ≤ 2147483647) (i_there : (0 : Int) ≤ a_there ∧ a_there ≤ 1) : MCi l yX12_setInt cX12_setInt 5 (some .boolean) ({ frames := 2, cells := 0, slots := 0, locals := 45 }) D dA h0 ad (f, g, A, L) [.int (II a_paper), .int (II a_member), .int (II a_v), .int (II a_there)] (fun (r : Int) (σ : MS) => ∃ b89 : Nat → Int, ∃ b84 : Nat → Int, σ = (f, g, (up A [(89, b89), (84, b84)]), L) ∧ (True)) := by
  generalize hPST : (fun (r : Int) (σ : MS) => ∃ b89 : Nat → Int, ∃ b84 : Nat → Int, σ = (f, g, (up A [(89, b89), (84, b84)]), L) ∧ (True)) = PST
  refine m_enter (by decide) rfl (Nat.le_of_ble_eq_true rfl) (fun p e s m args below meth c ls B hM hl => ?_)
  have hA : ∀ q, s.heap.size ≤ q → mF dA h0 ad (f, g, A, L) s.heap.size q := fun q h => Or.inr h
  have hM : MWd D dA h0 ad (mF dA h0 ad (f, g, A, L) s.heap.size) s.heap (f, g, (up A [(89, (A 89)), (84, (A 84))]), L) s.heap [] := MW_pad hM rfl rfl (up_self A [89, 84]) rfl
  have hl : lv_has ls 5 [(0, .ref h0), (1, .int (II a_paper)), (2, .int (II a_member)), (3, .int (II a_v)), (4, .int (II a_there))] := hl
  have r1 : (0 : Int) ≤ f 3 ∧ f 3 ≤ 1 := hM.2.2.2.1 3
  have r2 : (0 : Int) ≤ f 90 ∧ f 90 ≤ 200 := hM.2.2.2.1 90
  refine lv_aload_n B.1 B.2.1 dX12_setInt_0 rfl (lv_at hl 0 rfl) ?_
  refine lv_iload_n B.1 B.2.1 dX12_setInt_1 rfl (lv_at hl 1 rfl) ?_
  refine lv_iload_n B.1 B.2.1 dX12_setInt_2 rfl (lv_at hl 2 rfl) ?_
  refine q_con B dX12_setInt_3 ?_
  have hv3 : ((-2147483648 : Int) ≤ a_paper ∧ (a_paper : Int) ≤ 2147483647) ∧ ((-2147483648 : Int) ≤ a_member ∧ (a_member : Int) ≤ 2147483647) ∧ ((-2147483648 : Int) ≤ 0 ∧ (0 : Int) ≤ 2147483647) := by first | omega | (simp only [wr_at]; omega) | exact ⟨by first | omega | (simp only [wr_at]; omega) | assumption, by first | omega | (simp only [wr_at]; omega) | assumption, by first | omega | (simp only [wr_at]; omega) | assumption⟩
  refine m_calli (n := 3) (rest := []) B hM hA hl.1 (k_has l D dA h0 ad f g (up A [(89, (A 89)), (84, (A 84))]) L a_paper a_member 0 hv3.1 hv3.2.1 hv3.2.2 ) rfl ok_has nm_has ⟨rfl, rfl⟩ ⟨Nat.le_of_ble_eq_true rfl, Nat.le_of_ble_eq_true rfl⟩ dX12_setInt_4 rfl rfl (Nat.le_of_ble_eq_true rfl) ⟨Nat.zero_le _, Nat.zero_le _⟩ (fun r4 σr4 H locs ir4 hp5 hM => ?_)
  obtain ⟨rfl, hp5⟩ := hp5
  unfold inr at ir4
  replace hp5 : 0 ≤ r4 ∧ r4 ≤ 1 ∧ (r4 = 1 → 0 ≤ (a_paper) ∧ (a_paper) < (f 90) ∧ 0 ≤ (a_member) ∧ (a_member) ≤ 11 ∧ (a_member) < (A 37) (16 * (f 3) + (A 83) ((a_paper)).toNat).toNat ∧ (A 42) ((A 38) (12 * (16 * (f 3) + (A 83) ((a_paper)).toNat) + (a_member)).toNat).toNat = (0 : Int)) := hp5
  obtain ⟨hp5_0, hp5_1, hp5_2⟩ := hp5
  refine q_ine (tgt := 12) B dX12_setInt_7 (by decide) (by unfold inr; omega) (fun c6 => ?_) (fun c6 => ?_)
  · refine lv_aload_n B.1 B.2.1 dX12_setInt_12 rfl (lv_at hl 0 rfl) ?_
    refine m_geta (k := 89) B hM (by decide) rfl fl334 dX12_setInt_13 ?_
    refine q_bip B dX12_setInt_16 (by decide) ?_
    refine lv_iload_n B.1 B.2.1 dX12_setInt_18 rfl (lv_at hl 1 rfl) ?_
    refine q_mul B dX12_setInt_19 ?_
    refine lv_iload_n B.1 B.2.1 dX12_setInt_20 rfl (lv_at hl 2 rfl) ?_
    refine q_add B dX12_setInt_21 ?_
    refine lv_iload B.1 B.2.1 dX12_setInt_22 (lv_at hl 4 rfl) ?_
    refine m_zst (k := 89) (i := 67) (n := 2400) B hM rfl rfl rfl (by decide) dX12_setInt_24 (by omega) (by omega) (by omega) (show (0 : Int) ≤ a_there from by first | omega | (simp only [wr_at]; omega)) (show a_there ≤ (1 : Int) from by first | omega | (simp only [wr_at]; omega)) (u1_up A [(89, (A 89)), (84, (A 84))] 89 (wr (A 89) ((12 * a_paper) + a_member) a_there)) (fun H locs hM => ?_)
    replace hM : MWd D dA h0 ad (mF dA h0 ad (f, g, A, L) s.heap.size) s.heap (f, g, (up A [(89, (wr (A 89) ((12 * a_paper) + a_member) a_there)), (84, (A 84))]), L) H locs := hM
    refine lv_aload_n B.1 B.2.1 dX12_setInt_25 rfl (lv_at hl 0 rfl) ?_
    refine m_geta (k := 84) B hM (by decide) rfl fl318 dX12_setInt_26 ?_
    refine q_bip B dX12_setInt_29 (by decide) ?_
    refine lv_iload_n B.1 B.2.1 dX12_setInt_31 rfl (lv_at hl 1 rfl) ?_
    refine q_mul B dX12_setInt_32 ?_
    refine lv_iload_n B.1 B.2.1 dX12_setInt_33 rfl (lv_at hl 2 rfl) ?_
    refine q_add B dX12_setInt_34 ?_
    refine lv_iload_n B.1 B.2.1 dX12_setInt_35 rfl (lv_at hl 3 rfl) ?_
    refine m_ist (k := 84) (i := 62) (n := 2400) B hM rfl rfl rfl (by decide) dX12_setInt_36 (by omega) (by omega) (show (-2147483648 : Int) ≤ a_v from by first | omega | (simp only [wr_at]; omega)) (show a_v ≤ (2147483647 : Int) from by first | omega | (simp only [wr_at]; omega)) (u1_up A [(89, (wr (A 89) ((12 * a_paper) + a_member) a_there)), (84, (A 84))] 84 (wr (A 84) ((12 * a_paper) + a_member) a_v)) (fun H locs hM => ?_)
    replace hM : MWd D dA h0 ad (mF dA h0 ad (f, g, A, L) s.heap.size) s.heap (f, g, (up A [(89, (wr (A 89) ((12 * a_paper) + a_member) a_there)), (84, (wr (A 84) ((12 * a_paper) + a_member) a_v))]), L) H locs := hM
    refine q_con B dX12_setInt_37 ?_
    subst hPST
    exact m_zret B hM dX12_setInt_38 (by omega) ⟨((wr (A 89) ((12 * a_paper) + a_member) a_there)), ((wr (A 84) ((12 * a_paper) + a_member) a_v)), rfl, by trivial⟩
  · refine q_con B dX12_setInt_10 ?_
    subst hPST
    exact m_zret B hM dX12_setInt_11 (by omega) ⟨((A 89)), ((A 84)), rfl, by trivial⟩
set_option maxHeartbeats 4000000 in
set_option maxRecDepth 20000 in
theorem k_setText (l : Launch) (D : va_G) (dA : Nat → ClassId) (h0 : Nat) (ad : Nat → Nat) (f : Nat → Int) (g : Nat → Int64) (A : Nat → Nat → Int) (L : Nat → Nat → Int64) (a_paper : Int) (a_member : Int) (a_letters : Int64) (a_there : Int) (i_paper : (-2147483648 : Int) ≤ a_paper ∧ a_paper ≤ 2147483647) (i_member : (-2147483648 : Int) ≤ a_member ∧ a_member ≤ 2147483647) (i_there : (0 : Int) ≤ a_there ∧ a_there ≤ 1) : MCi l yX12_setText cX12_setText 10 (some .boolean) ({ frames := 2, cells := 0, slots := 0, locals := 45 }) D dA h0 ad (f, g, A, L) [.int (II a_paper), .int (II a_member), .long a_letters, .int (II a_there)] (fun (r : Int) (σ : MS) => ∃ b89 : Nat → Int, ∃ b85 : Nat → Int, σ = (f, g, (up A [(89, b89), (85, b85)]), L) ∧ (True)) := by
  generalize hPST : (fun (r : Int) (σ : MS) => ∃ b89 : Nat → Int, ∃ b85 : Nat → Int, σ = (f, g, (up A [(89, b89), (85, b85)]), L) ∧ (True)) = PST
  refine m_enter (by decide) rfl (Nat.le_of_ble_eq_true rfl) (fun p e s m args below meth c ls B hM hl => ?_)
  have hA : ∀ q, s.heap.size ≤ q → mF dA h0 ad (f, g, A, L) s.heap.size q := fun q h => Or.inr h
  have hM : MWd D dA h0 ad (mF dA h0 ad (f, g, A, L) s.heap.size) s.heap (f, g, (up A [(89, (A 89)), (85, (A 85))]), L) s.heap [] := MW_pad hM rfl rfl (up_self A [89, 85]) rfl
  have hl : lv_has ls 10 [(0, .ref h0), (1, .int (II a_paper)), (2, .int (II a_member)), (3, .long a_letters), (5, .int (II a_there))] := hl
  have r1 : (0 : Int) ≤ f 3 ∧ f 3 ≤ 1 := hM.2.2.2.1 3
  have r2 : (0 : Int) ≤ f 90 ∧ f 90 ≤ 200 := hM.2.2.2.1 90
  have LL22 : ∀ N : Nat, ∀ (v22_6 : Int) (v22_7 : Int) (v22_8 : Int) (y22_89 : Nat → Int) (y22_85 : Nat → Int) (H : Heap) (locs : List Loc) (ls : Array Slot), (MWd D dA h0 ad (mF dA h0 ad (f, g, A, L) s.heap.size) s.heap (f, g, (up A [(89, y22_89), (85, y22_85)]), L) H locs) → lv_has ls 10 [(0, .ref h0), (1, .int (II a_paper)), (2, .int (II a_member)), (3, .long a_letters), (5, .int (II a_there)), (6, .int (II v22_6)), (7, .int (II v22_7)), (8, .int (II v22_8))] → ((-2147483648 : Int) ≤ v22_6 ∧ v22_6 ≤ 2147483647) → ((-2147483648 : Int) ≤ v22_7 ∧ v22_7 ≤ 2147483647) → ((-2147483648 : Int) ≤ v22_8 ∧ v22_8 ≤ 2147483647) → (0 ≤ (a_paper)) → ((a_paper) < 200) → (0 ≤ (a_member)) → ((a_member) ≤ 11) → (0 ≤ (v22_6)) → ((v22_6) ≤ 56 - (v22_8)) → (0 ≤ (v22_7)) → ((v22_7) ≤ 1) → (-8 ≤ (v22_8)) → ((v22_8) ≤ 56) → (0 ≤ (v22_8) + 8) → ((v22_8) + 8 < (N : Int)) → W p l e ({ frames := 2, cells := 0, slots := 0, locals := 45 }) s m args below meth c H locs 0 0 (MQ below (mQi D dA h0 ad (f, g, A, L) s.heap.size PST) args s 0 0 (mF dA h0 ad (f, g, A, L) s.heap.size)) (F0 m 22 ls []) := by
    intro N
    induction N with
    | zero => intro v22_6 v22_7 v22_8 y22_89 y22_85 H locs ls hM hl hLL22_0 hLL22_1 hLL22_2 hLL22_3 hLL22_4 hLL22_5 hLL22_6 hLL22_7 hLL22_8 hLL22_9 hLL22_10 hLL22_11 hLL22_12 hLL22_13 hN; exfalso; omega
    | succ N IH22 =>
      intro v22_6 v22_7 v22_8 y22_89 y22_85 H locs ls hM hl hLL22_0 hLL22_1 hLL22_2 hLL22_3 hLL22_4 hLL22_5 hLL22_6 hLL22_7 hLL22_8 hLL22_9 hLL22_10 hLL22_11 hLL22_12 hLL22_13 hN
      refine lv_iload B.1 B.2.1 dX12_setText_22 (lv_at hl 7 rfl) ?_
      refine q_ilt (tgt := 90) B dX12_setText_24 (by decide) (by unfold inr; omega) (fun c3 => ?_) (fun c3 => ?_)
      · refine lv_iload B.1 B.2.1 dX12_setText_90 (lv_at hl 6 rfl) ?_
        refine q_ine (tgt := 97) B dX12_setText_92 (by decide) (by unfold inr; omega) (fun c4 => ?_) (fun c4 => ?_)
        · refine lv_aload_n B.1 B.2.1 dX12_setText_97 rfl (lv_at hl 0 rfl) ?_
          refine m_geta (k := 89) B hM (by decide) rfl fl334 dX12_setText_98 ?_
          refine q_bip B dX12_setText_101 (by decide) ?_
          refine lv_iload_n B.1 B.2.1 dX12_setText_103 rfl (lv_at hl 1 rfl) ?_
          refine q_mul B dX12_setText_104 ?_
          refine lv_iload_n B.1 B.2.1 dX12_setText_105 rfl (lv_at hl 2 rfl) ?_
          refine q_add B dX12_setText_106 ?_
          refine lv_iload B.1 B.2.1 dX12_setText_107 (lv_at hl 4 rfl) ?_
          refine m_zst (k := 89) (i := 67) (n := 2400) B hM rfl rfl rfl (by decide) dX12_setText_109 (by omega) (by omega) (by omega) (show (0 : Int) ≤ a_there from by first | omega | (simp only [wr_at]; omega)) (show a_there ≤ (1 : Int) from by first | omega | (simp only [wr_at]; omega)) (u1_up A [(89, y22_89), (85, y22_85)] 89 (wr y22_89 ((12 * a_paper) + a_member) a_there)) (fun H locs hM => ?_)
          replace hM : MWd D dA h0 ad (mF dA h0 ad (f, g, A, L) s.heap.size) s.heap (f, g, (up A [(89, (wr y22_89 ((12 * a_paper) + a_member) a_there)), (85, y22_85)]), L) H locs := hM
          refine lv_aload_n B.1 B.2.1 dX12_setText_110 rfl (lv_at hl 0 rfl) ?_
          refine m_geta (k := 85) B hM (by decide) rfl fl321 dX12_setText_111 ?_
          refine q_bip B dX12_setText_114 (by decide) ?_
          refine lv_iload_n B.1 B.2.1 dX12_setText_116 rfl (lv_at hl 1 rfl) ?_
          refine q_mul B dX12_setText_117 ?_
          refine lv_iload_n B.1 B.2.1 dX12_setText_118 rfl (lv_at hl 2 rfl) ?_
          refine q_add B dX12_setText_119 ?_
          refine lv_iload B.1 B.2.1 dX12_setText_120 (lv_at hl 5 rfl) ?_
          refine m_ist (k := 85) (i := 63) (n := 2400) B hM rfl rfl rfl (by decide) dX12_setText_122 (by omega) (by omega) (show (-2147483648 : Int) ≤ v22_6 from by first | omega | (simp only [wr_at]; omega)) (show v22_6 ≤ (2147483647 : Int) from by first | omega | (simp only [wr_at]; omega)) (u1_up A [(89, (wr y22_89 ((12 * a_paper) + a_member) a_there)), (85, y22_85)] 85 (wr y22_85 ((12 * a_paper) + a_member) v22_6)) (fun H locs hM => ?_)
          replace hM : MWd D dA h0 ad (mF dA h0 ad (f, g, A, L) s.heap.size) s.heap (f, g, (up A [(89, (wr y22_89 ((12 * a_paper) + a_member) a_there)), (85, (wr y22_85 ((12 * a_paper) + a_member) v22_6))]), L) H locs := hM
          refine q_con B dX12_setText_123 ?_
          subst hPST
          exact m_zret B hM dX12_setText_124 (by omega) ⟨((wr y22_89 ((12 * a_paper) + a_member) a_there)), ((wr y22_85 ((12 * a_paper) + a_member) v22_6)), rfl, by trivial⟩
        · refine q_con B dX12_setText_95 ?_
          subst hPST
          exact m_zret B hM dX12_setText_96 (by omega) ⟨y22_89, y22_85, rfl, by trivial⟩
      · refine lv_lload_n B.1 B.2.1 dX12_setText_27 rfl (lv_at hl 3 rfl) ?_
        refine lv_iload B.1 B.2.1 dX12_setText_28 (lv_at hl 7 rfl) ?_
        refine lv_lshr B.1 B.2.1 dX12_setText_30 rfl ?_
        refine lv_topl (fun w5 ew5 => ?_)
        refine q_l2i B dX12_setText_31 (fun x6 ix6 => ?_)
        unfold inr at ix6
        refine q_sip B dX12_setText_32 (by decide) ?_
        refine q_and255 B dX12_setText_35 ?_
        refine lv_istore (lv' := [(9, .int (II (x6 % 256))), (0, .ref h0), (1, .int (II a_paper)), (2, .int (II a_member)), (3, .long a_letters), (5, .int (II a_there)), (6, .int (II v22_6)), (7, .int (II v22_7)), (8, .int (II v22_8))]) B.1 B.2.1 dX12_setText_36 hl (by decide) rfl (fun ls hl => ?_)
        refine lv_iload B.1 B.2.1 dX12_setText_38 (lv_at hl 7 rfl) ?_
        refine q_ieq (tgt := 66) B dX12_setText_40 (by decide) (by unfold inr; omega) (fun c8 => ?_) (fun c8 => ?_)
        · refine q_con B dX12_setText_66 ?_
          refine lv_istore (lv' := [(7, .int (II 0)), (9, .int (II (x6 % 256))), (0, .ref h0), (1, .int (II a_paper)), (2, .int (II a_member)), (3, .long a_letters), (5, .int (II a_there)), (6, .int (II v22_6)), (8, .int (II v22_8))]) B.1 B.2.1 dX12_setText_67 hl (by decide) rfl (fun ls hl => ?_)
          refine lv_iload B.1 B.2.1 dX12_setText_69 (lv_at hl 7 rfl) ?_
          refine lv_iload B.1 B.2.1 dX12_setText_71 (lv_at hl 1 rfl) ?_
          refine q_ile (tgt := 80) B dX12_setText_73 (by decide) (by unfold inr; omega) (fun c9 => ?_) (fun c9 => ?_)
          · refine q_con B dX12_setText_80 ?_
            refine q_add B dX12_setText_81 ?_
            refine lv_istore (lv' := [(6, .int (II (v22_6 + 0))), (7, .int (II 0)), (9, .int (II (x6 % 256))), (0, .ref h0), (1, .int (II a_paper)), (2, .int (II a_member)), (3, .long a_letters), (5, .int (II a_there)), (8, .int (II v22_8))]) B.1 B.2.1 dX12_setText_82 hl (by decide) rfl (fun ls hl => ?_)
            refine q_inc (k := 8) (x := v22_8) (lv' := [(8, .int (II (v22_8 + (-8)))), (6, .int (II (v22_6 + 0))), (7, .int (II 0)), (9, .int (II (x6 % 256))), (0, .ref h0), (1, .int (II a_paper)), (2, .int (II a_member)), (3, .long a_letters), (5, .int (II a_there))]) B dX12_setText_84 hl rfl (by decide) rfl (fun ls hl => ?_)
            refine lv_goto (tgt := 22) B.1 B.2.1 dX12_setText_87 (by decide) ?_
            have hv10 : ((-2147483648 : Int) ≤ v22_6 + 0 ∧ (v22_6 + 0 : Int) ≤ 2147483647) ∧ ((-2147483648 : Int) ≤ 0 ∧ (0 : Int) ≤ 2147483647) ∧ ((-2147483648 : Int) ≤ v22_8 + (-8) ∧ (v22_8 + (-8) : Int) ≤ 2147483647) ∧ (0 ≤ (a_paper)) ∧ ((a_paper) < 200) ∧ (0 ≤ (a_member)) ∧ ((a_member) ≤ 11) ∧ (0 ≤ (v22_6 + 0)) ∧ ((v22_6 + 0) ≤ 56 - (v22_8 + (-8))) ∧ (0 ≤ (0 : Int)) ∧ ((0 : Int) ≤ 1) ∧ (-8 ≤ (v22_8 + (-8))) ∧ ((v22_8 + (-8)) ≤ 56) ∧ (0 ≤ (v22_8 + (-8)) + 8) := by first | omega | (simp only [wr_at]; omega) | exact ⟨by first | omega | (simp only [wr_at]; omega) | assumption, by first | omega | (simp only [wr_at]; omega) | assumption, by first | omega | (simp only [wr_at]; omega) | assumption, by first | omega | (simp only [wr_at]; omega) | assumption, by first | omega | (simp only [wr_at]; omega) | assumption, by first | omega | (simp only [wr_at]; omega) | assumption, by first | omega | (simp only [wr_at]; omega) | assumption, by first | omega | (simp only [wr_at]; omega) | assumption, by first | omega | (simp only [wr_at]; omega) | assumption, by first | omega | (simp only [wr_at]; omega) | assumption, by first | omega | (simp only [wr_at]; omega) | assumption, by first | omega | (simp only [wr_at]; omega) | assumption, by first | omega | (simp only [wr_at]; omega) | assumption, by first | omega | (simp only [wr_at]; omega) | assumption⟩
            exact IH22 (v22_6 + 0) 0 (v22_8 + (-8)) y22_89 y22_85 _ _ ls hM (lv_sub hl [4, 5, 6, 7, 8, 1, 2, 0] rfl) hv10.1 hv10.2.1 hv10.2.2.1 hv10.2.2.2.1 hv10.2.2.2.2.1 hv10.2.2.2.2.2.1 hv10.2.2.2.2.2.2.1 hv10.2.2.2.2.2.2.2.1 hv10.2.2.2.2.2.2.2.2.1 hv10.2.2.2.2.2.2.2.2.2.1 hv10.2.2.2.2.2.2.2.2.2.2.1 hv10.2.2.2.2.2.2.2.2.2.2.2.1 hv10.2.2.2.2.2.2.2.2.2.2.2.2.1 hv10.2.2.2.2.2.2.2.2.2.2.2.2.2 (by first | omega | (simp only [wr_at]; omega) | assumption)
          · refine q_con B dX12_setText_76 ?_
            refine lv_goto (tgt := 81) B.1 B.2.1 dX12_setText_77 (by decide) ?_
            refine q_add B dX12_setText_81 ?_
            refine lv_istore (lv' := [(6, .int (II (v22_6 + 1))), (7, .int (II 0)), (9, .int (II (x6 % 256))), (0, .ref h0), (1, .int (II a_paper)), (2, .int (II a_member)), (3, .long a_letters), (5, .int (II a_there)), (8, .int (II v22_8))]) B.1 B.2.1 dX12_setText_82 hl (by decide) rfl (fun ls hl => ?_)
            refine q_inc (k := 8) (x := v22_8) (lv' := [(8, .int (II (v22_8 + (-8)))), (6, .int (II (v22_6 + 1))), (7, .int (II 0)), (9, .int (II (x6 % 256))), (0, .ref h0), (1, .int (II a_paper)), (2, .int (II a_member)), (3, .long a_letters), (5, .int (II a_there))]) B dX12_setText_84 hl rfl (by decide) rfl (fun ls hl => ?_)
            refine lv_goto (tgt := 22) B.1 B.2.1 dX12_setText_87 (by decide) ?_
            have hv11 : ((-2147483648 : Int) ≤ v22_6 + 1 ∧ (v22_6 + 1 : Int) ≤ 2147483647) ∧ ((-2147483648 : Int) ≤ 0 ∧ (0 : Int) ≤ 2147483647) ∧ ((-2147483648 : Int) ≤ v22_8 + (-8) ∧ (v22_8 + (-8) : Int) ≤ 2147483647) ∧ (0 ≤ (a_paper)) ∧ ((a_paper) < 200) ∧ (0 ≤ (a_member)) ∧ ((a_member) ≤ 11) ∧ (0 ≤ (v22_6 + 1)) ∧ ((v22_6 + 1) ≤ 56 - (v22_8 + (-8))) ∧ (0 ≤ (0 : Int)) ∧ ((0 : Int) ≤ 1) ∧ (-8 ≤ (v22_8 + (-8))) ∧ ((v22_8 + (-8)) ≤ 56) ∧ (0 ≤ (v22_8 + (-8)) + 8) := by first | omega | (simp only [wr_at]; omega) | exact ⟨by first | omega | (simp only [wr_at]; omega) | assumption, by first | omega | (simp only [wr_at]; omega) | assumption, by first | omega | (simp only [wr_at]; omega) | assumption, by first | omega | (simp only [wr_at]; omega) | assumption, by first | omega | (simp only [wr_at]; omega) | assumption, by first | omega | (simp only [wr_at]; omega) | assumption, by first | omega | (simp only [wr_at]; omega) | assumption, by first | omega | (simp only [wr_at]; omega) | assumption, by first | omega | (simp only [wr_at]; omega) | assumption, by first | omega | (simp only [wr_at]; omega) | assumption, by first | omega | (simp only [wr_at]; omega) | assumption, by first | omega | (simp only [wr_at]; omega) | assumption, by first | omega | (simp only [wr_at]; omega) | assumption, by first | omega | (simp only [wr_at]; omega) | assumption⟩
            exact IH22 (v22_6 + 1) 0 (v22_8 + (-8)) y22_89 y22_85 _ _ ls hM (lv_sub hl [4, 5, 6, 7, 8, 1, 2, 0] rfl) hv11.1 hv11.2.1 hv11.2.2.1 hv11.2.2.2.1 hv11.2.2.2.2.1 hv11.2.2.2.2.2.1 hv11.2.2.2.2.2.2.1 hv11.2.2.2.2.2.2.2.1 hv11.2.2.2.2.2.2.2.2.1 hv11.2.2.2.2.2.2.2.2.2.1 hv11.2.2.2.2.2.2.2.2.2.2.1 hv11.2.2.2.2.2.2.2.2.2.2.2.1 hv11.2.2.2.2.2.2.2.2.2.2.2.2.1 hv11.2.2.2.2.2.2.2.2.2.2.2.2.2 (by first | omega | (simp only [wr_at]; omega) | assumption)
        · refine lv_iload B.1 B.2.1 dX12_setText_43 (lv_at hl 0 rfl) ?_
          refine q_ieq (tgt := 62) B dX12_setText_45 (by decide) (by unfold inr; omega) (fun c12 => ?_) (fun c12 => ?_)
          · refine q_con B dX12_setText_62 ?_
            refine lv_goto (tgt := 67) B.1 B.2.1 dX12_setText_63 (by decide) ?_
            refine lv_istore (lv' := [(7, .int (II 1)), (9, .int (II (x6 % 256))), (0, .ref h0), (1, .int (II a_paper)), (2, .int (II a_member)), (3, .long a_letters), (5, .int (II a_there)), (6, .int (II v22_6)), (8, .int (II v22_8))]) B.1 B.2.1 dX12_setText_67 hl (by decide) rfl (fun ls hl => ?_)
            refine lv_iload B.1 B.2.1 dX12_setText_69 (lv_at hl 7 rfl) ?_
            refine lv_iload B.1 B.2.1 dX12_setText_71 (lv_at hl 1 rfl) ?_
            refine q_ile (tgt := 80) B dX12_setText_73 (by decide) (by unfold inr; omega) (fun c13 => ?_) (fun c13 => ?_)
            · refine q_con B dX12_setText_80 ?_
              refine q_add B dX12_setText_81 ?_
              refine lv_istore (lv' := [(6, .int (II (v22_6 + 0))), (7, .int (II 1)), (9, .int (II (x6 % 256))), (0, .ref h0), (1, .int (II a_paper)), (2, .int (II a_member)), (3, .long a_letters), (5, .int (II a_there)), (8, .int (II v22_8))]) B.1 B.2.1 dX12_setText_82 hl (by decide) rfl (fun ls hl => ?_)
              refine q_inc (k := 8) (x := v22_8) (lv' := [(8, .int (II (v22_8 + (-8)))), (6, .int (II (v22_6 + 0))), (7, .int (II 1)), (9, .int (II (x6 % 256))), (0, .ref h0), (1, .int (II a_paper)), (2, .int (II a_member)), (3, .long a_letters), (5, .int (II a_there))]) B dX12_setText_84 hl rfl (by decide) rfl (fun ls hl => ?_)
              refine lv_goto (tgt := 22) B.1 B.2.1 dX12_setText_87 (by decide) ?_
              have hv14 : ((-2147483648 : Int) ≤ v22_6 + 0 ∧ (v22_6 + 0 : Int) ≤ 2147483647) ∧ ((-2147483648 : Int) ≤ 1 ∧ (1 : Int) ≤ 2147483647) ∧ ((-2147483648 : Int) ≤ v22_8 + (-8) ∧ (v22_8 + (-8) : Int) ≤ 2147483647) ∧ (0 ≤ (a_paper)) ∧ ((a_paper) < 200) ∧ (0 ≤ (a_member)) ∧ ((a_member) ≤ 11) ∧ (0 ≤ (v22_6 + 0)) ∧ ((v22_6 + 0) ≤ 56 - (v22_8 + (-8))) ∧ (0 ≤ (1 : Int)) ∧ ((1 : Int) ≤ 1) ∧ (-8 ≤ (v22_8 + (-8))) ∧ ((v22_8 + (-8)) ≤ 56) ∧ (0 ≤ (v22_8 + (-8)) + 8) := by first | omega | (simp only [wr_at]; omega) | exact ⟨by first | omega | (simp only [wr_at]; omega) | assumption, by first | omega | (simp only [wr_at]; omega) | assumption, by first | omega | (simp only [wr_at]; omega) | assumption, by first | omega | (simp only [wr_at]; omega) | assumption, by first | omega | (simp only [wr_at]; omega) | assumption, by first | omega | (simp only [wr_at]; omega) | assumption, by first | omega | (simp only [wr_at]; omega) | assumption, by first | omega | (simp only [wr_at]; omega) | assumption, by first | omega | (simp only [wr_at]; omega) | assumption, by first | omega | (simp only [wr_at]; omega) | assumption, by first | omega | (simp only [wr_at]; omega) | assumption, by first | omega | (simp only [wr_at]; omega) | assumption, by first | omega | (simp only [wr_at]; omega) | assumption, by first | omega | (simp only [wr_at]; omega) | assumption⟩
              exact IH22 (v22_6 + 0) 1 (v22_8 + (-8)) y22_89 y22_85 _ _ ls hM (lv_sub hl [4, 5, 6, 7, 8, 1, 2, 0] rfl) hv14.1 hv14.2.1 hv14.2.2.1 hv14.2.2.2.1 hv14.2.2.2.2.1 hv14.2.2.2.2.2.1 hv14.2.2.2.2.2.2.1 hv14.2.2.2.2.2.2.2.1 hv14.2.2.2.2.2.2.2.2.1 hv14.2.2.2.2.2.2.2.2.2.1 hv14.2.2.2.2.2.2.2.2.2.2.1 hv14.2.2.2.2.2.2.2.2.2.2.2.1 hv14.2.2.2.2.2.2.2.2.2.2.2.2.1 hv14.2.2.2.2.2.2.2.2.2.2.2.2.2 (by first | omega | (simp only [wr_at]; omega) | assumption)
            · refine q_con B dX12_setText_76 ?_
              refine lv_goto (tgt := 81) B.1 B.2.1 dX12_setText_77 (by decide) ?_
              refine q_add B dX12_setText_81 ?_
              refine lv_istore (lv' := [(6, .int (II (v22_6 + 1))), (7, .int (II 1)), (9, .int (II (x6 % 256))), (0, .ref h0), (1, .int (II a_paper)), (2, .int (II a_member)), (3, .long a_letters), (5, .int (II a_there)), (8, .int (II v22_8))]) B.1 B.2.1 dX12_setText_82 hl (by decide) rfl (fun ls hl => ?_)
              refine q_inc (k := 8) (x := v22_8) (lv' := [(8, .int (II (v22_8 + (-8)))), (6, .int (II (v22_6 + 1))), (7, .int (II 1)), (9, .int (II (x6 % 256))), (0, .ref h0), (1, .int (II a_paper)), (2, .int (II a_member)), (3, .long a_letters), (5, .int (II a_there))]) B dX12_setText_84 hl rfl (by decide) rfl (fun ls hl => ?_)
              refine lv_goto (tgt := 22) B.1 B.2.1 dX12_setText_87 (by decide) ?_
              have hv15 : ((-2147483648 : Int) ≤ v22_6 + 1 ∧ (v22_6 + 1 : Int) ≤ 2147483647) ∧ ((-2147483648 : Int) ≤ 1 ∧ (1 : Int) ≤ 2147483647) ∧ ((-2147483648 : Int) ≤ v22_8 + (-8) ∧ (v22_8 + (-8) : Int) ≤ 2147483647) ∧ (0 ≤ (a_paper)) ∧ ((a_paper) < 200) ∧ (0 ≤ (a_member)) ∧ ((a_member) ≤ 11) ∧ (0 ≤ (v22_6 + 1)) ∧ ((v22_6 + 1) ≤ 56 - (v22_8 + (-8))) ∧ (0 ≤ (1 : Int)) ∧ ((1 : Int) ≤ 1) ∧ (-8 ≤ (v22_8 + (-8))) ∧ ((v22_8 + (-8)) ≤ 56) ∧ (0 ≤ (v22_8 + (-8)) + 8) := by first | omega | (simp only [wr_at]; omega) | exact ⟨by first | omega | (simp only [wr_at]; omega) | assumption, by first | omega | (simp only [wr_at]; omega) | assumption, by first | omega | (simp only [wr_at]; omega) | assumption, by first | omega | (simp only [wr_at]; omega) | assumption, by first | omega | (simp only [wr_at]; omega) | assumption, by first | omega | (simp only [wr_at]; omega) | assumption, by first | omega | (simp only [wr_at]; omega) | assumption, by first | omega | (simp only [wr_at]; omega) | assumption, by first | omega | (simp only [wr_at]; omega) | assumption, by first | omega | (simp only [wr_at]; omega) | assumption, by first | omega | (simp only [wr_at]; omega) | assumption, by first | omega | (simp only [wr_at]; omega) | assumption, by first | omega | (simp only [wr_at]; omega) | assumption, by first | omega | (simp only [wr_at]; omega) | assumption⟩
              exact IH22 (v22_6 + 1) 1 (v22_8 + (-8)) y22_89 y22_85 _ _ ls hM (lv_sub hl [4, 5, 6, 7, 8, 1, 2, 0] rfl) hv15.1 hv15.2.1 hv15.2.2.1 hv15.2.2.2.1 hv15.2.2.2.2.1 hv15.2.2.2.2.2.1 hv15.2.2.2.2.2.2.1 hv15.2.2.2.2.2.2.2.1 hv15.2.2.2.2.2.2.2.2.1 hv15.2.2.2.2.2.2.2.2.2.1 hv15.2.2.2.2.2.2.2.2.2.2.1 hv15.2.2.2.2.2.2.2.2.2.2.2.1 hv15.2.2.2.2.2.2.2.2.2.2.2.2.1 hv15.2.2.2.2.2.2.2.2.2.2.2.2.2 (by first | omega | (simp only [wr_at]; omega) | assumption)
          · refine lv_iload B.1 B.2.1 dX12_setText_48 (lv_at hl 0 rfl) ?_
            refine q_bip B dX12_setText_50 (by decide) ?_
            refine q_clt (tgt := 66) B dX12_setText_52 (by decide) (by unfold inr; omega) (by unfold inr; omega) (fun c16 => ?_) (fun c16 => ?_)
            · refine q_con B dX12_setText_66 ?_
              refine lv_istore (lv' := [(7, .int (II 0)), (9, .int (II (x6 % 256))), (0, .ref h0), (1, .int (II a_paper)), (2, .int (II a_member)), (3, .long a_letters), (5, .int (II a_there)), (6, .int (II v22_6)), (8, .int (II v22_8))]) B.1 B.2.1 dX12_setText_67 hl (by decide) rfl (fun ls hl => ?_)
              refine lv_iload B.1 B.2.1 dX12_setText_69 (lv_at hl 7 rfl) ?_
              refine lv_iload B.1 B.2.1 dX12_setText_71 (lv_at hl 1 rfl) ?_
              refine q_ile (tgt := 80) B dX12_setText_73 (by decide) (by unfold inr; omega) (fun c17 => ?_) (fun c17 => ?_)
              · refine q_con B dX12_setText_80 ?_
                refine q_add B dX12_setText_81 ?_
                refine lv_istore (lv' := [(6, .int (II (v22_6 + 0))), (7, .int (II 0)), (9, .int (II (x6 % 256))), (0, .ref h0), (1, .int (II a_paper)), (2, .int (II a_member)), (3, .long a_letters), (5, .int (II a_there)), (8, .int (II v22_8))]) B.1 B.2.1 dX12_setText_82 hl (by decide) rfl (fun ls hl => ?_)
                refine q_inc (k := 8) (x := v22_8) (lv' := [(8, .int (II (v22_8 + (-8)))), (6, .int (II (v22_6 + 0))), (7, .int (II 0)), (9, .int (II (x6 % 256))), (0, .ref h0), (1, .int (II a_paper)), (2, .int (II a_member)), (3, .long a_letters), (5, .int (II a_there))]) B dX12_setText_84 hl rfl (by decide) rfl (fun ls hl => ?_)
                refine lv_goto (tgt := 22) B.1 B.2.1 dX12_setText_87 (by decide) ?_
                have hv18 : ((-2147483648 : Int) ≤ v22_6 + 0 ∧ (v22_6 + 0 : Int) ≤ 2147483647) ∧ ((-2147483648 : Int) ≤ 0 ∧ (0 : Int) ≤ 2147483647) ∧ ((-2147483648 : Int) ≤ v22_8 + (-8) ∧ (v22_8 + (-8) : Int) ≤ 2147483647) ∧ (0 ≤ (a_paper)) ∧ ((a_paper) < 200) ∧ (0 ≤ (a_member)) ∧ ((a_member) ≤ 11) ∧ (0 ≤ (v22_6 + 0)) ∧ ((v22_6 + 0) ≤ 56 - (v22_8 + (-8))) ∧ (0 ≤ (0 : Int)) ∧ ((0 : Int) ≤ 1) ∧ (-8 ≤ (v22_8 + (-8))) ∧ ((v22_8 + (-8)) ≤ 56) ∧ (0 ≤ (v22_8 + (-8)) + 8) := by first | omega | (simp only [wr_at]; omega) | exact ⟨by first | omega | (simp only [wr_at]; omega) | assumption, by first | omega | (simp only [wr_at]; omega) | assumption, by first | omega | (simp only [wr_at]; omega) | assumption, by first | omega | (simp only [wr_at]; omega) | assumption, by first | omega | (simp only [wr_at]; omega) | assumption, by first | omega | (simp only [wr_at]; omega) | assumption, by first | omega | (simp only [wr_at]; omega) | assumption, by first | omega | (simp only [wr_at]; omega) | assumption, by first | omega | (simp only [wr_at]; omega) | assumption, by first | omega | (simp only [wr_at]; omega) | assumption, by first | omega | (simp only [wr_at]; omega) | assumption, by first | omega | (simp only [wr_at]; omega) | assumption, by first | omega | (simp only [wr_at]; omega) | assumption, by first | omega | (simp only [wr_at]; omega) | assumption⟩
                exact IH22 (v22_6 + 0) 0 (v22_8 + (-8)) y22_89 y22_85 _ _ ls hM (lv_sub hl [4, 5, 6, 7, 8, 1, 2, 0] rfl) hv18.1 hv18.2.1 hv18.2.2.1 hv18.2.2.2.1 hv18.2.2.2.2.1 hv18.2.2.2.2.2.1 hv18.2.2.2.2.2.2.1 hv18.2.2.2.2.2.2.2.1 hv18.2.2.2.2.2.2.2.2.1 hv18.2.2.2.2.2.2.2.2.2.1 hv18.2.2.2.2.2.2.2.2.2.2.1 hv18.2.2.2.2.2.2.2.2.2.2.2.1 hv18.2.2.2.2.2.2.2.2.2.2.2.2.1 hv18.2.2.2.2.2.2.2.2.2.2.2.2.2 (by first | omega | (simp only [wr_at]; omega) | assumption)
              · refine q_con B dX12_setText_76 ?_
                refine lv_goto (tgt := 81) B.1 B.2.1 dX12_setText_77 (by decide) ?_
                refine q_add B dX12_setText_81 ?_
                refine lv_istore (lv' := [(6, .int (II (v22_6 + 1))), (7, .int (II 0)), (9, .int (II (x6 % 256))), (0, .ref h0), (1, .int (II a_paper)), (2, .int (II a_member)), (3, .long a_letters), (5, .int (II a_there)), (8, .int (II v22_8))]) B.1 B.2.1 dX12_setText_82 hl (by decide) rfl (fun ls hl => ?_)
                refine q_inc (k := 8) (x := v22_8) (lv' := [(8, .int (II (v22_8 + (-8)))), (6, .int (II (v22_6 + 1))), (7, .int (II 0)), (9, .int (II (x6 % 256))), (0, .ref h0), (1, .int (II a_paper)), (2, .int (II a_member)), (3, .long a_letters), (5, .int (II a_there))]) B dX12_setText_84 hl rfl (by decide) rfl (fun ls hl => ?_)
                refine lv_goto (tgt := 22) B.1 B.2.1 dX12_setText_87 (by decide) ?_
                have hv19 : ((-2147483648 : Int) ≤ v22_6 + 1 ∧ (v22_6 + 1 : Int) ≤ 2147483647) ∧ ((-2147483648 : Int) ≤ 0 ∧ (0 : Int) ≤ 2147483647) ∧ ((-2147483648 : Int) ≤ v22_8 + (-8) ∧ (v22_8 + (-8) : Int) ≤ 2147483647) ∧ (0 ≤ (a_paper)) ∧ ((a_paper) < 200) ∧ (0 ≤ (a_member)) ∧ ((a_member) ≤ 11) ∧ (0 ≤ (v22_6 + 1)) ∧ ((v22_6 + 1) ≤ 56 - (v22_8 + (-8))) ∧ (0 ≤ (0 : Int)) ∧ ((0 : Int) ≤ 1) ∧ (-8 ≤ (v22_8 + (-8))) ∧ ((v22_8 + (-8)) ≤ 56) ∧ (0 ≤ (v22_8 + (-8)) + 8) := by first | omega | (simp only [wr_at]; omega) | exact ⟨by first | omega | (simp only [wr_at]; omega) | assumption, by first | omega | (simp only [wr_at]; omega) | assumption, by first | omega | (simp only [wr_at]; omega) | assumption, by first | omega | (simp only [wr_at]; omega) | assumption, by first | omega | (simp only [wr_at]; omega) | assumption, by first | omega | (simp only [wr_at]; omega) | assumption, by first | omega | (simp only [wr_at]; omega) | assumption, by first | omega | (simp only [wr_at]; omega) | assumption, by first | omega | (simp only [wr_at]; omega) | assumption, by first | omega | (simp only [wr_at]; omega) | assumption, by first | omega | (simp only [wr_at]; omega) | assumption, by first | omega | (simp only [wr_at]; omega) | assumption, by first | omega | (simp only [wr_at]; omega) | assumption, by first | omega | (simp only [wr_at]; omega) | assumption⟩
                exact IH22 (v22_6 + 1) 0 (v22_8 + (-8)) y22_89 y22_85 _ _ ls hM (lv_sub hl [4, 5, 6, 7, 8, 1, 2, 0] rfl) hv19.1 hv19.2.1 hv19.2.2.1 hv19.2.2.2.1 hv19.2.2.2.2.1 hv19.2.2.2.2.2.1 hv19.2.2.2.2.2.2.1 hv19.2.2.2.2.2.2.2.1 hv19.2.2.2.2.2.2.2.2.1 hv19.2.2.2.2.2.2.2.2.2.1 hv19.2.2.2.2.2.2.2.2.2.2.1 hv19.2.2.2.2.2.2.2.2.2.2.2.1 hv19.2.2.2.2.2.2.2.2.2.2.2.2.1 hv19.2.2.2.2.2.2.2.2.2.2.2.2.2 (by first | omega | (simp only [wr_at]; omega) | assumption)
            · refine lv_iload B.1 B.2.1 dX12_setText_55 (lv_at hl 0 rfl) ?_
              refine q_bip B dX12_setText_57 (by decide) ?_
              refine q_cgt (tgt := 66) B dX12_setText_59 (by decide) (by unfold inr; omega) (by unfold inr; omega) (fun c20 => ?_) (fun c20 => ?_)
              · refine q_con B dX12_setText_66 ?_
                refine lv_istore (lv' := [(7, .int (II 0)), (9, .int (II (x6 % 256))), (0, .ref h0), (1, .int (II a_paper)), (2, .int (II a_member)), (3, .long a_letters), (5, .int (II a_there)), (6, .int (II v22_6)), (8, .int (II v22_8))]) B.1 B.2.1 dX12_setText_67 hl (by decide) rfl (fun ls hl => ?_)
                refine lv_iload B.1 B.2.1 dX12_setText_69 (lv_at hl 7 rfl) ?_
                refine lv_iload B.1 B.2.1 dX12_setText_71 (lv_at hl 1 rfl) ?_
                refine q_ile (tgt := 80) B dX12_setText_73 (by decide) (by unfold inr; omega) (fun c21 => ?_) (fun c21 => ?_)
                · refine q_con B dX12_setText_80 ?_
                  refine q_add B dX12_setText_81 ?_
                  refine lv_istore (lv' := [(6, .int (II (v22_6 + 0))), (7, .int (II 0)), (9, .int (II (x6 % 256))), (0, .ref h0), (1, .int (II a_paper)), (2, .int (II a_member)), (3, .long a_letters), (5, .int (II a_there)), (8, .int (II v22_8))]) B.1 B.2.1 dX12_setText_82 hl (by decide) rfl (fun ls hl => ?_)
                  refine q_inc (k := 8) (x := v22_8) (lv' := [(8, .int (II (v22_8 + (-8)))), (6, .int (II (v22_6 + 0))), (7, .int (II 0)), (9, .int (II (x6 % 256))), (0, .ref h0), (1, .int (II a_paper)), (2, .int (II a_member)), (3, .long a_letters), (5, .int (II a_there))]) B dX12_setText_84 hl rfl (by decide) rfl (fun ls hl => ?_)
                  refine lv_goto (tgt := 22) B.1 B.2.1 dX12_setText_87 (by decide) ?_
                  have hv22 : ((-2147483648 : Int) ≤ v22_6 + 0 ∧ (v22_6 + 0 : Int) ≤ 2147483647) ∧ ((-2147483648 : Int) ≤ 0 ∧ (0 : Int) ≤ 2147483647) ∧ ((-2147483648 : Int) ≤ v22_8 + (-8) ∧ (v22_8 + (-8) : Int) ≤ 2147483647) ∧ (0 ≤ (a_paper)) ∧ ((a_paper) < 200) ∧ (0 ≤ (a_member)) ∧ ((a_member) ≤ 11) ∧ (0 ≤ (v22_6 + 0)) ∧ ((v22_6 + 0) ≤ 56 - (v22_8 + (-8))) ∧ (0 ≤ (0 : Int)) ∧ ((0 : Int) ≤ 1) ∧ (-8 ≤ (v22_8 + (-8))) ∧ ((v22_8 + (-8)) ≤ 56) ∧ (0 ≤ (v22_8 + (-8)) + 8) := by first | omega | (simp only [wr_at]; omega) | exact ⟨by first | omega | (simp only [wr_at]; omega) | assumption, by first | omega | (simp only [wr_at]; omega) | assumption, by first | omega | (simp only [wr_at]; omega) | assumption, by first | omega | (simp only [wr_at]; omega) | assumption, by first | omega | (simp only [wr_at]; omega) | assumption, by first | omega | (simp only [wr_at]; omega) | assumption, by first | omega | (simp only [wr_at]; omega) | assumption, by first | omega | (simp only [wr_at]; omega) | assumption, by first | omega | (simp only [wr_at]; omega) | assumption, by first | omega | (simp only [wr_at]; omega) | assumption, by first | omega | (simp only [wr_at]; omega) | assumption, by first | omega | (simp only [wr_at]; omega) | assumption, by first | omega | (simp only [wr_at]; omega) | assumption, by first | omega | (simp only [wr_at]; omega) | assumption⟩
                  exact IH22 (v22_6 + 0) 0 (v22_8 + (-8)) y22_89 y22_85 _ _ ls hM (lv_sub hl [4, 5, 6, 7, 8, 1, 2, 0] rfl) hv22.1 hv22.2.1 hv22.2.2.1 hv22.2.2.2.1 hv22.2.2.2.2.1 hv22.2.2.2.2.2.1 hv22.2.2.2.2.2.2.1 hv22.2.2.2.2.2.2.2.1 hv22.2.2.2.2.2.2.2.2.1 hv22.2.2.2.2.2.2.2.2.2.1 hv22.2.2.2.2.2.2.2.2.2.2.1 hv22.2.2.2.2.2.2.2.2.2.2.2.1 hv22.2.2.2.2.2.2.2.2.2.2.2.2.1 hv22.2.2.2.2.2.2.2.2.2.2.2.2.2 (by first | omega | (simp only [wr_at]; omega) | assumption)
                · refine q_con B dX12_setText_76 ?_
                  refine lv_goto (tgt := 81) B.1 B.2.1 dX12_setText_77 (by decide) ?_
                  refine q_add B dX12_setText_81 ?_
                  refine lv_istore (lv' := [(6, .int (II (v22_6 + 1))), (7, .int (II 0)), (9, .int (II (x6 % 256))), (0, .ref h0), (1, .int (II a_paper)), (2, .int (II a_member)), (3, .long a_letters), (5, .int (II a_there)), (8, .int (II v22_8))]) B.1 B.2.1 dX12_setText_82 hl (by decide) rfl (fun ls hl => ?_)
                  refine q_inc (k := 8) (x := v22_8) (lv' := [(8, .int (II (v22_8 + (-8)))), (6, .int (II (v22_6 + 1))), (7, .int (II 0)), (9, .int (II (x6 % 256))), (0, .ref h0), (1, .int (II a_paper)), (2, .int (II a_member)), (3, .long a_letters), (5, .int (II a_there))]) B dX12_setText_84 hl rfl (by decide) rfl (fun ls hl => ?_)
                  refine lv_goto (tgt := 22) B.1 B.2.1 dX12_setText_87 (by decide) ?_
                  have hv23 : ((-2147483648 : Int) ≤ v22_6 + 1 ∧ (v22_6 + 1 : Int) ≤ 2147483647) ∧ ((-2147483648 : Int) ≤ 0 ∧ (0 : Int) ≤ 2147483647) ∧ ((-2147483648 : Int) ≤ v22_8 + (-8) ∧ (v22_8 + (-8) : Int) ≤ 2147483647) ∧ (0 ≤ (a_paper)) ∧ ((a_paper) < 200) ∧ (0 ≤ (a_member)) ∧ ((a_member) ≤ 11) ∧ (0 ≤ (v22_6 + 1)) ∧ ((v22_6 + 1) ≤ 56 - (v22_8 + (-8))) ∧ (0 ≤ (0 : Int)) ∧ ((0 : Int) ≤ 1) ∧ (-8 ≤ (v22_8 + (-8))) ∧ ((v22_8 + (-8)) ≤ 56) ∧ (0 ≤ (v22_8 + (-8)) + 8) := by first | omega | (simp only [wr_at]; omega) | exact ⟨by first | omega | (simp only [wr_at]; omega) | assumption, by first | omega | (simp only [wr_at]; omega) | assumption, by first | omega | (simp only [wr_at]; omega) | assumption, by first | omega | (simp only [wr_at]; omega) | assumption, by first | omega | (simp only [wr_at]; omega) | assumption, by first | omega | (simp only [wr_at]; omega) | assumption, by first | omega | (simp only [wr_at]; omega) | assumption, by first | omega | (simp only [wr_at]; omega) | assumption, by first | omega | (simp only [wr_at]; omega) | assumption, by first | omega | (simp only [wr_at]; omega) | assumption, by first | omega | (simp only [wr_at]; omega) | assumption, by first | omega | (simp only [wr_at]; omega) | assumption, by first | omega | (simp only [wr_at]; omega) | assumption, by first | omega | (simp only [wr_at]; omega) | assumption⟩
                  exact IH22 (v22_6 + 1) 0 (v22_8 + (-8)) y22_89 y22_85 _ _ ls hM (lv_sub hl [4, 5, 6, 7, 8, 1, 2, 0] rfl) hv23.1 hv23.2.1 hv23.2.2.1 hv23.2.2.2.1 hv23.2.2.2.2.1 hv23.2.2.2.2.2.1 hv23.2.2.2.2.2.2.1 hv23.2.2.2.2.2.2.2.1 hv23.2.2.2.2.2.2.2.2.1 hv23.2.2.2.2.2.2.2.2.2.1 hv23.2.2.2.2.2.2.2.2.2.2.1 hv23.2.2.2.2.2.2.2.2.2.2.2.1 hv23.2.2.2.2.2.2.2.2.2.2.2.2.1 hv23.2.2.2.2.2.2.2.2.2.2.2.2.2 (by first | omega | (simp only [wr_at]; omega) | assumption)
              · refine q_con B dX12_setText_62 ?_
                refine lv_goto (tgt := 67) B.1 B.2.1 dX12_setText_63 (by decide) ?_
                refine lv_istore (lv' := [(7, .int (II 1)), (9, .int (II (x6 % 256))), (0, .ref h0), (1, .int (II a_paper)), (2, .int (II a_member)), (3, .long a_letters), (5, .int (II a_there)), (6, .int (II v22_6)), (8, .int (II v22_8))]) B.1 B.2.1 dX12_setText_67 hl (by decide) rfl (fun ls hl => ?_)
                refine lv_iload B.1 B.2.1 dX12_setText_69 (lv_at hl 7 rfl) ?_
                refine lv_iload B.1 B.2.1 dX12_setText_71 (lv_at hl 1 rfl) ?_
                refine q_ile (tgt := 80) B dX12_setText_73 (by decide) (by unfold inr; omega) (fun c24 => ?_) (fun c24 => ?_)
                · refine q_con B dX12_setText_80 ?_
                  refine q_add B dX12_setText_81 ?_
                  refine lv_istore (lv' := [(6, .int (II (v22_6 + 0))), (7, .int (II 1)), (9, .int (II (x6 % 256))), (0, .ref h0), (1, .int (II a_paper)), (2, .int (II a_member)), (3, .long a_letters), (5, .int (II a_there)), (8, .int (II v22_8))]) B.1 B.2.1 dX12_setText_82 hl (by decide) rfl (fun ls hl => ?_)
                  refine q_inc (k := 8) (x := v22_8) (lv' := [(8, .int (II (v22_8 + (-8)))), (6, .int (II (v22_6 + 0))), (7, .int (II 1)), (9, .int (II (x6 % 256))), (0, .ref h0), (1, .int (II a_paper)), (2, .int (II a_member)), (3, .long a_letters), (5, .int (II a_there))]) B dX12_setText_84 hl rfl (by decide) rfl (fun ls hl => ?_)
                  refine lv_goto (tgt := 22) B.1 B.2.1 dX12_setText_87 (by decide) ?_
                  have hv25 : ((-2147483648 : Int) ≤ v22_6 + 0 ∧ (v22_6 + 0 : Int) ≤ 2147483647) ∧ ((-2147483648 : Int) ≤ 1 ∧ (1 : Int) ≤ 2147483647) ∧ ((-2147483648 : Int) ≤ v22_8 + (-8) ∧ (v22_8 + (-8) : Int) ≤ 2147483647) ∧ (0 ≤ (a_paper)) ∧ ((a_paper) < 200) ∧ (0 ≤ (a_member)) ∧ ((a_member) ≤ 11) ∧ (0 ≤ (v22_6 + 0)) ∧ ((v22_6 + 0) ≤ 56 - (v22_8 + (-8))) ∧ (0 ≤ (1 : Int)) ∧ ((1 : Int) ≤ 1) ∧ (-8 ≤ (v22_8 + (-8))) ∧ ((v22_8 + (-8)) ≤ 56) ∧ (0 ≤ (v22_8 + (-8)) + 8) := by first | omega | (simp only [wr_at]; omega) | exact ⟨by first | omega | (simp only [wr_at]; omega) | assumption, by first | omega | (simp only [wr_at]; omega) | assumption, by first | omega | (simp only [wr_at]; omega) | assumption, by first | omega | (simp only [wr_at]; omega) | assumption, by first | omega | (simp only [wr_at]; omega) | assumption, by first | omega | (simp only [wr_at]; omega) | assumption, by first | omega | (simp only [wr_at]; omega) | assumption, by first | omega | (simp only [wr_at]; omega) | assumption, by first | omega | (simp only [wr_at]; omega) | assumption, by first | omega | (simp only [wr_at]; omega) | assumption, by first | omega | (simp only [wr_at]; omega) | assumption, by first | omega | (simp only [wr_at]; omega) | assumption, by first | omega | (simp only [wr_at]; omega) | assumption, by first | omega | (simp only [wr_at]; omega) | assumption⟩
                  exact IH22 (v22_6 + 0) 1 (v22_8 + (-8)) y22_89 y22_85 _ _ ls hM (lv_sub hl [4, 5, 6, 7, 8, 1, 2, 0] rfl) hv25.1 hv25.2.1 hv25.2.2.1 hv25.2.2.2.1 hv25.2.2.2.2.1 hv25.2.2.2.2.2.1 hv25.2.2.2.2.2.2.1 hv25.2.2.2.2.2.2.2.1 hv25.2.2.2.2.2.2.2.2.1 hv25.2.2.2.2.2.2.2.2.2.1 hv25.2.2.2.2.2.2.2.2.2.2.1 hv25.2.2.2.2.2.2.2.2.2.2.2.1 hv25.2.2.2.2.2.2.2.2.2.2.2.2.1 hv25.2.2.2.2.2.2.2.2.2.2.2.2.2 (by first | omega | (simp only [wr_at]; omega) | assumption)
                · refine q_con B dX12_setText_76 ?_
                  refine lv_goto (tgt := 81) B.1 B.2.1 dX12_setText_77 (by decide) ?_
                  refine q_add B dX12_setText_81 ?_
                  refine lv_istore (lv' := [(6, .int (II (v22_6 + 1))), (7, .int (II 1)), (9, .int (II (x6 % 256))), (0, .ref h0), (1, .int (II a_paper)), (2, .int (II a_member)), (3, .long a_letters), (5, .int (II a_there)), (8, .int (II v22_8))]) B.1 B.2.1 dX12_setText_82 hl (by decide) rfl (fun ls hl => ?_)
                  refine q_inc (k := 8) (x := v22_8) (lv' := [(8, .int (II (v22_8 + (-8)))), (6, .int (II (v22_6 + 1))), (7, .int (II 1)), (9, .int (II (x6 % 256))), (0, .ref h0), (1, .int (II a_paper)), (2, .int (II a_member)), (3, .long a_letters), (5, .int (II a_there))]) B dX12_setText_84 hl rfl (by decide) rfl (fun ls hl => ?_)
                  refine lv_goto (tgt := 22) B.1 B.2.1 dX12_setText_87 (by decide) ?_
                  have hv26 : ((-2147483648 : Int) ≤ v22_6 + 1 ∧ (v22_6 + 1 : Int) ≤ 2147483647) ∧ ((-2147483648 : Int) ≤ 1 ∧ (1 : Int) ≤ 2147483647) ∧ ((-2147483648 : Int) ≤ v22_8 + (-8) ∧ (v22_8 + (-8) : Int) ≤ 2147483647) ∧ (0 ≤ (a_paper)) ∧ ((a_paper) < 200) ∧ (0 ≤ (a_member)) ∧ ((a_member) ≤ 11) ∧ (0 ≤ (v22_6 + 1)) ∧ ((v22_6 + 1) ≤ 56 - (v22_8 + (-8))) ∧ (0 ≤ (1 : Int)) ∧ ((1 : Int) ≤ 1) ∧ (-8 ≤ (v22_8 + (-8))) ∧ ((v22_8 + (-8)) ≤ 56) ∧ (0 ≤ (v22_8 + (-8)) + 8) := by first | omega | (simp only [wr_at]; omega) | exact ⟨by first | omega | (simp only [wr_at]; omega) | assumption, by first | omega | (simp only [wr_at]; omega) | assumption, by first | omega | (simp only [wr_at]; omega) | assumption, by first | omega | (simp only [wr_at]; omega) | assumption, by first | omega | (simp only [wr_at]; omega) | assumption, by first | omega | (simp only [wr_at]; omega) | assumption, by first | omega | (simp only [wr_at]; omega) | assumption, by first | omega | (simp only [wr_at]; omega) | assumption, by first | omega | (simp only [wr_at]; omega) | assumption, by first | omega | (simp only [wr_at]; omega) | assumption, by first | omega | (simp only [wr_at]; omega) | assumption, by first | omega | (simp only [wr_at]; omega) | assumption, by first | omega | (simp only [wr_at]; omega) | assumption, by first | omega | (simp only [wr_at]; omega) | assumption⟩
                  exact IH22 (v22_6 + 1) 1 (v22_8 + (-8)) y22_89 y22_85 _ _ ls hM (lv_sub hl [4, 5, 6, 7, 8, 1, 2, 0] rfl) hv26.1 hv26.2.1 hv26.2.2.1 hv26.2.2.2.1 hv26.2.2.2.2.1 hv26.2.2.2.2.2.1 hv26.2.2.2.2.2.2.1 hv26.2.2.2.2.2.2.2.1 hv26.2.2.2.2.2.2.2.2.1 hv26.2.2.2.2.2.2.2.2.2.1 hv26.2.2.2.2.2.2.2.2.2.2.1 hv26.2.2.2.2.2.2.2.2.2.2.2.1 hv26.2.2.2.2.2.2.2.2.2.2.2.2.1 hv26.2.2.2.2.2.2.2.2.2.2.2.2.2 (by first | omega | (simp only [wr_at]; omega) | assumption)
  refine lv_aload_n B.1 B.2.1 dX12_setText_0 rfl (lv_at hl 0 rfl) ?_
  refine lv_iload_n B.1 B.2.1 dX12_setText_1 rfl (lv_at hl 1 rfl) ?_
  refine lv_iload_n B.1 B.2.1 dX12_setText_2 rfl (lv_at hl 2 rfl) ?_
  refine q_con B dX12_setText_3 ?_
  have hv27 : ((-2147483648 : Int) ≤ a_paper ∧ (a_paper : Int) ≤ 2147483647) ∧ ((-2147483648 : Int) ≤ a_member ∧ (a_member : Int) ≤ 2147483647) ∧ ((-2147483648 : Int) ≤ 1 ∧ (1 : Int) ≤ 2147483647) := by first | omega | (simp only [wr_at]; omega) | exact ⟨by first | omega | (simp only [wr_at]; omega) | assumption, by first | omega | (simp only [wr_at]; omega) | assumption, by first | omega | (simp only [wr_at]; omega) | assumption⟩
  refine m_calli (n := 3) (rest := []) B hM hA hl.1 (k_has l D dA h0 ad f g (up A [(89, (A 89)), (85, (A 85))]) L a_paper a_member 1 hv27.1 hv27.2.1 hv27.2.2 ) rfl ok_has nm_has ⟨rfl, rfl⟩ ⟨Nat.le_of_ble_eq_true rfl, Nat.le_of_ble_eq_true rfl⟩ dX12_setText_4 rfl rfl (Nat.le_of_ble_eq_true rfl) ⟨Nat.zero_le _, Nat.zero_le _⟩ (fun r28 σr28 H locs ir28 hp29 hM => ?_)
  obtain ⟨rfl, hp29⟩ := hp29
  unfold inr at ir28
  replace hp29 : 0 ≤ r28 ∧ r28 ≤ 1 ∧ (r28 = 1 → 0 ≤ (a_paper) ∧ (a_paper) < (f 90) ∧ 0 ≤ (a_member) ∧ (a_member) ≤ 11 ∧ (a_member) < (A 37) (16 * (f 3) + (A 83) ((a_paper)).toNat).toNat ∧ (A 42) ((A 38) (12 * (16 * (f 3) + (A 83) ((a_paper)).toNat) + (a_member)).toNat).toNat = (1 : Int)) := hp29
  obtain ⟨hp29_0, hp29_1, hp29_2⟩ := hp29
  refine q_ine (tgt := 12) B dX12_setText_7 (by decide) (by unfold inr; omega) (fun c30 => ?_) (fun c30 => ?_)
  · refine q_con B dX12_setText_12 ?_
    refine lv_istore (lv' := [(6, .int (II 0)), (0, .ref h0), (1, .int (II a_paper)), (2, .int (II a_member)), (3, .long a_letters), (5, .int (II a_there))]) B.1 B.2.1 dX12_setText_13 hl (by decide) rfl (fun ls hl => ?_)
    refine q_con B dX12_setText_15 ?_
    refine lv_istore (lv' := [(7, .int (II 1)), (6, .int (II 0)), (0, .ref h0), (1, .int (II a_paper)), (2, .int (II a_member)), (3, .long a_letters), (5, .int (II a_there))]) B.1 B.2.1 dX12_setText_16 hl (by decide) rfl (fun ls hl => ?_)
    refine q_bip B dX12_setText_18 (by decide) ?_
    refine lv_istore (lv' := [(8, .int (II 56)), (7, .int (II 1)), (6, .int (II 0)), (0, .ref h0), (1, .int (II a_paper)), (2, .int (II a_member)), (3, .long a_letters), (5, .int (II a_there))]) B.1 B.2.1 dX12_setText_20 hl (by decide) rfl (fun ls hl => ?_)
    have hv31 : ((-2147483648 : Int) ≤ 0 ∧ (0 : Int) ≤ 2147483647) ∧ ((-2147483648 : Int) ≤ 1 ∧ (1 : Int) ≤ 2147483647) ∧ ((-2147483648 : Int) ≤ 56 ∧ (56 : Int) ≤ 2147483647) ∧ (0 ≤ (a_paper)) ∧ ((a_paper) < 200) ∧ (0 ≤ (a_member)) ∧ ((a_member) ≤ 11) ∧ (0 ≤ (0 : Int)) ∧ ((0 : Int) ≤ 56 - (56 : Int)) ∧ (0 ≤ (1 : Int)) ∧ ((1 : Int) ≤ 1) ∧ (-8 ≤ (56 : Int)) ∧ ((56 : Int) ≤ 56) ∧ (0 ≤ (56 : Int) + 8) := by first | omega | (simp only [wr_at]; omega) | exact ⟨by first | omega | (simp only [wr_at]; omega) | assumption, by first | omega | (simp only [wr_at]; omega) | assumption, by first | omega | (simp only [wr_at]; omega) | assumption, by first | omega | (simp only [wr_at]; omega) | assumption, by first | omega | (simp only [wr_at]; omega) | assumption, by first | omega | (simp only [wr_at]; omega) | assumption, by first | omega | (simp only [wr_at]; omega) | assumption, by first | omega | (simp only [wr_at]; omega) | assumption, by first | omega | (simp only [wr_at]; omega) | assumption, by first | omega | (simp only [wr_at]; omega) | assumption, by first | omega | (simp only [wr_at]; omega) | assumption, by first | omega | (simp only [wr_at]; omega) | assumption, by first | omega | (simp only [wr_at]; omega) | assumption, by first | omega | (simp only [wr_at]; omega) | assumption⟩
    exact LL22 (Int.toNat ((56 : Int) + 8 + 1)) 0 1 56 ((A 89)) ((A 85)) _ _ ls hM (lv_sub hl [3, 4, 5, 6, 7, 2, 1, 0] rfl) hv31.1 hv31.2.1 hv31.2.2.1 hv31.2.2.2.1 hv31.2.2.2.2.1 hv31.2.2.2.2.2.1 hv31.2.2.2.2.2.2.1 hv31.2.2.2.2.2.2.2.1 hv31.2.2.2.2.2.2.2.2.1 hv31.2.2.2.2.2.2.2.2.2.1 hv31.2.2.2.2.2.2.2.2.2.2.1 hv31.2.2.2.2.2.2.2.2.2.2.2.1 hv31.2.2.2.2.2.2.2.2.2.2.2.2.1 hv31.2.2.2.2.2.2.2.2.2.2.2.2.2 (by first | omega | (simp only [wr_at]; omega) | assumption)
  · refine q_con B dX12_setText_10 ?_
    subst hPST
    exact m_zret B hM dX12_setText_11 (by omega) ⟨((A 89)), ((A 85)), rfl, by trivial⟩
set_option maxHeartbeats 4000000 in
set_option maxRecDepth 20000 in
theorem k_isOf (l : Launch) (D : va_G) (dA : Nat → ClassId) (h0 : Nat) (ad : Nat → Nat) (f : Nat → Int) (g : Nat → Int64) (A : Nat → Nat → Int) (L : Nat → Nat → Int64) (a_p : Int) (a_kind : Int) (i_p : (-2147483648 : Int) ≤ a_p ∧ a_p ≤ 2147483647) (i_kind : (-2147483648 : Int) ≤ a_kind ∧ a_kind ≤ 2147483647) (p_0 : 0 ≤ (a_p)) (p_1 : (a_p) < 200) (p_2 : KU (A 34)) (p_3 : (0 < (f 60) → (A 34) (16 * (f 3)).toNat < 0)) (p_4 : 0 < (f 60)) : MCi l yX12_isOf cX12_isOf 4 (some .boolean) ({ frames := 0, cells := 0, slots := 0, locals := 0 }) D dA h0 ad (f, g, A, L) [.int (II a_p), .int (II a_kind)] (fun (r : Int) (σ : MS) => σ = (f, g, A, L) ∧ (0 ≤ r ∧ r ≤ 1)) := by
  generalize hPST : (fun (r : Int) (σ : MS) => σ = (f, g, A, L) ∧ (0 ≤ r ∧ r ≤ 1)) = PST
  refine m_enter (by decide) rfl (Nat.le_of_ble_eq_true rfl) (fun p e s m args below meth c ls B hM hl => ?_)
  have hA : ∀ q, s.heap.size ≤ q → mF dA h0 ad (f, g, A, L) s.heap.size q := fun q h => Or.inr h
  have hl : lv_has ls 4 [(0, .ref h0), (1, .int (II a_p)), (2, .int (II a_kind))] := hl
  have r1 : (0 : Int) ≤ f 3 ∧ f 3 ≤ 1 := hM.2.2.2.1 3
  have r2 : (0 : Int) ≤ f 60 ∧ f 60 ≤ 16 := hM.2.2.2.1 60
  have LL7 : ∀ N : Nat, ∀ (v7_3 : Int) (H : Heap) (locs : List Loc) (ls : Array Slot), (MWd D dA h0 ad (mF dA h0 ad (f, g, A, L) s.heap.size) s.heap (f, g, A, L) H locs) → lv_has ls 4 [(0, .ref h0), (1, .int (II a_p)), (2, .int (II a_kind)), (3, .int (II v7_3))] → ((-2147483648 : Int) ≤ v7_3 ∧ v7_3 ≤ 2147483647) → (-1 ≤ (v7_3)) → ((v7_3) ≤ 15) → (0 ≤ (v7_3) + 1) → ((v7_3) + 1 < (N : Int)) → W p l e ({ frames := 0, cells := 0, slots := 0, locals := 0 }) s m args below meth c H locs 0 0 (MQ below (mQi D dA h0 ad (f, g, A, L) s.heap.size PST) args s 0 0 (mF dA h0 ad (f, g, A, L) s.heap.size)) (F0 m 7 ls []) := by
    intro N
    induction N with
    | zero => intro v7_3 H locs ls hM hl hLL7_0 hLL7_1 hLL7_2 hLL7_3 hN; exfalso; omega
    | succ N IH7 =>
      intro v7_3 H locs ls hM hl hLL7_0 hLL7_1 hLL7_2 hLL7_3 hN
      refine lv_iload_n B.1 B.2.1 dX12_isOf_7 rfl (lv_at hl 3 rfl) ?_
      refine q_ilt (tgt := 34) B dX12_isOf_8 (by decide) (by unfold inr; omega) (fun c3 => ?_) (fun c3 => ?_)
      · refine lv_iload_n B.1 B.2.1 dX12_isOf_34 rfl (lv_at hl 3 rfl) ?_
        refine lv_iload_n B.1 B.2.1 dX12_isOf_35 rfl (lv_at hl 2 rfl) ?_
        refine q_cne (tgt := 43) B dX12_isOf_36 (by decide) (by unfold inr; omega) (by unfold inr; omega) (fun c4 => ?_) (fun c4 => ?_)
        · refine q_con B dX12_isOf_43 ?_
          subst hPST
          have hv5 : (0 ≤ (0 : Int)) ∧ ((0 : Int) ≤ 1) := by first | omega | (simp only [wr_at]; omega) | exact ⟨by first | omega | (simp only [wr_at]; omega) | assumption, by first | omega | (simp only [wr_at]; omega) | assumption⟩
          exact m_zret B hM dX12_isOf_44 (by omega) ⟨rfl, hv5.1, hv5.2⟩
        · refine q_con B dX12_isOf_39 ?_
          refine lv_goto (tgt := 44) B.1 B.2.1 dX12_isOf_40 (by decide) ?_
          subst hPST
          have hv6 : (0 ≤ (1 : Int)) ∧ ((1 : Int) ≤ 1) := by first | omega | (simp only [wr_at]; omega) | exact ⟨by first | omega | (simp only [wr_at]; omega) | assumption, by first | omega | (simp only [wr_at]; omega) | assumption⟩
          exact m_zret B hM dX12_isOf_44 (by omega) ⟨rfl, hv6.1, hv6.2⟩
      · refine lv_iload_n B.1 B.2.1 dX12_isOf_11 rfl (lv_at hl 3 rfl) ?_
        refine lv_iload_n B.1 B.2.1 dX12_isOf_12 rfl (lv_at hl 2 rfl) ?_
        refine q_ceq (tgt := 34) B dX12_isOf_13 (by decide) (by unfold inr; omega) (by unfold inr; omega) (fun c7 => ?_) (fun c7 => ?_)
        · refine lv_iload_n B.1 B.2.1 dX12_isOf_34 rfl (lv_at hl 3 rfl) ?_
          refine lv_iload_n B.1 B.2.1 dX12_isOf_35 rfl (lv_at hl 2 rfl) ?_
          refine q_cne (tgt := 43) B dX12_isOf_36 (by decide) (by unfold inr; omega) (by unfold inr; omega) (fun c8 => ?_) (fun c8 => ?_)
          · refine q_con B dX12_isOf_43 ?_
            subst hPST
            have hv9 : (0 ≤ (0 : Int)) ∧ ((0 : Int) ≤ 1) := by first | omega | (simp only [wr_at]; omega) | exact ⟨by first | omega | (simp only [wr_at]; omega) | assumption, by first | omega | (simp only [wr_at]; omega) | assumption⟩
            exact m_zret B hM dX12_isOf_44 (by omega) ⟨rfl, hv9.1, hv9.2⟩
          · refine q_con B dX12_isOf_39 ?_
            refine lv_goto (tgt := 44) B.1 B.2.1 dX12_isOf_40 (by decide) ?_
            subst hPST
            have hv10 : (0 ≤ (1 : Int)) ∧ ((1 : Int) ≤ 1) := by first | omega | (simp only [wr_at]; omega) | exact ⟨by first | omega | (simp only [wr_at]; omega) | assumption, by first | omega | (simp only [wr_at]; omega) | assumption⟩
            exact m_zret B hM dX12_isOf_44 (by omega) ⟨rfl, hv10.1, hv10.2⟩
        · have hku : 1 ≤ (v7_3) → (A 34) (16 * (f 3) + (v7_3)).toNat < (v7_3) := fun hq => by have hz := p_2 (16 * (f 3) + (v7_3)) (by omega) (by omega) (by omega); omega
          have hk0 : (v7_3) = 0 → (A 34) (16 * (f 3) + (v7_3)).toNat < 0 := fun hq => by rw [hq, show 16 * (f 3) + 0 = 16 * (f 3) from by omega]; exact p_3 (by omega)
          refine lv_aload_n B.1 B.2.1 dX12_isOf_16 rfl (lv_at hl 0 rfl) ?_
          refine m_geta (k := 34) B hM (by decide) rfl fl196 dX12_isOf_17 ?_
          refine q_bip B dX12_isOf_20 (by decide) ?_
          refine lv_aload_n B.1 B.2.1 dX12_isOf_22 rfl (lv_at hl 0 rfl) ?_
          refine m_get (k := 3) (v := f 3) B hM (by decide) rfl fl11 dX12_isOf_23 rfl ?_
          refine q_mul B dX12_isOf_26 ?_
          refine lv_iload_n B.1 B.2.1 dX12_isOf_27 rfl (lv_at hl 3 rfl) ?_
          refine q_add B dX12_isOf_28 ?_
          refine m_ild (k := 34) (i := 22) (n := 32) (z := (16 * (f 3)) + v7_3) (v := (A 34) ((16 * (f 3)) + v7_3).toNat) B hM rfl rfl rfl (by decide) dX12_isOf_29 (by omega) (by omega) rfl ?_
          have r11 : (-1 : Int) ≤ (A 34) ((16 * (f 3)) + v7_3).toNat ∧ (A 34) ((16 * (f 3)) + v7_3).toNat ≤ 15 := hM.2.2.2.2 34 ((16 * (f 3)) + v7_3).toNat
          refine lv_istore_n (lv' := [(3, .int (II ((A 34) ((16 * (f 3)) + v7_3).toNat))), (0, .ref h0), (1, .int (II a_p)), (2, .int (II a_kind))]) B.1 B.2.1 dX12_isOf_30 rfl hl (by decide) rfl (fun ls hl => ?_)
          refine lv_goto (tgt := 7) B.1 B.2.1 dX12_isOf_31 (by decide) ?_
          have hv12 : ((-2147483648 : Int) ≤ (A 34) ((16 * (f 3)) + v7_3).toNat ∧ ((A 34) ((16 * (f 3)) + v7_3).toNat : Int) ≤ 2147483647) ∧ (-1 ≤ ((A 34) ((16 * (f 3)) + v7_3).toNat)) ∧ (((A 34) ((16 * (f 3)) + v7_3).toNat) ≤ 15) ∧ (0 ≤ ((A 34) ((16 * (f 3)) + v7_3).toNat) + 1) := by first | omega | (simp only [wr_at]; omega) | exact ⟨by first | omega | (simp only [wr_at]; omega) | assumption, by first | omega | (simp only [wr_at]; omega) | assumption, by first | omega | (simp only [wr_at]; omega) | assumption, by first | omega | (simp only [wr_at]; omega) | assumption⟩
          exact IH7 ((A 34) ((16 * (f 3)) + v7_3).toNat) _ _ ls hM (lv_sub hl [1, 2, 3, 0] rfl) hv12.1 hv12.2.1 hv12.2.2.1 hv12.2.2.2 (by first | omega | (simp only [wr_at]; omega) | assumption)
  refine lv_aload_n B.1 B.2.1 dX12_isOf_0 rfl (lv_at hl 0 rfl) ?_
  refine m_geta (k := 83) B hM (by decide) rfl fl315 dX12_isOf_1 ?_
  refine lv_iload_n B.1 B.2.1 dX12_isOf_4 rfl (lv_at hl 1 rfl) ?_
  refine m_ild (k := 83) (i := 61) (n := 200) (z := a_p) (v := (A 83) a_p.toNat) B hM rfl rfl rfl (by decide) dX12_isOf_5 (by omega) (by omega) rfl ?_
  have r13 : (0 : Int) ≤ (A 83) a_p.toNat ∧ (A 83) a_p.toNat ≤ 15 := hM.2.2.2.2 83 a_p.toNat
  refine lv_istore_n (lv' := [(3, .int (II ((A 83) a_p.toNat))), (0, .ref h0), (1, .int (II a_p)), (2, .int (II a_kind))]) B.1 B.2.1 dX12_isOf_6 rfl hl (by decide) rfl (fun ls hl => ?_)
  have hv14 : ((-2147483648 : Int) ≤ (A 83) a_p.toNat ∧ ((A 83) a_p.toNat : Int) ≤ 2147483647) ∧ (-1 ≤ ((A 83) a_p.toNat)) ∧ (((A 83) a_p.toNat) ≤ 15) ∧ (0 ≤ ((A 83) a_p.toNat) + 1) := by first | omega | (simp only [wr_at]; omega) | exact ⟨by first | omega | (simp only [wr_at]; omega) | assumption, by first | omega | (simp only [wr_at]; omega) | assumption, by first | omega | (simp only [wr_at]; omega) | assumption, by first | omega | (simp only [wr_at]; omega) | assumption⟩
  exact LL7 (Int.toNat (((A 83) a_p.toNat) + 1 + 1)) ((A 83) a_p.toNat) _ _ ls hM (lv_sub hl [1, 2, 3, 0] rfl) hv14.1 hv14.2.1 hv14.2.2.1 hv14.2.2.2 (by first | omega | (simp only [wr_at]; omega) | assumption)
set_option maxHeartbeats 4000000 in
set_option maxRecDepth 20000 in
theorem k_link (l : Launch) (D : va_G) (dA : Nat → ClassId) (h0 : Nat) (ad : Nat → Nat) (f : Nat → Int) (g : Nat → Int64) (A : Nat → Nat → Int) (L : Nat → Nat → Int64) (a_paper : Int) (a_member : Int) (a_other : Int) (i_paper : (-2147483648 : Int) ≤ a_paper ∧ a_paper ≤ 2147483647) (i_member : (-2147483648 : Int) ≤ a_member ∧ a_member ≤ 2147483647) (i_other : (-2147483648 : Int) ≤ a_other ∧ a_other ≤ 2147483647) (p_0 : KU (A 34)) (p_1 : (0 < (f 60) → (A 34) (16 * (f 3)).toNat < 0)) (p_2 : (0 < (f 90) → 0 < (f 60))) : MCi l yX12_link cX12_link 4 (some .boolean) ({ frames := 2, cells := 0, slots := 0, locals := 45 }) D dA h0 ad (f, g, A, L) [.int (II a_paper), .int (II a_member), .int (II a_other)] (fun (r : Int) (σ : MS) => ∃ b89 : Nat → Int, ∃ b86 : Nat → Int, σ = (f, g, (up A [(89, b89), (86, b86)]), L) ∧ (True)) := by
  generalize hPST : (fun (r : Int) (σ : MS) => ∃ b89 : Nat → Int, ∃ b86 : Nat → Int, σ = (f, g, (up A [(89, b89), (86, b86)]), L) ∧ (True)) = PST
  refine m_enter (by decide) rfl (Nat.le_of_ble_eq_true rfl) (fun p e s m args below meth c ls B hM hl => ?_)
  have hA : ∀ q, s.heap.size ≤ q → mF dA h0 ad (f, g, A, L) s.heap.size q := fun q h => Or.inr h
  have hM : MWd D dA h0 ad (mF dA h0 ad (f, g, A, L) s.heap.size) s.heap (f, g, (up A [(89, (A 89)), (86, (A 86))]), L) s.heap [] := MW_pad hM rfl rfl (up_self A [89, 86]) rfl
  have hl : lv_has ls 4 [(0, .ref h0), (1, .int (II a_paper)), (2, .int (II a_member)), (3, .int (II a_other))] := hl
  have r1 : (0 : Int) ≤ f 3 ∧ f 3 ≤ 1 := hM.2.2.2.1 3
  have r2 : (0 : Int) ≤ f 60 ∧ f 60 ≤ 16 := hM.2.2.2.1 60
  have r3 : (0 : Int) ≤ f 90 ∧ f 90 ≤ 200 := hM.2.2.2.1 90
  refine lv_aload_n B.1 B.2.1 dX12_link_0 rfl (lv_at hl 0 rfl) ?_
  refine lv_iload_n B.1 B.2.1 dX12_link_1 rfl (lv_at hl 1 rfl) ?_
  refine lv_iload_n B.1 B.2.1 dX12_link_2 rfl (lv_at hl 2 rfl) ?_
  refine q_con B dX12_link_3 ?_
  have hv4 : ((-2147483648 : Int) ≤ a_paper ∧ (a_paper : Int) ≤ 2147483647) ∧ ((-2147483648 : Int) ≤ a_member ∧ (a_member : Int) ≤ 2147483647) ∧ ((-2147483648 : Int) ≤ 3 ∧ (3 : Int) ≤ 2147483647) := by first | omega | (simp only [wr_at]; omega) | exact ⟨by first | omega | (simp only [wr_at]; omega) | assumption, by first | omega | (simp only [wr_at]; omega) | assumption, by first | omega | (simp only [wr_at]; omega) | assumption⟩
  refine m_calli (n := 3) (rest := []) B hM hA hl.1 (k_has l D dA h0 ad f g (up A [(89, (A 89)), (86, (A 86))]) L a_paper a_member 3 hv4.1 hv4.2.1 hv4.2.2 ) rfl ok_has nm_has ⟨rfl, rfl⟩ ⟨Nat.le_of_ble_eq_true rfl, Nat.le_of_ble_eq_true rfl⟩ dX12_link_4 rfl rfl (Nat.le_of_ble_eq_true rfl) ⟨Nat.zero_le _, Nat.zero_le _⟩ (fun r5 σr5 H locs ir5 hp6 hM => ?_)
  obtain ⟨rfl, hp6⟩ := hp6
  unfold inr at ir5
  replace hp6 : 0 ≤ r5 ∧ r5 ≤ 1 ∧ (r5 = 1 → 0 ≤ (a_paper) ∧ (a_paper) < (f 90) ∧ 0 ≤ (a_member) ∧ (a_member) ≤ 11 ∧ (a_member) < (A 37) (16 * (f 3) + (A 83) ((a_paper)).toNat).toNat ∧ (A 42) ((A 38) (12 * (16 * (f 3) + (A 83) ((a_paper)).toNat) + (a_member)).toNat).toNat = (3 : Int)) := hp6
  obtain ⟨hp6_0, hp6_1, hp6_2⟩ := hp6
  refine q_ieq (tgt := 42) B dX12_link_7 (by decide) (by unfold inr; omega) (fun c7 => ?_) (fun c7 => ?_)
  · refine q_con B dX12_link_42 ?_
    subst hPST
    exact m_zret B hM dX12_link_43 (by omega) ⟨((A 89)), ((A 86)), rfl, by trivial⟩
  · refine lv_iload_n B.1 B.2.1 dX12_link_10 rfl (lv_at hl 3 rfl) ?_
    refine q_con B dX12_link_11 ?_
    refine q_ceq (tgt := 44) B dX12_link_12 (by decide) (by unfold inr; omega) (by unfold inr; omega) (fun c8 => ?_) (fun c8 => ?_)
    · refine lv_aload_n B.1 B.2.1 dX12_link_44 rfl (lv_at hl 0 rfl) ?_
      refine m_geta (k := 89) B hM (by decide) rfl fl334 dX12_link_45 ?_
      refine q_bip B dX12_link_48 (by decide) ?_
      refine lv_iload_n B.1 B.2.1 dX12_link_50 rfl (lv_at hl 1 rfl) ?_
      refine q_mul B dX12_link_51 ?_
      refine lv_iload_n B.1 B.2.1 dX12_link_52 rfl (lv_at hl 2 rfl) ?_
      refine q_add B dX12_link_53 ?_
      refine lv_iload_n B.1 B.2.1 dX12_link_54 rfl (lv_at hl 3 rfl) ?_
      refine q_ilt (tgt := 62) B dX12_link_55 (by decide) (by unfold inr; omega) (fun c9 => ?_) (fun c9 => ?_)
      · refine q_con B dX12_link_62 ?_
        refine m_zst (k := 89) (i := 67) (n := 2400) B hM rfl rfl rfl (by decide) dX12_link_63 (by omega) (by omega) (by omega) (show (0 : Int) ≤ 0 from by first | omega | (simp only [wr_at]; omega)) (show 0 ≤ (1 : Int) from by first | omega | (simp only [wr_at]; omega)) (u1_up A [(89, (A 89)), (86, (A 86))] 89 (wr (A 89) ((12 * a_paper) + a_member) 0)) (fun H locs hM => ?_)
        replace hM : MWd D dA h0 ad (mF dA h0 ad (f, g, A, L) s.heap.size) s.heap (f, g, (up A [(89, (wr (A 89) ((12 * a_paper) + a_member) 0)), (86, (A 86))]), L) H locs := hM
        refine lv_aload_n B.1 B.2.1 dX12_link_64 rfl (lv_at hl 0 rfl) ?_
        refine m_geta (k := 86) B hM (by decide) rfl fl324 dX12_link_65 ?_
        refine q_bip B dX12_link_68 (by decide) ?_
        refine lv_iload_n B.1 B.2.1 dX12_link_70 rfl (lv_at hl 1 rfl) ?_
        refine q_mul B dX12_link_71 ?_
        refine lv_iload_n B.1 B.2.1 dX12_link_72 rfl (lv_at hl 2 rfl) ?_
        refine q_add B dX12_link_73 ?_
        refine lv_iload_n B.1 B.2.1 dX12_link_74 rfl (lv_at hl 3 rfl) ?_
        refine m_ist (k := 86) (i := 64) (n := 2400) B hM rfl rfl rfl (by decide) dX12_link_75 (by omega) (by omega) (show (-1 : Int) ≤ a_other from by first | omega | (simp only [wr_at]; omega)) (show a_other ≤ (199 : Int) from by first | omega | (simp only [wr_at]; omega)) (u1_up A [(89, (wr (A 89) ((12 * a_paper) + a_member) 0)), (86, (A 86))] 86 (wr (A 86) ((12 * a_paper) + a_member) a_other)) (fun H locs hM => ?_)
        replace hM : MWd D dA h0 ad (mF dA h0 ad (f, g, A, L) s.heap.size) s.heap (f, g, (up A [(89, (wr (A 89) ((12 * a_paper) + a_member) 0)), (86, (wr (A 86) ((12 * a_paper) + a_member) a_other))]), L) H locs := hM
        refine q_con B dX12_link_76 ?_
        subst hPST
        exact m_zret B hM dX12_link_77 (by omega) ⟨((wr (A 89) ((12 * a_paper) + a_member) 0)), ((wr (A 86) ((12 * a_paper) + a_member) a_other)), rfl, by trivial⟩
      · refine q_con B dX12_link_58 ?_
        refine lv_goto (tgt := 63) B.1 B.2.1 dX12_link_59 (by decide) ?_
        refine m_zst (k := 89) (i := 67) (n := 2400) B hM rfl rfl rfl (by decide) dX12_link_63 (by omega) (by omega) (by omega) (show (0 : Int) ≤ 1 from by first | omega | (simp only [wr_at]; omega)) (show 1 ≤ (1 : Int) from by first | omega | (simp only [wr_at]; omega)) (u1_up A [(89, (A 89)), (86, (A 86))] 89 (wr (A 89) ((12 * a_paper) + a_member) 1)) (fun H locs hM => ?_)
        replace hM : MWd D dA h0 ad (mF dA h0 ad (f, g, A, L) s.heap.size) s.heap (f, g, (up A [(89, (wr (A 89) ((12 * a_paper) + a_member) 1)), (86, (A 86))]), L) H locs := hM
        refine lv_aload_n B.1 B.2.1 dX12_link_64 rfl (lv_at hl 0 rfl) ?_
        refine m_geta (k := 86) B hM (by decide) rfl fl324 dX12_link_65 ?_
        refine q_bip B dX12_link_68 (by decide) ?_
        refine lv_iload_n B.1 B.2.1 dX12_link_70 rfl (lv_at hl 1 rfl) ?_
        refine q_mul B dX12_link_71 ?_
        refine lv_iload_n B.1 B.2.1 dX12_link_72 rfl (lv_at hl 2 rfl) ?_
        refine q_add B dX12_link_73 ?_
        refine lv_iload_n B.1 B.2.1 dX12_link_74 rfl (lv_at hl 3 rfl) ?_
        refine m_ist (k := 86) (i := 64) (n := 2400) B hM rfl rfl rfl (by decide) dX12_link_75 (by omega) (by omega) (show (-1 : Int) ≤ a_other from by first | omega | (simp only [wr_at]; omega)) (show a_other ≤ (199 : Int) from by first | omega | (simp only [wr_at]; omega)) (u1_up A [(89, (wr (A 89) ((12 * a_paper) + a_member) 1)), (86, (A 86))] 86 (wr (A 86) ((12 * a_paper) + a_member) a_other)) (fun H locs hM => ?_)
        replace hM : MWd D dA h0 ad (mF dA h0 ad (f, g, A, L) s.heap.size) s.heap (f, g, (up A [(89, (wr (A 89) ((12 * a_paper) + a_member) 1)), (86, (wr (A 86) ((12 * a_paper) + a_member) a_other))]), L) H locs := hM
        refine q_con B dX12_link_76 ?_
        subst hPST
        exact m_zret B hM dX12_link_77 (by omega) ⟨((wr (A 89) ((12 * a_paper) + a_member) 1)), ((wr (A 86) ((12 * a_paper) + a_member) a_other)), rfl, by trivial⟩
    · refine lv_aload_n B.1 B.2.1 dX12_link_15 rfl (lv_at hl 0 rfl) ?_
      refine lv_iload_n B.1 B.2.1 dX12_link_16 rfl (lv_at hl 3 rfl) ?_
      refine m_calli (n := 1) (rest := []) B hM hA hl.1 (k_isPaper l D dA h0 ad f g (up A [(89, (A 89)), (86, (A 86))]) L a_other (show (-2147483648 : Int) ≤ a_other ∧ (a_other : Int) ≤ 2147483647 from by first | omega | (simp only [wr_at]; omega) | assumption) ) rfl ok_isPaper nm_isPaper ⟨rfl, rfl⟩ ⟨Nat.le_of_ble_eq_true rfl, Nat.le_of_ble_eq_true rfl⟩ dX12_link_17 rfl rfl (Nat.le_of_ble_eq_true rfl) ⟨Nat.zero_le _, Nat.zero_le _⟩ (fun r10 σr10 H locs ir10 hp11 hM => ?_)
      obtain ⟨rfl, hp11⟩ := hp11
      unfold inr at ir10
      replace hp11 : 0 ≤ r10 ∧ r10 ≤ 1 ∧ (r10 = 1 ↔ 0 ≤ (a_other) ∧ (a_other) < (f 90)) := hp11
      obtain ⟨hp11_0, hp11_1, hp11_2⟩ := hp11
      refine q_ieq (tgt := 42) B dX12_link_20 (by decide) (by unfold inr; omega) (fun c12 => ?_) (fun c12 => ?_)
      · refine q_con B dX12_link_42 ?_
        subst hPST
        exact m_zret B hM dX12_link_43 (by omega) ⟨((A 89)), ((A 86)), rfl, by trivial⟩
      · refine lv_aload_n B.1 B.2.1 dX12_link_23 rfl (lv_at hl 0 rfl) ?_
        refine lv_iload_n B.1 B.2.1 dX12_link_24 rfl (lv_at hl 3 rfl) ?_
        refine lv_aload_n B.1 B.2.1 dX12_link_25 rfl (lv_at hl 0 rfl) ?_
        refine lv_aload_n B.1 B.2.1 dX12_link_26 rfl (lv_at hl 0 rfl) ?_
        refine m_geta (k := 83) B hM (by decide) rfl fl315 dX12_link_27 ?_
        refine lv_iload_n B.1 B.2.1 dX12_link_30 rfl (lv_at hl 1 rfl) ?_
        refine m_ild (k := 83) (i := 61) (n := 200) (z := a_paper) (v := (A 83) a_paper.toNat) B hM rfl rfl rfl (by decide) dX12_link_31 (by omega) (by omega) rfl ?_
        have r13 : (0 : Int) ≤ (A 83) a_paper.toNat ∧ (A 83) a_paper.toNat ≤ 15 := hM.2.2.2.2 83 a_paper.toNat
        refine lv_iload_n B.1 B.2.1 dX12_link_32 rfl (lv_at hl 2 rfl) ?_
        have hv14 : ((-2147483648 : Int) ≤ (A 83) a_paper.toNat ∧ ((A 83) a_paper.toNat : Int) ≤ 2147483647) ∧ ((-2147483648 : Int) ≤ a_member ∧ (a_member : Int) ≤ 2147483647) ∧ (0 ≤ ((A 83) a_paper.toNat)) ∧ (((A 83) a_paper.toNat) ≤ 15) ∧ (0 ≤ (a_member)) ∧ ((a_member) ≤ 11) := by first | omega | (simp only [wr_at]; omega) | exact ⟨by first | omega | (simp only [wr_at]; omega) | assumption, by first | omega | (simp only [wr_at]; omega) | assumption, by first | omega | (simp only [wr_at]; omega) | assumption, by first | omega | (simp only [wr_at]; omega) | assumption, by first | omega | (simp only [wr_at]; omega) | assumption, by first | omega | (simp only [wr_at]; omega) | assumption⟩
        refine m_calli (n := 2) (rest := [.int (II a_other), .ref h0]) B hM hA hl.1 (k_kindIn l D dA h0 ad f g (up A [(89, (A 89)), (86, (A 86))]) L ((A 83) a_paper.toNat) a_member hv14.1 hv14.2.1 hv14.2.2.1 hv14.2.2.2.1 hv14.2.2.2.2.1 hv14.2.2.2.2.2) rfl ok_kindIn nm_kindIn ⟨rfl, rfl⟩ ⟨Nat.le_of_ble_eq_true rfl, Nat.le_of_ble_eq_true rfl⟩ dX12_link_33 rfl rfl (Nat.le_of_ble_eq_true rfl) ⟨Nat.zero_le _, Nat.zero_le _⟩ (fun r15 σr15 H locs ir15 hp16 hM => ?_)
        obtain ⟨rfl, hp16⟩ := hp16
        unfold inr at ir15
        replace hp16 : r15 = (A 43) ((A 38) (12 * (16 * (f 3) + ((A 83) a_paper.toNat)) + (a_member)).toNat).toNat ∧ -1 ≤ r15 ∧ r15 ≤ 15 := hp16
        obtain ⟨hp16_0, hp16_1, hp16_2⟩ := hp16
        have hv17 : ((-2147483648 : Int) ≤ a_other ∧ (a_other : Int) ≤ 2147483647) ∧ ((-2147483648 : Int) ≤ r15 ∧ (r15 : Int) ≤ 2147483647) ∧ (0 ≤ (a_other)) ∧ ((a_other) < 200) ∧ ((0 < (f 60) → (A 34) (16 * (f 3)).toNat < 0)) ∧ (0 < (f 60)) := by first | omega | (simp only [wr_at]; omega) | exact ⟨by first | omega | (simp only [wr_at]; omega) | assumption, by first | omega | (simp only [wr_at]; omega) | assumption, by first | omega | (simp only [wr_at]; omega) | assumption, by first | omega | (simp only [wr_at]; omega) | assumption, by first | omega | (simp only [wr_at]; omega) | assumption, by first | omega | (simp only [wr_at]; omega) | assumption⟩
        refine m_calli (n := 2) (rest := []) B hM hA hl.1 (k_isOf l D dA h0 ad f g (up A [(89, (A 89)), (86, (A 86))]) L a_other r15 hv17.1 hv17.2.1 hv17.2.2.1 hv17.2.2.2.1 (show KU (A 34) from by first | assumption | exact KU_wr (by assumption) (by assumption) (by omega) (by omega)) hv17.2.2.2.2.1 hv17.2.2.2.2.2) rfl ok_isOf nm_isOf ⟨rfl, rfl⟩ ⟨Nat.le_of_ble_eq_true rfl, Nat.le_of_ble_eq_true rfl⟩ dX12_link_36 rfl rfl (Nat.le_of_ble_eq_true rfl) ⟨Nat.zero_le _, Nat.zero_le _⟩ (fun r18 σr18 H locs ir18 hp19 hM => ?_)
        obtain ⟨rfl, hp19⟩ := hp19
        unfold inr at ir18
        replace hp19 : 0 ≤ r18 ∧ r18 ≤ 1 := hp19
        obtain ⟨hp19_0, hp19_1⟩ := hp19
        refine q_ine (tgt := 44) B dX12_link_39 (by decide) (by unfold inr; omega) (fun c20 => ?_) (fun c20 => ?_)
        · refine lv_aload_n B.1 B.2.1 dX12_link_44 rfl (lv_at hl 0 rfl) ?_
          refine m_geta (k := 89) B hM (by decide) rfl fl334 dX12_link_45 ?_
          refine q_bip B dX12_link_48 (by decide) ?_
          refine lv_iload_n B.1 B.2.1 dX12_link_50 rfl (lv_at hl 1 rfl) ?_
          refine q_mul B dX12_link_51 ?_
          refine lv_iload_n B.1 B.2.1 dX12_link_52 rfl (lv_at hl 2 rfl) ?_
          refine q_add B dX12_link_53 ?_
          refine lv_iload_n B.1 B.2.1 dX12_link_54 rfl (lv_at hl 3 rfl) ?_
          refine q_ilt (tgt := 62) B dX12_link_55 (by decide) (by unfold inr; omega) (fun c21 => ?_) (fun c21 => ?_)
          · refine q_con B dX12_link_62 ?_
            refine m_zst (k := 89) (i := 67) (n := 2400) B hM rfl rfl rfl (by decide) dX12_link_63 (by omega) (by omega) (by omega) (show (0 : Int) ≤ 0 from by first | omega | (simp only [wr_at]; omega)) (show 0 ≤ (1 : Int) from by first | omega | (simp only [wr_at]; omega)) (u1_up A [(89, (A 89)), (86, (A 86))] 89 (wr (A 89) ((12 * a_paper) + a_member) 0)) (fun H locs hM => ?_)
            replace hM : MWd D dA h0 ad (mF dA h0 ad (f, g, A, L) s.heap.size) s.heap (f, g, (up A [(89, (wr (A 89) ((12 * a_paper) + a_member) 0)), (86, (A 86))]), L) H locs := hM
            refine lv_aload_n B.1 B.2.1 dX12_link_64 rfl (lv_at hl 0 rfl) ?_
            refine m_geta (k := 86) B hM (by decide) rfl fl324 dX12_link_65 ?_
            refine q_bip B dX12_link_68 (by decide) ?_
            refine lv_iload_n B.1 B.2.1 dX12_link_70 rfl (lv_at hl 1 rfl) ?_
            refine q_mul B dX12_link_71 ?_
            refine lv_iload_n B.1 B.2.1 dX12_link_72 rfl (lv_at hl 2 rfl) ?_
            refine q_add B dX12_link_73 ?_
            refine lv_iload_n B.1 B.2.1 dX12_link_74 rfl (lv_at hl 3 rfl) ?_
            refine m_ist (k := 86) (i := 64) (n := 2400) B hM rfl rfl rfl (by decide) dX12_link_75 (by omega) (by omega) (show (-1 : Int) ≤ a_other from by first | omega | (simp only [wr_at]; omega)) (show a_other ≤ (199 : Int) from by first | omega | (simp only [wr_at]; omega)) (u1_up A [(89, (wr (A 89) ((12 * a_paper) + a_member) 0)), (86, (A 86))] 86 (wr (A 86) ((12 * a_paper) + a_member) a_other)) (fun H locs hM => ?_)
            replace hM : MWd D dA h0 ad (mF dA h0 ad (f, g, A, L) s.heap.size) s.heap (f, g, (up A [(89, (wr (A 89) ((12 * a_paper) + a_member) 0)), (86, (wr (A 86) ((12 * a_paper) + a_member) a_other))]), L) H locs := hM
            refine q_con B dX12_link_76 ?_
            subst hPST
            exact m_zret B hM dX12_link_77 (by omega) ⟨((wr (A 89) ((12 * a_paper) + a_member) 0)), ((wr (A 86) ((12 * a_paper) + a_member) a_other)), rfl, by trivial⟩
          · refine q_con B dX12_link_58 ?_
            refine lv_goto (tgt := 63) B.1 B.2.1 dX12_link_59 (by decide) ?_
            refine m_zst (k := 89) (i := 67) (n := 2400) B hM rfl rfl rfl (by decide) dX12_link_63 (by omega) (by omega) (by omega) (show (0 : Int) ≤ 1 from by first | omega | (simp only [wr_at]; omega)) (show 1 ≤ (1 : Int) from by first | omega | (simp only [wr_at]; omega)) (u1_up A [(89, (A 89)), (86, (A 86))] 89 (wr (A 89) ((12 * a_paper) + a_member) 1)) (fun H locs hM => ?_)
            replace hM : MWd D dA h0 ad (mF dA h0 ad (f, g, A, L) s.heap.size) s.heap (f, g, (up A [(89, (wr (A 89) ((12 * a_paper) + a_member) 1)), (86, (A 86))]), L) H locs := hM
            refine lv_aload_n B.1 B.2.1 dX12_link_64 rfl (lv_at hl 0 rfl) ?_
            refine m_geta (k := 86) B hM (by decide) rfl fl324 dX12_link_65 ?_
            refine q_bip B dX12_link_68 (by decide) ?_
            refine lv_iload_n B.1 B.2.1 dX12_link_70 rfl (lv_at hl 1 rfl) ?_
            refine q_mul B dX12_link_71 ?_
            refine lv_iload_n B.1 B.2.1 dX12_link_72 rfl (lv_at hl 2 rfl) ?_
            refine q_add B dX12_link_73 ?_
            refine lv_iload_n B.1 B.2.1 dX12_link_74 rfl (lv_at hl 3 rfl) ?_
            refine m_ist (k := 86) (i := 64) (n := 2400) B hM rfl rfl rfl (by decide) dX12_link_75 (by omega) (by omega) (show (-1 : Int) ≤ a_other from by first | omega | (simp only [wr_at]; omega)) (show a_other ≤ (199 : Int) from by first | omega | (simp only [wr_at]; omega)) (u1_up A [(89, (wr (A 89) ((12 * a_paper) + a_member) 1)), (86, (A 86))] 86 (wr (A 86) ((12 * a_paper) + a_member) a_other)) (fun H locs hM => ?_)
            replace hM : MWd D dA h0 ad (mF dA h0 ad (f, g, A, L) s.heap.size) s.heap (f, g, (up A [(89, (wr (A 89) ((12 * a_paper) + a_member) 1)), (86, (wr (A 86) ((12 * a_paper) + a_member) a_other))]), L) H locs := hM
            refine q_con B dX12_link_76 ?_
            subst hPST
            exact m_zret B hM dX12_link_77 (by omega) ⟨((wr (A 89) ((12 * a_paper) + a_member) 1)), ((wr (A 86) ((12 * a_paper) + a_member) a_other)), rfl, by trivial⟩
        · refine q_con B dX12_link_42 ?_
          subst hPST
          exact m_zret B hM dX12_link_43 (by omega) ⟨((A 89)), ((A 86)), rfl, by trivial⟩
set_option maxHeartbeats 4000000 in
set_option maxRecDepth 20000 in
theorem k_item (l : Launch) (D : va_G) (dA : Nat → ClassId) (h0 : Nat) (ad : Nat → Nat) (f : Nat → Int) (g : Nat → Int64) (A : Nat → Nat → Int) (L : Nat → Nat → Int64) (a_paper : Int) (a_member : Int) (a_other : Int) (i_paper : (-2147483648 : Int) ≤ a_paper ∧ a_paper ≤ 2147483647) (i_member : (-2147483648 : Int) ≤ a_member ∧ a_member ≤ 2147483647) (i_other : (-2147483648 : Int) ≤ a_other ∧ a_other ≤ 2147483647) (p_0 : KU (A 34)) (p_1 : (0 < (f 60) → (A 34) (16 * (f 3)).toNat < 0)) (p_2 : (0 < (f 90) → 0 < (f 60))) : MCi l yX12_item cX12_item 5 (some .int) ({ frames := 2, cells := 0, slots := 0, locals := 45 }) D dA h0 ad (f, g, A, L) [.int (II a_paper), .int (II a_member), .int (II a_other)] (fun (r : Int) (σ : MS) => ∃ b88 : Nat → Int, ∃ b87 : Nat → Int, σ = (f, g, (up A [(88, b88), (87, b87)]), L) ∧ (True)) := by
  generalize hPST : (fun (r : Int) (σ : MS) => ∃ b88 : Nat → Int, ∃ b87 : Nat → Int, σ = (f, g, (up A [(88, b88), (87, b87)]), L) ∧ (True)) = PST
  refine m_enter (by decide) rfl (Nat.le_of_ble_eq_true rfl) (fun p e s m args below meth c ls B hM hl => ?_)
  have hA : ∀ q, s.heap.size ≤ q → mF dA h0 ad (f, g, A, L) s.heap.size q := fun q h => Or.inr h
  have hM : MWd D dA h0 ad (mF dA h0 ad (f, g, A, L) s.heap.size) s.heap (f, g, (up A [(88, (A 88)), (87, (A 87))]), L) s.heap [] := MW_pad hM rfl rfl (up_self A [88, 87]) rfl
  have hl : lv_has ls 5 [(0, .ref h0), (1, .int (II a_paper)), (2, .int (II a_member)), (3, .int (II a_other))] := hl
  have r1 : (0 : Int) ≤ f 3 ∧ f 3 ≤ 1 := hM.2.2.2.1 3
  have r2 : (0 : Int) ≤ f 60 ∧ f 60 ≤ 16 := hM.2.2.2.1 60
  have r3 : (0 : Int) ≤ f 90 ∧ f 90 ≤ 200 := hM.2.2.2.1 90
  refine lv_aload_n B.1 B.2.1 dX12_item_0 rfl (lv_at hl 0 rfl) ?_
  refine lv_iload_n B.1 B.2.1 dX12_item_1 rfl (lv_at hl 1 rfl) ?_
  refine lv_iload_n B.1 B.2.1 dX12_item_2 rfl (lv_at hl 2 rfl) ?_
  refine q_con B dX12_item_3 ?_
  have hv4 : ((-2147483648 : Int) ≤ a_paper ∧ (a_paper : Int) ≤ 2147483647) ∧ ((-2147483648 : Int) ≤ a_member ∧ (a_member : Int) ≤ 2147483647) ∧ ((-2147483648 : Int) ≤ 2 ∧ (2 : Int) ≤ 2147483647) := by first | omega | (simp only [wr_at]; omega) | exact ⟨by first | omega | (simp only [wr_at]; omega) | assumption, by first | omega | (simp only [wr_at]; omega) | assumption, by first | omega | (simp only [wr_at]; omega) | assumption⟩
  refine m_calli (n := 3) (rest := []) B hM hA hl.1 (k_has l D dA h0 ad f g (up A [(88, (A 88)), (87, (A 87))]) L a_paper a_member 2 hv4.1 hv4.2.1 hv4.2.2 ) rfl ok_has nm_has ⟨rfl, rfl⟩ ⟨Nat.le_of_ble_eq_true rfl, Nat.le_of_ble_eq_true rfl⟩ dX12_item_4 rfl rfl (Nat.le_of_ble_eq_true rfl) ⟨Nat.zero_le _, Nat.zero_le _⟩ (fun r5 σr5 H locs ir5 hp6 hM => ?_)
  obtain ⟨rfl, hp6⟩ := hp6
  unfold inr at ir5
  replace hp6 : 0 ≤ r5 ∧ r5 ≤ 1 ∧ (r5 = 1 → 0 ≤ (a_paper) ∧ (a_paper) < (f 90) ∧ 0 ≤ (a_member) ∧ (a_member) ≤ 11 ∧ (a_member) < (A 37) (16 * (f 3) + (A 83) ((a_paper)).toNat).toNat ∧ (A 42) ((A 38) (12 * (16 * (f 3) + (A 83) ((a_paper)).toNat) + (a_member)).toNat).toNat = (2 : Int)) := hp6
  obtain ⟨hp6_0, hp6_1, hp6_2⟩ := hp6
  refine q_ieq (tgt := 37) B dX12_item_7 (by decide) (by unfold inr; omega) (fun c7 => ?_) (fun c7 => ?_)
  · refine q_con B dX12_item_37 ?_
    subst hPST
    exact m_iret B hM dX12_item_38 (by unfold inr; omega) ⟨((A 88)), ((A 87)), rfl, by trivial⟩
  · refine lv_aload_n B.1 B.2.1 dX12_item_10 rfl (lv_at hl 0 rfl) ?_
    refine lv_iload_n B.1 B.2.1 dX12_item_11 rfl (lv_at hl 3 rfl) ?_
    refine m_calli (n := 1) (rest := []) B hM hA hl.1 (k_isPaper l D dA h0 ad f g (up A [(88, (A 88)), (87, (A 87))]) L a_other (show (-2147483648 : Int) ≤ a_other ∧ (a_other : Int) ≤ 2147483647 from by first | omega | (simp only [wr_at]; omega) | assumption) ) rfl ok_isPaper nm_isPaper ⟨rfl, rfl⟩ ⟨Nat.le_of_ble_eq_true rfl, Nat.le_of_ble_eq_true rfl⟩ dX12_item_12 rfl rfl (Nat.le_of_ble_eq_true rfl) ⟨Nat.zero_le _, Nat.zero_le _⟩ (fun r8 σr8 H locs ir8 hp9 hM => ?_)
    obtain ⟨rfl, hp9⟩ := hp9
    unfold inr at ir8
    replace hp9 : 0 ≤ r8 ∧ r8 ≤ 1 ∧ (r8 = 1 ↔ 0 ≤ (a_other) ∧ (a_other) < (f 90)) := hp9
    obtain ⟨hp9_0, hp9_1, hp9_2⟩ := hp9
    refine q_ieq (tgt := 37) B dX12_item_15 (by decide) (by unfold inr; omega) (fun c10 => ?_) (fun c10 => ?_)
    · refine q_con B dX12_item_37 ?_
      subst hPST
      exact m_iret B hM dX12_item_38 (by unfold inr; omega) ⟨((A 88)), ((A 87)), rfl, by trivial⟩
    · refine lv_aload_n B.1 B.2.1 dX12_item_18 rfl (lv_at hl 0 rfl) ?_
      refine lv_iload_n B.1 B.2.1 dX12_item_19 rfl (lv_at hl 3 rfl) ?_
      refine lv_aload_n B.1 B.2.1 dX12_item_20 rfl (lv_at hl 0 rfl) ?_
      refine lv_aload_n B.1 B.2.1 dX12_item_21 rfl (lv_at hl 0 rfl) ?_
      refine m_geta (k := 83) B hM (by decide) rfl fl315 dX12_item_22 ?_
      refine lv_iload_n B.1 B.2.1 dX12_item_25 rfl (lv_at hl 1 rfl) ?_
      refine m_ild (k := 83) (i := 61) (n := 200) (z := a_paper) (v := (A 83) a_paper.toNat) B hM rfl rfl rfl (by decide) dX12_item_26 (by omega) (by omega) rfl ?_
      have r11 : (0 : Int) ≤ (A 83) a_paper.toNat ∧ (A 83) a_paper.toNat ≤ 15 := hM.2.2.2.2 83 a_paper.toNat
      refine lv_iload_n B.1 B.2.1 dX12_item_27 rfl (lv_at hl 2 rfl) ?_
      have hv12 : ((-2147483648 : Int) ≤ (A 83) a_paper.toNat ∧ ((A 83) a_paper.toNat : Int) ≤ 2147483647) ∧ ((-2147483648 : Int) ≤ a_member ∧ (a_member : Int) ≤ 2147483647) ∧ (0 ≤ ((A 83) a_paper.toNat)) ∧ (((A 83) a_paper.toNat) ≤ 15) ∧ (0 ≤ (a_member)) ∧ ((a_member) ≤ 11) := by first | omega | (simp only [wr_at]; omega) | exact ⟨by first | omega | (simp only [wr_at]; omega) | assumption, by first | omega | (simp only [wr_at]; omega) | assumption, by first | omega | (simp only [wr_at]; omega) | assumption, by first | omega | (simp only [wr_at]; omega) | assumption, by first | omega | (simp only [wr_at]; omega) | assumption, by first | omega | (simp only [wr_at]; omega) | assumption⟩
      refine m_calli (n := 2) (rest := [.int (II a_other), .ref h0]) B hM hA hl.1 (k_kindIn l D dA h0 ad f g (up A [(88, (A 88)), (87, (A 87))]) L ((A 83) a_paper.toNat) a_member hv12.1 hv12.2.1 hv12.2.2.1 hv12.2.2.2.1 hv12.2.2.2.2.1 hv12.2.2.2.2.2) rfl ok_kindIn nm_kindIn ⟨rfl, rfl⟩ ⟨Nat.le_of_ble_eq_true rfl, Nat.le_of_ble_eq_true rfl⟩ dX12_item_28 rfl rfl (Nat.le_of_ble_eq_true rfl) ⟨Nat.zero_le _, Nat.zero_le _⟩ (fun r13 σr13 H locs ir13 hp14 hM => ?_)
      obtain ⟨rfl, hp14⟩ := hp14
      unfold inr at ir13
      replace hp14 : r13 = (A 43) ((A 38) (12 * (16 * (f 3) + ((A 83) a_paper.toNat)) + (a_member)).toNat).toNat ∧ -1 ≤ r13 ∧ r13 ≤ 15 := hp14
      obtain ⟨hp14_0, hp14_1, hp14_2⟩ := hp14
      have hv15 : ((-2147483648 : Int) ≤ a_other ∧ (a_other : Int) ≤ 2147483647) ∧ ((-2147483648 : Int) ≤ r13 ∧ (r13 : Int) ≤ 2147483647) ∧ (0 ≤ (a_other)) ∧ ((a_other) < 200) ∧ ((0 < (f 60) → (A 34) (16 * (f 3)).toNat < 0)) ∧ (0 < (f 60)) := by first | omega | (simp only [wr_at]; omega) | exact ⟨by first | omega | (simp only [wr_at]; omega) | assumption, by first | omega | (simp only [wr_at]; omega) | assumption, by first | omega | (simp only [wr_at]; omega) | assumption, by first | omega | (simp only [wr_at]; omega) | assumption, by first | omega | (simp only [wr_at]; omega) | assumption, by first | omega | (simp only [wr_at]; omega) | assumption⟩
      refine m_calli (n := 2) (rest := []) B hM hA hl.1 (k_isOf l D dA h0 ad f g (up A [(88, (A 88)), (87, (A 87))]) L a_other r13 hv15.1 hv15.2.1 hv15.2.2.1 hv15.2.2.2.1 (show KU (A 34) from by first | assumption | exact KU_wr (by assumption) (by assumption) (by omega) (by omega)) hv15.2.2.2.2.1 hv15.2.2.2.2.2) rfl ok_isOf nm_isOf ⟨rfl, rfl⟩ ⟨Nat.le_of_ble_eq_true rfl, Nat.le_of_ble_eq_true rfl⟩ dX12_item_31 rfl rfl (Nat.le_of_ble_eq_true rfl) ⟨Nat.zero_le _, Nat.zero_le _⟩ (fun r16 σr16 H locs ir16 hp17 hM => ?_)
      obtain ⟨rfl, hp17⟩ := hp17
      unfold inr at ir16
      replace hp17 : 0 ≤ r16 ∧ r16 ≤ 1 := hp17
      obtain ⟨hp17_0, hp17_1⟩ := hp17
      refine q_ine (tgt := 39) B dX12_item_34 (by decide) (by unfold inr; omega) (fun c18 => ?_) (fun c18 => ?_)
      · refine q_bip B dX12_item_39 (by decide) ?_
        refine lv_iload_n B.1 B.2.1 dX12_item_41 rfl (lv_at hl 1 rfl) ?_
        refine q_mul B dX12_item_42 ?_
        refine lv_iload_n B.1 B.2.1 dX12_item_43 rfl (lv_at hl 2 rfl) ?_
        refine q_add B dX12_item_44 ?_
        refine lv_istore (lv' := [(4, .int (II ((12 * a_paper) + a_member))), (0, .ref h0), (1, .int (II a_paper)), (2, .int (II a_member)), (3, .int (II a_other))]) B.1 B.2.1 dX12_item_45 hl (by decide) rfl (fun ls hl => ?_)
        refine lv_aload_n B.1 B.2.1 dX12_item_47 rfl (lv_at hl 1 rfl) ?_
        refine m_geta (k := 87) B hM (by decide) rfl fl327 dX12_item_48 ?_
        refine lv_iload B.1 B.2.1 dX12_item_51 (lv_at hl 0 rfl) ?_
        refine m_ild (k := 87) (i := 65) (n := 2400) (z := (12 * a_paper) + a_member) (v := (A 87) ((12 * a_paper) + a_member).toNat) B hM rfl rfl rfl (by decide) dX12_item_53 (by omega) (by omega) rfl ?_
        have r19 : (0 : Int) ≤ (A 87) ((12 * a_paper) + a_member).toNat ∧ (A 87) ((12 * a_paper) + a_member).toNat ≤ 20 := hM.2.2.2.2 87 ((12 * a_paper) + a_member).toNat
        refine q_bip B dX12_item_54 (by decide) ?_
        refine q_cne (tgt := 61) B dX12_item_56 (by decide) (by unfold inr; omega) (by unfold inr; omega) (fun c20 => ?_) (fun c20 => ?_)
        · refine lv_aload_n B.1 B.2.1 dX12_item_61 rfl (lv_at hl 1 rfl) ?_
          refine m_geta (k := 88) B hM (by decide) rfl fl331 dX12_item_62 ?_
          refine q_bip B dX12_item_65 (by decide) ?_
          refine lv_iload B.1 B.2.1 dX12_item_67 (lv_at hl 0 rfl) ?_
          refine q_mul B dX12_item_69 ?_
          refine lv_aload_n B.1 B.2.1 dX12_item_70 rfl (lv_at hl 1 rfl) ?_
          refine m_geta (k := 87) B hM (by decide) rfl fl327 dX12_item_71 ?_
          refine lv_iload B.1 B.2.1 dX12_item_74 (lv_at hl 0 rfl) ?_
          refine m_ild (k := 87) (i := 65) (n := 2400) (z := (12 * a_paper) + a_member) (v := (A 87) ((12 * a_paper) + a_member).toNat) B hM rfl rfl rfl (by decide) dX12_item_76 (by omega) (by omega) rfl ?_
          refine q_add B dX12_item_77 ?_
          refine lv_iload_n B.1 B.2.1 dX12_item_78 rfl (lv_at hl 4 rfl) ?_
          refine m_ist (k := 88) (i := 66) (n := 48000) B hM rfl rfl rfl (by decide) dX12_item_79 (by omega) (by omega) (show (0 : Int) ≤ a_other from by first | omega | (simp only [wr_at]; omega)) (show a_other ≤ (199 : Int) from by first | omega | (simp only [wr_at]; omega)) (u1_up A [(88, (A 88)), (87, (A 87))] 88 (wr (A 88) ((20 * ((12 * a_paper) + a_member)) + ((A 87) ((12 * a_paper) + a_member).toNat)) a_other)) (fun H locs hM => ?_)
          replace hM : MWd D dA h0 ad (mF dA h0 ad (f, g, A, L) s.heap.size) s.heap (f, g, (up A [(88, (wr (A 88) ((20 * ((12 * a_paper) + a_member)) + ((A 87) ((12 * a_paper) + a_member).toNat)) a_other)), (87, (A 87))]), L) H locs := hM
          refine lv_aload_n B.1 B.2.1 dX12_item_80 rfl (lv_at hl 1 rfl) ?_
          refine m_geta (k := 87) B hM (by decide) rfl fl327 dX12_item_81 ?_
          refine lv_iload B.1 B.2.1 dX12_item_84 (lv_at hl 0 rfl) ?_
          refine lv_dup2_11 B.1 B.2.1 dX12_item_86 rfl rfl ?_
          refine m_ild (k := 87) (i := 65) (n := 2400) (z := (12 * a_paper) + a_member) (v := (A 87) ((12 * a_paper) + a_member).toNat) B hM rfl rfl rfl (by decide) dX12_item_87 (by omega) (by omega) rfl ?_
          refine q_con B dX12_item_88 ?_
          refine q_add B dX12_item_89 ?_
          refine m_ist (k := 87) (i := 65) (n := 2400) B hM rfl rfl rfl (by decide) dX12_item_90 (by omega) (by omega) (show (0 : Int) ≤ ((A 87) ((12 * a_paper) + a_member).toNat) + 1 from by first | omega | (simp only [wr_at]; omega)) (show ((A 87) ((12 * a_paper) + a_member).toNat) + 1 ≤ (20 : Int) from by first | omega | (simp only [wr_at]; omega)) (u1_up A [(88, (wr (A 88) ((20 * ((12 * a_paper) + a_member)) + ((A 87) ((12 * a_paper) + a_member).toNat)) a_other)), (87, (A 87))] 87 (wr (A 87) ((12 * a_paper) + a_member) (((A 87) ((12 * a_paper) + a_member).toNat) + 1))) (fun H locs hM => ?_)
          replace hM : MWd D dA h0 ad (mF dA h0 ad (f, g, A, L) s.heap.size) s.heap (f, g, (up A [(88, (wr (A 88) ((20 * ((12 * a_paper) + a_member)) + ((A 87) ((12 * a_paper) + a_member).toNat)) a_other)), (87, (wr (A 87) ((12 * a_paper) + a_member) (((A 87) ((12 * a_paper) + a_member).toNat) + 1)))]), L) H locs := hM
          refine lv_aload_n B.1 B.2.1 dX12_item_91 rfl (lv_at hl 1 rfl) ?_
          refine m_geta (k := 87) B hM (by decide) rfl fl327 dX12_item_92 ?_
          refine lv_iload B.1 B.2.1 dX12_item_95 (lv_at hl 0 rfl) ?_
          refine m_ild (k := 87) (i := 65) (n := 2400) (z := (12 * a_paper) + a_member) (v := ((A 87) ((12 * a_paper) + a_member).toNat) + 1) B hM rfl rfl rfl (by decide) dX12_item_97 (by omega) (by omega) (by exact wr_at _ _ _) ?_
          subst hPST
          exact m_iret B hM dX12_item_98 (by unfold inr; omega) ⟨((wr (A 88) ((20 * ((12 * a_paper) + a_member)) + ((A 87) ((12 * a_paper) + a_member).toNat)) a_other)), ((wr (A 87) ((12 * a_paper) + a_member) (((A 87) ((12 * a_paper) + a_member).toNat) + 1))), rfl, by trivial⟩
        · refine q_con B dX12_item_59 ?_
          subst hPST
          exact m_iret B hM dX12_item_60 (by unfold inr; omega) ⟨((A 88)), ((A 87)), rfl, by trivial⟩
      · refine q_con B dX12_item_37 ?_
        subst hPST
        exact m_iret B hM dX12_item_38 (by unfold inr; omega) ⟨((A 88)), ((A 87)), rfl, by trivial⟩
set_option maxHeartbeats 4000000 in
set_option maxRecDepth 20000 in
theorem k_value (l : Launch) (D : va_G) (dA : Nat → ClassId) (h0 : Nat) (ad : Nat → Nat) (f : Nat → Int) (g : Nat → Int64) (A : Nat → Nat → Int) (L : Nat → Nat → Int64) (a_paper : Int) (a_member : Int) (a_what : Int) (i_paper : (-2147483648 : Int) ≤ a_paper ∧ a_paper ≤ 2147483647) (i_member : (-2147483648 : Int) ≤ a_member ∧ a_member ≤ 2147483647) (i_what : (-2147483648 : Int) ≤ a_what ∧ a_what ≤ 2147483647) : MCi l yX12_value cX12_value 7 (some .int) ({ frames := 1, cells := 0, slots := 0, locals := 22 }) D dA h0 ad (f, g, A, L) [.int (II a_paper), .int (II a_member), .int (II a_what)] (fun (r : Int) (σ : MS) => σ = (f, g, A, L) ∧ (True)) := by
  generalize hPST : (fun (r : Int) (σ : MS) => σ = (f, g, A, L) ∧ (True)) = PST
  refine m_enter (by decide) rfl (Nat.le_of_ble_eq_true rfl) (fun p e s m args below meth c ls B hM hl => ?_)
  have hA : ∀ q, s.heap.size ≤ q → mF dA h0 ad (f, g, A, L) s.heap.size q := fun q h => Or.inr h
  have hl : lv_has ls 7 [(0, .ref h0), (1, .int (II a_paper)), (2, .int (II a_member)), (3, .int (II a_what))] := hl
  have r1 : (0 : Int) ≤ f 3 ∧ f 3 ≤ 1 := hM.2.2.2.1 3
  have r2 : (0 : Int) ≤ f 90 ∧ f 90 ≤ 200 := hM.2.2.2.1 90
  refine lv_aload_n B.1 B.2.1 dX12_value_0 rfl (lv_at hl 0 rfl) ?_
  refine lv_iload_n B.1 B.2.1 dX12_value_1 rfl (lv_at hl 1 rfl) ?_
  refine m_calli (n := 1) (rest := []) B hM hA hl.1 (k_isPaper l D dA h0 ad f g A L a_paper (show (-2147483648 : Int) ≤ a_paper ∧ (a_paper : Int) ≤ 2147483647 from by first | omega | (simp only [wr_at]; omega) | assumption) ) rfl ok_isPaper nm_isPaper ⟨rfl, rfl⟩ ⟨Nat.le_of_ble_eq_true rfl, Nat.le_of_ble_eq_true rfl⟩ dX12_value_2 rfl rfl (Nat.le_of_ble_eq_true rfl) ⟨Nat.zero_le _, Nat.zero_le _⟩ (fun r3 σr3 H locs ir3 hp4 hM => ?_)
  obtain ⟨rfl, hp4⟩ := hp4
  unfold inr at ir3
  replace hp4 : 0 ≤ r3 ∧ r3 ≤ 1 ∧ (r3 = 1 ↔ 0 ≤ (a_paper) ∧ (a_paper) < (f 90)) := hp4
  obtain ⟨hp4_0, hp4_1, hp4_2⟩ := hp4
  refine q_ieq (tgt := 44) B dX12_value_5 (by decide) (by unfold inr; omega) (fun c5 => ?_) (fun c5 => ?_)
  · refine q_con B dX12_value_44 ?_
    subst hPST
    exact m_iret B hM dX12_value_45 (by unfold inr; omega) ⟨rfl, by trivial⟩
  · refine lv_iload_n B.1 B.2.1 dX12_value_8 rfl (lv_at hl 2 rfl) ?_
    refine q_ilt (tgt := 44) B dX12_value_9 (by decide) (by unfold inr; omega) (fun c6 => ?_) (fun c6 => ?_)
    · refine q_con B dX12_value_44 ?_
      subst hPST
      exact m_iret B hM dX12_value_45 (by unfold inr; omega) ⟨rfl, by trivial⟩
    · refine lv_iload_n B.1 B.2.1 dX12_value_12 rfl (lv_at hl 2 rfl) ?_
      refine lv_aload_n B.1 B.2.1 dX12_value_13 rfl (lv_at hl 0 rfl) ?_
      refine m_geta (k := 37) B hM (by decide) rfl fl205 dX12_value_14 ?_
      refine q_bip B dX12_value_17 (by decide) ?_
      refine lv_aload_n B.1 B.2.1 dX12_value_19 rfl (lv_at hl 0 rfl) ?_
      refine m_get (k := 3) (v := f 3) B hM (by decide) rfl fl11 dX12_value_20 rfl ?_
      refine q_mul B dX12_value_23 ?_
      refine lv_aload_n B.1 B.2.1 dX12_value_24 rfl (lv_at hl 0 rfl) ?_
      refine m_geta (k := 83) B hM (by decide) rfl fl315 dX12_value_25 ?_
      refine lv_iload_n B.1 B.2.1 dX12_value_28 rfl (lv_at hl 1 rfl) ?_
      refine m_ild (k := 83) (i := 61) (n := 200) (z := a_paper) (v := (A 83) a_paper.toNat) B hM rfl rfl rfl (by decide) dX12_value_29 (by omega) (by omega) rfl ?_
      have r7 : (0 : Int) ≤ (A 83) a_paper.toNat ∧ (A 83) a_paper.toNat ≤ 15 := hM.2.2.2.2 83 a_paper.toNat
      refine q_add B dX12_value_30 ?_
      refine m_ild (k := 37) (i := 25) (n := 32) (z := (16 * (f 3)) + ((A 83) a_paper.toNat)) (v := (A 37) ((16 * (f 3)) + ((A 83) a_paper.toNat)).toNat) B hM rfl rfl rfl (by decide) dX12_value_31 (by omega) (by omega) rfl ?_
      have r8 : (0 : Int) ≤ (A 37) ((16 * (f 3)) + ((A 83) a_paper.toNat)).toNat ∧ (A 37) ((16 * (f 3)) + ((A 83) a_paper.toNat)).toNat ≤ 12 := hM.2.2.2.2 37 ((16 * (f 3)) + ((A 83) a_paper.toNat)).toNat
      refine q_cge (tgt := 44) B dX12_value_32 (by decide) (by unfold inr; omega) (by unfold inr; omega) (fun c9 => ?_) (fun c9 => ?_)
      · refine q_con B dX12_value_44 ?_
        subst hPST
        exact m_iret B hM dX12_value_45 (by unfold inr; omega) ⟨rfl, by trivial⟩
      · refine lv_iload_n B.1 B.2.1 dX12_value_35 rfl (lv_at hl 3 rfl) ?_
        refine q_ilt (tgt := 44) B dX12_value_36 (by decide) (by unfold inr; omega) (fun c10 => ?_) (fun c10 => ?_)
        · refine q_con B dX12_value_44 ?_
          subst hPST
          exact m_iret B hM dX12_value_45 (by unfold inr; omega) ⟨rfl, by trivial⟩
        · refine lv_iload_n B.1 B.2.1 dX12_value_39 rfl (lv_at hl 3 rfl) ?_
          refine q_con B dX12_value_40 ?_
          refine q_cle (tgt := 46) B dX12_value_41 (by decide) (by unfold inr; omega) (by unfold inr; omega) (fun c11 => ?_) (fun c11 => ?_)
          · refine q_bip B dX12_value_46 (by decide) ?_
            refine lv_iload_n B.1 B.2.1 dX12_value_48 rfl (lv_at hl 1 rfl) ?_
            refine q_mul B dX12_value_49 ?_
            refine lv_iload_n B.1 B.2.1 dX12_value_50 rfl (lv_at hl 2 rfl) ?_
            refine q_add B dX12_value_51 ?_
            refine lv_istore (lv' := [(4, .int (II ((12 * a_paper) + a_member))), (0, .ref h0), (1, .int (II a_paper)), (2, .int (II a_member)), (3, .int (II a_what))]) B.1 B.2.1 dX12_value_52 hl (by decide) rfl (fun ls hl => ?_)
            refine lv_aload_n B.1 B.2.1 dX12_value_54 rfl (lv_at hl 1 rfl) ?_
            refine lv_aload_n B.1 B.2.1 dX12_value_55 rfl (lv_at hl 1 rfl) ?_
            refine m_geta (k := 83) B hM (by decide) rfl fl315 dX12_value_56 ?_
            refine lv_iload_n B.1 B.2.1 dX12_value_59 rfl (lv_at hl 2 rfl) ?_
            refine m_ild (k := 83) (i := 61) (n := 200) (z := a_paper) (v := (A 83) a_paper.toNat) B hM rfl rfl rfl (by decide) dX12_value_60 (by omega) (by omega) rfl ?_
            refine lv_iload_n B.1 B.2.1 dX12_value_61 rfl (lv_at hl 3 rfl) ?_
            have hv12 : ((-2147483648 : Int) ≤ (A 83) a_paper.toNat ∧ ((A 83) a_paper.toNat : Int) ≤ 2147483647) ∧ ((-2147483648 : Int) ≤ a_member ∧ (a_member : Int) ≤ 2147483647) ∧ (0 ≤ ((A 83) a_paper.toNat)) ∧ (((A 83) a_paper.toNat) ≤ 15) ∧ ((a_member) ≤ 11) := by first | omega | (simp only [wr_at]; omega) | exact ⟨by first | omega | (simp only [wr_at]; omega) | assumption, by first | omega | (simp only [wr_at]; omega) | assumption, by first | omega | (simp only [wr_at]; omega) | assumption, by first | omega | (simp only [wr_at]; omega) | assumption, by first | omega | (simp only [wr_at]; omega) | assumption⟩
            refine m_calli (n := 2) (rest := []) B hM hA hl.1 (k_typeOf l D dA h0 ad f g A L ((A 83) a_paper.toNat) a_member hv12.1 hv12.2.1 hv12.2.2.1 hv12.2.2.2.1 hv12.2.2.2.2) rfl ok_typeOf nm_typeOf ⟨rfl, rfl⟩ ⟨Nat.le_of_ble_eq_true rfl, Nat.le_of_ble_eq_true rfl⟩ dX12_value_62 rfl rfl (Nat.le_of_ble_eq_true rfl) ⟨Nat.zero_le _, Nat.zero_le _⟩ (fun r13 σr13 H locs ir13 hp14 hM => ?_)
            obtain ⟨rfl, hp14⟩ := hp14
            unfold inr at ir13
            replace hp14 : ((a_member) < 0 → r13 = -1) ∧ (0 ≤ (a_member) → r13 = (A 42) ((A 38) (12 * (16 * (f 3) + ((A 83) a_paper.toNat)) + (a_member)).toNat).toNat) ∧ -1 ≤ r13 ∧ r13 ≤ 3 ∧ (0 ≤ (a_member) → 0 ≤ r13) := hp14
            obtain ⟨hp14_0, hp14_1, hp14_2, hp14_3, hp14_4⟩ := hp14
            refine lv_istore (lv' := [(5, .int (II r13)), (4, .int (II ((12 * a_paper) + a_member))), (0, .ref h0), (1, .int (II a_paper)), (2, .int (II a_member)), (3, .int (II a_what))]) B.1 B.2.1 dX12_value_65 hl (by decide) rfl (fun ls hl => ?_)
            refine lv_iload B.1 B.2.1 dX12_value_67 (lv_at hl 0 rfl) ?_
            refine q_con B dX12_value_69 ?_
            refine q_ceq (tgt := 83) B dX12_value_70 (by decide) (by unfold inr; omega) (by unfold inr; omega) (fun c15 => ?_) (fun c15 => ?_)
            · refine q_con B dX12_value_83 ?_
              refine lv_goto (tgt := 88) B.1 B.2.1 dX12_value_84 (by decide) ?_
              refine lv_istore (lv' := [(6, .int (II 1)), (5, .int (II r13)), (4, .int (II ((12 * a_paper) + a_member))), (0, .ref h0), (1, .int (II a_paper)), (2, .int (II a_member)), (3, .int (II a_what))]) B.1 B.2.1 dX12_value_88 hl (by decide) rfl (fun ls hl => ?_)
              refine lv_iload_n B.1 B.2.1 dX12_value_90 rfl (lv_at hl 6 rfl) ?_
              refine q_ine (tgt := 105) B dX12_value_91 (by decide) (by unfold inr; omega) (fun c16 => ?_) (fun c16 => ?_)
              · refine lv_iload B.1 B.2.1 dX12_value_105 (lv_at hl 0 rfl) ?_
                refine q_ine (tgt := 114) B dX12_value_107 (by decide) (by unfold inr; omega) (fun _ => ?_) (fun c17 => absurd c17 (by omega))
                refine lv_iload B.1 B.2.1 dX12_value_114 (lv_at hl 1 rfl) ?_
                refine q_ine (tgt := 129) B dX12_value_116 (by decide) (by unfold inr; omega) (fun c18 => ?_) (fun c18 => ?_)
                · refine lv_iload B.1 B.2.1 dX12_value_129 (lv_at hl 1 rfl) ?_
                  refine q_con B dX12_value_131 ?_
                  refine q_cne (tgt := 145) B dX12_value_132 (by decide) (by unfold inr; omega) (by unfold inr; omega) (fun c19 => ?_) (fun c19 => ?_)
                  · refine lv_iload B.1 B.2.1 dX12_value_145 (lv_at hl 1 rfl) ?_
                    refine q_con B dX12_value_147 ?_
                    refine q_cne (tgt := 161) B dX12_value_148 (by decide) (by unfold inr; omega) (by unfold inr; omega) (fun c20 => ?_) (fun c20 => ?_)
                    · refine lv_aload_n B.1 B.2.1 dX12_value_161 rfl (lv_at hl 3 rfl) ?_
                      refine m_geta (k := 86) B hM (by decide) rfl fl324 dX12_value_162 ?_
                      refine lv_iload B.1 B.2.1 dX12_value_165 (lv_at hl 2 rfl) ?_
                      refine m_ild (k := 86) (i := 64) (n := 2400) (z := (12 * a_paper) + a_member) (v := (A 86) ((12 * a_paper) + a_member).toNat) B hM rfl rfl rfl (by decide) dX12_value_167 (by omega) (by omega) rfl ?_
                      have r21 : (-1 : Int) ≤ (A 86) ((12 * a_paper) + a_member).toNat ∧ (A 86) ((12 * a_paper) + a_member).toNat ≤ 199 := hM.2.2.2.2 86 ((12 * a_paper) + a_member).toNat
                      subst hPST
                      exact m_iret B hM dX12_value_168 (by unfold inr; omega) ⟨rfl, by trivial⟩
                    · refine lv_aload_n B.1 B.2.1 dX12_value_151 rfl (lv_at hl 3 rfl) ?_
                      refine m_geta (k := 87) B hM (by decide) rfl fl327 dX12_value_152 ?_
                      refine lv_iload B.1 B.2.1 dX12_value_155 (lv_at hl 2 rfl) ?_
                      refine m_ild (k := 87) (i := 65) (n := 2400) (z := (12 * a_paper) + a_member) (v := (A 87) ((12 * a_paper) + a_member).toNat) B hM rfl rfl rfl (by decide) dX12_value_157 (by omega) (by omega) rfl ?_
                      have r22 : (0 : Int) ≤ (A 87) ((12 * a_paper) + a_member).toNat ∧ (A 87) ((12 * a_paper) + a_member).toNat ≤ 20 := hM.2.2.2.2 87 ((12 * a_paper) + a_member).toNat
                      refine lv_goto (tgt := 168) B.1 B.2.1 dX12_value_158 (by decide) ?_
                      subst hPST
                      exact m_iret B hM dX12_value_168 (by unfold inr; omega) ⟨rfl, by trivial⟩
                  · refine lv_aload_n B.1 B.2.1 dX12_value_135 rfl (lv_at hl 3 rfl) ?_
                    refine m_geta (k := 85) B hM (by decide) rfl fl321 dX12_value_136 ?_
                    refine lv_iload B.1 B.2.1 dX12_value_139 (lv_at hl 2 rfl) ?_
                    refine m_ild (k := 85) (i := 63) (n := 2400) (z := (12 * a_paper) + a_member) (v := (A 85) ((12 * a_paper) + a_member).toNat) B hM rfl rfl rfl (by decide) dX12_value_141 (by omega) (by omega) rfl ?_
                    have r23 : (-2147483648 : Int) ≤ (A 85) ((12 * a_paper) + a_member).toNat ∧ (A 85) ((12 * a_paper) + a_member).toNat ≤ 2147483647 := hM.2.2.2.2 85 ((12 * a_paper) + a_member).toNat
                    refine lv_goto (tgt := 168) B.1 B.2.1 dX12_value_142 (by decide) ?_
                    subst hPST
                    exact m_iret B hM dX12_value_168 (by unfold inr; omega) ⟨rfl, by trivial⟩
                · refine lv_aload_n B.1 B.2.1 dX12_value_119 rfl (lv_at hl 3 rfl) ?_
                  refine m_geta (k := 84) B hM (by decide) rfl fl318 dX12_value_120 ?_
                  refine lv_iload B.1 B.2.1 dX12_value_123 (lv_at hl 2 rfl) ?_
                  refine m_ild (k := 84) (i := 62) (n := 2400) (z := (12 * a_paper) + a_member) (v := (A 84) ((12 * a_paper) + a_member).toNat) B hM rfl rfl rfl (by decide) dX12_value_125 (by omega) (by omega) rfl ?_
                  have r24 : (-2147483648 : Int) ≤ (A 84) ((12 * a_paper) + a_member).toNat ∧ (A 84) ((12 * a_paper) + a_member).toNat ≤ 2147483647 := hM.2.2.2.2 84 ((12 * a_paper) + a_member).toNat
                  refine lv_goto (tgt := 168) B.1 B.2.1 dX12_value_126 (by decide) ?_
                  subst hPST
                  exact m_iret B hM dX12_value_168 (by unfold inr; omega) ⟨rfl, by trivial⟩
              · refine lv_iload B.1 B.2.1 dX12_value_94 (lv_at hl 0 rfl) ?_
                refine q_ieq (tgt := 103) B dX12_value_96 (by decide) (by unfold inr; omega) (fun c25 => absurd c25 (by omega)) (fun _ => ?_)
                refine q_con B dX12_value_99 ?_
                refine lv_goto (tgt := 104) B.1 B.2.1 dX12_value_100 (by decide) ?_
                subst hPST
                exact m_iret B hM dX12_value_104 (by unfold inr; omega) ⟨rfl, by trivial⟩
            · refine lv_aload_n B.1 B.2.1 dX12_value_73 rfl (lv_at hl 2 rfl) ?_
              refine m_geta (k := 89) B hM (by decide) rfl fl334 dX12_value_74 ?_
              refine lv_iload B.1 B.2.1 dX12_value_77 (lv_at hl 1 rfl) ?_
              refine m_zld (k := 89) (i := 67) (n := 2400) (z := (12 * a_paper) + a_member) (v := (A 89) ((12 * a_paper) + a_member).toNat) B hM rfl rfl rfl (by decide) dX12_value_79 (by omega) (by omega) rfl ?_
              have r26 : (0 : Int) ≤ (A 89) ((12 * a_paper) + a_member).toNat ∧ (A 89) ((12 * a_paper) + a_member).toNat ≤ 1 := hM.2.2.2.2 89 ((12 * a_paper) + a_member).toNat
              refine q_ieq (tgt := 87) B dX12_value_80 (by decide) (by unfold inr; omega) (fun c27 => ?_) (fun c27 => ?_)
              · refine q_con B dX12_value_87 ?_
                refine lv_istore (lv' := [(6, .int (II 0)), (5, .int (II r13)), (4, .int (II ((12 * a_paper) + a_member))), (0, .ref h0), (1, .int (II a_paper)), (2, .int (II a_member)), (3, .int (II a_what))]) B.1 B.2.1 dX12_value_88 hl (by decide) rfl (fun ls hl => ?_)
                refine lv_iload_n B.1 B.2.1 dX12_value_90 rfl (lv_at hl 6 rfl) ?_
                refine q_ine (tgt := 105) B dX12_value_91 (by decide) (by unfold inr; omega) (fun c28 => ?_) (fun c28 => ?_)
                · refine lv_iload B.1 B.2.1 dX12_value_105 (lv_at hl 0 rfl) ?_
                  refine q_ine (tgt := 114) B dX12_value_107 (by decide) (by unfold inr; omega) (fun c29 => absurd c29 (by omega)) (fun _ => ?_)
                  refine q_con B dX12_value_110 ?_
                  refine lv_goto (tgt := 168) B.1 B.2.1 dX12_value_111 (by decide) ?_
                  subst hPST
                  exact m_iret B hM dX12_value_168 (by unfold inr; omega) ⟨rfl, by trivial⟩
                · refine lv_iload B.1 B.2.1 dX12_value_94 (lv_at hl 0 rfl) ?_
                  refine q_ieq (tgt := 103) B dX12_value_96 (by decide) (by unfold inr; omega) (fun _ => ?_) (fun c30 => absurd c30 (by omega))
                  refine q_con B dX12_value_103 ?_
                  subst hPST
                  exact m_iret B hM dX12_value_104 (by unfold inr; omega) ⟨rfl, by trivial⟩
              · refine q_con B dX12_value_83 ?_
                refine lv_goto (tgt := 88) B.1 B.2.1 dX12_value_84 (by decide) ?_
                refine lv_istore (lv' := [(6, .int (II 1)), (5, .int (II r13)), (4, .int (II ((12 * a_paper) + a_member))), (0, .ref h0), (1, .int (II a_paper)), (2, .int (II a_member)), (3, .int (II a_what))]) B.1 B.2.1 dX12_value_88 hl (by decide) rfl (fun ls hl => ?_)
                refine lv_iload_n B.1 B.2.1 dX12_value_90 rfl (lv_at hl 6 rfl) ?_
                refine q_ine (tgt := 105) B dX12_value_91 (by decide) (by unfold inr; omega) (fun c31 => ?_) (fun c31 => ?_)
                · refine lv_iload B.1 B.2.1 dX12_value_105 (lv_at hl 0 rfl) ?_
                  refine q_ine (tgt := 114) B dX12_value_107 (by decide) (by unfold inr; omega) (fun _ => ?_) (fun c32 => absurd c32 (by omega))
                  refine lv_iload B.1 B.2.1 dX12_value_114 (lv_at hl 1 rfl) ?_
                  refine q_ine (tgt := 129) B dX12_value_116 (by decide) (by unfold inr; omega) (fun c33 => ?_) (fun c33 => ?_)
                  · refine lv_iload B.1 B.2.1 dX12_value_129 (lv_at hl 1 rfl) ?_
                    refine q_con B dX12_value_131 ?_
                    refine q_cne (tgt := 145) B dX12_value_132 (by decide) (by unfold inr; omega) (by unfold inr; omega) (fun c34 => ?_) (fun c34 => ?_)
                    · refine lv_iload B.1 B.2.1 dX12_value_145 (lv_at hl 1 rfl) ?_
                      refine q_con B dX12_value_147 ?_
                      refine q_cne (tgt := 161) B dX12_value_148 (by decide) (by unfold inr; omega) (by unfold inr; omega) (fun c35 => ?_) (fun c35 => ?_)
                      · refine lv_aload_n B.1 B.2.1 dX12_value_161 rfl (lv_at hl 3 rfl) ?_
                        refine m_geta (k := 86) B hM (by decide) rfl fl324 dX12_value_162 ?_
                        refine lv_iload B.1 B.2.1 dX12_value_165 (lv_at hl 2 rfl) ?_
                        refine m_ild (k := 86) (i := 64) (n := 2400) (z := (12 * a_paper) + a_member) (v := (A 86) ((12 * a_paper) + a_member).toNat) B hM rfl rfl rfl (by decide) dX12_value_167 (by omega) (by omega) rfl ?_
                        have r36 : (-1 : Int) ≤ (A 86) ((12 * a_paper) + a_member).toNat ∧ (A 86) ((12 * a_paper) + a_member).toNat ≤ 199 := hM.2.2.2.2 86 ((12 * a_paper) + a_member).toNat
                        subst hPST
                        exact m_iret B hM dX12_value_168 (by unfold inr; omega) ⟨rfl, by trivial⟩
                      · refine lv_aload_n B.1 B.2.1 dX12_value_151 rfl (lv_at hl 3 rfl) ?_
                        refine m_geta (k := 87) B hM (by decide) rfl fl327 dX12_value_152 ?_
                        refine lv_iload B.1 B.2.1 dX12_value_155 (lv_at hl 2 rfl) ?_
                        refine m_ild (k := 87) (i := 65) (n := 2400) (z := (12 * a_paper) + a_member) (v := (A 87) ((12 * a_paper) + a_member).toNat) B hM rfl rfl rfl (by decide) dX12_value_157 (by omega) (by omega) rfl ?_
                        have r37 : (0 : Int) ≤ (A 87) ((12 * a_paper) + a_member).toNat ∧ (A 87) ((12 * a_paper) + a_member).toNat ≤ 20 := hM.2.2.2.2 87 ((12 * a_paper) + a_member).toNat
                        refine lv_goto (tgt := 168) B.1 B.2.1 dX12_value_158 (by decide) ?_
                        subst hPST
                        exact m_iret B hM dX12_value_168 (by unfold inr; omega) ⟨rfl, by trivial⟩
                    · refine lv_aload_n B.1 B.2.1 dX12_value_135 rfl (lv_at hl 3 rfl) ?_
                      refine m_geta (k := 85) B hM (by decide) rfl fl321 dX12_value_136 ?_
                      refine lv_iload B.1 B.2.1 dX12_value_139 (lv_at hl 2 rfl) ?_
                      refine m_ild (k := 85) (i := 63) (n := 2400) (z := (12 * a_paper) + a_member) (v := (A 85) ((12 * a_paper) + a_member).toNat) B hM rfl rfl rfl (by decide) dX12_value_141 (by omega) (by omega) rfl ?_
                      have r38 : (-2147483648 : Int) ≤ (A 85) ((12 * a_paper) + a_member).toNat ∧ (A 85) ((12 * a_paper) + a_member).toNat ≤ 2147483647 := hM.2.2.2.2 85 ((12 * a_paper) + a_member).toNat
                      refine lv_goto (tgt := 168) B.1 B.2.1 dX12_value_142 (by decide) ?_
                      subst hPST
                      exact m_iret B hM dX12_value_168 (by unfold inr; omega) ⟨rfl, by trivial⟩
                  · refine lv_aload_n B.1 B.2.1 dX12_value_119 rfl (lv_at hl 3 rfl) ?_
                    refine m_geta (k := 84) B hM (by decide) rfl fl318 dX12_value_120 ?_
                    refine lv_iload B.1 B.2.1 dX12_value_123 (lv_at hl 2 rfl) ?_
                    refine m_ild (k := 84) (i := 62) (n := 2400) (z := (12 * a_paper) + a_member) (v := (A 84) ((12 * a_paper) + a_member).toNat) B hM rfl rfl rfl (by decide) dX12_value_125 (by omega) (by omega) rfl ?_
                    have r39 : (-2147483648 : Int) ≤ (A 84) ((12 * a_paper) + a_member).toNat ∧ (A 84) ((12 * a_paper) + a_member).toNat ≤ 2147483647 := hM.2.2.2.2 84 ((12 * a_paper) + a_member).toNat
                    refine lv_goto (tgt := 168) B.1 B.2.1 dX12_value_126 (by decide) ?_
                    subst hPST
                    exact m_iret B hM dX12_value_168 (by unfold inr; omega) ⟨rfl, by trivial⟩
                · refine lv_iload B.1 B.2.1 dX12_value_94 (lv_at hl 0 rfl) ?_
                  refine q_ieq (tgt := 103) B dX12_value_96 (by decide) (by unfold inr; omega) (fun c40 => absurd c40 (by omega)) (fun _ => ?_)
                  refine q_con B dX12_value_99 ?_
                  refine lv_goto (tgt := 104) B.1 B.2.1 dX12_value_100 (by decide) ?_
                  subst hPST
                  exact m_iret B hM dX12_value_104 (by unfold inr; omega) ⟨rfl, by trivial⟩
          · refine q_con B dX12_value_44 ?_
            subst hPST
            exact m_iret B hM dX12_value_45 (by unfold inr; omega) ⟨rfl, by trivial⟩
set_option maxHeartbeats 4000000 in
set_option maxRecDepth 20000 in
theorem k_misuse (l : Launch) (D : va_G) (dA : Nat → ClassId) (h0 : Nat) (ad : Nat → Nat) (f : Nat → Int) (g : Nat → Int64) (A : Nat → Nat → Int) (L : Nat → Nat → Int64) (a_k : Int) (a_what : Int) (i_k : (-2147483648 : Int) ≤ a_k ∧ a_k ≤ 2147483647) (i_what : (-2147483648 : Int) ≤ a_what ∧ a_what ≤ 2147483647) : MCi l yX12_misuse cX12_misuse 3 (some .int) ({ frames := 0, cells := 0, slots := 0, locals := 0 }) D dA h0 ad (f, g, A, L) [.int (II a_k), .int (II a_what)] (fun (r : Int) (σ : MS) => σ = (f, g, A, L) ∧ (True)) := by
  generalize hPST : (fun (r : Int) (σ : MS) => σ = (f, g, A, L) ∧ (True)) = PST
  refine m_enter (by decide) rfl (Nat.le_of_ble_eq_true rfl) (fun p e s m args below meth c ls B hM hl => ?_)
  have hA : ∀ q, s.heap.size ≤ q → mF dA h0 ad (f, g, A, L) s.heap.size q := fun q h => Or.inr h
  have hl : lv_has ls 3 [(0, .ref h0), (1, .int (II a_k)), (2, .int (II a_what))] := hl
  refine lv_iload_n B.1 B.2.1 dX12_misuse_0 rfl (lv_at hl 1 rfl) ?_
  refine q_ilt (tgt := 12) B dX12_misuse_1 (by decide) (by unfold inr; omega) (fun c1 => ?_) (fun c1 => ?_)
  · refine q_con B dX12_misuse_12 ?_
    subst hPST
    exact m_iret B hM dX12_misuse_13 (by unfold inr; omega) ⟨rfl, by trivial⟩
  · refine lv_iload_n B.1 B.2.1 dX12_misuse_4 rfl (lv_at hl 1 rfl) ?_
    refine lv_aload_n B.1 B.2.1 dX12_misuse_5 rfl (lv_at hl 0 rfl) ?_
    refine m_get (k := 77) (v := f 77) B hM (by decide) rfl fl547 dX12_misuse_6 rfl ?_
    have r2 : (0 : Int) ≤ f 77 ∧ f 77 ≤ 200 := hM.2.2.2.1 77
    refine q_clt (tgt := 14) B dX12_misuse_9 (by decide) (by unfold inr; omega) (by unfold inr; omega) (fun c3 => ?_) (fun c3 => ?_)
    · refine lv_iload_n B.1 B.2.1 dX12_misuse_14 rfl (lv_at hl 2 rfl) ?_
      refine q_ine (tgt := 27) B dX12_misuse_15 (by decide) (by unfold inr; omega) (fun c4 => ?_) (fun c4 => ?_)
      · refine lv_iload_n B.1 B.2.1 dX12_misuse_27 rfl (lv_at hl 2 rfl) ?_
        refine q_con B dX12_misuse_28 ?_
        refine q_cne (tgt := 41) B dX12_misuse_29 (by decide) (by unfold inr; omega) (by unfold inr; omega) (fun c5 => ?_) (fun c5 => ?_)
        · refine lv_iload_n B.1 B.2.1 dX12_misuse_41 rfl (lv_at hl 2 rfl) ?_
          refine q_con B dX12_misuse_42 ?_
          refine q_cne (tgt := 55) B dX12_misuse_43 (by decide) (by unfold inr; omega) (by unfold inr; omega) (fun c6 => ?_) (fun c6 => ?_)
          · refine lv_iload_n B.1 B.2.1 dX12_misuse_55 rfl (lv_at hl 2 rfl) ?_
            refine q_con B dX12_misuse_56 ?_
            refine q_cne (tgt := 69) B dX12_misuse_57 (by decide) (by unfold inr; omega) (by unfold inr; omega) (fun c7 => ?_) (fun c7 => ?_)
            · refine q_con B dX12_misuse_69 ?_
              subst hPST
              exact m_iret B hM dX12_misuse_70 (by unfold inr; omega) ⟨rfl, by trivial⟩
            · refine lv_aload_n B.1 B.2.1 dX12_misuse_60 rfl (lv_at hl 0 rfl) ?_
              refine m_geta (k := 76) B hM (by decide) rfl fl300 dX12_misuse_61 ?_
              refine lv_iload_n B.1 B.2.1 dX12_misuse_64 rfl (lv_at hl 1 rfl) ?_
              refine m_ild (k := 76) (i := 56) (n := 200) (z := a_k) (v := (A 76) a_k.toNat) B hM rfl rfl rfl (by decide) dX12_misuse_65 (by omega) (by omega) rfl ?_
              have r8 : (-2147483648 : Int) ≤ (A 76) a_k.toNat ∧ (A 76) a_k.toNat ≤ 2147483647 := hM.2.2.2.2 76 a_k.toNat
              refine lv_goto (tgt := 70) B.1 B.2.1 dX12_misuse_66 (by decide) ?_
              subst hPST
              exact m_iret B hM dX12_misuse_70 (by unfold inr; omega) ⟨rfl, by trivial⟩
          · refine lv_aload_n B.1 B.2.1 dX12_misuse_46 rfl (lv_at hl 0 rfl) ?_
            refine m_geta (k := 75) B hM (by decide) rfl fl297 dX12_misuse_47 ?_
            refine lv_iload_n B.1 B.2.1 dX12_misuse_50 rfl (lv_at hl 1 rfl) ?_
            refine m_ild (k := 75) (i := 55) (n := 200) (z := a_k) (v := (A 75) a_k.toNat) B hM rfl rfl rfl (by decide) dX12_misuse_51 (by omega) (by omega) rfl ?_
            have r9 : (-2147483648 : Int) ≤ (A 75) a_k.toNat ∧ (A 75) a_k.toNat ≤ 2147483647 := hM.2.2.2.2 75 a_k.toNat
            refine lv_goto (tgt := 70) B.1 B.2.1 dX12_misuse_52 (by decide) ?_
            subst hPST
            exact m_iret B hM dX12_misuse_70 (by unfold inr; omega) ⟨rfl, by trivial⟩
        · refine lv_aload_n B.1 B.2.1 dX12_misuse_32 rfl (lv_at hl 0 rfl) ?_
          refine m_geta (k := 74) B hM (by decide) rfl fl294 dX12_misuse_33 ?_
          refine lv_iload_n B.1 B.2.1 dX12_misuse_36 rfl (lv_at hl 1 rfl) ?_
          refine m_ild (k := 74) (i := 54) (n := 200) (z := a_k) (v := (A 74) a_k.toNat) B hM rfl rfl rfl (by decide) dX12_misuse_37 (by omega) (by omega) rfl ?_
          have r10 : (-2147483648 : Int) ≤ (A 74) a_k.toNat ∧ (A 74) a_k.toNat ≤ 2147483647 := hM.2.2.2.2 74 a_k.toNat
          refine lv_goto (tgt := 70) B.1 B.2.1 dX12_misuse_38 (by decide) ?_
          subst hPST
          exact m_iret B hM dX12_misuse_70 (by unfold inr; omega) ⟨rfl, by trivial⟩
      · refine lv_aload_n B.1 B.2.1 dX12_misuse_18 rfl (lv_at hl 0 rfl) ?_
        refine m_geta (k := 73) B hM (by decide) rfl fl291 dX12_misuse_19 ?_
        refine lv_iload_n B.1 B.2.1 dX12_misuse_22 rfl (lv_at hl 1 rfl) ?_
        refine m_ild (k := 73) (i := 53) (n := 200) (z := a_k) (v := (A 73) a_k.toNat) B hM rfl rfl rfl (by decide) dX12_misuse_23 (by omega) (by omega) rfl ?_
        have r11 : (-2147483648 : Int) ≤ (A 73) a_k.toNat ∧ (A 73) a_k.toNat ≤ 2147483647 := hM.2.2.2.2 73 a_k.toNat
        refine lv_goto (tgt := 70) B.1 B.2.1 dX12_misuse_24 (by decide) ?_
        subst hPST
        exact m_iret B hM dX12_misuse_70 (by unfold inr; omega) ⟨rfl, by trivial⟩
    · refine q_con B dX12_misuse_12 ?_
      subst hPST
      exact m_iret B hM dX12_misuse_13 (by unfold inr; omega) ⟨rfl, by trivial⟩
set_option maxHeartbeats 4000000 in
set_option maxRecDepth 20000 in
theorem k_failed (l : Launch) (D : va_G) (dA : Nat → ClassId) (h0 : Nat) (ad : Nat → Nat) (f : Nat → Int) (g : Nat → Int64) (A : Nat → Nat → Int) (L : Nat → Nat → Int64) (a_k : Int) (a_what : Int) (i_k : (-2147483648 : Int) ≤ a_k ∧ a_k ≤ 2147483647) (i_what : (-2147483648 : Int) ≤ a_what ∧ a_what ≤ 2147483647) : MCi l yX12_failed cX12_failed 3 (some .int) ({ frames := 0, cells := 0, slots := 0, locals := 0 }) D dA h0 ad (f, g, A, L) [.int (II a_k), .int (II a_what)] (fun (r : Int) (σ : MS) => σ = (f, g, A, L) ∧ (True)) := by
  generalize hPST : (fun (r : Int) (σ : MS) => σ = (f, g, A, L) ∧ (True)) = PST
  refine m_enter (by decide) rfl (Nat.le_of_ble_eq_true rfl) (fun p e s m args below meth c ls B hM hl => ?_)
  have hA : ∀ q, s.heap.size ≤ q → mF dA h0 ad (f, g, A, L) s.heap.size q := fun q h => Or.inr h
  have hl : lv_has ls 3 [(0, .ref h0), (1, .int (II a_k)), (2, .int (II a_what))] := hl
  refine lv_iload_n B.1 B.2.1 dX12_failed_0 rfl (lv_at hl 1 rfl) ?_
  refine q_ilt (tgt := 12) B dX12_failed_1 (by decide) (by unfold inr; omega) (fun c1 => ?_) (fun c1 => ?_)
  · refine q_con B dX12_failed_12 ?_
    refine lv_goto (tgt := 44) B.1 B.2.1 dX12_failed_13 (by decide) ?_
    subst hPST
    exact m_iret B hM dX12_failed_44 (by unfold inr; omega) ⟨rfl, by trivial⟩
  · refine lv_iload_n B.1 B.2.1 dX12_failed_4 rfl (lv_at hl 1 rfl) ?_
    refine lv_aload_n B.1 B.2.1 dX12_failed_5 rfl (lv_at hl 0 rfl) ?_
    refine m_get (k := 97) (v := f 97) B hM (by decide) rfl fl527 dX12_failed_6 rfl ?_
    have r2 : (0 : Int) ≤ f 97 ∧ f 97 ≤ 16 := hM.2.2.2.1 97
    refine q_clt (tgt := 16) B dX12_failed_9 (by decide) (by unfold inr; omega) (by unfold inr; omega) (fun c3 => ?_) (fun c3 => ?_)
    · refine lv_iload_n B.1 B.2.1 dX12_failed_16 rfl (lv_at hl 2 rfl) ?_
      refine q_ine (tgt := 29) B dX12_failed_17 (by decide) (by unfold inr; omega) (fun c4 => ?_) (fun c4 => ?_)
      · refine lv_iload_n B.1 B.2.1 dX12_failed_29 rfl (lv_at hl 2 rfl) ?_
        refine q_con B dX12_failed_30 ?_
        refine q_cne (tgt := 43) B dX12_failed_31 (by decide) (by unfold inr; omega) (by unfold inr; omega) (fun c5 => ?_) (fun c5 => ?_)
        · refine q_con B dX12_failed_43 ?_
          subst hPST
          exact m_iret B hM dX12_failed_44 (by unfold inr; omega) ⟨rfl, by trivial⟩
        · refine lv_aload_n B.1 B.2.1 dX12_failed_34 rfl (lv_at hl 0 rfl) ?_
          refine m_geta (k := 95) B hM (by decide) rfl fl349 dX12_failed_35 ?_
          refine lv_iload_n B.1 B.2.1 dX12_failed_38 rfl (lv_at hl 1 rfl) ?_
          refine m_ild (k := 95) (i := 72) (n := 16) (z := a_k) (v := (A 95) a_k.toNat) B hM rfl rfl rfl (by decide) dX12_failed_39 (by omega) (by omega) rfl ?_
          have r6 : (-2147483648 : Int) ≤ (A 95) a_k.toNat ∧ (A 95) a_k.toNat ≤ 2147483647 := hM.2.2.2.2 95 a_k.toNat
          refine lv_goto (tgt := 44) B.1 B.2.1 dX12_failed_40 (by decide) ?_
          subst hPST
          exact m_iret B hM dX12_failed_44 (by unfold inr; omega) ⟨rfl, by trivial⟩
      · refine lv_aload_n B.1 B.2.1 dX12_failed_20 rfl (lv_at hl 0 rfl) ?_
        refine m_geta (k := 94) B hM (by decide) rfl fl346 dX12_failed_21 ?_
        refine lv_iload_n B.1 B.2.1 dX12_failed_24 rfl (lv_at hl 1 rfl) ?_
        refine m_ild (k := 94) (i := 71) (n := 16) (z := a_k) (v := (A 94) a_k.toNat) B hM rfl rfl rfl (by decide) dX12_failed_25 (by omega) (by omega) rfl ?_
        have r7 : (-2147483648 : Int) ≤ (A 94) a_k.toNat ∧ (A 94) a_k.toNat ≤ 2147483647 := hM.2.2.2.2 94 a_k.toNat
        refine lv_goto (tgt := 44) B.1 B.2.1 dX12_failed_26 (by decide) ?_
        subst hPST
        exact m_iret B hM dX12_failed_44 (by unfold inr; omega) ⟨rfl, by trivial⟩
    · refine q_con B dX12_failed_12 ?_
      refine lv_goto (tgt := 44) B.1 B.2.1 dX12_failed_13 (by decide) ?_
      subst hPST
      exact m_iret B hM dX12_failed_44 (by unfold inr; omega) ⟨rfl, by trivial⟩
set_option maxHeartbeats 4000000 in
set_option maxRecDepth 20000 in
theorem k_asked (l : Launch) (D : va_G) (dA : Nat → ClassId) (h0 : Nat) (ad : Nat → Nat) (f : Nat → Int) (g : Nat → Int64) (A : Nat → Nat → Int) (L : Nat → Nat → Int64) (a_rule : Int) (a_what : Int) (i_rule : (-2147483648 : Int) ≤ a_rule ∧ a_rule ≤ 2147483647) (i_what : (-2147483648 : Int) ≤ a_what ∧ a_what ≤ 2147483647) : MCi l yX12_asked cX12_asked 3 (some .int) ({ frames := 0, cells := 0, slots := 0, locals := 0 }) D dA h0 ad (f, g, A, L) [.int (II a_rule), .int (II a_what)] (fun (r : Int) (σ : MS) => σ = (f, g, A, L) ∧ (True)) := by
  generalize hPST : (fun (r : Int) (σ : MS) => σ = (f, g, A, L) ∧ (True)) = PST
  refine m_enter (by decide) rfl (Nat.le_of_ble_eq_true rfl) (fun p e s m args below meth c ls B hM hl => ?_)
  have hA : ∀ q, s.heap.size ≤ q → mF dA h0 ad (f, g, A, L) s.heap.size q := fun q h => Or.inr h
  have hl : lv_has ls 3 [(0, .ref h0), (1, .int (II a_rule)), (2, .int (II a_what))] := hl
  refine lv_iload_n B.1 B.2.1 dX12_asked_0 rfl (lv_at hl 1 rfl) ?_
  refine q_ilt (tgt := 12) B dX12_asked_1 (by decide) (by unfold inr; omega) (fun c1 => ?_) (fun c1 => ?_)
  · refine q_con B dX12_asked_12 ?_
    refine lv_goto (tgt := 44) B.1 B.2.1 dX12_asked_13 (by decide) ?_
    subst hPST
    exact m_iret B hM dX12_asked_44 (by unfold inr; omega) ⟨rfl, by trivial⟩
  · refine lv_iload_n B.1 B.2.1 dX12_asked_4 rfl (lv_at hl 1 rfl) ?_
    refine lv_aload_n B.1 B.2.1 dX12_asked_5 rfl (lv_at hl 0 rfl) ?_
    refine m_get (k := 58) (v := f 58) B hM (by decide) rfl fl462 dX12_asked_6 rfl ?_
    have r2 : (0 : Int) ≤ f 58 ∧ f 58 ≤ 16 := hM.2.2.2.1 58
    refine q_clt (tgt := 16) B dX12_asked_9 (by decide) (by unfold inr; omega) (by unfold inr; omega) (fun c3 => ?_) (fun c3 => ?_)
    · refine lv_iload_n B.1 B.2.1 dX12_asked_16 rfl (lv_at hl 2 rfl) ?_
      refine q_ine (tgt := 29) B dX12_asked_17 (by decide) (by unfold inr; omega) (fun c4 => ?_) (fun c4 => ?_)
      · refine lv_iload_n B.1 B.2.1 dX12_asked_29 rfl (lv_at hl 2 rfl) ?_
        refine q_con B dX12_asked_30 ?_
        refine q_cne (tgt := 43) B dX12_asked_31 (by decide) (by unfold inr; omega) (by unfold inr; omega) (fun c5 => ?_) (fun c5 => ?_)
        · refine q_con B dX12_asked_43 ?_
          subst hPST
          exact m_iret B hM dX12_asked_44 (by unfold inr; omega) ⟨rfl, by trivial⟩
        · refine lv_aload_n B.1 B.2.1 dX12_asked_34 rfl (lv_at hl 0 rfl) ?_
          refine m_geta (k := 91) B hM (by decide) rfl fl337 dX12_asked_35 ?_
          refine lv_iload_n B.1 B.2.1 dX12_asked_38 rfl (lv_at hl 1 rfl) ?_
          refine m_ild (k := 91) (i := 68) (n := 16) (z := a_rule) (v := (A 91) a_rule.toNat) B hM rfl rfl rfl (by decide) dX12_asked_39 (by omega) (by omega) rfl ?_
          have r6 : (0 : Int) ≤ (A 91) a_rule.toNat ∧ (A 91) a_rule.toNat ≤ 2 := hM.2.2.2.2 91 a_rule.toNat
          refine lv_goto (tgt := 44) B.1 B.2.1 dX12_asked_40 (by decide) ?_
          subst hPST
          exact m_iret B hM dX12_asked_44 (by unfold inr; omega) ⟨rfl, by trivial⟩
      · refine lv_aload_n B.1 B.2.1 dX12_asked_20 rfl (lv_at hl 0 rfl) ?_
        refine m_geta (k := 92) B hM (by decide) rfl fl340 dX12_asked_21 ?_
        refine lv_iload_n B.1 B.2.1 dX12_asked_24 rfl (lv_at hl 1 rfl) ?_
        refine m_ild (k := 92) (i := 69) (n := 16) (z := a_rule) (v := (A 92) a_rule.toNat) B hM rfl rfl rfl (by decide) dX12_asked_25 (by omega) (by omega) rfl ?_
        have r7 : (-2147483648 : Int) ≤ (A 92) a_rule.toNat ∧ (A 92) a_rule.toNat ≤ 2147483647 := hM.2.2.2.2 92 a_rule.toNat
        refine lv_goto (tgt := 44) B.1 B.2.1 dX12_asked_26 (by decide) ?_
        subst hPST
        exact m_iret B hM dX12_asked_44 (by unfold inr; omega) ⟨rfl, by trivial⟩
    · refine q_con B dX12_asked_12 ?_
      refine lv_goto (tgt := 44) B.1 B.2.1 dX12_asked_13 (by decide) ?_
      subst hPST
      exact m_iret B hM dX12_asked_44 (by unfold inr; omega) ⟨rfl, by trivial⟩
set_option maxHeartbeats 4000000 in
set_option maxRecDepth 20000 in
theorem k_kept (l : Launch) (D : va_G) (dA : Nat → ClassId) (h0 : Nat) (ad : Nat → Nat) (f : Nat → Int) (g : Nat → Int64) (A : Nat → Nat → Int) (L : Nat → Nat → Int64) : MCi l yX12_kept cX12_kept 1 (some .int) ({ frames := 0, cells := 0, slots := 0, locals := 0 }) D dA h0 ad (f, g, A, L) [] (fun (r : Int) (σ : MS) => σ = (f, g, A, L) ∧ (0 ≤ r ∧ r ≤ 500 ∧ r ≤ (f 101))) := by
  generalize hPST : (fun (r : Int) (σ : MS) => σ = (f, g, A, L) ∧ (0 ≤ r ∧ r ≤ 500 ∧ r ≤ (f 101))) = PST
  refine m_enter (by decide) rfl (Nat.le_of_ble_eq_true rfl) (fun p e s m args below meth c ls B hM hl => ?_)
  have hA : ∀ q, s.heap.size ≤ q → mF dA h0 ad (f, g, A, L) s.heap.size q := fun q h => Or.inr h
  have hl : lv_has ls 1 [(0, .ref h0)] := hl
  have r1 : (0 : Int) ≤ f 101 ∧ f 101 ≤ 5000 := hM.2.2.2.1 101
  refine lv_aload_n B.1 B.2.1 dX12_kept_0 rfl (lv_at hl 0 rfl) ?_
  refine m_get (k := 101) (v := f 101) B hM (by decide) rfl fl534 dX12_kept_1 rfl ?_
  refine q_sip B dX12_kept_4 (by decide) ?_
  refine q_cge (tgt := 17) B dX12_kept_7 (by decide) (by unfold inr; omega) (by unfold inr; omega) (fun c2 => ?_) (fun c2 => ?_)
  · refine q_sip B dX12_kept_17 (by decide) ?_
    subst hPST
    have hv3 : (0 ≤ (500 : Int)) ∧ ((500 : Int) ≤ 500) ∧ ((500 : Int) ≤ (f 101)) := by first | omega | (simp only [wr_at]; omega) | exact ⟨by first | omega | (simp only [wr_at]; omega) | assumption, by first | omega | (simp only [wr_at]; omega) | assumption, by first | omega | (simp only [wr_at]; omega) | assumption⟩
    exact m_iret B hM dX12_kept_20 (by unfold inr; omega) ⟨rfl, hv3.1, hv3.2.1, hv3.2.2⟩
  · refine lv_aload_n B.1 B.2.1 dX12_kept_10 rfl (lv_at hl 0 rfl) ?_
    refine m_get (k := 101) (v := f 101) B hM (by decide) rfl fl534 dX12_kept_11 rfl ?_
    refine lv_goto (tgt := 20) B.1 B.2.1 dX12_kept_14 (by decide) ?_
    subst hPST
    have hv4 : (0 ≤ (f 101)) ∧ ((f 101) ≤ 500) ∧ ((f 101) ≤ (f 101)) := by first | omega | (simp only [wr_at]; omega) | exact ⟨by first | omega | (simp only [wr_at]; omega) | assumption, by first | omega | (simp only [wr_at]; omega) | assumption, by first | omega | (simp only [wr_at]; omega) | assumption⟩
    exact m_iret B hM dX12_kept_20 (by unfold inr; omega) ⟨rfl, hv4.1, hv4.2.1, hv4.2.2⟩
set_option maxHeartbeats 4000000 in
set_option maxRecDepth 20000 in
theorem k_found (l : Launch) (D : va_G) (dA : Nat → ClassId) (h0 : Nat) (ad : Nat → Nat) (f : Nat → Int) (g : Nat → Int64) (A : Nat → Nat → Int) (L : Nat → Nat → Int64) (a_k : Int) (a_what : Int) (i_k : (-2147483648 : Int) ≤ a_k ∧ a_k ≤ 2147483647) (i_what : (-2147483648 : Int) ≤ a_what ∧ a_what ≤ 2147483647) : MCi l yX12_found cX12_found 3 (some .int) ({ frames := 1, cells := 0, slots := 0, locals := 20 }) D dA h0 ad (f, g, A, L) [.int (II a_k), .int (II a_what)] (fun (r : Int) (σ : MS) => σ = (f, g, A, L) ∧ (True)) := by
  generalize hPST : (fun (r : Int) (σ : MS) => σ = (f, g, A, L) ∧ (True)) = PST
  refine m_enter (by decide) rfl (Nat.le_of_ble_eq_true rfl) (fun p e s m args below meth c ls B hM hl => ?_)
  have hA : ∀ q, s.heap.size ≤ q → mF dA h0 ad (f, g, A, L) s.heap.size q := fun q h => Or.inr h
  have hl : lv_has ls 3 [(0, .ref h0), (1, .int (II a_k)), (2, .int (II a_what))] := hl
  have r1 : (0 : Int) ≤ f 101 ∧ f 101 ≤ 5000 := hM.2.2.2.1 101
  refine lv_iload_n B.1 B.2.1 dX12_found_0 rfl (lv_at hl 1 rfl) ?_
  refine q_ilt (tgt := 12) B dX12_found_1 (by decide) (by unfold inr; omega) (fun c2 => ?_) (fun c2 => ?_)
  · refine q_con B dX12_found_12 ?_
    subst hPST
    exact m_iret B hM dX12_found_13 (by unfold inr; omega) ⟨rfl, by trivial⟩
  · refine lv_iload_n B.1 B.2.1 dX12_found_4 rfl (lv_at hl 1 rfl) ?_
    refine lv_aload_n B.1 B.2.1 dX12_found_5 rfl (lv_at hl 0 rfl) ?_
    refine m_calli (n := 0) (rest := [.int (II a_k)]) B hM hA hl.1 (k_kept l D dA h0 ad f g A L   ) rfl ok_kept nm_kept ⟨rfl, rfl⟩ ⟨Nat.le_of_ble_eq_true rfl, Nat.le_of_ble_eq_true rfl⟩ dX12_found_6 rfl rfl (Nat.le_of_ble_eq_true rfl) ⟨Nat.zero_le _, Nat.zero_le _⟩ (fun r3 σr3 H locs ir3 hp4 hM => ?_)
    obtain ⟨rfl, hp4⟩ := hp4
    unfold inr at ir3
    replace hp4 : 0 ≤ r3 ∧ r3 ≤ 500 ∧ r3 ≤ (f 101) := hp4
    obtain ⟨hp4_0, hp4_1, hp4_2⟩ := hp4
    refine q_clt (tgt := 14) B dX12_found_9 (by decide) (by unfold inr; omega) (by unfold inr; omega) (fun c5 => ?_) (fun c5 => ?_)
    · refine lv_iload_n B.1 B.2.1 dX12_found_14 rfl (lv_at hl 2 rfl) ?_
      by_cases hsw : a_what < 0 ∨ 9 < a_what
      · refine lv_tableOut (tgt := 146) B.1 B.2.1 dX12_found_15 (by rw [II_toInt (by unfold inr; omega)]; omega) (by decide) ?_
        refine q_con B dX12_found_146 ?_
        subst hPST
        exact m_iret B hM dX12_found_147 (by unfold inr; omega) ⟨rfl, by trivial⟩
      by_cases hs0 : a_what = 0
      · have hsw0 : a_what = 0 := by omega
        refine lv_tableIn (off := 53) (tgt := 68) B.1 B.2.1 dX12_found_15 (by rw [II_toInt (by unfold inr; omega)]; omega) (by rw [II_toInt (by unfold inr; omega)]; omega) (by rw [II_toInt (by unfold inr; omega), hsw0]; decide) (by decide) ?_
        refine lv_aload_n B.1 B.2.1 dX12_found_68 rfl (lv_at hl 0 rfl) ?_
        refine m_geta (k := 106) B hM (by decide) rfl fl355 dX12_found_69 ?_
        refine lv_iload_n B.1 B.2.1 dX12_found_72 rfl (lv_at hl 1 rfl) ?_
        refine m_ild (k := 106) (i := 74) (n := 500) (z := a_k) (v := (A 106) a_k.toNat) B hM rfl rfl rfl (by decide) dX12_found_73 (by omega) (by omega) rfl ?_
        have r6 : (-2147483648 : Int) ≤ (A 106) a_k.toNat ∧ (A 106) a_k.toNat ≤ 2147483647 := hM.2.2.2.2 106 a_k.toNat
        subst hPST
        exact m_iret B hM dX12_found_74 (by unfold inr; omega) ⟨rfl, by trivial⟩
      by_cases hs1 : a_what = 1
      · have hsw1 : a_what = 1 := by omega
        refine lv_tableIn (off := 60) (tgt := 75) B.1 B.2.1 dX12_found_15 (by rw [II_toInt (by unfold inr; omega)]; omega) (by rw [II_toInt (by unfold inr; omega)]; omega) (by rw [II_toInt (by unfold inr; omega), hsw1]; decide) (by decide) ?_
        refine lv_aload_n B.1 B.2.1 dX12_found_75 rfl (lv_at hl 0 rfl) ?_
        refine m_geta (k := 107) B hM (by decide) rfl fl358 dX12_found_76 ?_
        refine lv_iload_n B.1 B.2.1 dX12_found_79 rfl (lv_at hl 1 rfl) ?_
        refine m_ild (k := 107) (i := 75) (n := 500) (z := a_k) (v := (A 107) a_k.toNat) B hM rfl rfl rfl (by decide) dX12_found_80 (by omega) (by omega) rfl ?_
        have r7 : (-2147483648 : Int) ≤ (A 107) a_k.toNat ∧ (A 107) a_k.toNat ≤ 2147483647 := hM.2.2.2.2 107 a_k.toNat
        subst hPST
        exact m_iret B hM dX12_found_81 (by unfold inr; omega) ⟨rfl, by trivial⟩
      by_cases hs2 : a_what = 2
      · have hsw2 : a_what = 2 := by omega
        refine lv_tableIn (off := 67) (tgt := 82) B.1 B.2.1 dX12_found_15 (by rw [II_toInt (by unfold inr; omega)]; omega) (by rw [II_toInt (by unfold inr; omega)]; omega) (by rw [II_toInt (by unfold inr; omega), hsw2]; decide) (by decide) ?_
        refine lv_aload_n B.1 B.2.1 dX12_found_82 rfl (lv_at hl 0 rfl) ?_
        refine m_geta (k := 108) B hM (by decide) rfl fl361 dX12_found_83 ?_
        refine lv_iload_n B.1 B.2.1 dX12_found_86 rfl (lv_at hl 1 rfl) ?_
        refine m_ild (k := 108) (i := 76) (n := 500) (z := a_k) (v := (A 108) a_k.toNat) B hM rfl rfl rfl (by decide) dX12_found_87 (by omega) (by omega) rfl ?_
        have r8 : (-2147483648 : Int) ≤ (A 108) a_k.toNat ∧ (A 108) a_k.toNat ≤ 2147483647 := hM.2.2.2.2 108 a_k.toNat
        subst hPST
        exact m_iret B hM dX12_found_88 (by unfold inr; omega) ⟨rfl, by trivial⟩
      by_cases hs3 : a_what = 3
      · have hsw3 : a_what = 3 := by omega
        refine lv_tableIn (off := 74) (tgt := 89) B.1 B.2.1 dX12_found_15 (by rw [II_toInt (by unfold inr; omega)]; omega) (by rw [II_toInt (by unfold inr; omega)]; omega) (by rw [II_toInt (by unfold inr; omega), hsw3]; decide) (by decide) ?_
        refine lv_aload_n B.1 B.2.1 dX12_found_89 rfl (lv_at hl 0 rfl) ?_
        refine m_geta (k := 109) B hM (by decide) rfl fl364 dX12_found_90 ?_
        refine lv_iload_n B.1 B.2.1 dX12_found_93 rfl (lv_at hl 1 rfl) ?_
        refine m_ild (k := 109) (i := 77) (n := 500) (z := a_k) (v := (A 109) a_k.toNat) B hM rfl rfl rfl (by decide) dX12_found_94 (by omega) (by omega) rfl ?_
        have r9 : (0 : Int) ≤ (A 109) a_k.toNat ∧ (A 109) a_k.toNat ≤ 199 := hM.2.2.2.2 109 a_k.toNat
        subst hPST
        exact m_iret B hM dX12_found_95 (by unfold inr; omega) ⟨rfl, by trivial⟩
      by_cases hs4 : a_what = 4
      · have hsw4 : a_what = 4 := by omega
        refine lv_tableIn (off := 81) (tgt := 96) B.1 B.2.1 dX12_found_15 (by rw [II_toInt (by unfold inr; omega)]; omega) (by rw [II_toInt (by unfold inr; omega)]; omega) (by rw [II_toInt (by unfold inr; omega), hsw4]; decide) (by decide) ?_
        refine lv_aload_n B.1 B.2.1 dX12_found_96 rfl (lv_at hl 0 rfl) ?_
        refine m_geta (k := 110) B hM (by decide) rfl fl367 dX12_found_97 ?_
        refine lv_iload_n B.1 B.2.1 dX12_found_100 rfl (lv_at hl 1 rfl) ?_
        refine m_ild (k := 110) (i := 78) (n := 500) (z := a_k) (v := (A 110) a_k.toNat) B hM rfl rfl rfl (by decide) dX12_found_101 (by omega) (by omega) rfl ?_
        have r10 : (-1 : Int) ≤ (A 110) a_k.toNat ∧ (A 110) a_k.toNat ≤ 11 := hM.2.2.2.2 110 a_k.toNat
        subst hPST
        exact m_iret B hM dX12_found_102 (by unfold inr; omega) ⟨rfl, by trivial⟩
      by_cases hs5 : a_what = 5
      · have hsw5 : a_what = 5 := by omega
        refine lv_tableIn (off := 88) (tgt := 103) B.1 B.2.1 dX12_found_15 (by rw [II_toInt (by unfold inr; omega)]; omega) (by rw [II_toInt (by unfold inr; omega)]; omega) (by rw [II_toInt (by unfold inr; omega), hsw5]; decide) (by decide) ?_
        refine lv_aload_n B.1 B.2.1 dX12_found_103 rfl (lv_at hl 0 rfl) ?_
        refine m_geta (k := 111) B hM (by decide) rfl fl370 dX12_found_104 ?_
        refine lv_iload_n B.1 B.2.1 dX12_found_107 rfl (lv_at hl 1 rfl) ?_
        refine m_ild (k := 111) (i := 79) (n := 500) (z := a_k) (v := (A 111) a_k.toNat) B hM rfl rfl rfl (by decide) dX12_found_108 (by omega) (by omega) rfl ?_
        have r11 : (-2147483648 : Int) ≤ (A 111) a_k.toNat ∧ (A 111) a_k.toNat ≤ 2147483647 := hM.2.2.2.2 111 a_k.toNat
        subst hPST
        exact m_iret B hM dX12_found_109 (by unfold inr; omega) ⟨rfl, by trivial⟩
      by_cases hs6 : a_what = 6
      · have hsw6 : a_what = 6 := by omega
        refine lv_tableIn (off := 95) (tgt := 110) B.1 B.2.1 dX12_found_15 (by rw [II_toInt (by unfold inr; omega)]; omega) (by rw [II_toInt (by unfold inr; omega)]; omega) (by rw [II_toInt (by unfold inr; omega), hsw6]; decide) (by decide) ?_
        refine lv_aload_n B.1 B.2.1 dX12_found_110 rfl (lv_at hl 0 rfl) ?_
        refine m_geta (k := 112) B hM (by decide) rfl fl373 dX12_found_111 ?_
        refine lv_iload_n B.1 B.2.1 dX12_found_114 rfl (lv_at hl 1 rfl) ?_
        refine m_ild (k := 112) (i := 80) (n := 500) (z := a_k) (v := (A 112) a_k.toNat) B hM rfl rfl rfl (by decide) dX12_found_115 (by omega) (by omega) rfl ?_
        have r12 : (-2147483648 : Int) ≤ (A 112) a_k.toNat ∧ (A 112) a_k.toNat ≤ 2147483647 := hM.2.2.2.2 112 a_k.toNat
        subst hPST
        exact m_iret B hM dX12_found_116 (by unfold inr; omega) ⟨rfl, by trivial⟩
      by_cases hs7 : a_what = 7
      · have hsw7 : a_what = 7 := by omega
        refine lv_tableIn (off := 102) (tgt := 117) B.1 B.2.1 dX12_found_15 (by rw [II_toInt (by unfold inr; omega)]; omega) (by rw [II_toInt (by unfold inr; omega)]; omega) (by rw [II_toInt (by unfold inr; omega), hsw7]; decide) (by decide) ?_
        refine lv_aload_n B.1 B.2.1 dX12_found_117 rfl (lv_at hl 0 rfl) ?_
        refine m_geta (k := 113) B hM (by decide) rfl fl376 dX12_found_118 ?_
        refine lv_iload_n B.1 B.2.1 dX12_found_121 rfl (lv_at hl 1 rfl) ?_
        refine m_ild (k := 113) (i := 81) (n := 500) (z := a_k) (v := (A 113) a_k.toNat) B hM rfl rfl rfl (by decide) dX12_found_122 (by omega) (by omega) rfl ?_
        have r13 : (0 : Int) ≤ (A 113) a_k.toNat ∧ (A 113) a_k.toNat ≤ 80 := hM.2.2.2.2 113 a_k.toNat
        subst hPST
        exact m_iret B hM dX12_found_123 (by unfold inr; omega) ⟨rfl, by trivial⟩
      by_cases hs8 : a_what = 8
      · have hsw8 : a_what = 8 := by omega
        refine lv_tableIn (off := 109) (tgt := 124) B.1 B.2.1 dX12_found_15 (by rw [II_toInt (by unfold inr; omega)]; omega) (by rw [II_toInt (by unfold inr; omega)]; omega) (by rw [II_toInt (by unfold inr; omega), hsw8]; decide) (by decide) ?_
        refine lv_aload_n B.1 B.2.1 dX12_found_124 rfl (lv_at hl 0 rfl) ?_
        refine m_geta (k := 116) B hM (by decide) rfl fl385 dX12_found_125 ?_
        refine lv_iload_n B.1 B.2.1 dX12_found_128 rfl (lv_at hl 1 rfl) ?_
        refine m_zld (k := 116) (i := 84) (n := 500) (z := a_k) (v := (A 116) a_k.toNat) B hM rfl rfl rfl (by decide) dX12_found_129 (by omega) (by omega) rfl ?_
        have r14 : (0 : Int) ≤ (A 116) a_k.toNat ∧ (A 116) a_k.toNat ≤ 1 := hM.2.2.2.2 116 a_k.toNat
        refine q_ieq (tgt := 137) B dX12_found_130 (by decide) (by unfold inr; omega) (fun c15 => ?_) (fun c15 => ?_)
        · refine q_con B dX12_found_137 ?_
          subst hPST
          exact m_iret B hM dX12_found_138 (by unfold inr; omega) ⟨rfl, by trivial⟩
        · refine q_con B dX12_found_133 ?_
          refine lv_goto (tgt := 138) B.1 B.2.1 dX12_found_134 (by decide) ?_
          subst hPST
          exact m_iret B hM dX12_found_138 (by unfold inr; omega) ⟨rfl, by trivial⟩
      · have hsw9 : a_what = 9 := by omega
        refine lv_tableIn (off := 124) (tgt := 139) B.1 B.2.1 dX12_found_15 (by rw [II_toInt (by unfold inr; omega)]; omega) (by rw [II_toInt (by unfold inr; omega)]; omega) (by rw [II_toInt (by unfold inr; omega), hsw9]; decide) (by decide) ?_
        refine lv_aload_n B.1 B.2.1 dX12_found_139 rfl (lv_at hl 0 rfl) ?_
        refine m_geta (k := 114) B hM (by decide) rfl fl379 dX12_found_140 ?_
        refine lv_iload_n B.1 B.2.1 dX12_found_143 rfl (lv_at hl 1 rfl) ?_
        refine m_ild (k := 114) (i := 82) (n := 500) (z := a_k) (v := (A 114) a_k.toNat) B hM rfl rfl rfl (by decide) dX12_found_144 (by omega) (by omega) rfl ?_
        have r16 : (-2147483648 : Int) ≤ (A 114) a_k.toNat ∧ (A 114) a_k.toNat ≤ 2147483647 := hM.2.2.2.2 114 a_k.toNat
        subst hPST
        exact m_iret B hM dX12_found_145 (by unfold inr; omega) ⟨rfl, by trivial⟩
    · refine q_con B dX12_found_12 ?_
      subst hPST
      exact m_iret B hM dX12_found_13 (by unfold inr; omega) ⟨rfl, by trivial⟩
set_option maxHeartbeats 4000000 in
set_option maxRecDepth 20000 in
theorem k_way (l : Launch) (D : va_G) (dA : Nat → ClassId) (h0 : Nat) (ad : Nat → Nat) (f : Nat → Int) (g : Nat → Int64) (A : Nat → Nat → Int) (L : Nat → Nat → Int64) (a_k : Int) (a_i : Int) (i_k : (-2147483648 : Int) ≤ a_k ∧ a_k ≤ 2147483647) (i_i : (-2147483648 : Int) ≤ a_i ∧ a_i ≤ 2147483647) : MCi l yX12_way cX12_way 3 (some .int) ({ frames := 1, cells := 0, slots := 0, locals := 20 }) D dA h0 ad (f, g, A, L) [.int (II a_k), .int (II a_i)] (fun (r : Int) (σ : MS) => σ = (f, g, A, L) ∧ (True)) := by
  generalize hPST : (fun (r : Int) (σ : MS) => σ = (f, g, A, L) ∧ (True)) = PST
  refine m_enter (by decide) rfl (Nat.le_of_ble_eq_true rfl) (fun p e s m args below meth c ls B hM hl => ?_)
  have hA : ∀ q, s.heap.size ≤ q → mF dA h0 ad (f, g, A, L) s.heap.size q := fun q h => Or.inr h
  have hl : lv_has ls 3 [(0, .ref h0), (1, .int (II a_k)), (2, .int (II a_i))] := hl
  have r1 : (0 : Int) ≤ f 101 ∧ f 101 ≤ 5000 := hM.2.2.2.1 101
  refine lv_iload_n B.1 B.2.1 dX12_way_0 rfl (lv_at hl 1 rfl) ?_
  refine q_ilt (tgt := 32) B dX12_way_1 (by decide) (by unfold inr; omega) (fun c2 => ?_) (fun c2 => ?_)
  · refine q_con B dX12_way_32 ?_
    refine lv_goto (tgt := 47) B.1 B.2.1 dX12_way_33 (by decide) ?_
    subst hPST
    exact m_iret B hM dX12_way_47 (by unfold inr; omega) ⟨rfl, by trivial⟩
  · refine lv_iload_n B.1 B.2.1 dX12_way_4 rfl (lv_at hl 1 rfl) ?_
    refine lv_aload_n B.1 B.2.1 dX12_way_5 rfl (lv_at hl 0 rfl) ?_
    refine m_calli (n := 0) (rest := [.int (II a_k)]) B hM hA hl.1 (k_kept l D dA h0 ad f g A L   ) rfl ok_kept nm_kept ⟨rfl, rfl⟩ ⟨Nat.le_of_ble_eq_true rfl, Nat.le_of_ble_eq_true rfl⟩ dX12_way_6 rfl rfl (Nat.le_of_ble_eq_true rfl) ⟨Nat.zero_le _, Nat.zero_le _⟩ (fun r3 σr3 H locs ir3 hp4 hM => ?_)
    obtain ⟨rfl, hp4⟩ := hp4
    unfold inr at ir3
    replace hp4 : 0 ≤ r3 ∧ r3 ≤ 500 ∧ r3 ≤ (f 101) := hp4
    obtain ⟨hp4_0, hp4_1, hp4_2⟩ := hp4
    refine q_cge (tgt := 32) B dX12_way_9 (by decide) (by unfold inr; omega) (by unfold inr; omega) (fun c5 => ?_) (fun c5 => ?_)
    · refine q_con B dX12_way_32 ?_
      refine lv_goto (tgt := 47) B.1 B.2.1 dX12_way_33 (by decide) ?_
      subst hPST
      exact m_iret B hM dX12_way_47 (by unfold inr; omega) ⟨rfl, by trivial⟩
    · refine lv_iload_n B.1 B.2.1 dX12_way_12 rfl (lv_at hl 2 rfl) ?_
      refine q_ilt (tgt := 32) B dX12_way_13 (by decide) (by unfold inr; omega) (fun c6 => ?_) (fun c6 => ?_)
      · refine q_con B dX12_way_32 ?_
        refine lv_goto (tgt := 47) B.1 B.2.1 dX12_way_33 (by decide) ?_
        subst hPST
        exact m_iret B hM dX12_way_47 (by unfold inr; omega) ⟨rfl, by trivial⟩
      · refine lv_iload_n B.1 B.2.1 dX12_way_16 rfl (lv_at hl 2 rfl) ?_
        refine lv_aload_n B.1 B.2.1 dX12_way_17 rfl (lv_at hl 0 rfl) ?_
        refine m_geta (k := 112) B hM (by decide) rfl fl373 dX12_way_18 ?_
        refine lv_iload_n B.1 B.2.1 dX12_way_21 rfl (lv_at hl 1 rfl) ?_
        refine m_ild (k := 112) (i := 80) (n := 500) (z := a_k) (v := (A 112) a_k.toNat) B hM rfl rfl rfl (by decide) dX12_way_22 (by omega) (by omega) rfl ?_
        have r7 : (-2147483648 : Int) ≤ (A 112) a_k.toNat ∧ (A 112) a_k.toNat ≤ 2147483647 := hM.2.2.2.2 112 a_k.toNat
        refine q_cge (tgt := 32) B dX12_way_23 (by decide) (by unfold inr; omega) (by unfold inr; omega) (fun c8 => ?_) (fun c8 => ?_)
        · refine q_con B dX12_way_32 ?_
          refine lv_goto (tgt := 47) B.1 B.2.1 dX12_way_33 (by decide) ?_
          subst hPST
          exact m_iret B hM dX12_way_47 (by unfold inr; omega) ⟨rfl, by trivial⟩
        · refine lv_iload_n B.1 B.2.1 dX12_way_26 rfl (lv_at hl 2 rfl) ?_
          refine q_bip B dX12_way_27 (by decide) ?_
          refine q_clt (tgt := 36) B dX12_way_29 (by decide) (by unfold inr; omega) (by unfold inr; omega) (fun c9 => ?_) (fun c9 => ?_)
          · refine lv_aload_n B.1 B.2.1 dX12_way_36 rfl (lv_at hl 0 rfl) ?_
            refine m_geta (k := 115) B hM (by decide) rfl fl382 dX12_way_37 ?_
            refine q_bip B dX12_way_40 (by decide) ?_
            refine lv_iload_n B.1 B.2.1 dX12_way_42 rfl (lv_at hl 1 rfl) ?_
            refine q_mul B dX12_way_43 ?_
            refine lv_iload_n B.1 B.2.1 dX12_way_44 rfl (lv_at hl 2 rfl) ?_
            refine q_add B dX12_way_45 ?_
            refine m_ild (k := 115) (i := 83) (n := 20000) (z := (40 * a_k) + a_i) (v := (A 115) ((40 * a_k) + a_i).toNat) B hM rfl rfl rfl (by decide) dX12_way_46 (by omega) (by omega) rfl ?_
            have r10 : (-2147483648 : Int) ≤ (A 115) ((40 * a_k) + a_i).toNat ∧ (A 115) ((40 * a_k) + a_i).toNat ≤ 2147483647 := hM.2.2.2.2 115 ((40 * a_k) + a_i).toNat
            subst hPST
            exact m_iret B hM dX12_way_47 (by unfold inr; omega) ⟨rfl, by trivial⟩
          · refine q_con B dX12_way_32 ?_
            refine lv_goto (tgt := 47) B.1 B.2.1 dX12_way_33 (by decide) ?_
            subst hPST
            exact m_iret B hM dX12_way_47 (by unfold inr; omega) ⟨rfl, by trivial⟩
set_option maxHeartbeats 4000000 in
set_option maxRecDepth 20000 in
theorem k_text (l : Launch) (D : va_G) (dA : Nat → ClassId) (h0 : Nat) (ad : Nat → Nat) (f : Nat → Int) (g : Nat → Int64) (A : Nat → Nat → Int) (L : Nat → Nat → Int64) (a_k : Int) (a_i : Int) (i_k : (-2147483648 : Int) ≤ a_k ∧ a_k ≤ 2147483647) (i_i : (-2147483648 : Int) ≤ a_i ∧ a_i ≤ 2147483647) : MCi l yX12_text cX12_text 3 (some .int) ({ frames := 1, cells := 0, slots := 0, locals := 20 }) D dA h0 ad (f, g, A, L) [.int (II a_k), .int (II a_i)] (fun (r : Int) (σ : MS) => σ = (f, g, A, L) ∧ (True)) := by
  generalize hPST : (fun (r : Int) (σ : MS) => σ = (f, g, A, L) ∧ (True)) = PST
  refine m_enter (by decide) rfl (Nat.le_of_ble_eq_true rfl) (fun p e s m args below meth c ls B hM hl => ?_)
  have hA : ∀ q, s.heap.size ≤ q → mF dA h0 ad (f, g, A, L) s.heap.size q := fun q h => Or.inr h
  have hl : lv_has ls 3 [(0, .ref h0), (1, .int (II a_k)), (2, .int (II a_i))] := hl
  have r1 : (0 : Int) ≤ f 101 ∧ f 101 ≤ 5000 := hM.2.2.2.1 101
  refine lv_iload_n B.1 B.2.1 dX12_text_0 rfl (lv_at hl 1 rfl) ?_
  refine q_ilt (tgt := 26) B dX12_text_1 (by decide) (by unfold inr; omega) (fun c2 => ?_) (fun c2 => ?_)
  · refine q_con B dX12_text_26 ?_
    refine lv_goto (tgt := 41) B.1 B.2.1 dX12_text_27 (by decide) ?_
    subst hPST
    exact m_iret B hM dX12_text_41 (by unfold inr; omega) ⟨rfl, by trivial⟩
  · refine lv_iload_n B.1 B.2.1 dX12_text_4 rfl (lv_at hl 1 rfl) ?_
    refine lv_aload_n B.1 B.2.1 dX12_text_5 rfl (lv_at hl 0 rfl) ?_
    refine m_calli (n := 0) (rest := [.int (II a_k)]) B hM hA hl.1 (k_kept l D dA h0 ad f g A L   ) rfl ok_kept nm_kept ⟨rfl, rfl⟩ ⟨Nat.le_of_ble_eq_true rfl, Nat.le_of_ble_eq_true rfl⟩ dX12_text_6 rfl rfl (Nat.le_of_ble_eq_true rfl) ⟨Nat.zero_le _, Nat.zero_le _⟩ (fun r3 σr3 H locs ir3 hp4 hM => ?_)
    obtain ⟨rfl, hp4⟩ := hp4
    unfold inr at ir3
    replace hp4 : 0 ≤ r3 ∧ r3 ≤ 500 ∧ r3 ≤ (f 101) := hp4
    obtain ⟨hp4_0, hp4_1, hp4_2⟩ := hp4
    refine q_cge (tgt := 26) B dX12_text_9 (by decide) (by unfold inr; omega) (by unfold inr; omega) (fun c5 => ?_) (fun c5 => ?_)
    · refine q_con B dX12_text_26 ?_
      refine lv_goto (tgt := 41) B.1 B.2.1 dX12_text_27 (by decide) ?_
      subst hPST
      exact m_iret B hM dX12_text_41 (by unfold inr; omega) ⟨rfl, by trivial⟩
    · refine lv_iload_n B.1 B.2.1 dX12_text_12 rfl (lv_at hl 2 rfl) ?_
      refine q_ilt (tgt := 26) B dX12_text_13 (by decide) (by unfold inr; omega) (fun c6 => ?_) (fun c6 => ?_)
      · refine q_con B dX12_text_26 ?_
        refine lv_goto (tgt := 41) B.1 B.2.1 dX12_text_27 (by decide) ?_
        subst hPST
        exact m_iret B hM dX12_text_41 (by unfold inr; omega) ⟨rfl, by trivial⟩
      · refine lv_iload_n B.1 B.2.1 dX12_text_16 rfl (lv_at hl 2 rfl) ?_
        refine lv_aload_n B.1 B.2.1 dX12_text_17 rfl (lv_at hl 0 rfl) ?_
        refine m_geta (k := 113) B hM (by decide) rfl fl376 dX12_text_18 ?_
        refine lv_iload_n B.1 B.2.1 dX12_text_21 rfl (lv_at hl 1 rfl) ?_
        refine m_ild (k := 113) (i := 81) (n := 500) (z := a_k) (v := (A 113) a_k.toNat) B hM rfl rfl rfl (by decide) dX12_text_22 (by omega) (by omega) rfl ?_
        have r7 : (0 : Int) ≤ (A 113) a_k.toNat ∧ (A 113) a_k.toNat ≤ 80 := hM.2.2.2.2 113 a_k.toNat
        refine q_clt (tgt := 30) B dX12_text_23 (by decide) (by unfold inr; omega) (by unfold inr; omega) (fun c8 => ?_) (fun c8 => ?_)
        · refine lv_aload_n B.1 B.2.1 dX12_text_30 rfl (lv_at hl 0 rfl) ?_
          refine m_geta (k := 117) B hM (by decide) rfl fl389 dX12_text_31 ?_
          refine q_bip B dX12_text_34 (by decide) ?_
          refine lv_iload_n B.1 B.2.1 dX12_text_36 rfl (lv_at hl 1 rfl) ?_
          refine q_mul B dX12_text_37 ?_
          refine lv_iload_n B.1 B.2.1 dX12_text_38 rfl (lv_at hl 2 rfl) ?_
          refine q_add B dX12_text_39 ?_
          refine m_bld (k := 117) (i := 85) (n := 40000) (z := (80 * a_k) + a_i) (v := (A 117) ((80 * a_k) + a_i).toNat) B hM rfl rfl rfl (by decide) dX12_text_40 (by omega) (by omega) rfl ?_
          have r9 : (-128 : Int) ≤ (A 117) ((80 * a_k) + a_i).toNat ∧ (A 117) ((80 * a_k) + a_i).toNat ≤ 127 := hM.2.2.2.2 117 ((80 * a_k) + a_i).toNat
          subst hPST
          exact m_iret B hM dX12_text_41 (by unfold inr; omega) ⟨rfl, by trivial⟩
        · refine q_con B dX12_text_26 ?_
          refine lv_goto (tgt := 41) B.1 B.2.1 dX12_text_27 (by decide) ?_
          subst hPST
          exact m_iret B hM dX12_text_41 (by unfold inr; omega) ⟨rfl, by trivial⟩
set_option maxHeartbeats 4000000 in
set_option maxRecDepth 20000 in
theorem k_cut (l : Launch) (D : va_G) (dA : Nat → ClassId) (h0 : Nat) (ad : Nat → Nat) (f : Nat → Int) (g : Nat → Int64) (A : Nat → Nat → Int) (L : Nat → Nat → Int64) (a_k : Int) (i_k : (-2147483648 : Int) ≤ a_k ∧ a_k ≤ 2147483647) : MCi l yX12_cut cX12_cut 2 (some .int) ({ frames := 0, cells := 0, slots := 0, locals := 0 }) D dA h0 ad (f, g, A, L) [.int (II a_k)] (fun (r : Int) (σ : MS) => σ = (f, g, A, L) ∧ (True)) := by
  generalize hPST : (fun (r : Int) (σ : MS) => σ = (f, g, A, L) ∧ (True)) = PST
  refine m_enter (by decide) rfl (Nat.le_of_ble_eq_true rfl) (fun p e s m args below meth c ls B hM hl => ?_)
  have hA : ∀ q, s.heap.size ≤ q → mF dA h0 ad (f, g, A, L) s.heap.size q := fun q h => Or.inr h
  have hl : lv_has ls 2 [(0, .ref h0), (1, .int (II a_k))] := hl
  refine lv_iload_n B.1 B.2.1 dX12_cut_0 rfl (lv_at hl 1 rfl) ?_
  refine q_ilt (tgt := 18) B dX12_cut_1 (by decide) (by unfold inr; omega) (fun c1 => ?_) (fun c1 => ?_)
  · refine q_con B dX12_cut_18 ?_
    refine lv_goto (tgt := 28) B.1 B.2.1 dX12_cut_19 (by decide) ?_
    subst hPST
    exact m_iret B hM dX12_cut_28 (by unfold inr; omega) ⟨rfl, by trivial⟩
  · refine lv_iload_n B.1 B.2.1 dX12_cut_4 rfl (lv_at hl 1 rfl) ?_
    refine lv_aload_n B.1 B.2.1 dX12_cut_5 rfl (lv_at hl 0 rfl) ?_
    refine m_get (k := 103) (v := f 103) B hM (by decide) rfl fl537 dX12_cut_6 rfl ?_
    have r2 : (0 : Int) ≤ f 103 ∧ f 103 ≤ 600000 := hM.2.2.2.1 103
    refine q_cge (tgt := 18) B dX12_cut_9 (by decide) (by unfold inr; omega) (by unfold inr; omega) (fun c3 => ?_) (fun c3 => ?_)
    · refine q_con B dX12_cut_18 ?_
      refine lv_goto (tgt := 28) B.1 B.2.1 dX12_cut_19 (by decide) ?_
      subst hPST
      exact m_iret B hM dX12_cut_28 (by unfold inr; omega) ⟨rfl, by trivial⟩
    · refine lv_iload_n B.1 B.2.1 dX12_cut_12 rfl (lv_at hl 1 rfl) ?_
      refine q_bip B dX12_cut_13 (by decide) ?_
      refine q_clt (tgt := 22) B dX12_cut_15 (by decide) (by unfold inr; omega) (by unfold inr; omega) (fun c4 => ?_) (fun c4 => ?_)
      · refine lv_aload_n B.1 B.2.1 dX12_cut_22 rfl (lv_at hl 0 rfl) ?_
        refine m_geta (k := 118) B hM (by decide) rfl fl392 dX12_cut_23 ?_
        refine lv_iload_n B.1 B.2.1 dX12_cut_26 rfl (lv_at hl 1 rfl) ?_
        refine m_ild (k := 118) (i := 86) (n := 60) (z := a_k) (v := (A 118) a_k.toNat) B hM rfl rfl rfl (by decide) dX12_cut_27 (by omega) (by omega) rfl ?_
        have r5 : (-2147483648 : Int) ≤ (A 118) a_k.toNat ∧ (A 118) a_k.toNat ≤ 2147483647 := hM.2.2.2.2 118 a_k.toNat
        subst hPST
        exact m_iret B hM dX12_cut_28 (by unfold inr; omega) ⟨rfl, by trivial⟩
      · refine q_con B dX12_cut_18 ?_
        refine lv_goto (tgt := 28) B.1 B.2.1 dX12_cut_19 (by decide) ?_
        subst hPST
        exact m_iret B hM dX12_cut_28 (by unfold inr; omega) ⟨rfl, by trivial⟩
set_option maxHeartbeats 4000000 in
set_option maxRecDepth 20000 in
theorem k_groups (l : Launch) (D : va_G) (dA : Nat → ClassId) (h0 : Nat) (ad : Nat → Nat) (f : Nat → Int) (g : Nat → Int64) (A : Nat → Nat → Int) (L : Nat → Nat → Int64) : MCi l yX12_groups cX12_groups 1 (some .int) ({ frames := 0, cells := 0, slots := 0, locals := 0 }) D dA h0 ad (f, g, A, L) [] (fun (r : Int) (σ : MS) => σ = (f, g, A, L) ∧ (True)) := by
  generalize hPST : (fun (r : Int) (σ : MS) => σ = (f, g, A, L) ∧ (True)) = PST
  refine m_enter (by decide) rfl (Nat.le_of_ble_eq_true rfl) (fun p e s m args below meth c ls B hM hl => ?_)
  have hA : ∀ q, s.heap.size ≤ q → mF dA h0 ad (f, g, A, L) s.heap.size q := fun q h => Or.inr h
  have hl : lv_has ls 1 [(0, .ref h0)] := hl
  refine lv_aload_n B.1 B.2.1 dX12_groups_0 rfl (lv_at hl 0 rfl) ?_
  refine m_get (k := 99) (v := f 99) B hM (by decide) rfl fl530 dX12_groups_1 rfl ?_
  have r1 : (0 : Int) ≤ f 99 ∧ f 99 ≤ 1 := hM.2.2.2.1 99
  refine q_ieq (tgt := 14) B dX12_groups_4 (by decide) (by unfold inr; omega) (fun c2 => ?_) (fun c2 => ?_)
  · refine q_con B dX12_groups_14 ?_
    subst hPST
    exact m_iret B hM dX12_groups_15 (by unfold inr; omega) ⟨rfl, by trivial⟩
  · refine lv_aload_n B.1 B.2.1 dX12_groups_7 rfl (lv_at hl 0 rfl) ?_
    refine m_get (k := 102) (v := f 102) B hM (by decide) rfl fl614 dX12_groups_8 rfl ?_
    have r3 : (-2147483648 : Int) ≤ f 102 ∧ f 102 ≤ 2147483647 := hM.2.2.2.1 102
    refine lv_goto (tgt := 15) B.1 B.2.1 dX12_groups_11 (by decide) ?_
    subst hPST
    exact m_iret B hM dX12_groups_15 (by unfold inr; omega) ⟨rfl, by trivial⟩
set_option maxHeartbeats 4000000 in
set_option maxRecDepth 20000 in
theorem k_feed (l : Launch) (D : va_G) (dA : Nat → ClassId) (h0 : Nat) (ad : Nat → Nat) (f : Nat → Int) (g : Nat → Int64) (A : Nat → Nat → Int) (L : Nat → Nat → Int64) (a_a : Int) (a_b : Int) (a_c : Int) (a_d : Int) (a_e : Int) (i_a : (-2147483648 : Int) ≤ a_a ∧ a_a ≤ 2147483647) (i_b : (-2147483648 : Int) ≤ a_b ∧ a_b ≤ 2147483647) (i_c : (-2147483648 : Int) ≤ a_c ∧ a_c ≤ 2147483647) (i_d : (-2147483648 : Int) ≤ a_d ∧ a_d ≤ 2147483647) (i_e : (-2147483648 : Int) ≤ a_e ∧ a_e ≤ 2147483647) : MCi l yX12_feed cX12_feed 8 (some .int) ({ frames := 0, cells := 0, slots := 0, locals := 0 }) D dA h0 ad (f, g, A, L) [.int (II a_a), .int (II a_b), .int (II a_c), .int (II a_d), .int (II a_e)] (fun (r : Int) (σ : MS) => ∃ n1 : Int, ∃ b0 : Nat → Int, σ = ((up f [(1, n1)]), g, (up A [(0, b0)]), L) ∧ (((f 1) ≤ 2980 → (n1) = (f 1) + 20 ∧ r = (f 1) + 20) ∧ (2980 < (f 1) → (n1) = (f 1) ∧ r = -1))) := by
  generalize hPST : (fun (r : Int) (σ : MS) => ∃ n1 : Int, ∃ b0 : Nat → Int, σ = ((up f [(1, n1)]), g, (up A [(0, b0)]), L) ∧ (((f 1) ≤ 2980 → (n1) = (f 1) + 20 ∧ r = (f 1) + 20) ∧ (2980 < (f 1) → (n1) = (f 1) ∧ r = -1))) = PST
  refine m_enter (by decide) rfl (Nat.le_of_ble_eq_true rfl) (fun p e s m args below meth c ls B hM hl => ?_)
  have hA : ∀ q, s.heap.size ≤ q → mF dA h0 ad (f, g, A, L) s.heap.size q := fun q h => Or.inr h
  have hM : MWd D dA h0 ad (mF dA h0 ad (f, g, A, L) s.heap.size) s.heap ((up f [(1, f 1)]), g, (up A [(0, (A 0))]), L) s.heap [] := MW_pad hM (up_self f [1]) rfl (up_self A [0]) rfl
  have hl : lv_has ls 8 [(0, .ref h0), (1, .int (II a_a)), (2, .int (II a_b)), (3, .int (II a_c)), (4, .int (II a_d)), (5, .int (II a_e))] := hl
  have r1 : (0 : Int) ≤ f 1 ∧ f 1 ≤ 3000 := hM.2.2.2.1 1
  have LL18 : ∀ N : Nat, ∀ (v18_6 : Int) (y18_0 : Nat → Int) (H : Heap) (locs : List Loc) (ls : Array Slot), (MWd D dA h0 ad (mF dA h0 ad (f, g, A, L) s.heap.size) s.heap ((up f [(1, f 1)]), g, (up A [(0, y18_0)]), L) H locs) → lv_has ls 8 [(0, .ref h0), (1, .int (II a_a)), (2, .int (II a_b)), (3, .int (II a_c)), (4, .int (II a_d)), (5, .int (II a_e)), (6, .int (II v18_6))] → ((-2147483648 : Int) ≤ v18_6 ∧ v18_6 ≤ 2147483647) → (0 ≤ (v18_6)) → ((v18_6) ≤ 20) → ((f 1) ≤ 2980) → (0 ≤ 20 - (v18_6)) → (20 - (v18_6) < (N : Int)) → W p l e ({ frames := 0, cells := 0, slots := 0, locals := 0 }) s m args below meth c H locs 0 0 (MQ below (mQi D dA h0 ad (f, g, A, L) s.heap.size PST) args s 0 0 (mF dA h0 ad (f, g, A, L) s.heap.size)) (F0 m 18 ls []) := by
    intro N
    induction N with
    | zero => intro v18_6 y18_0 H locs ls hM hl hLL18_0 hLL18_1 hLL18_2 hLL18_3 hLL18_4 hN; exfalso; omega
    | succ N IH18 =>
      intro v18_6 y18_0 H locs ls hM hl hLL18_0 hLL18_1 hLL18_2 hLL18_3 hLL18_4 hN
      refine lv_iload B.1 B.2.1 dX12_feed_18 (lv_at hl 6 rfl) ?_
      refine q_bip B dX12_feed_20 (by decide) ?_
      refine q_cge (tgt := 105) B dX12_feed_22 (by decide) (by unfold inr; omega) (by unfold inr; omega) (fun c2 => ?_) (fun c2 => ?_)
      · refine lv_aload_n B.1 B.2.1 dX12_feed_105 rfl (lv_at hl 0 rfl) ?_
        refine lv_dup B.1 B.2.1 dX12_feed_106 rfl ?_
        refine m_get (k := 1) (v := f 1) B hM (by decide) rfl fl512 dX12_feed_107 rfl ?_
        refine q_bip B dX12_feed_110 (by decide) ?_
        refine q_add B dX12_feed_112 ?_
        refine m_put (k := 1) B hM (by decide) rfl fl512 rfl dX12_feed_113 rfl rfl (show (0 : Int) ≤ (f 1) + 20 from by first | omega | (simp only [wr_at]; omega)) (show (f 1) + 20 ≤ (3000 : Int) from by first | omega | (simp only [wr_at]; omega)) (u1_up f [(1, f 1)] 1 ((f 1) + 20)) (fun H locs hM => ?_)
        replace hM : MWd D dA h0 ad (mF dA h0 ad (f, g, A, L) s.heap.size) s.heap ((up f [(1, (f 1) + 20)]), g, (up A [(0, y18_0)]), L) H locs := hM
        refine lv_aload_n B.1 B.2.1 dX12_feed_116 rfl (lv_at hl 0 rfl) ?_
        refine m_get (k := 1) (v := (f 1) + 20) B hM (by decide) rfl fl512 dX12_feed_117 rfl ?_
        have r3 : (0 : Int) ≤ (f 1) + 20 ∧ (f 1) + 20 ≤ 3000 := hM.2.2.2.1 1
        subst hPST
        have hv4 : (((f 1) ≤ 2980 → ((f 1) + 20) = (f 1) + 20 ∧ ((f 1) + 20) = (f 1) + 20)) ∧ ((2980 < (f 1) → ((f 1) + 20) = (f 1) ∧ ((f 1) + 20) = -1)) := by first | omega | (simp only [wr_at]; omega) | exact ⟨by first | omega | (simp only [wr_at]; omega) | assumption, by first | omega | (simp only [wr_at]; omega) | assumption⟩
        exact m_iret B hM dX12_feed_120 (by unfold inr; omega) ⟨((f 1) + 20), y18_0, rfl, hv4.1, hv4.2⟩
      · refine lv_iload B.1 B.2.1 dX12_feed_25 (lv_at hl 6 rfl) ?_
        refine q_con B dX12_feed_27 ?_
        refine q_cge (tgt := 35) B dX12_feed_28 (by decide) (by unfold inr; omega) (by unfold inr; omega) (fun c5 => ?_) (fun c5 => ?_)
        · refine lv_iload B.1 B.2.1 dX12_feed_35 (lv_at hl 6 rfl) ?_
          refine q_bip B dX12_feed_37 (by decide) ?_
          refine q_cge (tgt := 46) B dX12_feed_39 (by decide) (by unfold inr; omega) (by unfold inr; omega) (fun c6 => ?_) (fun c6 => ?_)
          · refine lv_iload B.1 B.2.1 dX12_feed_46 (lv_at hl 6 rfl) ?_
            refine q_bip B dX12_feed_48 (by decide) ?_
            refine q_cge (tgt := 57) B dX12_feed_50 (by decide) (by unfold inr; omega) (by unfold inr; omega) (fun c7 => ?_) (fun c7 => ?_)
            · refine lv_iload B.1 B.2.1 dX12_feed_57 (lv_at hl 6 rfl) ?_
              refine q_bip B dX12_feed_59 (by decide) ?_
              refine q_cge (tgt := 69) B dX12_feed_61 (by decide) (by unfold inr; omega) (by unfold inr; omega) (fun c8 => ?_) (fun c8 => ?_)
              · refine lv_iload B.1 B.2.1 dX12_feed_69 (lv_at hl 5 rfl) ?_
                refine lv_istore (lv' := [(7, .int (II a_e)), (0, .ref h0), (1, .int (II a_a)), (2, .int (II a_b)), (3, .int (II a_c)), (4, .int (II a_d)), (5, .int (II a_e)), (6, .int (II v18_6))]) B.1 B.2.1 dX12_feed_71 hl (by decide) rfl (fun ls hl => ?_)
                refine lv_aload_n B.1 B.2.1 dX12_feed_73 rfl (lv_at hl 1 rfl) ?_
                refine m_geta (k := 0) B hM (by decide) rfl fl135 dX12_feed_74 ?_
                refine lv_aload_n B.1 B.2.1 dX12_feed_77 rfl (lv_at hl 1 rfl) ?_
                refine m_get (k := 1) (v := f 1) B hM (by decide) rfl fl512 dX12_feed_78 rfl ?_
                refine lv_iload B.1 B.2.1 dX12_feed_81 (lv_at hl 7 rfl) ?_
                refine q_add B dX12_feed_83 ?_
                refine lv_iload B.1 B.2.1 dX12_feed_84 (lv_at hl 0 rfl) ?_
                refine q_bip B dX12_feed_86 (by decide) ?_
                refine q_bip B dX12_feed_88 (by decide) ?_
                refine lv_iload B.1 B.2.1 dX12_feed_90 (lv_at hl 7 rfl) ?_
                refine q_con B dX12_feed_92 ?_
                refine q_andm B dX12_feed_93 (by omega) (by unfold inr; omega) (fun x9 ix9 lx9 ux9 => ?_)
                unfold inr at ix9
                refine q_mul B dX12_feed_94 ?_
                refine q_sub B dX12_feed_95 ?_
                refine q_shr B dX12_feed_96 (fun x10 ix10 => ?_)
                unfold inr at ix10
                refine q_i2b B dX12_feed_97 (fun x11 ix11 => ?_)
                unfold inr at ix11
                refine m_bst (k := 0) (i := 0) (n := 3020) B hM rfl rfl rfl (by decide) rfl dX12_feed_98 (by omega) (by omega) (fun H locs x12 lx12 ux12 hM => ?_)
                rw [u1_up] at hM
                replace hM : MWd D dA h0 ad (mF dA h0 ad (f, g, A, L) s.heap.size) s.heap ((up f [(1, f 1)]), g, (up A [(0, (wr y18_0 ((f 1) + v18_6) x12))]), L) H locs := hM
                refine q_inc (k := 7) (x := v18_6) (lv' := [(6, .int (II (v18_6 + 1))), (7, .int (II a_e)), (0, .ref h0), (1, .int (II a_a)), (2, .int (II a_b)), (3, .int (II a_c)), (4, .int (II a_d)), (5, .int (II a_e))]) B dX12_feed_99 hl rfl (by decide) rfl (fun ls hl => ?_)
                refine lv_goto (tgt := 18) B.1 B.2.1 dX12_feed_102 (by decide) ?_
                have hv13 : ((-2147483648 : Int) ≤ v18_6 + 1 ∧ (v18_6 + 1 : Int) ≤ 2147483647) ∧ (0 ≤ (v18_6 + 1)) ∧ ((v18_6 + 1) ≤ 20) ∧ ((f 1) ≤ 2980) ∧ (0 ≤ 20 - (v18_6 + 1)) := by first | omega | (simp only [wr_at]; omega) | exact ⟨by first | omega | (simp only [wr_at]; omega) | assumption, by first | omega | (simp only [wr_at]; omega) | assumption, by first | omega | (simp only [wr_at]; omega) | assumption, by first | omega | (simp only [wr_at]; omega) | assumption, by first | omega | (simp only [wr_at]; omega) | assumption⟩
                exact IH18 (v18_6 + 1) ((wr y18_0 ((f 1) + v18_6) x12)) _ _ ls hM (lv_sub hl [2, 3, 4, 5, 6, 7, 0] rfl) hv13.1 hv13.2.1 hv13.2.2.1 hv13.2.2.2.1 hv13.2.2.2.2 (by first | omega | (simp only [wr_at]; omega) | assumption)
              · refine lv_iload B.1 B.2.1 dX12_feed_64 (lv_at hl 4 rfl) ?_
                refine lv_goto (tgt := 71) B.1 B.2.1 dX12_feed_66 (by decide) ?_
                refine lv_istore (lv' := [(7, .int (II a_d)), (0, .ref h0), (1, .int (II a_a)), (2, .int (II a_b)), (3, .int (II a_c)), (4, .int (II a_d)), (5, .int (II a_e)), (6, .int (II v18_6))]) B.1 B.2.1 dX12_feed_71 hl (by decide) rfl (fun ls hl => ?_)
                refine lv_aload_n B.1 B.2.1 dX12_feed_73 rfl (lv_at hl 1 rfl) ?_
                refine m_geta (k := 0) B hM (by decide) rfl fl135 dX12_feed_74 ?_
                refine lv_aload_n B.1 B.2.1 dX12_feed_77 rfl (lv_at hl 1 rfl) ?_
                refine m_get (k := 1) (v := f 1) B hM (by decide) rfl fl512 dX12_feed_78 rfl ?_
                refine lv_iload B.1 B.2.1 dX12_feed_81 (lv_at hl 7 rfl) ?_
                refine q_add B dX12_feed_83 ?_
                refine lv_iload B.1 B.2.1 dX12_feed_84 (lv_at hl 0 rfl) ?_
                refine q_bip B dX12_feed_86 (by decide) ?_
                refine q_bip B dX12_feed_88 (by decide) ?_
                refine lv_iload B.1 B.2.1 dX12_feed_90 (lv_at hl 7 rfl) ?_
                refine q_con B dX12_feed_92 ?_
                refine q_andm B dX12_feed_93 (by omega) (by unfold inr; omega) (fun x14 ix14 lx14 ux14 => ?_)
                unfold inr at ix14
                refine q_mul B dX12_feed_94 ?_
                refine q_sub B dX12_feed_95 ?_
                refine q_shr B dX12_feed_96 (fun x15 ix15 => ?_)
                unfold inr at ix15
                refine q_i2b B dX12_feed_97 (fun x16 ix16 => ?_)
                unfold inr at ix16
                refine m_bst (k := 0) (i := 0) (n := 3020) B hM rfl rfl rfl (by decide) rfl dX12_feed_98 (by omega) (by omega) (fun H locs x17 lx17 ux17 hM => ?_)
                rw [u1_up] at hM
                replace hM : MWd D dA h0 ad (mF dA h0 ad (f, g, A, L) s.heap.size) s.heap ((up f [(1, f 1)]), g, (up A [(0, (wr y18_0 ((f 1) + v18_6) x17))]), L) H locs := hM
                refine q_inc (k := 7) (x := v18_6) (lv' := [(6, .int (II (v18_6 + 1))), (7, .int (II a_d)), (0, .ref h0), (1, .int (II a_a)), (2, .int (II a_b)), (3, .int (II a_c)), (4, .int (II a_d)), (5, .int (II a_e))]) B dX12_feed_99 hl rfl (by decide) rfl (fun ls hl => ?_)
                refine lv_goto (tgt := 18) B.1 B.2.1 dX12_feed_102 (by decide) ?_
                have hv18 : ((-2147483648 : Int) ≤ v18_6 + 1 ∧ (v18_6 + 1 : Int) ≤ 2147483647) ∧ (0 ≤ (v18_6 + 1)) ∧ ((v18_6 + 1) ≤ 20) ∧ ((f 1) ≤ 2980) ∧ (0 ≤ 20 - (v18_6 + 1)) := by first | omega | (simp only [wr_at]; omega) | exact ⟨by first | omega | (simp only [wr_at]; omega) | assumption, by first | omega | (simp only [wr_at]; omega) | assumption, by first | omega | (simp only [wr_at]; omega) | assumption, by first | omega | (simp only [wr_at]; omega) | assumption, by first | omega | (simp only [wr_at]; omega) | assumption⟩
                exact IH18 (v18_6 + 1) ((wr y18_0 ((f 1) + v18_6) x17)) _ _ ls hM (lv_sub hl [2, 3, 4, 5, 6, 7, 0] rfl) hv18.1 hv18.2.1 hv18.2.2.1 hv18.2.2.2.1 hv18.2.2.2.2 (by first | omega | (simp only [wr_at]; omega) | assumption)
            · refine lv_iload_n B.1 B.2.1 dX12_feed_53 rfl (lv_at hl 3 rfl) ?_
              refine lv_goto (tgt := 71) B.1 B.2.1 dX12_feed_54 (by decide) ?_
              refine lv_istore (lv' := [(7, .int (II a_c)), (0, .ref h0), (1, .int (II a_a)), (2, .int (II a_b)), (3, .int (II a_c)), (4, .int (II a_d)), (5, .int (II a_e)), (6, .int (II v18_6))]) B.1 B.2.1 dX12_feed_71 hl (by decide) rfl (fun ls hl => ?_)
              refine lv_aload_n B.1 B.2.1 dX12_feed_73 rfl (lv_at hl 1 rfl) ?_
              refine m_geta (k := 0) B hM (by decide) rfl fl135 dX12_feed_74 ?_
              refine lv_aload_n B.1 B.2.1 dX12_feed_77 rfl (lv_at hl 1 rfl) ?_
              refine m_get (k := 1) (v := f 1) B hM (by decide) rfl fl512 dX12_feed_78 rfl ?_
              refine lv_iload B.1 B.2.1 dX12_feed_81 (lv_at hl 7 rfl) ?_
              refine q_add B dX12_feed_83 ?_
              refine lv_iload B.1 B.2.1 dX12_feed_84 (lv_at hl 0 rfl) ?_
              refine q_bip B dX12_feed_86 (by decide) ?_
              refine q_bip B dX12_feed_88 (by decide) ?_
              refine lv_iload B.1 B.2.1 dX12_feed_90 (lv_at hl 7 rfl) ?_
              refine q_con B dX12_feed_92 ?_
              refine q_andm B dX12_feed_93 (by omega) (by unfold inr; omega) (fun x19 ix19 lx19 ux19 => ?_)
              unfold inr at ix19
              refine q_mul B dX12_feed_94 ?_
              refine q_sub B dX12_feed_95 ?_
              refine q_shr B dX12_feed_96 (fun x20 ix20 => ?_)
              unfold inr at ix20
              refine q_i2b B dX12_feed_97 (fun x21 ix21 => ?_)
              unfold inr at ix21
              refine m_bst (k := 0) (i := 0) (n := 3020) B hM rfl rfl rfl (by decide) rfl dX12_feed_98 (by omega) (by omega) (fun H locs x22 lx22 ux22 hM => ?_)
              rw [u1_up] at hM
              replace hM : MWd D dA h0 ad (mF dA h0 ad (f, g, A, L) s.heap.size) s.heap ((up f [(1, f 1)]), g, (up A [(0, (wr y18_0 ((f 1) + v18_6) x22))]), L) H locs := hM
              refine q_inc (k := 7) (x := v18_6) (lv' := [(6, .int (II (v18_6 + 1))), (7, .int (II a_c)), (0, .ref h0), (1, .int (II a_a)), (2, .int (II a_b)), (3, .int (II a_c)), (4, .int (II a_d)), (5, .int (II a_e))]) B dX12_feed_99 hl rfl (by decide) rfl (fun ls hl => ?_)
              refine lv_goto (tgt := 18) B.1 B.2.1 dX12_feed_102 (by decide) ?_
              have hv23 : ((-2147483648 : Int) ≤ v18_6 + 1 ∧ (v18_6 + 1 : Int) ≤ 2147483647) ∧ (0 ≤ (v18_6 + 1)) ∧ ((v18_6 + 1) ≤ 20) ∧ ((f 1) ≤ 2980) ∧ (0 ≤ 20 - (v18_6 + 1)) := by first | omega | (simp only [wr_at]; omega) | exact ⟨by first | omega | (simp only [wr_at]; omega) | assumption, by first | omega | (simp only [wr_at]; omega) | assumption, by first | omega | (simp only [wr_at]; omega) | assumption, by first | omega | (simp only [wr_at]; omega) | assumption, by first | omega | (simp only [wr_at]; omega) | assumption⟩
              exact IH18 (v18_6 + 1) ((wr y18_0 ((f 1) + v18_6) x22)) _ _ ls hM (lv_sub hl [2, 3, 4, 5, 6, 7, 0] rfl) hv23.1 hv23.2.1 hv23.2.2.1 hv23.2.2.2.1 hv23.2.2.2.2 (by first | omega | (simp only [wr_at]; omega) | assumption)
          · refine lv_iload_n B.1 B.2.1 dX12_feed_42 rfl (lv_at hl 2 rfl) ?_
            refine lv_goto (tgt := 71) B.1 B.2.1 dX12_feed_43 (by decide) ?_
            refine lv_istore (lv' := [(7, .int (II a_b)), (0, .ref h0), (1, .int (II a_a)), (2, .int (II a_b)), (3, .int (II a_c)), (4, .int (II a_d)), (5, .int (II a_e)), (6, .int (II v18_6))]) B.1 B.2.1 dX12_feed_71 hl (by decide) rfl (fun ls hl => ?_)
            refine lv_aload_n B.1 B.2.1 dX12_feed_73 rfl (lv_at hl 1 rfl) ?_
            refine m_geta (k := 0) B hM (by decide) rfl fl135 dX12_feed_74 ?_
            refine lv_aload_n B.1 B.2.1 dX12_feed_77 rfl (lv_at hl 1 rfl) ?_
            refine m_get (k := 1) (v := f 1) B hM (by decide) rfl fl512 dX12_feed_78 rfl ?_
            refine lv_iload B.1 B.2.1 dX12_feed_81 (lv_at hl 7 rfl) ?_
            refine q_add B dX12_feed_83 ?_
            refine lv_iload B.1 B.2.1 dX12_feed_84 (lv_at hl 0 rfl) ?_
            refine q_bip B dX12_feed_86 (by decide) ?_
            refine q_bip B dX12_feed_88 (by decide) ?_
            refine lv_iload B.1 B.2.1 dX12_feed_90 (lv_at hl 7 rfl) ?_
            refine q_con B dX12_feed_92 ?_
            refine q_andm B dX12_feed_93 (by omega) (by unfold inr; omega) (fun x24 ix24 lx24 ux24 => ?_)
            unfold inr at ix24
            refine q_mul B dX12_feed_94 ?_
            refine q_sub B dX12_feed_95 ?_
            refine q_shr B dX12_feed_96 (fun x25 ix25 => ?_)
            unfold inr at ix25
            refine q_i2b B dX12_feed_97 (fun x26 ix26 => ?_)
            unfold inr at ix26
            refine m_bst (k := 0) (i := 0) (n := 3020) B hM rfl rfl rfl (by decide) rfl dX12_feed_98 (by omega) (by omega) (fun H locs x27 lx27 ux27 hM => ?_)
            rw [u1_up] at hM
            replace hM : MWd D dA h0 ad (mF dA h0 ad (f, g, A, L) s.heap.size) s.heap ((up f [(1, f 1)]), g, (up A [(0, (wr y18_0 ((f 1) + v18_6) x27))]), L) H locs := hM
            refine q_inc (k := 7) (x := v18_6) (lv' := [(6, .int (II (v18_6 + 1))), (7, .int (II a_b)), (0, .ref h0), (1, .int (II a_a)), (2, .int (II a_b)), (3, .int (II a_c)), (4, .int (II a_d)), (5, .int (II a_e))]) B dX12_feed_99 hl rfl (by decide) rfl (fun ls hl => ?_)
            refine lv_goto (tgt := 18) B.1 B.2.1 dX12_feed_102 (by decide) ?_
            have hv28 : ((-2147483648 : Int) ≤ v18_6 + 1 ∧ (v18_6 + 1 : Int) ≤ 2147483647) ∧ (0 ≤ (v18_6 + 1)) ∧ ((v18_6 + 1) ≤ 20) ∧ ((f 1) ≤ 2980) ∧ (0 ≤ 20 - (v18_6 + 1)) := by first | omega | (simp only [wr_at]; omega) | exact ⟨by first | omega | (simp only [wr_at]; omega) | assumption, by first | omega | (simp only [wr_at]; omega) | assumption, by first | omega | (simp only [wr_at]; omega) | assumption, by first | omega | (simp only [wr_at]; omega) | assumption, by first | omega | (simp only [wr_at]; omega) | assumption⟩
            exact IH18 (v18_6 + 1) ((wr y18_0 ((f 1) + v18_6) x27)) _ _ ls hM (lv_sub hl [2, 3, 4, 5, 6, 7, 0] rfl) hv28.1 hv28.2.1 hv28.2.2.1 hv28.2.2.2.1 hv28.2.2.2.2 (by first | omega | (simp only [wr_at]; omega) | assumption)
        · refine lv_iload_n B.1 B.2.1 dX12_feed_31 rfl (lv_at hl 1 rfl) ?_
          refine lv_goto (tgt := 71) B.1 B.2.1 dX12_feed_32 (by decide) ?_
          refine lv_istore (lv' := [(7, .int (II a_a)), (0, .ref h0), (1, .int (II a_a)), (2, .int (II a_b)), (3, .int (II a_c)), (4, .int (II a_d)), (5, .int (II a_e)), (6, .int (II v18_6))]) B.1 B.2.1 dX12_feed_71 hl (by decide) rfl (fun ls hl => ?_)
          refine lv_aload_n B.1 B.2.1 dX12_feed_73 rfl (lv_at hl 1 rfl) ?_
          refine m_geta (k := 0) B hM (by decide) rfl fl135 dX12_feed_74 ?_
          refine lv_aload_n B.1 B.2.1 dX12_feed_77 rfl (lv_at hl 1 rfl) ?_
          refine m_get (k := 1) (v := f 1) B hM (by decide) rfl fl512 dX12_feed_78 rfl ?_
          refine lv_iload B.1 B.2.1 dX12_feed_81 (lv_at hl 7 rfl) ?_
          refine q_add B dX12_feed_83 ?_
          refine lv_iload B.1 B.2.1 dX12_feed_84 (lv_at hl 0 rfl) ?_
          refine q_bip B dX12_feed_86 (by decide) ?_
          refine q_bip B dX12_feed_88 (by decide) ?_
          refine lv_iload B.1 B.2.1 dX12_feed_90 (lv_at hl 7 rfl) ?_
          refine q_con B dX12_feed_92 ?_
          refine q_andm B dX12_feed_93 (by omega) (by unfold inr; omega) (fun x29 ix29 lx29 ux29 => ?_)
          unfold inr at ix29
          refine q_mul B dX12_feed_94 ?_
          refine q_sub B dX12_feed_95 ?_
          refine q_shr B dX12_feed_96 (fun x30 ix30 => ?_)
          unfold inr at ix30
          refine q_i2b B dX12_feed_97 (fun x31 ix31 => ?_)
          unfold inr at ix31
          refine m_bst (k := 0) (i := 0) (n := 3020) B hM rfl rfl rfl (by decide) rfl dX12_feed_98 (by omega) (by omega) (fun H locs x32 lx32 ux32 hM => ?_)
          rw [u1_up] at hM
          replace hM : MWd D dA h0 ad (mF dA h0 ad (f, g, A, L) s.heap.size) s.heap ((up f [(1, f 1)]), g, (up A [(0, (wr y18_0 ((f 1) + v18_6) x32))]), L) H locs := hM
          refine q_inc (k := 7) (x := v18_6) (lv' := [(6, .int (II (v18_6 + 1))), (7, .int (II a_a)), (0, .ref h0), (1, .int (II a_a)), (2, .int (II a_b)), (3, .int (II a_c)), (4, .int (II a_d)), (5, .int (II a_e))]) B dX12_feed_99 hl rfl (by decide) rfl (fun ls hl => ?_)
          refine lv_goto (tgt := 18) B.1 B.2.1 dX12_feed_102 (by decide) ?_
          have hv33 : ((-2147483648 : Int) ≤ v18_6 + 1 ∧ (v18_6 + 1 : Int) ≤ 2147483647) ∧ (0 ≤ (v18_6 + 1)) ∧ ((v18_6 + 1) ≤ 20) ∧ ((f 1) ≤ 2980) ∧ (0 ≤ 20 - (v18_6 + 1)) := by first | omega | (simp only [wr_at]; omega) | exact ⟨by first | omega | (simp only [wr_at]; omega) | assumption, by first | omega | (simp only [wr_at]; omega) | assumption, by first | omega | (simp only [wr_at]; omega) | assumption, by first | omega | (simp only [wr_at]; omega) | assumption, by first | omega | (simp only [wr_at]; omega) | assumption⟩
          exact IH18 (v18_6 + 1) ((wr y18_0 ((f 1) + v18_6) x32)) _ _ ls hM (lv_sub hl [2, 3, 4, 5, 6, 7, 0] rfl) hv33.1 hv33.2.1 hv33.2.2.1 hv33.2.2.2.1 hv33.2.2.2.2 (by first | omega | (simp only [wr_at]; omega) | assumption)
  refine lv_aload_n B.1 B.2.1 dX12_feed_0 rfl (lv_at hl 0 rfl) ?_
  refine m_get (k := 1) (v := f 1) B hM (by decide) rfl fl512 dX12_feed_1 rfl ?_
  refine q_bip B dX12_feed_4 (by decide) ?_
  refine q_add B dX12_feed_6 ?_
  refine q_sip B dX12_feed_7 (by decide) ?_
  refine q_cle (tgt := 15) B dX12_feed_10 (by decide) (by unfold inr; omega) (by unfold inr; omega) (fun c34 => ?_) (fun c34 => ?_)
  · refine q_con B dX12_feed_15 ?_
    refine lv_istore (lv' := [(6, .int (II 0)), (0, .ref h0), (1, .int (II a_a)), (2, .int (II a_b)), (3, .int (II a_c)), (4, .int (II a_d)), (5, .int (II a_e))]) B.1 B.2.1 dX12_feed_16 hl (by decide) rfl (fun ls hl => ?_)
    have hv35 : ((-2147483648 : Int) ≤ 0 ∧ (0 : Int) ≤ 2147483647) ∧ (0 ≤ (0 : Int)) ∧ ((0 : Int) ≤ 20) ∧ ((f 1) ≤ 2980) ∧ (0 ≤ 20 - (0 : Int)) := by first | omega | (simp only [wr_at]; omega) | exact ⟨by first | omega | (simp only [wr_at]; omega) | assumption, by first | omega | (simp only [wr_at]; omega) | assumption, by first | omega | (simp only [wr_at]; omega) | assumption, by first | omega | (simp only [wr_at]; omega) | assumption, by first | omega | (simp only [wr_at]; omega) | assumption⟩
    exact LL18 (Int.toNat (20 - (0 : Int) + 1)) 0 ((A 0)) _ _ ls hM (lv_sub hl [1, 2, 3, 4, 5, 6, 0] rfl) hv35.1 hv35.2.1 hv35.2.2.1 hv35.2.2.2.1 hv35.2.2.2.2 (by first | omega | (simp only [wr_at]; omega) | assumption)
  · refine q_con B dX12_feed_13 ?_
    subst hPST
    have hv36 : (((f 1) ≤ 2980 → (f 1) = (f 1) + 20 ∧ (-1 : Int) = (f 1) + 20)) ∧ ((2980 < (f 1) → (f 1) = (f 1) ∧ (-1 : Int) = -1)) := by first | omega | (simp only [wr_at]; omega) | exact ⟨by first | omega | (simp only [wr_at]; omega) | assumption, by first | omega | (simp only [wr_at]; omega) | assumption⟩
    exact m_iret B hM dX12_feed_14 (by unfold inr; omega) ⟨(f 1), ((A 0)), rfl, hv36.1, hv36.2⟩
set_option maxHeartbeats 4000000 in
set_option maxRecDepth 20000 in
theorem k_end (l : Launch) (D : va_G) (dA : Nat → ClassId) (h0 : Nat) (ad : Nat → Nat) (f : Nat → Int) (g : Nat → Int64) (A : Nat → Nat → Int) (L : Nat → Nat → Int64) (a_n : Int) (i_n : (-2147483648 : Int) ≤ a_n ∧ a_n ≤ 2147483647) : MCi l yX12_end cX12_end 2 (some .int) ({ frames := 0, cells := 0, slots := 0, locals := 0 }) D dA h0 ad (f, g, A, L) [.int (II a_n)] (fun (r : Int) (σ : MS) => ∃ n1 : Int, σ = ((up f [(1, n1)]), g, A, L) ∧ ((0 ≤ (a_n) → (a_n) ≤ (f 1) → (n1) = (a_n) ∧ r = (a_n)) ∧ ((a_n) < 0 ∨ (f 1) < (a_n) → (n1) = (f 1) ∧ r = -1))) := by
  generalize hPST : (fun (r : Int) (σ : MS) => ∃ n1 : Int, σ = ((up f [(1, n1)]), g, A, L) ∧ ((0 ≤ (a_n) → (a_n) ≤ (f 1) → (n1) = (a_n) ∧ r = (a_n)) ∧ ((a_n) < 0 ∨ (f 1) < (a_n) → (n1) = (f 1) ∧ r = -1))) = PST
  refine m_enter (by decide) rfl (Nat.le_of_ble_eq_true rfl) (fun p e s m args below meth c ls B hM hl => ?_)
  have hA : ∀ q, s.heap.size ≤ q → mF dA h0 ad (f, g, A, L) s.heap.size q := fun q h => Or.inr h
  have hM : MWd D dA h0 ad (mF dA h0 ad (f, g, A, L) s.heap.size) s.heap ((up f [(1, f 1)]), g, A, L) s.heap [] := MW_pad hM (up_self f [1]) rfl rfl rfl
  have hl : lv_has ls 2 [(0, .ref h0), (1, .int (II a_n))] := hl
  have r1 : (0 : Int) ≤ f 1 ∧ f 1 ≤ 3000 := hM.2.2.2.1 1
  refine lv_iload_n B.1 B.2.1 dX12_end_0 rfl (lv_at hl 1 rfl) ?_
  refine q_ilt (tgt := 12) B dX12_end_1 (by decide) (by unfold inr; omega) (fun c2 => ?_) (fun c2 => ?_)
  · refine q_con B dX12_end_12 ?_
    subst hPST
    have hv3 : ((0 ≤ (a_n) → (a_n) ≤ (f 1) → (f 1) = (a_n) ∧ (-1 : Int) = (a_n))) ∧ (((a_n) < 0 ∨ (f 1) < (a_n) → (f 1) = (f 1) ∧ (-1 : Int) = -1)) := by first | omega | (simp only [wr_at]; omega) | exact ⟨by first | omega | (simp only [wr_at]; omega) | assumption, by first | omega | (simp only [wr_at]; omega) | assumption⟩
    exact m_iret B hM dX12_end_13 (by unfold inr; omega) ⟨(f 1), rfl, hv3.1, hv3.2⟩
  · refine lv_iload_n B.1 B.2.1 dX12_end_4 rfl (lv_at hl 1 rfl) ?_
    refine lv_aload_n B.1 B.2.1 dX12_end_5 rfl (lv_at hl 0 rfl) ?_
    refine m_get (k := 1) (v := f 1) B hM (by decide) rfl fl512 dX12_end_6 rfl ?_
    refine q_cle (tgt := 14) B dX12_end_9 (by decide) (by unfold inr; omega) (by unfold inr; omega) (fun c4 => ?_) (fun c4 => ?_)
    · refine lv_aload_n B.1 B.2.1 dX12_end_14 rfl (lv_at hl 0 rfl) ?_
      refine lv_iload_n B.1 B.2.1 dX12_end_15 rfl (lv_at hl 1 rfl) ?_
      refine m_put (k := 1) B hM (by decide) rfl fl512 rfl dX12_end_16 rfl rfl (show (0 : Int) ≤ a_n from by first | omega | (simp only [wr_at]; omega)) (show a_n ≤ (3000 : Int) from by first | omega | (simp only [wr_at]; omega)) (u1_up f [(1, f 1)] 1 a_n) (fun H locs hM => ?_)
      replace hM : MWd D dA h0 ad (mF dA h0 ad (f, g, A, L) s.heap.size) s.heap ((up f [(1, a_n)]), g, A, L) H locs := hM
      refine lv_iload_n B.1 B.2.1 dX12_end_19 rfl (lv_at hl 1 rfl) ?_
      subst hPST
      have hv5 : ((0 ≤ (a_n) → (a_n) ≤ (f 1) → (a_n) = (a_n) ∧ (a_n) = (a_n))) ∧ (((a_n) < 0 ∨ (f 1) < (a_n) → (a_n) = (f 1) ∧ (a_n) = -1)) := by first | omega | (simp only [wr_at]; omega) | exact ⟨by first | omega | (simp only [wr_at]; omega) | assumption, by first | omega | (simp only [wr_at]; omega) | assumption⟩
      exact m_iret B hM dX12_end_20 (by unfold inr; omega) ⟨a_n, rfl, hv5.1, hv5.2⟩
    · refine q_con B dX12_end_12 ?_
      subst hPST
      have hv6 : ((0 ≤ (a_n) → (a_n) ≤ (f 1) → (f 1) = (a_n) ∧ (-1 : Int) = (a_n))) ∧ (((a_n) < 0 ∨ (f 1) < (a_n) → (f 1) = (f 1) ∧ (-1 : Int) = -1)) := by first | omega | (simp only [wr_at]; omega) | exact ⟨by first | omega | (simp only [wr_at]; omega) | assumption, by first | omega | (simp only [wr_at]; omega) | assumption⟩
      exact m_iret B hM dX12_end_13 (by unfold inr; omega) ⟨(f 1), rfl, hv6.1, hv6.2⟩

