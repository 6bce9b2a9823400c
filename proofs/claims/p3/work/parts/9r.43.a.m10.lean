set_option maxHeartbeats 200000000 in
set_option maxRecDepth 20000 in
theorem k_addNumber (l : Launch) (D : va_G) (dA : Nat → ClassId) (h0 : Nat) (ad : Nat → Nat) (f : Nat → Int) (g : Nat → Int64) (A : Nat → Nat → Int) (L : Nat → Nat → Int64) (a_f : Int) (a_v : Int) (i_f : (-2147483648 : Int) ≤ a_f ∧ a_f ≤ 2147483647) (i_v : (-2147483648 : Int) ≤ a_v ∧ a_v ≤ 2147483647) (p_0 : 0 ≤ (a_f)) (p_1 : (a_f) < 500) (p_2 : (f 128) ≤ 900) : MCv l yX12_addNumber cX12_addNumber 7 ({ frames := 1, cells := 0, slots := 0, locals := 22 }) D dA h0 ad (f, g, A, L) [.int (II a_f), .int (II a_v)] (fun (σ : MS) => ∃ n128 : Int, ∃ b117 : Nat → Int, σ = ((up f [(128, n128)]), g, (up A [(117, b117)]), L) ∧ ((n128) ≤ (f 128) + 12)) := by
  generalize hPST : (fun (σ : MS) => ∃ n128 : Int, ∃ b117 : Nat → Int, σ = ((up f [(128, n128)]), g, (up A [(117, b117)]), L) ∧ ((n128) ≤ (f 128) + 12)) = PST
  refine m_enterv (by decide) rfl (Nat.le_of_ble_eq_true rfl) (fun p e s m args below meth c ls B hM hl => ?_)
  have hA : ∀ q, s.heap.size ≤ q → mF dA h0 ad (f, g, A, L) s.heap.size q := fun q h => Or.inr h
  have hM : MWd D dA h0 ad (mF dA h0 ad (f, g, A, L) s.heap.size) s.heap ((up f [(128, f 128)]), g, (up A [(117, (A 117))]), L) s.heap [] := MW_pad hM (up_self f [128]) rfl (up_self A [117]) rfl
  have hl : lv_has ls 7 [(0, .ref h0), (1, .int (II a_f)), (2, .int (II a_v))] := hl
  have r1 : (0 : Int) ≤ f 128 ∧ f 128 ≤ 1000 := hM.2.2.2.1 128
  have LL49 : ∀ N : Nat, ∀ (v49_3 : Int64) (v49_5 : Int64) (y49_128 : Int) (y49_117 : Nat → Int) (H : Heap) (locs : List Loc) (ls : Array Slot), (MWd D dA h0 ad (mF dA h0 ad (f, g, A, L) s.heap.size) s.heap ((up f [(128, y49_128)]), g, (up A [(117, y49_117)]), L) H locs) → lv_has ls 7 [(0, .ref h0), (1, .int (II a_f)), (2, .int (II a_v)), (3, .long v49_3), (5, .long v49_5)] → (0 ≤ ((v49_3)).toInt) → (0 ≤ ((v49_5)).toInt) → (((v49_5)).toInt ≤ 2147483648) → (SDp (y49_128) ((v49_5)).toInt ((f 128) + 12)) → (0 ≤ ((v49_5)).toInt) → (((v49_5)).toInt < (N : Int)) → W p l e ({ frames := 1, cells := 0, slots := 0, locals := 22 }) s m args below meth c H locs 0 0 (MQ below (mQv D dA h0 ad (f, g, A, L) s.heap.size PST) args s 0 0 (mF dA h0 ad (f, g, A, L) s.heap.size)) (F0 m 49 ls []) := by
    intro N
    induction N with
    | zero => intro v49_3 v49_5 y49_128 y49_117 H locs ls hM hl hLL49_0 hLL49_1 hLL49_2 hLL49_3 hLL49_4 hN; exfalso; omega
    | succ N IH49 =>
      intro v49_3 v49_5 y49_128 y49_117 H locs ls hM hl hLL49_0 hLL49_1 hLL49_2 hLL49_3 hLL49_4 hN
      have r2 : (0 : Int) ≤ y49_128 ∧ y49_128 ≤ 1000 := hM.2.2.2.1 128
      have hse := SDp_end hLL49_3
      refine lv_lload B.1 B.2.1 dX12_addNumber_49 (lv_at hl 4 rfl) ?_
      refine lv_lconst (v := 0) B.1 B.2.1 dX12_addNumber_51 (by decide) ?_
      have c3 : (0 : Int64).toInt = 0 := by decide
      refine q_lcmpZ B dX12_addNumber_52 (fun x5 lx5 ux5 ex5 fx5 => ?_)
      refine q_ile (tgt := 84) B dX12_addNumber_53 (by decide) (by unfold inr; omega) (fun c6 => ?_) (fun c6 => ?_)
      · subst hPST
        exact m_vret B hM dX12_addNumber_84 ⟨y49_128, y49_117, rfl, (by first | omega | (simp only [wr_at] <;> omega) | assumption | (intro _; exact wr_at _ _ _))⟩
      · refine lv_aload_n B.1 B.2.1 dX12_addNumber_56 rfl (lv_at hl 0 rfl) ?_
        refine lv_iload_n B.1 B.2.1 dX12_addNumber_57 rfl (lv_at hl 1 rfl) ?_
        refine q_bip B dX12_addNumber_58 (by decide) ?_
        refine lv_lload_n B.1 B.2.1 dX12_addNumber_60 rfl (lv_at hl 3 rfl) ?_
        refine lv_lload B.1 B.2.1 dX12_addNumber_61 (lv_at hl 4 rfl) ?_
        refine q_ldivV B (by omega) (by omega) dX12_addNumber_63 (fun w7 ew7 fw7 => ?_)
        refine lv_ldc2 B.1 B.2.1 B.2.2.2.1 (B.2.2.2.2.1 _ lc700) dX12_addNumber_64 ?_
        have c8 : (10 : Int64).toInt = 10 := by decide
        refine q_lremA B (by omega) dX12_addNumber_67 (fun w9 => ?_)
        refine q_l2i B dX12_addNumber_68 (fun x10 ix10 => ?_)
        unfold inr at ix10
        refine q_add B dX12_addNumber_69 ?_
        refine q_wrap (fun x11 ix11 => ?_)
        have hv12 : ((-2147483648 : Int) ≤ a_f ∧ (a_f : Int) ≤ 2147483647) ∧ ((-2147483648 : Int) ≤ x11 ∧ (x11 : Int) ≤ 2147483647) ∧ (0 ≤ (a_f)) ∧ ((a_f) < 500) ∧ ((y49_128) ≤ 999) := by first | omega | (simp only [wr_at] <;> omega) | exact ⟨by first | omega | (simp only [wr_at] <;> omega) | assumption | (intro _; exact wr_at _ _ _), by first | omega | (simp only [wr_at] <;> omega) | assumption | (intro _; exact wr_at _ _ _), by first | omega | (simp only [wr_at] <;> omega) | assumption | (intro _; exact wr_at _ _ _), by first | omega | (simp only [wr_at] <;> omega) | assumption | (intro _; exact wr_at _ _ _), by first | omega | (simp only [wr_at] <;> omega) | assumption | (intro _; exact wr_at _ _ _)⟩
        refine m_callv (n := 2) (rest := []) B hM hA hl.1 (k_add2 l D dA h0 ad (up f [(128, y49_128)]) g (up A [(117, y49_117)]) L a_f x11 hv12.1 hv12.2.1 hv12.2.2.1 hv12.2.2.2.1 hv12.2.2.2.2) rfl ok_add2 nm_add2 ⟨rfl, rfl⟩ ⟨Nat.le_of_ble_eq_true rfl, Nat.le_of_ble_eq_true rfl⟩ dX12_addNumber_70 rfl rfl (Nat.le_of_ble_eq_true rfl) ⟨Nat.zero_le _, Nat.zero_le _⟩ (fun σr13 H locs hp14 hM => ?_)
        obtain ⟨b15, rfl, hp14⟩ := hp14
        replace hp14 : True := hp14
        replace hM := MW_uF hM rfl
        replace hM := MW_uA hM rfl
        replace hM : MWd D dA h0 ad (mF dA h0 ad (f, g, A, L) s.heap.size) s.heap ((up f [(128, (y49_128) + 1)]), g, (up A [(117, b15)]), L) H locs := hM
        have r16 : (0 : Int) ≤ (y49_128) + 1 ∧ (y49_128) + 1 ≤ 1000 := hM.2.2.2.1 128
        refine lv_lload B.1 B.2.1 dX12_addNumber_73 (lv_at hl 4 rfl) ?_
        refine lv_ldc2 B.1 B.2.1 B.2.2.2.1 (B.2.2.2.2.1 _ lc700) dX12_addNumber_75 ?_
        have c17 : (10 : Int64).toInt = 10 := by decide
        refine q_ldiv10 B (by omega) dX12_addNumber_78 (fun w18 ew18 => ?_)
        refine lv_lstore (lv' := [(5, .long w18), (0, .ref h0), (1, .int (II a_f)), (2, .int (II a_v)), (3, .long v49_3)]) B.1 B.2.1 dX12_addNumber_79 hl (by decide) rfl (fun ls hl => ?_)
        refine lv_goto (tgt := 49) B.1 B.2.1 dX12_addNumber_81 (by decide) ?_
        have hv19 : (0 ≤ ((v49_3)).toInt) ∧ (0 ≤ ((w18)).toInt) ∧ (((w18)).toInt ≤ 2147483648) ∧ (0 ≤ ((w18)).toInt) := by first | omega | (simp only [wr_at] <;> omega) | exact ⟨by first | omega | (simp only [wr_at] <;> omega) | assumption | (intro _; exact wr_at _ _ _), by first | omega | (simp only [wr_at] <;> omega) | assumption | (intro _; exact wr_at _ _ _), by first | omega | (simp only [wr_at] <;> omega) | assumption | (intro _; exact wr_at _ _ _), by first | omega | (simp only [wr_at] <;> omega) | assumption | (intro _; exact wr_at _ _ _)⟩
        exact IH49 v49_3 w18 ((y49_128) + 1) b15 _ _ ls hM (lv_sub hl [1, 2, 3, 4, 0] rfl) hv19.1 hv19.2.1 hv19.2.2.1 (by first | assumption | exact SDp_0 (by omega) | exact SDp_div (by assumption) (by omega) (by omega) (by omega) (by omega)) hv19.2.2.2 (by first | omega | (simp only [wr_at] <;> omega) | assumption | (intro _; exact wr_at _ _ _))
  have LL27 : ∀ N : Nat, ∀ (v27_3 : Int64) (v27_5 : Int64) (y27_128 : Int) (y27_117 : Nat → Int) (H : Heap) (locs : List Loc) (ls : Array Slot), (MWd D dA h0 ad (mF dA h0 ad (f, g, A, L) s.heap.size) s.heap ((up f [(128, y27_128)]), g, (up A [(117, y27_117)]), L) H locs) → lv_has ls 7 [(0, .ref h0), (1, .int (II a_f)), (2, .int (II a_v)), (3, .long v27_3), (5, .long v27_5)] → (0 ≤ ((v27_3)).toInt) → (((v27_3)).toInt ≤ 2147483648) → (1 ≤ ((v27_5)).toInt) → (((v27_5)).toInt ≤ 2147483648) → ((y27_128) ≤ (f 128) + 1) → (0 ≤ 2147483648 - ((v27_5)).toInt) → (2147483648 - ((v27_5)).toInt < (N : Int)) → W p l e ({ frames := 1, cells := 0, slots := 0, locals := 22 }) s m args below meth c H locs 0 0 (MQ below (mQv D dA h0 ad (f, g, A, L) s.heap.size PST) args s 0 0 (mF dA h0 ad (f, g, A, L) s.heap.size)) (F0 m 27 ls []) := by
    intro N
    induction N with
    | zero => intro v27_3 v27_5 y27_128 y27_117 H locs ls hM hl hLL27_0 hLL27_1 hLL27_2 hLL27_3 hLL27_4 hLL27_5 hN; exfalso; omega
    | succ N IH27 =>
      intro v27_3 v27_5 y27_128 y27_117 H locs ls hM hl hLL27_0 hLL27_1 hLL27_2 hLL27_3 hLL27_4 hLL27_5 hN
      have r20 : (0 : Int) ≤ y27_128 ∧ y27_128 ≤ 1000 := hM.2.2.2.1 128
      refine lv_lload_n B.1 B.2.1 dX12_addNumber_27 rfl (lv_at hl 3 rfl) ?_
      refine lv_lload B.1 B.2.1 dX12_addNumber_28 (lv_at hl 4 rfl) ?_
      refine q_ldivV B (by omega) (by omega) dX12_addNumber_30 (fun w21 ew21 fw21 => ?_)
      refine lv_ldc2 B.1 B.2.1 B.2.2.2.1 (B.2.2.2.2.1 _ lc698) dX12_addNumber_31 ?_
      have c22 : (9 : Int64).toInt = 9 := by decide
      refine q_lcmpZ B dX12_addNumber_34 (fun x24 lx24 ux24 ex24 fx24 => ?_)
      refine q_ile (tgt := 49) B dX12_addNumber_35 (by decide) (by unfold inr; omega) (fun c25 => ?_) (fun c25 => ?_)
      · have hv26 : (0 ≤ ((v27_3)).toInt) ∧ (0 ≤ ((v27_5)).toInt) ∧ (((v27_5)).toInt ≤ 2147483648) ∧ (0 ≤ ((v27_5)).toInt) := by first | omega | (simp only [wr_at] <;> omega) | exact ⟨by first | omega | (simp only [wr_at] <;> omega) | assumption | (intro _; exact wr_at _ _ _), by first | omega | (simp only [wr_at] <;> omega) | assumption | (intro _; exact wr_at _ _ _), by first | omega | (simp only [wr_at] <;> omega) | assumption | (intro _; exact wr_at _ _ _), by first | omega | (simp only [wr_at] <;> omega) | assumption | (intro _; exact wr_at _ _ _)⟩
        exact LL49 (Int.toNat (((v27_5)).toInt + 1)) v27_3 v27_5 y27_128 y27_117 _ _ ls hM (lv_sub hl [0, 1, 2, 3, 4] rfl) hv26.1 hv26.2.1 hv26.2.2.1 (by first | assumption | exact SDp_0 (by omega) | exact SDp_div (by assumption) (by omega) (by omega) (by omega) (by omega)) hv26.2.2.2 (by first | omega | (simp only [wr_at] <;> omega) | assumption | (intro _; exact wr_at _ _ _))
      · refine lv_lload B.1 B.2.1 dX12_addNumber_38 (lv_at hl 4 rfl) ?_
        refine lv_ldc2 B.1 B.2.1 B.2.2.2.1 (B.2.2.2.2.1 _ lc700) dX12_addNumber_40 ?_
        have c27 : (10 : Int64).toInt = 10 := by decide
        refine q_lmul10 B (by omega) dX12_addNumber_43 (fun w28 ew28 => ?_)
        refine lv_lstore (lv' := [(5, .long w28), (0, .ref h0), (1, .int (II a_f)), (2, .int (II a_v)), (3, .long v27_3)]) B.1 B.2.1 dX12_addNumber_44 hl (by decide) rfl (fun ls hl => ?_)
        refine lv_goto (tgt := 27) B.1 B.2.1 dX12_addNumber_46 (by decide) ?_
        have hv29 : (0 ≤ ((v27_3)).toInt) ∧ (((v27_3)).toInt ≤ 2147483648) ∧ (1 ≤ ((w28)).toInt) ∧ (((w28)).toInt ≤ 2147483648) ∧ ((y27_128) ≤ (f 128) + 1) ∧ (0 ≤ 2147483648 - ((w28)).toInt) := by first | omega | (simp only [wr_at] <;> omega) | exact ⟨by first | omega | (simp only [wr_at] <;> omega) | assumption | (intro _; exact wr_at _ _ _), by first | omega | (simp only [wr_at] <;> omega) | assumption | (intro _; exact wr_at _ _ _), by first | omega | (simp only [wr_at] <;> omega) | assumption | (intro _; exact wr_at _ _ _), by first | omega | (simp only [wr_at] <;> omega) | assumption | (intro _; exact wr_at _ _ _), by first | omega | (simp only [wr_at] <;> omega) | assumption | (intro _; exact wr_at _ _ _), by first | omega | (simp only [wr_at] <;> omega) | assumption | (intro _; exact wr_at _ _ _)⟩
        exact IH27 v27_3 w28 y27_128 y27_117 _ _ ls hM (lv_sub hl [1, 2, 3, 4, 0] rfl) hv29.1 hv29.2.1 hv29.2.2.1 hv29.2.2.2.1 hv29.2.2.2.2.1 hv29.2.2.2.2.2 (by first | omega | (simp only [wr_at] <;> omega) | assumption | (intro _; exact wr_at _ _ _))
  refine lv_iload_n B.1 B.2.1 dX12_addNumber_0 rfl (lv_at hl 2 rfl) ?_
  refine q_ige (tgt := 10) B dX12_addNumber_1 (by decide) (by unfold inr; omega) (fun c30 => ?_) (fun c30 => ?_)
  · refine lv_iload_n B.1 B.2.1 dX12_addNumber_10 rfl (lv_at hl 2 rfl) ?_
    refine q_i2lZ B (by unfold inr; omega) dX12_addNumber_11 (fun w31 ew31 => ?_)
    refine lv_lstore_n (lv' := [(3, .long w31), (0, .ref h0), (1, .int (II a_f)), (2, .int (II a_v))]) B.1 B.2.1 dX12_addNumber_12 rfl hl (by decide) rfl (fun ls hl => ?_)
    refine lv_iload_n B.1 B.2.1 dX12_addNumber_13 rfl (lv_at hl 3 rfl) ?_
    refine q_ige (tgt := 24) B dX12_addNumber_14 (by decide) (by unfold inr; omega) (fun c32 => ?_) (fun c32 => ?_)
    · refine lv_lconst (v := 1) B.1 B.2.1 dX12_addNumber_24 (by decide) ?_
      have c33 : (1 : Int64).toInt = 1 := by decide
      refine lv_lstore (lv' := [(5, .long ((1 : Int64))), (3, .long w31), (0, .ref h0), (1, .int (II a_f)), (2, .int (II a_v))]) B.1 B.2.1 dX12_addNumber_25 hl (by decide) rfl (fun ls hl => ?_)
      have hv34 : (0 ≤ ((w31)).toInt) ∧ (((w31)).toInt ≤ 2147483648) ∧ (1 ≤ (((1 : Int64))).toInt) ∧ ((((1 : Int64))).toInt ≤ 2147483648) ∧ ((f 128) ≤ (f 128) + 1) ∧ (0 ≤ 2147483648 - (((1 : Int64))).toInt) := by first | omega | (simp only [wr_at] <;> omega) | exact ⟨by first | omega | (simp only [wr_at] <;> omega) | assumption | (intro _; exact wr_at _ _ _), by first | omega | (simp only [wr_at] <;> omega) | assumption | (intro _; exact wr_at _ _ _), by first | omega | (simp only [wr_at] <;> omega) | assumption | (intro _; exact wr_at _ _ _), by first | omega | (simp only [wr_at] <;> omega) | assumption | (intro _; exact wr_at _ _ _), by first | omega | (simp only [wr_at] <;> omega) | assumption | (intro _; exact wr_at _ _ _), by first | omega | (simp only [wr_at] <;> omega) | assumption | (intro _; exact wr_at _ _ _)⟩
      exact LL27 (Int.toNat (2147483648 - (((1 : Int64))).toInt + 1)) w31 ((1 : Int64)) (f 128) ((A 117)) _ _ ls hM (lv_sub hl [2, 3, 4, 1, 0] rfl) hv34.1 hv34.2.1 hv34.2.2.1 hv34.2.2.2.1 hv34.2.2.2.2.1 hv34.2.2.2.2.2 (by first | omega | (simp only [wr_at] <;> omega) | assumption | (intro _; exact wr_at _ _ _))
    · refine lv_aload_n B.1 B.2.1 dX12_addNumber_17 rfl (lv_at hl 1 rfl) ?_
      refine lv_iload_n B.1 B.2.1 dX12_addNumber_18 rfl (lv_at hl 2 rfl) ?_
      refine q_bip B dX12_addNumber_19 (by decide) ?_
      have hv35 : ((-2147483648 : Int) ≤ a_f ∧ (a_f : Int) ≤ 2147483647) ∧ ((-2147483648 : Int) ≤ 45 ∧ (45 : Int) ≤ 2147483647) ∧ (0 ≤ (a_f)) ∧ ((a_f) < 500) ∧ ((f 128) ≤ 999) := by first | omega | (simp only [wr_at] <;> omega) | exact ⟨by first | omega | (simp only [wr_at] <;> omega) | assumption | (intro _; exact wr_at _ _ _), by first | omega | (simp only [wr_at] <;> omega) | assumption | (intro _; exact wr_at _ _ _), by first | omega | (simp only [wr_at] <;> omega) | assumption | (intro _; exact wr_at _ _ _), by first | omega | (simp only [wr_at] <;> omega) | assumption | (intro _; exact wr_at _ _ _), by first | omega | (simp only [wr_at] <;> omega) | assumption | (intro _; exact wr_at _ _ _)⟩
      refine m_callv (n := 2) (rest := []) B hM hA hl.1 (k_add2 l D dA h0 ad (up f [(128, f 128)]) g (up A [(117, (A 117))]) L a_f 45 hv35.1 hv35.2.1 hv35.2.2.1 hv35.2.2.2.1 hv35.2.2.2.2) rfl ok_add2 nm_add2 ⟨rfl, rfl⟩ ⟨Nat.le_of_ble_eq_true rfl, Nat.le_of_ble_eq_true rfl⟩ dX12_addNumber_21 rfl rfl (Nat.le_of_ble_eq_true rfl) ⟨Nat.zero_le _, Nat.zero_le _⟩ (fun σr36 H locs hp37 hM => ?_)
      obtain ⟨b38, rfl, hp37⟩ := hp37
      replace hp37 : True := hp37
      replace hM := MW_uF hM rfl
      replace hM := MW_uA hM rfl
      replace hM : MWd D dA h0 ad (mF dA h0 ad (f, g, A, L) s.heap.size) s.heap ((up f [(128, (f 128) + 1)]), g, (up A [(117, b38)]), L) H locs := hM
      have r39 : (0 : Int) ≤ (f 128) + 1 ∧ (f 128) + 1 ≤ 1000 := hM.2.2.2.1 128
      refine lv_lconst (v := 1) B.1 B.2.1 dX12_addNumber_24 (by decide) ?_
      have c40 : (1 : Int64).toInt = 1 := by decide
      refine lv_lstore (lv' := [(5, .long ((1 : Int64))), (3, .long w31), (0, .ref h0), (1, .int (II a_f)), (2, .int (II a_v))]) B.1 B.2.1 dX12_addNumber_25 hl (by decide) rfl (fun ls hl => ?_)
      have hv41 : (0 ≤ ((w31)).toInt) ∧ (((w31)).toInt ≤ 2147483648) ∧ (1 ≤ (((1 : Int64))).toInt) ∧ ((((1 : Int64))).toInt ≤ 2147483648) ∧ (((f 128) + 1) ≤ (f 128) + 1) ∧ (0 ≤ 2147483648 - (((1 : Int64))).toInt) := by first | omega | (simp only [wr_at] <;> omega) | exact ⟨by first | omega | (simp only [wr_at] <;> omega) | assumption | (intro _; exact wr_at _ _ _), by first | omega | (simp only [wr_at] <;> omega) | assumption | (intro _; exact wr_at _ _ _), by first | omega | (simp only [wr_at] <;> omega) | assumption | (intro _; exact wr_at _ _ _), by first | omega | (simp only [wr_at] <;> omega) | assumption | (intro _; exact wr_at _ _ _), by first | omega | (simp only [wr_at] <;> omega) | assumption | (intro _; exact wr_at _ _ _), by first | omega | (simp only [wr_at] <;> omega) | assumption | (intro _; exact wr_at _ _ _)⟩
      exact LL27 (Int.toNat (2147483648 - (((1 : Int64))).toInt + 1)) w31 ((1 : Int64)) ((f 128) + 1) b38 _ _ ls hM (lv_sub hl [2, 3, 4, 1, 0] rfl) hv41.1 hv41.2.1 hv41.2.2.1 hv41.2.2.2.1 hv41.2.2.2.2.1 hv41.2.2.2.2.2 (by first | omega | (simp only [wr_at] <;> omega) | assumption | (intro _; exact wr_at _ _ _))
  · refine lv_iload_n B.1 B.2.1 dX12_addNumber_4 rfl (lv_at hl 2 rfl) ?_
    refine q_i2lZ B (by unfold inr; omega) dX12_addNumber_5 (fun w42 ew42 => ?_)
    refine q_lnegZ B (by omega) dX12_addNumber_6 (fun w43 ew43 => ?_)
    refine lv_goto (tgt := 12) B.1 B.2.1 dX12_addNumber_7 (by decide) ?_
    refine lv_lstore_n (lv' := [(3, .long w43), (0, .ref h0), (1, .int (II a_f)), (2, .int (II a_v))]) B.1 B.2.1 dX12_addNumber_12 rfl hl (by decide) rfl (fun ls hl => ?_)
    refine lv_iload_n B.1 B.2.1 dX12_addNumber_13 rfl (lv_at hl 3 rfl) ?_
    refine q_ige (tgt := 24) B dX12_addNumber_14 (by decide) (by unfold inr; omega) (fun c44 => ?_) (fun c44 => ?_)
    · refine lv_lconst (v := 1) B.1 B.2.1 dX12_addNumber_24 (by decide) ?_
      have c45 : (1 : Int64).toInt = 1 := by decide
      refine lv_lstore (lv' := [(5, .long ((1 : Int64))), (3, .long w43), (0, .ref h0), (1, .int (II a_f)), (2, .int (II a_v))]) B.1 B.2.1 dX12_addNumber_25 hl (by decide) rfl (fun ls hl => ?_)
      have hv46 : (0 ≤ ((w43)).toInt) ∧ (((w43)).toInt ≤ 2147483648) ∧ (1 ≤ (((1 : Int64))).toInt) ∧ ((((1 : Int64))).toInt ≤ 2147483648) ∧ ((f 128) ≤ (f 128) + 1) ∧ (0 ≤ 2147483648 - (((1 : Int64))).toInt) := by first | omega | (simp only [wr_at] <;> omega) | exact ⟨by first | omega | (simp only [wr_at] <;> omega) | assumption | (intro _; exact wr_at _ _ _), by first | omega | (simp only [wr_at] <;> omega) | assumption | (intro _; exact wr_at _ _ _), by first | omega | (simp only [wr_at] <;> omega) | assumption | (intro _; exact wr_at _ _ _), by first | omega | (simp only [wr_at] <;> omega) | assumption | (intro _; exact wr_at _ _ _), by first | omega | (simp only [wr_at] <;> omega) | assumption | (intro _; exact wr_at _ _ _), by first | omega | (simp only [wr_at] <;> omega) | assumption | (intro _; exact wr_at _ _ _)⟩
      exact LL27 (Int.toNat (2147483648 - (((1 : Int64))).toInt + 1)) w43 ((1 : Int64)) (f 128) ((A 117)) _ _ ls hM (lv_sub hl [2, 3, 4, 1, 0] rfl) hv46.1 hv46.2.1 hv46.2.2.1 hv46.2.2.2.1 hv46.2.2.2.2.1 hv46.2.2.2.2.2 (by first | omega | (simp only [wr_at] <;> omega) | assumption | (intro _; exact wr_at _ _ _))
    · refine lv_aload_n B.1 B.2.1 dX12_addNumber_17 rfl (lv_at hl 1 rfl) ?_
      refine lv_iload_n B.1 B.2.1 dX12_addNumber_18 rfl (lv_at hl 2 rfl) ?_
      refine q_bip B dX12_addNumber_19 (by decide) ?_
      have hv47 : ((-2147483648 : Int) ≤ a_f ∧ (a_f : Int) ≤ 2147483647) ∧ ((-2147483648 : Int) ≤ 45 ∧ (45 : Int) ≤ 2147483647) ∧ (0 ≤ (a_f)) ∧ ((a_f) < 500) ∧ ((f 128) ≤ 999) := by first | omega | (simp only [wr_at] <;> omega) | exact ⟨by first | omega | (simp only [wr_at] <;> omega) | assumption | (intro _; exact wr_at _ _ _), by first | omega | (simp only [wr_at] <;> omega) | assumption | (intro _; exact wr_at _ _ _), by first | omega | (simp only [wr_at] <;> omega) | assumption | (intro _; exact wr_at _ _ _), by first | omega | (simp only [wr_at] <;> omega) | assumption | (intro _; exact wr_at _ _ _), by first | omega | (simp only [wr_at] <;> omega) | assumption | (intro _; exact wr_at _ _ _)⟩
      refine m_callv (n := 2) (rest := []) B hM hA hl.1 (k_add2 l D dA h0 ad (up f [(128, f 128)]) g (up A [(117, (A 117))]) L a_f 45 hv47.1 hv47.2.1 hv47.2.2.1 hv47.2.2.2.1 hv47.2.2.2.2) rfl ok_add2 nm_add2 ⟨rfl, rfl⟩ ⟨Nat.le_of_ble_eq_true rfl, Nat.le_of_ble_eq_true rfl⟩ dX12_addNumber_21 rfl rfl (Nat.le_of_ble_eq_true rfl) ⟨Nat.zero_le _, Nat.zero_le _⟩ (fun σr48 H locs hp49 hM => ?_)
      obtain ⟨b50, rfl, hp49⟩ := hp49
      replace hp49 : True := hp49
      replace hM := MW_uF hM rfl
      replace hM := MW_uA hM rfl
      replace hM : MWd D dA h0 ad (mF dA h0 ad (f, g, A, L) s.heap.size) s.heap ((up f [(128, (f 128) + 1)]), g, (up A [(117, b50)]), L) H locs := hM
      have r51 : (0 : Int) ≤ (f 128) + 1 ∧ (f 128) + 1 ≤ 1000 := hM.2.2.2.1 128
      refine lv_lconst (v := 1) B.1 B.2.1 dX12_addNumber_24 (by decide) ?_
      have c52 : (1 : Int64).toInt = 1 := by decide
      refine lv_lstore (lv' := [(5, .long ((1 : Int64))), (3, .long w43), (0, .ref h0), (1, .int (II a_f)), (2, .int (II a_v))]) B.1 B.2.1 dX12_addNumber_25 hl (by decide) rfl (fun ls hl => ?_)
      have hv53 : (0 ≤ ((w43)).toInt) ∧ (((w43)).toInt ≤ 2147483648) ∧ (1 ≤ (((1 : Int64))).toInt) ∧ ((((1 : Int64))).toInt ≤ 2147483648) ∧ (((f 128) + 1) ≤ (f 128) + 1) ∧ (0 ≤ 2147483648 - (((1 : Int64))).toInt) := by first | omega | (simp only [wr_at] <;> omega) | exact ⟨by first | omega | (simp only [wr_at] <;> omega) | assumption | (intro _; exact wr_at _ _ _), by first | omega | (simp only [wr_at] <;> omega) | assumption | (intro _; exact wr_at _ _ _), by first | omega | (simp only [wr_at] <;> omega) | assumption | (intro _; exact wr_at _ _ _), by first | omega | (simp only [wr_at] <;> omega) | assumption | (intro _; exact wr_at _ _ _), by first | omega | (simp only [wr_at] <;> omega) | assumption | (intro _; exact wr_at _ _ _), by first | omega | (simp only [wr_at] <;> omega) | assumption | (intro _; exact wr_at _ _ _)⟩
      exact LL27 (Int.toNat (2147483648 - (((1 : Int64))).toInt + 1)) w43 ((1 : Int64)) ((f 128) + 1) b50 _ _ ls hM (lv_sub hl [2, 3, 4, 1, 0] rfl) hv53.1 hv53.2.1 hv53.2.2.1 hv53.2.2.2.1 hv53.2.2.2.2.1 hv53.2.2.2.2.2 (by first | omega | (simp only [wr_at] <;> omega) | assumption | (intro _; exact wr_at _ _ _))
