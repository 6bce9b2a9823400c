set_option maxRecDepth 20000 in
theorem k_J1_indexOf_4cfef (l : Launch) (D : va_G) (dA : Nat → ClassId) (eA : Nat) (L : List Nat) (T N : Nat → Nat) (I : Nat → Nat → Int) (J : Nat → Nat → Int64) (R : Nat → Nat → Nat) (adK adV : Nat → Nat) (i : Nat) (hi : i < 2) (ch fr to : Int) (h0 : 0 ≤ ch) (hc : ch ≤ 65535) (h1 : fr = 0) (h3 : to = ((sxLen.getD i 0 : Nat) : Int)) : PE l yJ1_indexOf_4cfef cJ1_indexOf_4cfef 4 (some .int) ({ frames := 1, cells := 0, slots := 0, locals := 30 }) D dA eA L T N I J R adK adV [.ref (adV i), .int (II ch), .int (II fr), .int (II to)] (rI (fun r => 0 ≤ r → 2 ≤ ch)) := by
  generalize hPST : (rI (fun r => 0 ≤ r → 2 ≤ ch)) = PST
  refine p_enterE (own := RJ1) (by decide) rfl (Nat.le_of_ble_eq_true rfl) (fun p e s m args below meth c ls hE B hX hM hl => ?_)
  have hA : ∀ q, s.heap.size ≤ q → cF dA L T N I J R s.heap.size q := fun q h => Or.inr h
  have hl : lv_has ls 4 [(0, .ref (adV i)), (1, .int (II ch)), (2, .int (II fr)), (3, .int (II to))] := hl
  have hn := sx_len hi
  have hn1 := hn.1
  refine lv_iload_n B.1 B.2.1 dJ1_indexOf_4cfef_0 rfl (lv_at hl 1 rfl) ?_
  refine p_calli (c_runS (n := 1) (as := [.int (II ch)]) (rest := []) B hX hA hM hl.1 (k_J1_canEncode_9a6ad l D dA eA L T N I J R ch (by omega) _ _) ml_J1_88 nm_J1_canEncode_9a6ad ⟨rfl, rfl⟩ ⟨Nat.le_of_ble_eq_true rfl, Nat.le_of_ble_eq_true rfl⟩ dJ1_indexOf_4cfef_1 rfl rfl (Nat.le_of_ble_eq_true rfl) ⟨Nat.zero_le _, Nat.zero_le _⟩) (fun r ir hp => ?_)
  obtain ⟨r1, r2, -⟩ := hp
  refine q_ine (tgt := 9) B dJ1_indexOf_4cfef_4 (by decide) (by unfold inr; omega) (fun c1 => ?_) (fun c1 => ?_)
  · refine lv_iload_n B.1 B.2.1 dJ1_indexOf_4cfef_9 rfl (lv_at hl 2 rfl) ?_
    refine q_con B dJ1_indexOf_4cfef_10 ?_
    refine c_mmax B ml_J1_92 hl.1 (by unfold inr; omega) (by unfold inr; omega) (Nat.le_of_ble_eq_true rfl) (Nat.le_of_ble_eq_true rfl) (Nat.zero_le _) (Nat.zero_le _) dJ1_indexOf_4cfef_11 (fun x ox lx ux => ?_)
    refine lv_istore_n (lv' := [(2, .int (II x)), (0, .ref (adV i)), (1, .int (II ch)), (3, .int (II to))]) B.1 B.2.1 dJ1_indexOf_4cfef_14 rfl hl (by decide) rfl (fun ls hl => ?_)
    refine lv_iload_n B.1 B.2.1 dJ1_indexOf_4cfef_15 rfl (lv_at hl 3 rfl) ?_
    refine lv_aload_n B.1 B.2.1 dJ1_indexOf_4cfef_16 rfl (lv_at hl 1 rfl) ?_
    refine c_slen B (hE.1 i hi).2.2.2 hM.2.2.1 hn.2.1 dJ1_indexOf_4cfef_17 ?_
    refine c_mmin B ml_J1_38 hl.1 (by unfold inr; omega) (by unfold inr; omega) (Nat.le_of_ble_eq_true rfl) (Nat.le_of_ble_eq_true rfl) (Nat.zero_le _) (Nat.zero_le _) dJ1_indexOf_4cfef_18 (fun y oy ly uy => ?_)
    refine lv_istore_n (lv' := [(3, .int (II y)), (2, .int (II x)), (0, .ref (adV i)), (1, .int (II ch))]) B.1 B.2.1 dJ1_indexOf_4cfef_21 rfl hl (by decide) rfl (fun ls hl => ?_)
    refine lv_iload_n B.1 B.2.1 dJ1_indexOf_4cfef_22 rfl (lv_at hl 1 rfl) ?_
    refine lv_iload_n B.1 B.2.1 dJ1_indexOf_4cfef_23 rfl (lv_at hl 0 rfl) ?_
    refine q_clt (tgt := 29) B dJ1_indexOf_4cfef_24 (by decide) (by unfold inr; omega) (by unfold inr; omega) (fun c2 => ?_) (fun c2 => ?_)
    · refine lv_aload_n B.1 B.2.1 dJ1_indexOf_4cfef_29 rfl (lv_at hl 2 rfl) ?_
      refine lv_iload_n B.1 B.2.1 dJ1_indexOf_4cfef_30 rfl (lv_at hl 3 rfl) ?_
      refine lv_iload_n B.1 B.2.1 dJ1_indexOf_4cfef_31 rfl (lv_at hl 1 rfl) ?_
      refine lv_iload_n B.1 B.2.1 dJ1_indexOf_4cfef_32 rfl (lv_at hl 0 rfl) ?_
      refine p_calli (c_runSE (n := 4) (as := [.ref (adV i), .int (II ch), .int (II x), .int (II y)]) (rest := []) hE B hX hA hM hl.1 (k_J1_indexOfChar_4cfef l D dA eA L T N I J R adK adV i hi ch x y h0 hc (by omega) (by omega) (by omega) _ _) ml_J1_95 nm_J1_indexOfChar_4cfef ⟨rfl, rfl⟩ ⟨Nat.le_of_ble_eq_true rfl, Nat.le_of_ble_eq_true rfl⟩ dJ1_indexOf_4cfef_33 rfl rfl (Nat.le_of_ble_eq_true rfl) ⟨Nat.zero_le _, Nat.zero_le _⟩) (fun r ir hp => ?_)
      refine p_iret B dJ1_indexOf_4cfef_36 ?_
      rw [← hPST]
      exact ⟨r, rfl, ir, hp⟩
    · refine q_con B dJ1_indexOf_4cfef_27 ?_
      refine p_iret B dJ1_indexOf_4cfef_28 ?_
      rw [← hPST]
      exact ⟨(-1), rfl, by omega, by omega⟩
  · refine q_con B dJ1_indexOf_4cfef_7 ?_
    refine p_iret B dJ1_indexOf_4cfef_8 ?_
    rw [← hPST]
    exact ⟨(-1), rfl, by omega, by omega⟩
set_option maxRecDepth 20000 in
theorem k_J0_indexOf_7cf53 (l : Launch) (D : va_G) (dA : Nat → ClassId) (eA : Nat) (L : List Nat) (T N : Nat → Nat) (I : Nat → Nat → Int) (J : Nat → Nat → Int64) (R : Nat → Nat → Nat) (adK adV : Nat → Nat) (i : Nat) (hi : i < 2) (ch fr : Int) (h0 : 0 ≤ ch) (hc : ch ≤ 65535) (h1 : fr = 0) : PE l yJ0_indexOf_7cf53 cJ0_indexOf_7cf53 3 (some .int) ({ frames := 2, cells := 0, slots := 0, locals := 70 }) D dA eA L T N I J R adK adV [.ref (adK i), .int (II ch), .int (II fr)] (rI (fun r => 0 ≤ r → 2 ≤ ch)) := by
  refine p_enterE (own := RJ0) (by decide) rfl (Nat.le_of_ble_eq_true rfl) (fun p e s m args below meth c ls hE B hX hM hl => ?_)
  have hA : ∀ q, s.heap.size ≤ q → cF dA L T N I J R s.heap.size q := fun q h => Or.inr h
  have hl : lv_has ls 3 [(0, .ref (adK i)), (1, .int (II ch)), (2, .int (II fr))] := hl
  refine lv_aload_n B.1 B.2.1 dJ0_indexOf_7cf53_0 rfl (lv_at hl 0 rfl) ?_
  refine p_calli (c_runVE (n := 0) (as := []) (rest := []) hE hi B hX hA hM hl.1 rfl (k_J0_isLatin1_aae02 l D dA eA L T N I J R adK adV i hi _ _) ml_J0_492 nm_J0_isLatin1_aae02 ⟨rfl, rfl⟩ ⟨Nat.le_of_ble_eq_true rfl, Nat.le_of_ble_eq_true rfl⟩ dJ0_indexOf_7cf53_1 rfl rfl (Nat.le_of_ble_eq_true rfl) ⟨Nat.zero_le _, Nat.zero_le _⟩) (fun r ir hp => ?_)
  refine q_ieq (tgt := 23) B dJ0_indexOf_7cf53_4 (by decide) (by unfold inr; omega) (fun c1 => absurd (hp.symm.trans c1) (by decide)) (fun c1 => ?_)
  refine lv_aload_n B.1 B.2.1 dJ0_indexOf_7cf53_7 rfl (lv_at hl 0 rfl) ?_
  refine vk_getf B.1 B.2.1 (hE.1 i hi).2.2.1 hM.2.2.1 B.2.2.2.1 (B.2.2.2.2.1 _ fl_J0_9) (fun _ h => h) dJ0_indexOf_7cf53_8 ?_
  refine lv_iload_n B.1 B.2.1 dJ0_indexOf_7cf53_11 rfl (lv_at hl 1 rfl) ?_
  refine lv_iload_n B.1 B.2.1 dJ0_indexOf_7cf53_12 rfl (lv_at hl 2 rfl) ?_
  refine lv_aload_n B.1 B.2.1 dJ0_indexOf_7cf53_13 rfl (lv_at hl 0 rfl) ?_
  refine p_calli (c_runVE (n := 0) (as := []) (rest := [.int (II fr), .int (II ch), .ref (adV i)]) hE hi B hX hA hM hl.1 rfl (k_J0_length_8abf5 l D dA eA L T N I J R adK adV i hi _ _) ml_J0_505 nm_J0_length_8abf5 ⟨rfl, rfl⟩ ⟨Nat.le_of_ble_eq_true rfl, Nat.le_of_ble_eq_true rfl⟩ dJ0_indexOf_7cf53_14 rfl rfl (Nat.le_of_ble_eq_true rfl) ⟨Nat.zero_le _, Nat.zero_le _⟩) (fun n inn hpn => ?_)
  refine p_calli (c_runSE (n := 4) (as := [.ref (adV i), .int (II ch), .int (II fr), .int (II n)]) (rest := []) hE B hX hA hM hl.1 (k_J1_indexOf_4cfef l D dA eA L T N I J R adK adV i hi ch fr n h0 hc h1 hpn _ _) ml_J0_637 nm_J1_indexOf_4cfef ⟨rfl, rfl⟩ ⟨Nat.le_of_ble_eq_true rfl, Nat.le_of_ble_eq_true rfl⟩ dJ0_indexOf_7cf53_17 rfl rfl (Nat.le_of_ble_eq_true rfl) ⟨Nat.zero_le _, Nat.zero_le _⟩) (fun r ir hp => ?_)
  refine lv_goto (tgt := 36) B.1 B.2.1 dJ0_indexOf_7cf53_20 (by decide) ?_
  refine p_iret B dJ0_indexOf_7cf53_36 ?_
  exact ⟨r, rfl, ir, hp⟩
set_option maxRecDepth 20000 in
theorem k_J0_indexOf_0f7a4 (l : Launch) (D : va_G) (dA : Nat → ClassId) (eA : Nat) (L : List Nat) (T N : Nat → Nat) (I : Nat → Nat → Int) (J : Nat → Nat → Int64) (R : Nat → Nat → Nat) (adK adV : Nat → Nat) (i : Nat) (hi : i < 2) (ch : Int) (h0 : 0 ≤ ch) (hc : ch ≤ 65535) : PE l yJ0_indexOf_0f7a4 cJ0_indexOf_0f7a4 2 (some .int) ({ frames := 3, cells := 0, slots := 0, locals := 110 }) D dA eA L T N I J R adK adV [.ref (adK i), .int (II ch)] (rI (fun r => 0 ≤ r → 2 ≤ ch)) := by
  refine p_enterE (own := RJ0) (by decide) rfl (Nat.le_of_ble_eq_true rfl) (fun p e s m args below meth c ls hE B hX hM hl => ?_)
  have hA : ∀ q, s.heap.size ≤ q → cF dA L T N I J R s.heap.size q := fun q h => Or.inr h
  have hl : lv_has ls 2 [(0, .ref (adK i)), (1, .int (II ch))] := hl
  refine lv_aload_n B.1 B.2.1 dJ0_indexOf_0f7a4_0 rfl (lv_at hl 0 rfl) ?_
  refine lv_iload_n B.1 B.2.1 dJ0_indexOf_0f7a4_1 rfl (lv_at hl 1 rfl) ?_
  refine q_con B dJ0_indexOf_0f7a4_2 ?_
  refine p_calli (c_runVE (n := 2) (as := [.int (II ch), .int (II 0)]) (rest := []) hE hi B hX hA hM hl.1 rfl (k_J0_indexOf_7cf53 l D dA eA L T N I J R adK adV i hi ch 0 h0 hc rfl _ _) ml_J0_633 nm_J0_indexOf_7cf53 ⟨rfl, rfl⟩ ⟨Nat.le_of_ble_eq_true rfl, Nat.le_of_ble_eq_true rfl⟩ dJ0_indexOf_0f7a4_3 rfl rfl (Nat.le_of_ble_eq_true rfl) ⟨Nat.zero_le _, Nat.zero_le _⟩) (fun r ir hp => ?_)
  refine p_iret B dJ0_indexOf_0f7a4_6 ?_
  exact ⟨r, rfl, ir, hp⟩
