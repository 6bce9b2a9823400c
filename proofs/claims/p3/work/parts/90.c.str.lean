set_option maxRecDepth 20000 in
theorem k_J0_isLatin1_aae02 (l : Launch) (D : va_G) (dA : Nat → ClassId) (eA : Nat) (L : List Nat) (T N : Nat → Nat) (I : Nat → Nat → Int) (J : Nat → Nat → Int64) (R : Nat → Nat → Nat) (adK adV : Nat → Nat) (i : Nat) (hi : i < 2) : PE l yJ0_isLatin1_aae02 cJ0_isLatin1_aae02 1 (some .boolean) ({ frames := 0, cells := 0, slots := 0, locals := 0 }) D dA eA L T N I J R adK adV [.ref (adK i)] (rI (fun r => r = 1)) := by
  refine p_enterE (own := RJ0) (by decide) rfl (Nat.le_of_ble_eq_true rfl) (fun p e s m args below meth c ls hE B hX hM hl => ?_)
  have hl : lv_has ls 1 [(0, .ref (adK i))] := hl
  refine va_gets B.1 B.2.1 hX.2.1 hM.2.2.1 B.2.2.2.1 (B.2.2.2.2.1 _ fl_J0_38) (fun _ h => h) dJ0_isLatin1_aae02_0 ?_
  refine q_ieq (x := 1) (tgt := 17) B dJ0_isLatin1_aae02_3 (by decide) (by unfold inr; omega) (fun c => absurd c (by omega)) (fun _ => ?_)
  refine lv_aload_n B.1 B.2.1 dJ0_isLatin1_aae02_6 rfl (lv_at hl 0 rfl) ?_
  refine vk_getf B.1 B.2.1 (hE.1 i hi).2.1 hM.2.2.1 B.2.2.2.1 (B.2.2.2.2.1 _ fl_J0_15) (fun _ h => h) dJ0_isLatin1_aae02_7 ?_
  refine q_ine (x := 0) (tgt := 17) B dJ0_isLatin1_aae02_10 (by decide) (by unfold inr; omega) (fun c => absurd rfl c) (fun _ => ?_)
  refine q_con B dJ0_isLatin1_aae02_13 ?_
  refine lv_goto (tgt := 18) B.1 B.2.1 dJ0_isLatin1_aae02_14 (by decide) ?_
  refine p_zret B dJ0_isLatin1_aae02_18 (by omega) (by omega) ?_
  exact ⟨1, rfl, by omega, rfl⟩
set_option maxRecDepth 20000 in
theorem k_J0_coder_7d493 (l : Launch) (D : va_G) (dA : Nat → ClassId) (eA : Nat) (L : List Nat) (T N : Nat → Nat) (I : Nat → Nat → Int) (J : Nat → Nat → Int64) (R : Nat → Nat → Nat) (adK adV : Nat → Nat) (i : Nat) (hi : i < 2) : PE l yJ0_coder_7d493 cJ0_coder_7d493 1 (some .byte) ({ frames := 0, cells := 0, slots := 0, locals := 0 }) D dA eA L T N I J R adK adV [.ref (adK i)] (rI (fun r => r = 0)) := by
  refine p_enterE (own := RJ0) (by decide) rfl (Nat.le_of_ble_eq_true rfl) (fun p e s m args below meth c ls hE B hX hM hl => ?_)
  have hl : lv_has ls 1 [(0, .ref (adK i))] := hl
  refine va_gets B.1 B.2.1 hX.2.1 hM.2.2.1 B.2.2.2.1 (B.2.2.2.2.1 _ fl_J0_38) (fun _ h => h) dJ0_coder_7d493_0 ?_
  refine q_ieq (x := 1) (tgt := 13) B dJ0_coder_7d493_3 (by decide) (by unfold inr; omega) (fun c => absurd c (by omega)) (fun _ => ?_)
  refine lv_aload_n B.1 B.2.1 dJ0_coder_7d493_6 rfl (lv_at hl 0 rfl) ?_
  refine vk_getf B.1 B.2.1 (hE.1 i hi).2.1 hM.2.2.1 B.2.2.2.1 (B.2.2.2.2.1 _ fl_J0_15) (fun _ h => h) dJ0_coder_7d493_7 ?_
  refine lv_goto (tgt := 14) B.1 B.2.1 dJ0_coder_7d493_10 (by decide) ?_
  exact W.zret (v := II 0) B.1 B.2.1 B.2.2.2.2.2.2.1 (by decide) (fun t ht hW => ⟨_, rfl, ⟨0, rfl, by omega, rfl⟩, ht⟩) (fun _ h => by cases h) dJ0_coder_7d493_14 B.2.2.2.2.2.2.2
theorem sx_len {i : Nat} (hi : i < 2) : sxLen.getD i 0 ≤ 22 ∧ Int32.ofNat (sxLen.getD i 0) = II ((sxLen.getD i 0 : Nat) : Int) ∧ (II ((sxLen.getD i 0 : Nat) : Int)) >>> (II 0 &&& 31) = II ((sxLen.getD i 0 : Nat) : Int) := by
  have h : i = 0 ∨ i = 1 := by omega
  rcases h with rfl | rfl <;> decide
set_option maxRecDepth 20000 in
theorem k_J0_length_8abf5 (l : Launch) (D : va_G) (dA : Nat → ClassId) (eA : Nat) (L : List Nat) (T N : Nat → Nat) (I : Nat → Nat → Int) (J : Nat → Nat → Int64) (R : Nat → Nat → Nat) (adK adV : Nat → Nat) (i : Nat) (hi : i < 2) : PE l yJ0_length_8abf5 cJ0_length_8abf5 1 (some .int) ({ frames := 1, cells := 0, slots := 0, locals := 30 }) D dA eA L T N I J R adK adV [.ref (adK i)] (rI (fun r => r = ((sxLen.getD i 0 : Nat) : Int))) := by
  refine p_enterE (own := RJ0) (by decide) rfl (Nat.le_of_ble_eq_true rfl) (fun p e s m args below meth c ls hE B hX hM hl => ?_)
  have hA : ∀ q, s.heap.size ≤ q → cF dA L T N I J R s.heap.size q := fun q h => Or.inr h
  have hl : lv_has ls 1 [(0, .ref (adK i))] := hl
  have hn := sx_len hi
  refine lv_aload_n B.1 B.2.1 dJ0_length_8abf5_0 rfl (lv_at hl 0 rfl) ?_
  refine vk_getf B.1 B.2.1 (hE.1 i hi).2.2.1 hM.2.2.1 B.2.2.2.1 (B.2.2.2.2.1 _ fl_J0_9) (fun _ h => h) dJ0_length_8abf5_1 ?_
  refine c_slen B (hE.1 i hi).2.2.2 hM.2.2.1 hn.2.1 dJ0_length_8abf5_4 ?_
  refine lv_aload_n B.1 B.2.1 dJ0_length_8abf5_5 rfl (lv_at hl 0 rfl) ?_
  refine p_calli (c_runVE (n := 0) (as := []) (rest := [.int (II ((sxLen.getD i 0 : Nat) : Int))]) hE hi B hX hA hM hl.1 rfl (k_J0_coder_7d493 l D dA eA L T N I J R adK adV i hi _ _) ml_J0_335 nm_J0_coder_7d493 ⟨rfl, rfl⟩ ⟨Nat.le_of_ble_eq_true rfl, Nat.le_of_ble_eq_true rfl⟩ dJ0_length_8abf5_6 rfl rfl (Nat.le_of_ble_eq_true rfl) ⟨Nat.zero_le _, Nat.zero_le _⟩) (fun r ir hp => ?_)
  subst hp
  refine lv_ishr B.1 B.2.1 dJ0_length_8abf5_9 ?_
  rw [hn.2.2]
  refine p_iret B dJ0_length_8abf5_10 ?_
  exact ⟨_, rfl, by omega, rfl⟩
