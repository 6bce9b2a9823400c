theorem i2b_lo {x : Int} (h : x = 0 ∨ x = 1) : (II x).toInt8.toInt32 = II x := by rcases h with rfl | rfl <;> decide
theorem sx_byt {i j : Nat} (hi : i < 2) (hj : j < sxLen.getD i 0) : 33 ≤ ((sxByt.getD i []).getD j 0).toInt := by
  have h : i = 0 ∨ i = 1 := by omega
  rcases h with rfl | rfl
  · have hd : ∀ j : Nat, j < 22 → 33 ≤ ((sxByt.getD 0 []).getD j 0).toInt := by decide
    exact hd j hj
  · have hd : ∀ j : Nat, j < 10 → 33 ≤ ((sxByt.getD 1 []).getD j 0).toInt := by decide
    exact hd j hj
set_option maxRecDepth 20000 in
theorem k_J1_indexOfChar_4cfef (l : Launch) (D : va_G) (dA : Nat → ClassId) (eA : Nat) (L : List Nat) (T N : Nat → Nat) (I : Nat → Nat → Int) (J : Nat → Nat → Int64) (R : Nat → Nat → Nat) (adK adV : Nat → Nat) (i : Nat) (hi : i < 2) (ch fr to : Int) (h0 : 0 ≤ ch) (hc : ch ≤ 65535) (h1 : 0 ≤ fr) (h2 : fr ≤ to) (h3 : to ≤ ((sxLen.getD i 0 : Nat) : Int)) : PE l yJ1_indexOfChar_4cfef cJ1_indexOfChar_4cfef 6 (some .int) ({ frames := 0, cells := 0, slots := 0, locals := 0 }) D dA eA L T N I J R adK adV [.ref (adV i), .int (II ch), .int (II fr), .int (II to)] (rI (fun r => 0 ≤ r → 2 ≤ ch)) := by
  generalize hPST : (rI (fun r => 0 ≤ r → 2 ≤ ch)) = PST
  refine p_enterE (own := RJ1) (by decide) rfl (Nat.le_of_ble_eq_true rfl) (fun p e s m args below meth c ls hE B hX hM hl => ?_)
  have hl : lv_has ls 6 [(0, .ref (adV i)), (1, .int (II ch)), (2, .int (II fr)), (3, .int (II to))] := hl
  have hn := (sx_len hi).1
  refine lv_iload_n B.1 B.2.1 dJ1_indexOfChar_4cfef_0 rfl (lv_at hl 1 rfl) ?_
  obtain ⟨b, hb⟩ : ∃ b, (II ch).toInt8.toInt32 = b := ⟨_, rfl⟩
  refine lv_i2b B.1 B.2.1 dJ1_indexOfChar_4cfef_1 hb ?_
  obtain ⟨z, hz⟩ : ∃ z, b.toInt = z := ⟨_, rfl⟩
  have hbz : b = II z := by rw [← hz]; exact II_of b
  have hzr : inr z := by unfold inr; have := Int32.toInt_lt b; have := Int32.le_toInt b; omega
  have hlo : (ch = 0 ∨ ch = 1) → z = ch := fun h => by
    have := i2b_lo h
    rw [hb, hbz] at this
    exact (II_eq hzr (by unfold inr; omega)).mp this
  rw [hbz]
  clear hb hz hbz
  unfold inr at hzr
  refine lv_istore (lv' := [(4, .int (II z)), (0, .ref (adV i)), (1, .int (II ch)), (2, .int (II fr)), (3, .int (II to))]) B.1 B.2.1 dJ1_indexOfChar_4cfef_2 hl (by decide) rfl (fun ls hl => ?_)
  refine lv_iload_n B.1 B.2.1 dJ1_indexOfChar_4cfef_4 rfl (lv_at hl 3 rfl) ?_
  refine lv_istore (lv' := [(5, .int (II fr)), (4, .int (II z)), (0, .ref (adV i)), (1, .int (II ch)), (2, .int (II fr)), (3, .int (II to))]) B.1 B.2.1 dJ1_indexOfChar_4cfef_5 hl (by decide) rfl (fun ls hl => ?_)
  have LL : ∀ NN : Nat, ∀ (k : Int) (ls : Array Slot), lv_has ls 6 [(5, .int (II k)), (4, .int (II z)), (0, .ref (adV i)), (1, .int (II ch)), (2, .int (II fr)), (3, .int (II to))] → 0 ≤ k → k ≤ to → to - k < (NN : Int) → W p l e ({ frames := 0, cells := 0, slots := 0, locals := 0 }) s m args below meth c s.heap [] 0 0 (MQ below (pQ PST) args s 0 0 (fun _ => False)) (F0 m 7 ls []) := by
    intro NN
    induction NN with
    | zero => intro k ls hl k0 k1 hN; exfalso; omega
    | succ NN IH =>
      intro k ls hl k0 k1 hN
      refine lv_iload B.1 B.2.1 dJ1_indexOfChar_4cfef_7 (lv_at hl 0 rfl) ?_
      refine lv_iload_n B.1 B.2.1 dJ1_indexOfChar_4cfef_9 rfl (lv_at hl 5 rfl) ?_
      refine q_cge (tgt := 31) B dJ1_indexOfChar_4cfef_10 (by decide) (by unfold inr; omega) (by unfold inr; omega) (fun c4 => ?_) (fun c4 => ?_)
      · refine q_con B dJ1_indexOfChar_4cfef_31 ?_
        refine p_iret B dJ1_indexOfChar_4cfef_32 ?_
        rw [← hPST]
        exact ⟨(-1), rfl, by omega, by omega⟩
      · refine lv_aload_n B.1 B.2.1 dJ1_indexOfChar_4cfef_13 rfl (lv_at hl 2 rfl) ?_
        refine lv_iload B.1 B.2.1 dJ1_indexOfChar_4cfef_14 (lv_at hl 0 rfl) ?_
        obtain ⟨f, hf⟩ : ∃ f, (sxByt.getD i []).getD (II k).toNatClampNeg 0 = f := ⟨_, rfl⟩
        refine va_tb B.1 B.2.1 (hE.1 i hi).2.2.2 hM.2.2.1 (II_in k0 (by omega) (by omega)) (v := .int f) (by show Value.int _ = _; rw [hf]) dJ1_indexOfChar_4cfef_16 ?_
        have hk : (II k).toNatClampNeg = k.toNat := II_clamp k0 (by unfold inr; omega)
        have hfb : 33 ≤ f.toInt := by rw [← hf]; exact sx_byt hi (by rw [hk]; omega)
        obtain ⟨y, hy⟩ : ∃ y, f.toInt = y := ⟨_, rfl⟩
        have hfy : f = II y := by rw [← hy]; exact II_of f
        have hyr : inr y := by unfold inr; have := Int32.toInt_lt f; have := Int32.le_toInt f; omega
        rw [hy] at hfb
        rw [hfy]
        unfold inr at hyr
        refine lv_iload B.1 B.2.1 dJ1_indexOfChar_4cfef_17 (lv_at hl 1 rfl) ?_
        refine q_cne (tgt := 25) B dJ1_indexOfChar_4cfef_19 (by decide) (by unfold inr; omega) (by unfold inr; omega) (fun c5 => ?_) (fun c5 => ?_)
        · refine q_inc (lv' := [(5, .int (II (k + 1))), (4, .int (II z)), (0, .ref (adV i)), (1, .int (II ch)), (2, .int (II fr)), (3, .int (II to))]) B dJ1_indexOfChar_4cfef_25 hl (k := 0) rfl (by decide) rfl (fun ls hl => ?_)
          refine lv_goto (tgt := 7) B.1 B.2.1 dJ1_indexOfChar_4cfef_28 (by decide) ?_
          exact IH (k + 1) ls hl (by omega) (by omega) (by omega)
        · refine lv_iload B.1 B.2.1 dJ1_indexOfChar_4cfef_22 (lv_at hl 0 rfl) ?_
          refine p_iret B dJ1_indexOfChar_4cfef_24 ?_
          rw [← hPST]
          exact ⟨k, rfl, by omega, fun _ => by omega⟩
  exact LL (to - fr + 1).toNat fr ls hl h1 h2 (by omega)
