set_option maxHeartbeats 200000000 in
set_option maxRecDepth 20000 in
theorem k_two (l : Launch) (D : va_G) (dA : Nat → ClassId) (h0 : Nat) (ad : Nat → Nat) (f : Nat → Int) (g : Nat → Int64) (A : Nat → Nat → Int) (L : Nat → Nat → Int64) (a_op : Int) (a_x : Int) (a_y : Int) (i_op : (-2147483648 : Int) ≤ a_op ∧ a_op ≤ 2147483647) (i_x : (-2147483648 : Int) ≤ a_x ∧ a_x ≤ 2147483647) (i_y : (-2147483648 : Int) ≤ a_y ∧ a_y ≤ 2147483647) : MCi l yX12_two cX12_two 4 (some .int) ({ frames := 0, cells := 0, slots := 0, locals := 0 }) D dA h0 ad (f, g, A, L) [.int (II a_op), .int (II a_x), .int (II a_y)] (fun (r : Int) (σ : MS) => ∃ n98 : Int, σ = ((up f [(98, n98)]), g, A, L) ∧ (True)) := by
  generalize hPST : (fun (r : Int) (σ : MS) => ∃ n98 : Int, σ = ((up f [(98, n98)]), g, A, L) ∧ (True)) = PST
  refine m_enter (by decide) rfl (Nat.le_of_ble_eq_true rfl) (fun p e s m args below meth c ls B hM hl => ?_)
  have hA : ∀ q, s.heap.size ≤ q → mF dA h0 ad (f, g, A, L) s.heap.size q := fun q h => Or.inr h
  have hM : MWd D dA h0 ad (mF dA h0 ad (f, g, A, L) s.heap.size) s.heap ((up f [(98, f 98)]), g, A, L) s.heap [] := MW_pad hM (up_self f [98]) rfl rfl rfl
  have hl : lv_has ls 4 [(0, .ref h0), (1, .int (II a_op)), (2, .int (II a_x)), (3, .int (II a_y))] := hl
  have JJ227 : ∀  (H : Heap) (locs : List Loc) (ls : Array Slot), (MWd D dA h0 ad (mF dA h0 ad (f, g, A, L) s.heap.size) s.heap ((up f [(98, f 98)]), g, A, L) H locs) → lv_has ls 4 [(0, .ref h0), (1, .int (II a_op)), (2, .int (II a_x)), (3, .int (II a_y))] → W p l e ({ frames := 0, cells := 0, slots := 0, locals := 0 }) s m args below meth c H locs 0 0 (MQ below (mQi D dA h0 ad (f, g, A, L) s.heap.size PST) args s 0 0 (mF dA h0 ad (f, g, A, L) s.heap.size)) (F0 m 227 ls []) := by
    intro  H locs ls hM hl 
    have r1 : (0 : Int) ≤ f 98 ∧ f 98 ≤ 1 := hM.2.2.2.1 98
    refine lv_iload_n B.1 B.2.1 dX12_two_227 rfl (lv_at hl 2 rfl) ?_
    refine lv_iload_n B.1 B.2.1 dX12_two_228 rfl (lv_at hl 3 rfl) ?_
    refine q_or B dX12_two_229 (fun x2 ix2 _ => ?_)
    unfold inr at ix2
    subst hPST
    exact m_iret B hM dX12_two_230 (by unfold inr; omega) ⟨(f 98), rfl, by trivial⟩
  refine lv_iload_n B.1 B.2.1 dX12_two_0 rfl (lv_at hl 1 rfl) ?_
  by_cases hsw : a_op < 37 ∨ 62 < a_op
  · refine lv_tableOut (tgt := 227) B.1 B.2.1 dX12_two_1 (by rw [II_toInt (by unfold inr; omega)]; omega) (by decide) ?_
    exact JJ227  _ _ ls hM (lv_sub hl [0, 1, 2, 3] rfl) 
  have hdj : a_op = 37 ∨ a_op = 38 ∨ a_op = 39 ∨ a_op = 40 ∨ a_op = 41 ∨ a_op = 42 ∨ a_op = 43 ∨ a_op = 44 ∨ a_op = 45 ∨ a_op = 46 ∨ a_op = 47 ∨ a_op = 48 ∨ a_op = 49 ∨ a_op = 50 ∨ a_op = 51 ∨ a_op = 52 ∨ a_op = 53 ∨ a_op = 54 ∨ a_op = 55 ∨ a_op = 56 ∨ a_op = 57 ∨ a_op = 58 ∨ a_op = 59 ∨ a_op = 60 ∨ a_op = 61 ∨ a_op = 62 := by omega
  clear hsw
  rcases hdj with hsw0 | hsw1 | hsw2 | hsw3 | hsw4 | hsw5 | hsw6 | hsw7 | hsw8 | hsw9 | hsw10 | hsw11 | hsw12 | hsw13 | hsw14 | hsw15 | hsw16 | hsw17 | hsw18 | hsw19 | hsw20 | hsw21 | hsw22 | hsw23 | hsw24 | hsw25
  · refine lv_tableIn (off := 131) (tgt := 132) B.1 B.2.1 dX12_two_1 (by rw [II_toInt (by unfold inr; omega)]; omega) (by rw [II_toInt (by unfold inr; omega)]; omega) (by rw [II_toInt (by unfold inr; omega), hsw0]; decide) (by decide) ?_
    refine lv_aload_n B.1 B.2.1 dX12_two_132 rfl (lv_at hl 0 rfl) ?_
    refine lv_iload_n B.1 B.2.1 dX12_two_133 rfl (lv_at hl 3 rfl) ?_
    refine q_ine (tgt := 141) B dX12_two_134 (by decide) (by unfold inr; omega) (fun c3 => ?_) (fun c3 => ?_)
    · refine q_con B dX12_two_141 ?_
      refine m_put (k := 98) B hM (by decide) rfl fl601 rfl dX12_two_142 (narZ (by omega)) rfl (show (0 : Int) ≤ 0 from by first | omega | (simp only [wr_at] <;> omega)) (show 0 ≤ (1 : Int) from by first | omega | (simp only [wr_at] <;> omega)) (u1_up f [(98, f 98)] 98 0) (fun H locs hM => ?_)
      replace hM : MWd D dA h0 ad (mF dA h0 ad (f, g, A, L) s.heap.size) s.heap ((up f [(98, 0)]), g, A, L) H locs := hM
      refine lv_aload_n B.1 B.2.1 dX12_two_145 rfl (lv_at hl 0 rfl) ?_
      refine m_get (k := 98) (v := 0) B hM (by decide) rfl fl601 dX12_two_146 rfl ?_
      refine q_ieq (tgt := 154) B dX12_two_149 (by decide) (by unfold inr; omega) (fun _ => ?_) (fun c4 => absurd c4 (by omega))
      refine lv_iload_n B.1 B.2.1 dX12_two_154 rfl (lv_at hl 3 rfl) ?_
      refine q_con B dX12_two_155 ?_
      refine q_cne (tgt := 174) B dX12_two_156 (by decide) (by unfold inr; omega) (by unfold inr; omega) (fun c5 => ?_) (fun c5 => ?_)
      · refine lv_iload_n B.1 B.2.1 dX12_two_174 rfl (lv_at hl 1 rfl) ?_
        refine q_bip B dX12_two_175 (by decide) ?_
        refine q_cne (tgt := 186) B dX12_two_177 (by decide) (by unfold inr; omega) (by unfold inr; omega) (fun c6 => ?_) (fun c6 => ?_)
        · refine lv_iload_n B.1 B.2.1 dX12_two_186 rfl (lv_at hl 2 rfl) ?_
          refine lv_iload_n B.1 B.2.1 dX12_two_187 rfl (lv_at hl 3 rfl) ?_
          refine q_rem B dX12_two_188 (by unfold inr; omega) (by omega) (fun x7 ix7 => ?_)
          unfold inr at ix7
          refine q_wrap (fun x8 ix8 => ?_)
          subst hPST
          exact m_iret B hM dX12_two_189 (by unfold inr; omega) ⟨0, rfl, by trivial⟩
        · refine lv_iload_n B.1 B.2.1 dX12_two_180 rfl (lv_at hl 2 rfl) ?_
          refine lv_iload_n B.1 B.2.1 dX12_two_181 rfl (lv_at hl 3 rfl) ?_
          refine q_div B dX12_two_182 (by unfold inr; omega) (by omega) (fun x9 ix9 => ?_)
          unfold inr at ix9
          refine lv_goto (tgt := 189) B.1 B.2.1 dX12_two_183 (by decide) ?_
          refine q_wrap (fun x10 ix10 => ?_)
          subst hPST
          exact m_iret B hM dX12_two_189 (by unfold inr; omega) ⟨0, rfl, by trivial⟩
      · refine lv_iload_n B.1 B.2.1 dX12_two_159 rfl (lv_at hl 1 rfl) ?_
        refine q_bip B dX12_two_160 (by decide) ?_
        refine q_cne (tgt := 170) B dX12_two_162 (by decide) (by unfold inr; omega) (by unfold inr; omega) (fun c11 => ?_) (fun c11 => ?_)
        · refine q_con B dX12_two_170 ?_
          refine lv_goto (tgt := 189) B.1 B.2.1 dX12_two_171 (by decide) ?_
          refine q_wrap (fun x12 ix12 => ?_)
          subst hPST
          exact m_iret B hM dX12_two_189 (by unfold inr; omega) ⟨0, rfl, by trivial⟩
        · refine lv_iload_n B.1 B.2.1 dX12_two_165 rfl (lv_at hl 2 rfl) ?_
          refine q_neg B dX12_two_166 ?_
          refine lv_goto (tgt := 189) B.1 B.2.1 dX12_two_167 (by decide) ?_
          refine q_wrap (fun x13 ix13 => ?_)
          subst hPST
          exact m_iret B hM dX12_two_189 (by unfold inr; omega) ⟨0, rfl, by trivial⟩
    · refine q_con B dX12_two_137 ?_
      refine lv_goto (tgt := 142) B.1 B.2.1 dX12_two_138 (by decide) ?_
      refine m_put (k := 98) B hM (by decide) rfl fl601 rfl dX12_two_142 (narZ (by omega)) rfl (show (0 : Int) ≤ 1 from by first | omega | (simp only [wr_at] <;> omega)) (show 1 ≤ (1 : Int) from by first | omega | (simp only [wr_at] <;> omega)) (u1_up f [(98, f 98)] 98 1) (fun H locs hM => ?_)
      replace hM : MWd D dA h0 ad (mF dA h0 ad (f, g, A, L) s.heap.size) s.heap ((up f [(98, 1)]), g, A, L) H locs := hM
      refine lv_aload_n B.1 B.2.1 dX12_two_145 rfl (lv_at hl 0 rfl) ?_
      refine m_get (k := 98) (v := 1) B hM (by decide) rfl fl601 dX12_two_146 rfl ?_
      refine q_ieq (tgt := 154) B dX12_two_149 (by decide) (by unfold inr; omega) (fun c14 => absurd c14 (by omega)) (fun _ => ?_)
      refine q_con B dX12_two_152 ?_
      subst hPST
      exact m_iret B hM dX12_two_153 (by unfold inr; omega) ⟨1, rfl, by trivial⟩
  · refine lv_tableIn (off := 222) (tgt := 223) B.1 B.2.1 dX12_two_1 (by rw [II_toInt (by unfold inr; omega)]; omega) (by rw [II_toInt (by unfold inr; omega)]; omega) (by rw [II_toInt (by unfold inr; omega), hsw1]; decide) (by decide) ?_
    refine lv_iload_n B.1 B.2.1 dX12_two_223 rfl (lv_at hl 2 rfl) ?_
    refine lv_iload_n B.1 B.2.1 dX12_two_224 rfl (lv_at hl 3 rfl) ?_
    refine q_and B dX12_two_225 (fun x15 ix15 _ => ?_)
    unfold inr at ix15
    subst hPST
    exact m_iret B hM dX12_two_226 (by unfold inr; omega) ⟨(f 98), rfl, by trivial⟩
  · refine lv_tableIn (off := 226) (tgt := 227) B.1 B.2.1 dX12_two_1 (by rw [II_toInt (by unfold inr; omega)]; omega) (by rw [II_toInt (by unfold inr; omega)]; omega) (by rw [II_toInt (by unfold inr; omega), hsw2]; decide) (by decide) ?_
    exact JJ227  _ _ ls hM (lv_sub hl [0, 1, 2, 3] rfl) 
  · refine lv_tableIn (off := 226) (tgt := 227) B.1 B.2.1 dX12_two_1 (by rw [II_toInt (by unfold inr; omega)]; omega) (by rw [II_toInt (by unfold inr; omega)]; omega) (by rw [II_toInt (by unfold inr; omega), hsw3]; decide) (by decide) ?_
    exact JJ227  _ _ ls hM (lv_sub hl [0, 1, 2, 3] rfl) 
  · refine lv_tableIn (off := 226) (tgt := 227) B.1 B.2.1 dX12_two_1 (by rw [II_toInt (by unfold inr; omega)]; omega) (by rw [II_toInt (by unfold inr; omega)]; omega) (by rw [II_toInt (by unfold inr; omega), hsw4]; decide) (by decide) ?_
    exact JJ227  _ _ ls hM (lv_sub hl [0, 1, 2, 3] rfl) 
  · refine lv_tableIn (off := 127) (tgt := 128) B.1 B.2.1 dX12_two_1 (by rw [II_toInt (by unfold inr; omega)]; omega) (by rw [II_toInt (by unfold inr; omega)]; omega) (by rw [II_toInt (by unfold inr; omega), hsw5]; decide) (by decide) ?_
    refine lv_iload_n B.1 B.2.1 dX12_two_128 rfl (lv_at hl 2 rfl) ?_
    refine lv_iload_n B.1 B.2.1 dX12_two_129 rfl (lv_at hl 3 rfl) ?_
    refine q_mul B dX12_two_130 ?_
    refine q_wrap (fun x16 ix16 => ?_)
    subst hPST
    exact m_iret B hM dX12_two_131 (by unfold inr; omega) ⟨(f 98), rfl, by trivial⟩
  · refine lv_tableIn (off := 119) (tgt := 120) B.1 B.2.1 dX12_two_1 (by rw [II_toInt (by unfold inr; omega)]; omega) (by rw [II_toInt (by unfold inr; omega)]; omega) (by rw [II_toInt (by unfold inr; omega), hsw6]; decide) (by decide) ?_
    refine lv_iload_n B.1 B.2.1 dX12_two_120 rfl (lv_at hl 2 rfl) ?_
    refine lv_iload_n B.1 B.2.1 dX12_two_121 rfl (lv_at hl 3 rfl) ?_
    refine q_add B dX12_two_122 ?_
    refine q_wrap (fun x17 ix17 => ?_)
    subst hPST
    exact m_iret B hM dX12_two_123 (by unfold inr; omega) ⟨(f 98), rfl, by trivial⟩
  · refine lv_tableIn (off := 226) (tgt := 227) B.1 B.2.1 dX12_two_1 (by rw [II_toInt (by unfold inr; omega)]; omega) (by rw [II_toInt (by unfold inr; omega)]; omega) (by rw [II_toInt (by unfold inr; omega), hsw7]; decide) (by decide) ?_
    exact JJ227  _ _ ls hM (lv_sub hl [0, 1, 2, 3] rfl) 
  · refine lv_tableIn (off := 123) (tgt := 124) B.1 B.2.1 dX12_two_1 (by rw [II_toInt (by unfold inr; omega)]; omega) (by rw [II_toInt (by unfold inr; omega)]; omega) (by rw [II_toInt (by unfold inr; omega), hsw8]; decide) (by decide) ?_
    refine lv_iload_n B.1 B.2.1 dX12_two_124 rfl (lv_at hl 2 rfl) ?_
    refine lv_iload_n B.1 B.2.1 dX12_two_125 rfl (lv_at hl 3 rfl) ?_
    refine q_sub B dX12_two_126 ?_
    refine q_wrap (fun x18 ix18 => ?_)
    subst hPST
    exact m_iret B hM dX12_two_127 (by unfold inr; omega) ⟨(f 98), rfl, by trivial⟩
  · refine lv_tableIn (off := 226) (tgt := 227) B.1 B.2.1 dX12_two_1 (by rw [II_toInt (by unfold inr; omega)]; omega) (by rw [II_toInt (by unfold inr; omega)]; omega) (by rw [II_toInt (by unfold inr; omega), hsw9]; decide) (by decide) ?_
    exact JJ227  _ _ ls hM (lv_sub hl [0, 1, 2, 3] rfl) 
  · refine lv_tableIn (off := 131) (tgt := 132) B.1 B.2.1 dX12_two_1 (by rw [II_toInt (by unfold inr; omega)]; omega) (by rw [II_toInt (by unfold inr; omega)]; omega) (by rw [II_toInt (by unfold inr; omega), hsw10]; decide) (by decide) ?_
    refine lv_aload_n B.1 B.2.1 dX12_two_132 rfl (lv_at hl 0 rfl) ?_
    refine lv_iload_n B.1 B.2.1 dX12_two_133 rfl (lv_at hl 3 rfl) ?_
    refine q_ine (tgt := 141) B dX12_two_134 (by decide) (by unfold inr; omega) (fun c19 => ?_) (fun c19 => ?_)
    · refine q_con B dX12_two_141 ?_
      refine m_put (k := 98) B hM (by decide) rfl fl601 rfl dX12_two_142 (narZ (by omega)) rfl (show (0 : Int) ≤ 0 from by first | omega | (simp only [wr_at] <;> omega)) (show 0 ≤ (1 : Int) from by first | omega | (simp only [wr_at] <;> omega)) (u1_up f [(98, f 98)] 98 0) (fun H locs hM => ?_)
      replace hM : MWd D dA h0 ad (mF dA h0 ad (f, g, A, L) s.heap.size) s.heap ((up f [(98, 0)]), g, A, L) H locs := hM
      refine lv_aload_n B.1 B.2.1 dX12_two_145 rfl (lv_at hl 0 rfl) ?_
      refine m_get (k := 98) (v := 0) B hM (by decide) rfl fl601 dX12_two_146 rfl ?_
      refine q_ieq (tgt := 154) B dX12_two_149 (by decide) (by unfold inr; omega) (fun _ => ?_) (fun c20 => absurd c20 (by omega))
      refine lv_iload_n B.1 B.2.1 dX12_two_154 rfl (lv_at hl 3 rfl) ?_
      refine q_con B dX12_two_155 ?_
      refine q_cne (tgt := 174) B dX12_two_156 (by decide) (by unfold inr; omega) (by unfold inr; omega) (fun c21 => ?_) (fun c21 => ?_)
      · refine lv_iload_n B.1 B.2.1 dX12_two_174 rfl (lv_at hl 1 rfl) ?_
        refine q_bip B dX12_two_175 (by decide) ?_
        refine q_cne (tgt := 186) B dX12_two_177 (by decide) (by unfold inr; omega) (by unfold inr; omega) (fun c22 => ?_) (fun c22 => ?_)
        · refine lv_iload_n B.1 B.2.1 dX12_two_186 rfl (lv_at hl 2 rfl) ?_
          refine lv_iload_n B.1 B.2.1 dX12_two_187 rfl (lv_at hl 3 rfl) ?_
          refine q_rem B dX12_two_188 (by unfold inr; omega) (by omega) (fun x23 ix23 => ?_)
          unfold inr at ix23
          refine q_wrap (fun x24 ix24 => ?_)
          subst hPST
          exact m_iret B hM dX12_two_189 (by unfold inr; omega) ⟨0, rfl, by trivial⟩
        · refine lv_iload_n B.1 B.2.1 dX12_two_180 rfl (lv_at hl 2 rfl) ?_
          refine lv_iload_n B.1 B.2.1 dX12_two_181 rfl (lv_at hl 3 rfl) ?_
          refine q_div B dX12_two_182 (by unfold inr; omega) (by omega) (fun x25 ix25 => ?_)
          unfold inr at ix25
          refine lv_goto (tgt := 189) B.1 B.2.1 dX12_two_183 (by decide) ?_
          refine q_wrap (fun x26 ix26 => ?_)
          subst hPST
          exact m_iret B hM dX12_two_189 (by unfold inr; omega) ⟨0, rfl, by trivial⟩
      · refine lv_iload_n B.1 B.2.1 dX12_two_159 rfl (lv_at hl 1 rfl) ?_
        refine q_bip B dX12_two_160 (by decide) ?_
        refine q_cne (tgt := 170) B dX12_two_162 (by decide) (by unfold inr; omega) (by unfold inr; omega) (fun c27 => ?_) (fun c27 => ?_)
        · refine q_con B dX12_two_170 ?_
          refine lv_goto (tgt := 189) B.1 B.2.1 dX12_two_171 (by decide) ?_
          refine q_wrap (fun x28 ix28 => ?_)
          subst hPST
          exact m_iret B hM dX12_two_189 (by unfold inr; omega) ⟨0, rfl, by trivial⟩
        · refine lv_iload_n B.1 B.2.1 dX12_two_165 rfl (lv_at hl 2 rfl) ?_
          refine q_neg B dX12_two_166 ?_
          refine lv_goto (tgt := 189) B.1 B.2.1 dX12_two_167 (by decide) ?_
          refine q_wrap (fun x29 ix29 => ?_)
          subst hPST
          exact m_iret B hM dX12_two_189 (by unfold inr; omega) ⟨0, rfl, by trivial⟩
    · refine q_con B dX12_two_137 ?_
      refine lv_goto (tgt := 142) B.1 B.2.1 dX12_two_138 (by decide) ?_
      refine m_put (k := 98) B hM (by decide) rfl fl601 rfl dX12_two_142 (narZ (by omega)) rfl (show (0 : Int) ≤ 1 from by first | omega | (simp only [wr_at] <;> omega)) (show 1 ≤ (1 : Int) from by first | omega | (simp only [wr_at] <;> omega)) (u1_up f [(98, f 98)] 98 1) (fun H locs hM => ?_)
      replace hM : MWd D dA h0 ad (mF dA h0 ad (f, g, A, L) s.heap.size) s.heap ((up f [(98, 1)]), g, A, L) H locs := hM
      refine lv_aload_n B.1 B.2.1 dX12_two_145 rfl (lv_at hl 0 rfl) ?_
      refine m_get (k := 98) (v := 1) B hM (by decide) rfl fl601 dX12_two_146 rfl ?_
      refine q_ieq (tgt := 154) B dX12_two_149 (by decide) (by unfold inr; omega) (fun c30 => absurd c30 (by omega)) (fun _ => ?_)
      refine q_con B dX12_two_152 ?_
      subst hPST
      exact m_iret B hM dX12_two_153 (by unfold inr; omega) ⟨1, rfl, by trivial⟩
  · refine lv_tableIn (off := 226) (tgt := 227) B.1 B.2.1 dX12_two_1 (by rw [II_toInt (by unfold inr; omega)]; omega) (by rw [II_toInt (by unfold inr; omega)]; omega) (by rw [II_toInt (by unfold inr; omega), hsw11]; decide) (by decide) ?_
    exact JJ227  _ _ ls hM (lv_sub hl [0, 1, 2, 3] rfl) 
  · refine lv_tableIn (off := 226) (tgt := 227) B.1 B.2.1 dX12_two_1 (by rw [II_toInt (by unfold inr; omega)]; omega) (by rw [II_toInt (by unfold inr; omega)]; omega) (by rw [II_toInt (by unfold inr; omega), hsw12]; decide) (by decide) ?_
    exact JJ227  _ _ ls hM (lv_sub hl [0, 1, 2, 3] rfl) 
  · refine lv_tableIn (off := 226) (tgt := 227) B.1 B.2.1 dX12_two_1 (by rw [II_toInt (by unfold inr; omega)]; omega) (by rw [II_toInt (by unfold inr; omega)]; omega) (by rw [II_toInt (by unfold inr; omega), hsw13]; decide) (by decide) ?_
    exact JJ227  _ _ ls hM (lv_sub hl [0, 1, 2, 3] rfl) 
  · refine lv_tableIn (off := 226) (tgt := 227) B.1 B.2.1 dX12_two_1 (by rw [II_toInt (by unfold inr; omega)]; omega) (by rw [II_toInt (by unfold inr; omega)]; omega) (by rw [II_toInt (by unfold inr; omega), hsw14]; decide) (by decide) ?_
    exact JJ227  _ _ ls hM (lv_sub hl [0, 1, 2, 3] rfl) 
  · refine lv_tableIn (off := 226) (tgt := 227) B.1 B.2.1 dX12_two_1 (by rw [II_toInt (by unfold inr; omega)]; omega) (by rw [II_toInt (by unfold inr; omega)]; omega) (by rw [II_toInt (by unfold inr; omega), hsw15]; decide) (by decide) ?_
    exact JJ227  _ _ ls hM (lv_sub hl [0, 1, 2, 3] rfl) 
  · refine lv_tableIn (off := 226) (tgt := 227) B.1 B.2.1 dX12_two_1 (by rw [II_toInt (by unfold inr; omega)]; omega) (by rw [II_toInt (by unfold inr; omega)]; omega) (by rw [II_toInt (by unfold inr; omega), hsw16]; decide) (by decide) ?_
    exact JJ227  _ _ ls hM (lv_sub hl [0, 1, 2, 3] rfl) 
  · refine lv_tableIn (off := 226) (tgt := 227) B.1 B.2.1 dX12_two_1 (by rw [II_toInt (by unfold inr; omega)]; omega) (by rw [II_toInt (by unfold inr; omega)]; omega) (by rw [II_toInt (by unfold inr; omega), hsw17]; decide) (by decide) ?_
    exact JJ227  _ _ ls hM (lv_sub hl [0, 1, 2, 3] rfl) 
  · refine lv_tableIn (off := 226) (tgt := 227) B.1 B.2.1 dX12_two_1 (by rw [II_toInt (by unfold inr; omega)]; omega) (by rw [II_toInt (by unfold inr; omega)]; omega) (by rw [II_toInt (by unfold inr; omega), hsw18]; decide) (by decide) ?_
    exact JJ227  _ _ ls hM (lv_sub hl [0, 1, 2, 3] rfl) 
  · refine lv_tableIn (off := 226) (tgt := 227) B.1 B.2.1 dX12_two_1 (by rw [II_toInt (by unfold inr; omega)]; omega) (by rw [II_toInt (by unfold inr; omega)]; omega) (by rw [II_toInt (by unfold inr; omega), hsw19]; decide) (by decide) ?_
    exact JJ227  _ _ ls hM (lv_sub hl [0, 1, 2, 3] rfl) 
  · refine lv_tableIn (off := 226) (tgt := 227) B.1 B.2.1 dX12_two_1 (by rw [II_toInt (by unfold inr; omega)]; omega) (by rw [II_toInt (by unfold inr; omega)]; omega) (by rw [II_toInt (by unfold inr; omega), hsw20]; decide) (by decide) ?_
    exact JJ227  _ _ ls hM (lv_sub hl [0, 1, 2, 3] rfl) 
  · refine lv_tableIn (off := 226) (tgt := 227) B.1 B.2.1 dX12_two_1 (by rw [II_toInt (by unfold inr; omega)]; omega) (by rw [II_toInt (by unfold inr; omega)]; omega) (by rw [II_toInt (by unfold inr; omega), hsw21]; decide) (by decide) ?_
    exact JJ227  _ _ ls hM (lv_sub hl [0, 1, 2, 3] rfl) 
  · refine lv_tableIn (off := 226) (tgt := 227) B.1 B.2.1 dX12_two_1 (by rw [II_toInt (by unfold inr; omega)]; omega) (by rw [II_toInt (by unfold inr; omega)]; omega) (by rw [II_toInt (by unfold inr; omega), hsw22]; decide) (by decide) ?_
    exact JJ227  _ _ ls hM (lv_sub hl [0, 1, 2, 3] rfl) 
  · refine lv_tableIn (off := 189) (tgt := 190) B.1 B.2.1 dX12_two_1 (by rw [II_toInt (by unfold inr; omega)]; omega) (by rw [II_toInt (by unfold inr; omega)]; omega) (by rw [II_toInt (by unfold inr; omega), hsw23]; decide) (by decide) ?_
    refine lv_iload_n B.1 B.2.1 dX12_two_190 rfl (lv_at hl 2 rfl) ?_
    refine lv_iload_n B.1 B.2.1 dX12_two_191 rfl (lv_at hl 3 rfl) ?_
    refine q_cge (tgt := 199) B dX12_two_192 (by decide) (by unfold inr; omega) (by unfold inr; omega) (fun c31 => ?_) (fun c31 => ?_)
    · refine q_con B dX12_two_199 ?_
      subst hPST
      exact m_iret B hM dX12_two_200 (by unfold inr; omega) ⟨(f 98), rfl, by trivial⟩
    · refine q_con B dX12_two_195 ?_
      refine lv_goto (tgt := 200) B.1 B.2.1 dX12_two_196 (by decide) ?_
      subst hPST
      exact m_iret B hM dX12_two_200 (by unfold inr; omega) ⟨(f 98), rfl, by trivial⟩
  · refine lv_tableIn (off := 211) (tgt := 212) B.1 B.2.1 dX12_two_1 (by rw [II_toInt (by unfold inr; omega)]; omega) (by rw [II_toInt (by unfold inr; omega)]; omega) (by rw [II_toInt (by unfold inr; omega), hsw24]; decide) (by decide) ?_
    refine lv_iload_n B.1 B.2.1 dX12_two_212 rfl (lv_at hl 2 rfl) ?_
    refine lv_iload_n B.1 B.2.1 dX12_two_213 rfl (lv_at hl 3 rfl) ?_
    refine q_cne (tgt := 221) B dX12_two_214 (by decide) (by unfold inr; omega) (by unfold inr; omega) (fun c32 => ?_) (fun c32 => ?_)
    · refine q_con B dX12_two_221 ?_
      subst hPST
      exact m_iret B hM dX12_two_222 (by unfold inr; omega) ⟨(f 98), rfl, by trivial⟩
    · refine q_con B dX12_two_217 ?_
      refine lv_goto (tgt := 222) B.1 B.2.1 dX12_two_218 (by decide) ?_
      subst hPST
      exact m_iret B hM dX12_two_222 (by unfold inr; omega) ⟨(f 98), rfl, by trivial⟩
  · refine lv_tableIn (off := 200) (tgt := 201) B.1 B.2.1 dX12_two_1 (by rw [II_toInt (by unfold inr; omega)]; omega) (by rw [II_toInt (by unfold inr; omega)]; omega) (by rw [II_toInt (by unfold inr; omega), hsw25]; decide) (by decide) ?_
    refine lv_iload_n B.1 B.2.1 dX12_two_201 rfl (lv_at hl 2 rfl) ?_
    refine lv_iload_n B.1 B.2.1 dX12_two_202 rfl (lv_at hl 3 rfl) ?_
    refine q_cle (tgt := 210) B dX12_two_203 (by decide) (by unfold inr; omega) (by unfold inr; omega) (fun c33 => ?_) (fun c33 => ?_)
    · refine q_con B dX12_two_210 ?_
      subst hPST
      exact m_iret B hM dX12_two_211 (by unfold inr; omega) ⟨(f 98), rfl, by trivial⟩
    · refine q_con B dX12_two_206 ?_
      refine lv_goto (tgt := 211) B.1 B.2.1 dX12_two_207 (by decide) ?_
      subst hPST
      exact m_iret B hM dX12_two_211 (by unfold inr; omega) ⟨(f 98), rfl, by trivial⟩
