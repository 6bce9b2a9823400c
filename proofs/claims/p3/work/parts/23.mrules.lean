section MM
variable {p : Program} {l : Launch} {e : Env} {R : Room} {s : State} {m : MethodId} {args : Array Value} {below : List Frame} {meth : Method} {c : Code} {H : Heap} {locs : List Loc} {cells slots : Nat} {Q : State → Prop}
variable {cc : ByteArray} {pc : Nat} {ls : Array Slot} {rest : List Value}
variable {D : va_G} {dA : Nat → ClassId} {nL : Nat} {ret : Option FieldType} {h0 : Nat} {ad : Nat → Nat} {A0 : Nat → Prop} {H0 : Heap} {f : Nat → Int} {g : Nat → Int64} {A : Nat → Nat → Int} {L : Nat → Nat → Int64}
theorem m_get (B : Cx D dA p s m args meth c cc RX12 nL ret) (hM : MWd D dA h0 ad A0 H0 (f, g, A, L) H locs) {k index : Nat} (hk : k < 129) (hkd : mKL.getD k 0 = 0) (hl : Cond.fieldLink RX12 index RX12 (TX12 k).2.1 (TX12 k).2.2.1 ∈ lw_g) {v : Int} (hdg : decode cc pc = .ok (.getfield index, 3)) (hv : f k = v) (kk : W p l e R s m args below meth c H locs cells slots Q (F0 m (pc + 3) ls (.int (II v) :: rest))) : W p l e R s m args below meth c H locs cells slots Q (F0 m pc ls (.ref h0 :: rest)) :=
  va_get (D := D) (ci := 14) (C := RX12) (T := TX12) (N := 129) B.1 B.2.1 B.2.2.2.2.1 i_X12 B.2.2.2.1 B.2.2.2.2.2.1 hM.1 0 rfl rfl k hk (B.2.2.2.2.1 _ hl) (fun _ h => by rw [c_X12 k hk] at h; exact h) ((mW_fld hk).trans (by rw [mV_i hkd]; exact congrArg (fun z => some (Value.int (II z))) hv)) hdg kk
theorem m_getl (B : Cx D dA p s m args meth c cc RX12 nL ret) (hM : MWd D dA h0 ad A0 H0 (f, g, A, L) H locs) {k index : Nat} (hk : k < 129) (hkd : mKL.getD k 0 = 1) (hl : Cond.fieldLink RX12 index RX12 (TX12 k).2.1 (TX12 k).2.2.1 ∈ lw_g) {v : Int64} (hdg : decode cc pc = .ok (.getfield index, 3)) (hv : g k = v) (kk : W p l e R s m args below meth c H locs cells slots Q (F0 m (pc + 3) ls (.long v :: rest))) : W p l e R s m args below meth c H locs cells slots Q (F0 m pc ls (.ref h0 :: rest)) :=
  va_get (D := D) (ci := 14) (C := RX12) (T := TX12) (N := 129) B.1 B.2.1 B.2.2.2.2.1 i_X12 B.2.2.2.1 B.2.2.2.2.2.1 hM.1 0 rfl rfl k hk (B.2.2.2.2.1 _ hl) (fun _ h => by rw [c_X12 k hk] at h; exact h) ((mW_fld hk).trans (by rw [mV_l hkd]; exact congrArg (fun z => some (Value.long z)) hv)) hdg kk
theorem m_geta (B : Cx D dA p s m args meth c cc RX12 nL ret) (hM : MWd D dA h0 ad A0 H0 (f, g, A, L) H locs) {k index : Nat} (hk : k < 129) (hkd : mKL.getD k 0 = 2) (hl : Cond.fieldLink RX12 index RX12 (TX12 k).2.1 (TX12 k).2.2.1 ∈ lw_g) (hdg : decode cc pc = .ok (.getfield index, 3)) (kk : W p l e R s m args below meth c H locs cells slots Q (F0 m (pc + 3) ls (.ref (ad k) :: rest))) : W p l e R s m args below meth c H locs cells slots Q (F0 m pc ls (.ref h0 :: rest)) :=
  va_get (D := D) (ci := 14) (C := RX12) (T := TX12) (N := 129) B.1 B.2.1 B.2.2.2.2.1 i_X12 B.2.2.2.1 B.2.2.2.2.2.1 hM.1 0 rfl rfl k hk (B.2.2.2.2.1 _ hl) (fun _ h => by rw [c_X12 k hk] at h; exact h) ((mW_fld hk).trans (by rw [mV_r hkd])) hdg kk
theorem GI.put {f : Nat → Int} {g g' : Nat → Int64} {A : Nat → Nat → Int} {L L' : Nat → Nat → Int64} (h : GI (f, g, A, L)) (k : Nat) (v : Int) (h1 : (lk fRng k iRng).1 ≤ v) (h2 : v ≤ (lk fRng k iRng).2) : GI (u1 f k v, g', A, L') := by
  refine ⟨fun j => ?_, h.2⟩
  show (lk fRng j iRng).1 ≤ u1 f k v j ∧ u1 f k v j ≤ (lk fRng j iRng).2
  by_cases e : j = k
  · subst e; rw [u1_eq]; exact ⟨h1, h2⟩
  · rw [u1_ne f v e]; exact h.1 j
theorem GI.wrt {f : Nat → Int} {g g' : Nat → Int64} {A : Nat → Nat → Int} {L L' : Nat → Nat → Int64} (h : GI (f, g, A, L)) (k : Nat) (z v : Int) (h1 : (lk aRng k iRng).1 ≤ v) (h2 : v ≤ (lk aRng k iRng).2) : GI (f, g', u1 A k (wr (A k) z v), L') := by
  refine ⟨h.1, fun j i => ?_⟩
  show (lk aRng j iRng).1 ≤ u1 A k (wr (A k) z v) j i ∧ u1 A k (wr (A k) z v) j i ≤ (lk aRng j iRng).2
  by_cases e : j = k
  · subst e; rw [u1_eq]
    unfold wr
    split
    · exact ⟨h1, h2⟩
    · exact h.2 j i
  · rw [u1_ne A _ e]; exact h.2 j i
theorem GI.same {f : Nat → Int} {g g' : Nat → Int64} {A : Nat → Nat → Int} {L L' : Nat → Nat → Int64} (h : GI (f, g, A, L)) : GI (f, g', A, L') := h
/-- a field of whole numbers is written -/
theorem m_put (B : Cx D dA p s m args meth c cc RX12 nL ret) (hM : MWd D dA h0 ad A0 H0 (f, g, A, L) H locs) {k index : Nat} (hk : k < 129) (hkd : mKL.getD k 0 = 0) (hl : Cond.fieldLink RX12 index RX12 (TX12 k).2.1 (TX12 k).2.2.1 ∈ lw_g) (hfin : (TX12 k).2.2.2 = false) {v : Int} (hdg : decode cc pc = .ok (.putfield index, 3)) (hn : narrow (tyX12 k) (.int (II v)) = .int (II v)) (hft : fits (tyX12 k) (.int (II v)) = true) (h1 : (lk fRng k iRng).1 ≤ v) (h2 : v ≤ (lk fRng k iRng).2)
    {f' : Nat → Int} (hf : u1 f k v = f') (kk : ∀ (H : Heap) (locs : List Loc), MWd D dA h0 ad A0 H0 (f', g, A, L) H locs → W p l e R s m args below meth c H locs cells slots Q (F0 m (pc + 3) ls rest)) : W p l e R s m args below meth c H locs cells slots Q (F0 m pc ls (.int (II v) :: .ref h0 :: rest)) := by
  subst hf
  refine va_put (D := D) (ci := 14) (v := .int (II v)) (ty := tyX12 k) (C := RX12) (T := TX12) (N := 129) B.1 B.2.1 B.2.2.2.2.1 i_X12 tyX12 tyX12_ok nmX12 B.2.2.2.1 B.2.2.2.2.2.1 hM.1 hM.2.1 hM.2.2.1 0 rfl rfl k hk (B.2.2.2.2.1 _ hl) (fun _ h => by rw [c_X12 k hk] at h; exact h) hfin (tyX12_ok k hk) hn hft (by simp [hk]) hdg (fun H1 locs1 hP hD hS => kk H1 locs1 ⟨?_, ?_, hS, hM.2.2.2.put k v h1 h2⟩)
  · rw [← mW_setf k hkd v]; exact hP
  · rw [← mW_setf k hkd v]; exact hD
theorem m_putl (B : Cx D dA p s m args meth c cc RX12 nL ret) (hM : MWd D dA h0 ad A0 H0 (f, g, A, L) H locs) {k index : Nat} (hk : k < 129) (hkd : mKL.getD k 0 = 1) (hl : Cond.fieldLink RX12 index RX12 (TX12 k).2.1 (TX12 k).2.2.1 ∈ lw_g) (hfin : (TX12 k).2.2.2 = false) {v : Int64} (hdg : decode cc pc = .ok (.putfield index, 3)) (hn : narrow (tyX12 k) (.long v) = .long v) (hft : fits (tyX12 k) (.long v) = true)
    {g' : Nat → Int64} (hf : u1 g k v = g') (kk : ∀ (H : Heap) (locs : List Loc), MWd D dA h0 ad A0 H0 (f, g', A, L) H locs → W p l e R s m args below meth c H locs cells slots Q (F0 m (pc + 3) ls rest)) : W p l e R s m args below meth c H locs cells slots Q (F0 m pc ls (.long v :: .ref h0 :: rest)) := by
  subst hf
  refine va_put (D := D) (ci := 14) (v := .long v) (ty := tyX12 k) (C := RX12) (T := TX12) (N := 129) B.1 B.2.1 B.2.2.2.2.1 i_X12 tyX12 tyX12_ok nmX12 B.2.2.2.1 B.2.2.2.2.2.1 hM.1 hM.2.1 hM.2.2.1 0 rfl rfl k hk (B.2.2.2.2.1 _ hl) (fun _ h => by rw [c_X12 k hk] at h; exact h) hfin (tyX12_ok k hk) hn hft (by simp [hk]) hdg (fun H1 locs1 hP hD hS => kk H1 locs1 ⟨?_, ?_, hS, hM.2.2.2.same⟩)
  · rw [← mW_setl k hkd v]; exact hP
  · rw [← mW_setl k hkd v]; exact hD
theorem narZ {v : Int} (h : v = 0 ∨ v = 1) : narrow .boolean (.int (II v)) = .int (II v) := by
  rcases h with rfl | rfl <;> decide
/-! rows -/
theorem m_ild (B : Cx D dA p s m args meth c cc RX12 nL ret) (hM : MWd D dA h0 ad A0 H0 (f, g, A, L) H locs) {k i n : Nat} (hi : mArrs[i]? = some k) (ht : mTL.getD k 0 = 0) (hn : mNL.getD k 0 = n) (hnn : n ≤ 2147483647) {z : Int} (hdg : decode cc pc = .ok (.iaload, 1)) (h1 : 0 ≤ z) (h2 : z < n) {v : Int} (hv : A k z.toNat = v) (kk : W p l e R s m args below meth c H locs cells slots Q (F0 m (pc + 1) ls (.int (II v) :: rest))) : W p l e R s m args below meth c H locs cells slots Q (F0 m pc ls (.int (II z) :: .ref (ad k) :: rest)) := by
  refine va_iald (D := D) (f := fun j => II (A k j)) B.1 B.2.1 B.2.2.2.2.2.1 hM.1 (i + 1) 0 (by rw [mW_arr i hi, mE_i ht hn rfl]) rfl (II_in h1 h2 hnn) hdg ?_
  rw [II_clamp h1 (by unfold inr; omega), hv]; exact kk
theorem m_bld (B : Cx D dA p s m args meth c cc RX12 nL ret) (hM : MWd D dA h0 ad A0 H0 (f, g, A, L) H locs) {k i n : Nat} (hi : mArrs[i]? = some k) (ht : mTL.getD k 0 = 1) (hn : mNL.getD k 0 = n) (hnn : n ≤ 2147483647) {z : Int} (hdg : decode cc pc = .ok (.baload, 1)) (h1 : 0 ≤ z) (h2 : z < n) {v : Int} (hv : A k z.toNat = v) (kk : W p l e R s m args below meth c H locs cells slots Q (F0 m (pc + 1) ls (.int (II v) :: rest))) : W p l e R s m args below meth c H locs cells slots Q (F0 m pc ls (.int (II z) :: .ref (ad k) :: rest)) := by
  refine va_bald (D := D) (f := fun j => II (A k j)) B.1 B.2.1 B.2.2.2.2.2.1 hM.1 (i + 1) 1 (by rw [mW_arr i hi, mE_i ht hn rfl]) rfl (II_in h1 h2 hnn) hdg ?_
  rw [II_clamp h1 (by unfold inr; omega), hv]; exact kk
theorem m_zld (B : Cx D dA p s m args meth c cc RX12 nL ret) (hM : MWd D dA h0 ad A0 H0 (f, g, A, L) H locs) {k i n : Nat} (hi : mArrs[i]? = some k) (ht : mTL.getD k 0 = 2) (hn : mNL.getD k 0 = n) (hnn : n ≤ 2147483647) {z : Int} (hdg : decode cc pc = .ok (.baload, 1)) (h1 : 0 ≤ z) (h2 : z < n) {v : Int} (hv : A k z.toNat = v) (kk : W p l e R s m args below meth c H locs cells slots Q (F0 m (pc + 1) ls (.int (II v) :: rest))) : W p l e R s m args below meth c H locs cells slots Q (F0 m pc ls (.int (II z) :: .ref (ad k) :: rest)) := by
  refine va_zald (D := D) (f := fun j => II (A k j)) B.1 B.2.1 B.2.2.2.2.2.1 hM.1 (i + 1) 2 (by rw [mW_arr i hi, mE_i ht hn rfl]) rfl (II_in h1 h2 hnn) hdg ?_
  rw [II_clamp h1 (by unfold inr; omega), hv]; exact kk
theorem m_lld (B : Cx D dA p s m args meth c cc RX12 nL ret) (hM : MWd D dA h0 ad A0 H0 (f, g, A, L) H locs) {k i n : Nat} (hi : mArrs[i]? = some k) (ht : mTL.getD k 0 = 3) (hn : mNL.getD k 0 = n) (hnn : n ≤ 2147483647) {z : Int} (hdg : decode cc pc = .ok (.laload, 1)) (h1 : 0 ≤ z) (h2 : z < n) {v : Int64} (hv : L k z.toNat = v) (kk : W p l e R s m args below meth c H locs cells slots Q (F0 m (pc + 1) ls (.long v :: rest))) : W p l e R s m args below meth c H locs cells slots Q (F0 m pc ls (.int (II z) :: .ref (ad k) :: rest)) := by
  refine va_lald (D := D) (f := L k) B.1 B.2.1 B.2.2.2.2.2.1 hM.1 (i + 1) 3 (by rw [mW_arr i hi, mE_l ht hn]) rfl (II_in h1 h2 hnn) hdg ?_
  rw [II_clamp h1 (by unfold inr; omega), hv]; exact kk
theorem upd_II (a : Nat → Int) (z v : Int) : upd (fun j => II (a j)) z.toNat (II v) = fun j => II (wr a z v j) := by
  funext j
  unfold upd wr
  split <;> simp_all
theorem m_ist (B : Cx D dA p s m args meth c cc RX12 nL ret) (hM : MWd D dA h0 ad A0 H0 (f, g, A, L) H locs) {k i n : Nat} (hi : mArrs[i]? = some k) (ht : mTL.getD k 0 = 0) (hn : mNL.getD k 0 = n) (hnn : n ≤ 2147483647) {z v : Int} (hdg : decode cc pc = .ok (.iastore, 1)) (h1 : 0 ≤ z) (h2 : z < n) (h3 : (lk aRng k iRng).1 ≤ v) (h4 : v ≤ (lk aRng k iRng).2)
    {A' : Nat → Nat → Int} (hA : u1 A k (wr (A k) z v) = A') (kk : ∀ (H : Heap) (locs : List Loc), MWd D dA h0 ad A0 H0 (f, g, A', L) H locs → W p l e R s m args below meth c H locs cells slots Q (F0 m (pc + 1) ls rest)) : W p l e R s m args below meth c H locs cells slots Q (F0 m pc ls (.int (II v) :: .int (II z) :: .ref (ad k) :: rest)) := by
  subst hA
  have hz : (II z).toNatClampNeg = z.toNat := II_clamp h1 (by unfold inr; omega)
  refine va_iast (D := D) (f := fun j => II (A k j)) B.1 B.2.1 B.2.2.2.2.2.1 hM.1 hM.2.1 hM.2.2.1 (i + 1) 0 (by rw [mW_arr i hi, mE_i ht hn rfl]) rfl (II_in h1 h2 hnn) hdg (fun H1 locs1 hP hD hS => kk H1 locs1 ⟨?_, ?_, hS, hM.2.2.2.wrt k z v h3 h4⟩)
  · rw [← mW_setA hi ht hn rfl (wr (A k) z v) _ (upd_II (A k) z v)]; rw [hz] at hP; exact hP
  · rw [← mW_setA hi ht hn rfl (wr (A k) z v) _ (upd_II (A k) z v)]; rw [hz] at hD; exact hD
theorem m_zst (B : Cx D dA p s m args meth c cc RX12 nL ret) (hM : MWd D dA h0 ad A0 H0 (f, g, A, L) H locs) {k i n : Nat} (hi : mArrs[i]? = some k) (ht : mTL.getD k 0 = 2) (hn : mNL.getD k 0 = n) (hnn : n ≤ 2147483647) {z v : Int} (hdg : decode cc pc = .ok (.bastore, 1)) (h1 : 0 ≤ z) (h2 : z < n) (hv : v = 0 ∨ v = 1) (h3 : (lk aRng k iRng).1 ≤ v) (h4 : v ≤ (lk aRng k iRng).2)
    {A' : Nat → Nat → Int} (hA : u1 A k (wr (A k) z v) = A') (kk : ∀ (H : Heap) (locs : List Loc), MWd D dA h0 ad A0 H0 (f, g, A', L) H locs → W p l e R s m args below meth c H locs cells slots Q (F0 m (pc + 1) ls rest)) : W p l e R s m args below meth c H locs cells slots Q (F0 m pc ls (.int (II v) :: .int (II z) :: .ref (ad k) :: rest)) := by
  subst hA
  have hz : (II z).toNatClampNeg = z.toNat := II_clamp h1 (by unfold inr; omega)
  have hw : vp_nar .boolean (II v) = II v := by rcases hv with rfl | rfl <;> decide
  refine va_zast (D := D) (f := fun j => II (A k j)) B.1 B.2.1 B.2.2.2.2.2.1 hM.1 hM.2.1 hM.2.2.1 (i + 1) 2 (by rw [mW_arr i hi, mE_i ht hn rfl]) rfl (II_in h1 h2 hnn) hdg (fun H1 locs1 hP hD hS => kk H1 locs1 ⟨?_, ?_, hS, hM.2.2.2.wrt k z v h3 h4⟩)
  · rw [← mW_setA hi ht hn rfl (wr (A k) z v) _ (upd_II (A k) z v)]; rw [hz, hw] at hP; exact hP
  · rw [← mW_setA hi ht hn rfl (wr (A k) z v) _ (upd_II (A k) z v)]; rw [hz, hw] at hD; exact hD
theorem nar_byte_rng (x : Int32) : ∃ v : Int, vp_nar .byte x = II v ∧ -128 ≤ v ∧ v ≤ 127 := by
  refine ⟨x.toInt8.toInt, ?_, Int8.le_toInt _, ?_⟩
  · rw [vp_nar_byte, II_of (x.toInt8.toInt32), Int8.toInt_toInt32]
  · have := Int8.toInt_lt x.toInt8; omega
/-- a byte is written: which, is not told -/
theorem m_bst (B : Cx D dA p s m args meth c cc RX12 nL ret) (hM : MWd D dA h0 ad A0 H0 (f, g, A, L) H locs) {k i n : Nat} (hi : mArrs[i]? = some k) (ht : mTL.getD k 0 = 1) (hn : mNL.getD k 0 = n) (hnn : n ≤ 2147483647) (hrg : lk aRng k iRng = (-128, 127)) {z : Int} {x : Int32} (hdg : decode cc pc = .ok (.bastore, 1)) (h1 : 0 ≤ z) (h2 : z < n)
    (kk : ∀ (H : Heap) (locs : List Loc) (v : Int), -128 ≤ v → v ≤ 127 → MWd D dA h0 ad A0 H0 (f, g, u1 A k (wr (A k) z v), L) H locs → W p l e R s m args below meth c H locs cells slots Q (F0 m (pc + 1) ls rest)) : W p l e R s m args below meth c H locs cells slots Q (F0 m pc ls (.int x :: .int (II z) :: .ref (ad k) :: rest)) := by
  have hz : (II z).toNatClampNeg = z.toNat := II_clamp h1 (by unfold inr; omega)
  obtain ⟨v, hw, hv1, hv2⟩ := nar_byte_rng x
  refine va_bast (D := D) (f := fun j => II (A k j)) B.1 B.2.1 B.2.2.2.2.2.1 hM.1 hM.2.1 hM.2.2.1 (i + 1) 1 (by rw [mW_arr i hi, mE_i ht hn rfl]) rfl (II_in h1 h2 hnn) hdg (fun H1 locs1 hP hD hS => kk H1 locs1 v hv1 hv2 ⟨?_, ?_, hS, hM.2.2.2.wrt k z v (by rw [hrg]; exact hv1) (by rw [hrg]; exact hv2)⟩)
  · rw [← mW_setA hi ht hn rfl (wr (A k) z v) _ (upd_II (A k) z v)]; rw [hz, hw] at hP; exact hP
  · rw [← mW_setA hi ht hn rfl (wr (A k) z v) _ (upd_II (A k) z v)]; rw [hz, hw] at hD; exact hD
theorem m_lst (B : Cx D dA p s m args meth c cc RX12 nL ret) (hM : MWd D dA h0 ad A0 H0 (f, g, A, L) H locs) {k i n : Nat} (hi : mArrs[i]? = some k) (ht : mTL.getD k 0 = 3) (hn : mNL.getD k 0 = n) (hnn : n ≤ 2147483647) {z : Int} {v : Int64} (hdg : decode cc pc = .ok (.lastore, 1)) (h1 : 0 ≤ z) (h2 : z < n)
    {L' : Nat → Nat → Int64} (hA : u1 L k (wr (L k) z v) = L') (kk : ∀ (H : Heap) (locs : List Loc), MWd D dA h0 ad A0 H0 (f, g, A, L') H locs → W p l e R s m args below meth c H locs cells slots Q (F0 m (pc + 1) ls rest)) : W p l e R s m args below meth c H locs cells slots Q (F0 m pc ls (.long v :: .int (II z) :: .ref (ad k) :: rest)) := by
  subst hA
  have hz : (II z).toNatClampNeg = z.toNat := II_clamp h1 (by unfold inr; omega)
  have hu : vp_updL (L k) z.toNat v = wr (L k) z v := rfl
  refine va_last (D := D) (f := L k) B.1 B.2.1 B.2.2.2.2.2.1 hM.1 hM.2.1 hM.2.2.1 (i + 1) 3 (by rw [mW_arr i hi, mE_l ht hn]) rfl (II_in h1 h2 hnn) hdg (fun H1 locs1 hP hD hS => kk H1 locs1 ⟨?_, ?_, hS, hM.2.2.2.same⟩)
  · rw [← mW_setLA hi ht hn (wr (L k) z v)]; rw [hz, hu] at hP; exact hP
  · rw [← mW_setLA hi ht hn (wr (L k) z v)]; rw [hz, hu] at hD; exact hD
end MM
theorem lk_self {α : Type} (f : Nat → α) (ks : List Nat) (j : Nat) : lk (ks.map fun k => (k, f k)) j (f j) = f j := by
  induction ks with
  | nil => rfl
  | cons k ks ih =>
    simp only [List.map_cons, lk, ih]
    cases e : Nat.beq j k with
    | true => have e2 := Nat.eq_of_beq_eq_true e; subst e2; rfl
    | false => rfl
theorem up_self {α : Type} (f : Nat → α) (ks : List Nat) : f = up f (ks.map fun k => (k, f k)) := by
  funext j
  exact (lk_self f ks j).symm
theorem MW_pad {D : va_G} {dA : Nat → ClassId} {h0 : Nat} {ad : Nat → Nat} {A0 : Nat → Prop} {H0 H : Heap} {locs : List Loc} {f f' : Nat → Int} {g g' : Nat → Int64} {A A' : Nat → Nat → Int} {L L' : Nat → Nat → Int64} (hM : MWd D dA h0 ad A0 H0 (f, g, A, L) H locs) (e1 : f = f') (e2 : g = g') (e3 : A = A') (e4 : L = L') : MWd D dA h0 ad A0 H0 (f', g', A', L') H locs := by
  subst e1 e2 e3 e4; exact hM
