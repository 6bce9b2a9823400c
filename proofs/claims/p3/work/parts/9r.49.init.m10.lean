theorem ol_code : Cond.code Lib.objectInit ⟨#[0xb1]⟩ 1 none ∈ lw_g := (mem_t (List.mem_of_getElem? (i := 37) (by decide +kernel)) rfl)
theorem ol_inst : Cond.instanceMethod Lib.objectInit ∈ lw_g := (mem_t (List.mem_of_getElem? (i := 36) (by decide +kernel)) rfl)
theorem ol_link : Cond.methodLink RX12 130 Lib.objectInit ∈ lw_g := (mem_t (List.mem_of_getElem? (i := 1531) (by decide +kernel)) rfl)
theorem ac_byte : Cond.arrayClass .byte ∈ lw_g := (mem_t (List.mem_of_getElem? (i := 57) (by decide +kernel)) rfl)
theorem ac_int : Cond.arrayClass .int ∈ lw_g := (mem_t (List.mem_of_getElem? (i := 58) (by decide +kernel)) rfl)
theorem ac_long : Cond.arrayClass .long ∈ lw_g := (mem_t (List.mem_of_getElem? (i := 59) (by decide +kernel)) rfl)
theorem ac_boolean : Cond.arrayClass .boolean ∈ lw_g := (mem_t (List.mem_of_getElem? (i := 1089) (by decide +kernel)) rfl)
/-! the constructor of the reference -/
def mIx (k : Nat) : Nat := mArrs.idxOf k
def pV (i : Nat) (ad : Nat → Nat) (f : Nat → Int) (k : Nat) : Value := match mKL.getD k 0 with
  | 0 => .int (II (f k))
  | 1 => .long 0
  | _ => cond (Nat.blt (mIx k) i) (.ref (ad k)) .null
def pW (dA : Nat → ClassId) (h0 : Nat) (ad : Nat → Nat) (f : Nat → Int) (i : Nat) : va_W := (h0, .inr (14, (List.range 129).map (pV i ad f))) :: (mArrs.take i).map (fun k => (ad k, mE dA (fun _ _ => 0) (fun _ _ => 0) k))
theorem mIx_at {i k : Nat} (hi : mArrs[i]? = some k) : mIx k = i := by
  have hm : k ∈ mArrs := List.mem_of_getElem? hi
  have hl : mArrs.idxOf k < mArrs.length := List.idxOf_lt_length_iff.mpr hm
  have h2 : mArrs[mArrs.idxOf k]? = some k := by
    rw [List.getElem?_eq_getElem hl]
    exact congrArg some (List.getElem_idxOf hl)
  exact mArrs_nd _ _ _ h2 hi
theorem mIx_ne {i j k : Nat} (hi : mArrs[i]? = some k) (h : j ≠ k) : mIx j ≠ i := by
  intro e
  have hl : mArrs.idxOf j < mArrs.length := by
    have := (List.getElem?_eq_some_iff.mp hi).1
    show mIx j < _
    omega
  have h2 : mArrs[mArrs.idxOf j]? = some j := by
    rw [List.getElem?_eq_getElem hl]
    exact congrArg some (List.getElem_idxOf hl)
  have h3 : mArrs[i]? = some j := by rw [← e]; exact h2
  rw [hi] at h3
  exact h (Option.some.inj h3).symm
theorem pV_r {i : Nat} {ad : Nat → Nat} {f : Nat → Int} {k : Nat} (h : mKL.getD k 0 = 2) : pV i ad f k = cond (Nat.blt (mIx k) i) (.ref (ad k)) .null := by
  unfold pV; rw [h]; rfl
theorem pV_i {i : Nat} {ad : Nat → Nat} {f : Nat → Int} {k : Nat} (h : mKL.getD k 0 = 0) : pV i ad f k = .int (II (f k)) := by
  unfold pV; rw [h]; rfl
theorem blt_true {a b : Nat} (h : a < b) : Nat.blt a b = true := by
  unfold Nat.blt; exact Nat.ble_eq.mpr h
theorem blt_false {a b : Nat} (h : b ≤ a) : Nat.blt a b = false := by
  cases e : Nat.blt a b with
  | false => rfl
  | true => unfold Nat.blt at e; have := Nat.ble_eq.mp e; omega
theorem pV_step {i k : Nat} {ad : Nat → Nat} {f : Nat → Int} {q : Nat} (hi : mArrs[i]? = some k) {j : Nat} (hj : j ≠ k) : pV (i + 1) (u1 ad k q) f j = pV i ad f j := by
  unfold pV
  rw [u1_ne ad q hj]
  have hx := mIx_ne hi hj
  have hb : Nat.blt (mIx j) (i + 1) = Nat.blt (mIx j) i := by
    rcases Nat.lt_or_ge (mIx j) i with h | h
    · rw [blt_true h, blt_true (by omega)]
    · rw [blt_false h, blt_false (by omega)]
  rw [hb]
theorem pW_step {dA : Nat → ClassId} {h0 : Nat} {ad : Nat → Nat} {f : Nat → Int} {i k q : Nat} {e : va_E} (hi : mArrs[i]? = some k) (hkd : mKL.getD k 0 = 2) (he : mE dA (fun _ _ => 0) (fun _ _ => 0) k = e) :
    (pW dA h0 ad f i ++ [(q, e)]).set 0 (h0, .inr (14, ((List.range 129).map (pV i ad f)).set k (.ref q))) = pW dA h0 (u1 ad k q) f (i + 1) := by
  subst he
  have e1 : ((List.range 129).map (pV i ad f)).set k (.ref q) = (List.range 129).map (pV (i + 1) (u1 ad k q) f) := by
    refine set_map_range 129 k _ _ _ ?_ (fun j hj => pV_step hi hj)
    rw [pV_r hkd, mIx_at hi, blt_true (by omega), u1_eq]
    rfl
  have e2 : (mArrs.take i).map (fun k => (ad k, mE dA (fun _ _ => 0) (fun _ _ => 0) k)) ++ [(q, mE dA (fun _ _ => 0) (fun _ _ => 0) k)] = (mArrs.take (i + 1)).map (fun j => (u1 ad k q j, mE dA (fun _ _ => 0) (fun _ _ => 0) j)) := by
    rw [List.take_add_one, hi, List.map_append]
    congr 1
    · apply List.map_congr_left
      intro j hj
      have hjk : j ≠ k := by
        intro z
        subst z
        obtain ⟨t, ht⟩ := List.getElem?_of_mem hj
        rw [List.getElem?_take] at ht
        split at ht
        · next hl => have := mArrs_nd _ _ _ ht hi; omega
        · cases ht
      rw [u1_ne ad q hjk]
    · simp [u1_eq]
  unfold pW
  rw [List.cons_append, List.set_cons_zero, e1, e2]
theorem pW_setf {dA : Nat → ClassId} {h0 : Nat} {ad : Nat → Nat} {f : Nat → Int} {i k : Nat} (hkd : mKL.getD k 0 = 0) (v : Int) :
    (pW dA h0 ad f i).set 0 (h0, .inr (14, ((List.range 129).map (pV i ad f)).set k (.int (II v)))) = pW dA h0 ad (u1 f k v) i := by
  have e1 : ((List.range 129).map (pV i ad f)).set k (.int (II v)) = (List.range 129).map (pV i ad (u1 f k v)) := by
    refine set_map_range 129 k _ _ _ ?_ ?_
    · rw [pV_i hkd, u1_eq]
    · intro j hj
      unfold pV
      rw [u1_ne f v hj]
  unfold pW
  rw [List.set_cons_zero, e1]
theorem pW_end {dA : Nat → ClassId} {h0 : Nat} {ad : Nat → Nat} {f : Nat → Int} : pW dA h0 ad f 93 = mW dA h0 ad (f, (fun _ => 0), (fun _ _ => 0), (fun _ _ => 0)) := by
  have e1 : (List.range 129).map (pV 93 ad f) = (List.range 129).map (mV ad f (fun _ => 0)) := by
    apply List.map_congr_left
    intro k hk
    have hk' : k < 129 := List.mem_range.mp hk
    have ht : ∀ k, k < 129 → mKL.getD k 0 = 2 → mIx k < 93 := by decide +kernel
    have hx : ∀ k, k < 129 → mKL.getD k 0 = 0 ∨ mKL.getD k 0 = 1 ∨ mKL.getD k 0 = 2 := by decide +kernel
    rcases hx k hk' with h | h | h
    · rw [pV_i h, mV_i h]
    · unfold pV mV; rw [h]; rfl
    · rw [pV_r h, mV_r h, blt_true (ht k hk' h)]; rfl
  unfold pW mW
  rw [e1, show mArrs.take 93 = mArrs from by decide +kernel]
def PWd (D : va_G) (dA : Nat → ClassId) (h0 : Nat) (A0 : Nat → Prop) (H0 : Heap) (i : Nat) (ad : Nat → Nat) (f : Nat → Int) (H : Heap) (locs : List Loc) : Prop :=
  va_P D vwCl (pW dA h0 ad f i) H ∧ va_D A0 (pW dA h0 ad f i) ∧ va_S A0 H0 H locs
section MN
variable {p : Program} {l : Launch} {e : Env} {R : Room} {s : State} {m : MethodId} {args : Array Value} {below : List Frame} {meth : Method} {c : Code} {H : Heap} {locs : List Loc} {cells slots : Nat} {Q : State → Prop}
variable {cc : ByteArray} {pc : Nat} {ls : Array Slot} {rest : List Value}
variable {D : va_G} {dA : Nat → ClassId} {nL : Nat} {ret : Option FieldType} {h0 : Nat} {A0 : Nat → Prop} {H0 : Heap} {ad : Nat → Nat} {f : Nat → Int}
/-- a row is made, and laid into its field -/
theorem mk_row (B : Cx D dA p s m args meth c cc RX12 nL ret) (hin : meth.name = "<init>") {i : Nat} (hM : PWd D dA h0 A0 H0 i ad f H locs) (hA : ∀ q, H0.size ≤ q → A0 q) {k t n index cells' slots' : Nat} {z : Int} {atype : ArrayType} {x : vp_A} {fty : FieldType}
    (hi : mArrs[i]? = some k) (hkd : mKL.getD k 0 = 2) (hk : k < 129) (hz : z = (n : Int)) (hb : n ≤ 100000) (hx : x.1 = n)
    (he : mE dA (fun _ _ => 0) (fun _ _ => 0) k = .inl (dA t, x)) (ht : (tyX dA)[t]? = some (dA t, newarray.typeOf atype)) (hra : ∀ cA, va_RA s cA (newarray.typeOf atype) → s.vm.findClass ("[" ++ (newarray.typeOf atype).toString) = some cA)
    (ha : ∀ cA : ClassId, vp_cell cA x = arrV cA x.1 (fun _ => defaultValue (newarray.typeOf atype))) (hcb : componentBytes (newarray.typeOf atype) ≤ 8)
    (harr : Cond.arrayClass (newarray.typeOf atype) ∈ lw_g) (hl : Cond.fieldLink RX12 index RX12 (TX12 k).2.1 (TX12 k).2.2.1 ∈ lw_g) (hfin : (TX12 k).2.2.2 = true) (hft : tyX12 k = fty) (hnar : ∀ q, narrow fty (.ref q) = .ref q) (hfit : ∀ q, fits fty (.ref q) = true)
    (hc1 : cells + 1 = cells') (hc2 : cells' ≤ R.cells) (hs1 : slots + n = slots') (hs2 : slots' ≤ R.slots)
    (hdg : decode cc pc = .ok (.newarray atype, 2)) (hdp : decode cc (pc + 2) = .ok (.putfield index, 3))
    (kk : ∀ (ad : Nat → Nat) (H : Heap) (locs : List Loc), PWd D dA h0 A0 H0 (i + 1) ad f H locs → W p l e R s m args below meth c H locs cells' slots' Q (F0 m (pc + 5) ls rest)) :
    W p l e R s m args below meth c H locs cells slots Q (F0 m pc ls (.int (II z) :: .ref h0 :: rest)) := by
  subst hz hc1 hs1 hft
  have hr : inr (n : Int) := by unfold inr; omega
  refine va_newa (D := D) (N' := n) (a0 := x) B.1 B.2.1 (B.2.2.2.2.1 _ harr) rfl B.2.2.2.2.2.1 hM.1 hM.2.1 hM.2.2 hA (fun cA => by rw [ha cA, hx]) ?_ (by rw [II_clamp (by omega) hr]; omega) ?_ hc2 hs2 hdg (fun q cA H1 hK1 hP1 hD1 hS1 => ?_)
  · intro hq
    have h2 : II (n : Int) < II 0 := hq
    rw [II_lt hr inr0] at h2
    omega
  · have h1 := Nat.mul_le_mul hb hcb
    omega
  · have hcA : cA = dA t := by
      have h1 := hra _ (hK1.2 (tyX dA).length (cA, newarray.typeOf atype) (by rw [List.getElem?_append_right (Nat.le_refl _), Nat.sub_self]; rfl)).2
      have h2 := hra _ (B.2.2.2.2.2.1.2 t _ ht).2
      exact Option.some.inj (h1.symm.trans h2)
    subst hcA
    refine va_putF (D := D) (ci := 14) (v := .ref q) (ty := tyX12 k) (C := RX12) (T := TX12) (N := 129) B.1 B.2.1 B.2.2.2.2.1 i_X12 tyX12 tyX12_ok nmX12 B.2.2.2.1 B.2.2.2.2.2.1 hP1 hD1 hS1 0 rfl rfl k hk (B.2.2.2.2.1 _ hl) (fun _ h => by rw [c_X12 k hk] at h; exact h) hfin hin (c_X12 k hk) (tyX12_ok k hk) (hnar q) (hfit q) (by simp [hk]) hdp (fun H2 locs2 hP2 hD2 hS2 => kk (u1 ad k q) H2 locs2 ⟨?_, ?_, hS2⟩)
    · rw [← pW_step hi hkd he]; exact hP2
    · rw [← pW_step hi hkd he]; exact hD2
theorem mk_put (B : Cx D dA p s m args meth c cc RX12 nL ret) {i : Nat} (hM : PWd D dA h0 A0 H0 i ad f H locs) {k index : Nat} {v : Int} (hk : k < 129) (hkd : mKL.getD k 0 = 0) (hl : Cond.fieldLink RX12 index RX12 (TX12 k).2.1 (TX12 k).2.2.1 ∈ lw_g) (hfin : (TX12 k).2.2.2 = false) (hn : narrow (tyX12 k) (.int (II v)) = .int (II v)) (hft : fits (tyX12 k) (.int (II v)) = true) (hdg : decode cc pc = .ok (.putfield index, 3))
    (kk : ∀ (H : Heap) (locs : List Loc), PWd D dA h0 A0 H0 i ad (u1 f k v) H locs → W p l e R s m args below meth c H locs cells slots Q (F0 m (pc + 3) ls rest)) : W p l e R s m args below meth c H locs cells slots Q (F0 m pc ls (.int (II v) :: .ref h0 :: rest)) := by
  refine va_put (D := D) (ci := 14) (v := .int (II v)) (ty := tyX12 k) (C := RX12) (T := TX12) (N := 129) B.1 B.2.1 B.2.2.2.2.1 i_X12 tyX12 tyX12_ok nmX12 B.2.2.2.1 B.2.2.2.2.2.1 hM.1 hM.2.1 hM.2.2 0 rfl rfl k hk (B.2.2.2.2.1 _ hl) (fun _ h => by rw [c_X12 k hk] at h; exact h) hfin (tyX12_ok k hk) hn hft (by simp [hk]) hdg (fun H1 locs1 hP hD hS => kk H1 locs1 ⟨?_, ?_, hS⟩)
  · rw [← pW_setf hkd v]; exact hP
  · rw [← pW_setf hkd v]; exact hD
end MN
theorem GI_0 : GI (u1 (fun _ => 0) 6 (-1), (fun _ => 0), (fun _ _ => 0), (fun _ _ => 0)) := by
  have h1 : ∀ k, (lk fRng k iRng).1 ≤ 0 ∧ 0 ≤ (lk fRng k iRng).2 := fun k => lk_all (P := fun q : Int × Int => q.1 ≤ 0 ∧ 0 ≤ q.2) fRng (by decide) k iRng (by decide)
  have h2 : ∀ k, (lk aRng k iRng).1 ≤ 0 ∧ 0 ≤ (lk aRng k iRng).2 := fun k => lk_all (P := fun q : Int × Int => q.1 ≤ 0 ∧ 0 ≤ q.2) aRng (by decide) k iRng (by decide)
  refine ⟨fun k => ?_, fun k j => h2 k⟩
  show (lk fRng k iRng).1 ≤ u1 (fun _ => 0) 6 (-1) k ∧ u1 (fun _ => 0) 6 (-1) k ≤ (lk fRng k iRng).2
  by_cases e : k = 6
  · subst e; decide
  · rw [u1_ne _ _ e]; exact h1 k
theorem II_0 : II 0 = 0 := by decide
theorem ha_int (n : Nat) (cA : ClassId) : vp_cell cA (n, .inl (fun _ => II 0)) = arrV cA n (fun _ => defaultValue .int) := by
  rw [vp_cell_i, II_0]; rfl
theorem ha_byte (n : Nat) (cA : ClassId) : vp_cell cA (n, .inl (fun _ => II 0)) = arrV cA n (fun _ => defaultValue .byte) := by
  rw [vp_cell_i, II_0]; rfl
theorem ha_boolean (n : Nat) (cA : ClassId) : vp_cell cA (n, .inl (fun _ => II 0)) = arrV cA n (fun _ => defaultValue .boolean) := by
  rw [vp_cell_i, II_0]; rfl
theorem ha_long (n : Nat) (cA : ClassId) : vp_cell cA (n, .inr (.inl (fun _ => 0))) = arrV cA n (fun _ => defaultValue .long) := by
  rw [vp_cell_l]; rfl
/-- what holds of the reference between calls -/
def RIv (σ : MS) : Prop := TXI (σ.2.2.1 51) (σ.2.2.1 52) ∧ TXI (σ.2.2.1 69) (σ.2.2.1 70) ∧ KG (σ.2.2.1 37) (σ.2.2.1 38) ∧ KU (σ.2.2.1 34) ∧ RWp 0 (σ.1 3) (σ.1 58) 1500 (σ.2.2.1 26) (σ.2.2.1 27) (σ.2.2.1 28) (σ.2.2.1 29) (σ.2.2.1 30) ∧ CHp 0 (σ.1 3) (σ.1 57) (σ.2.2.1 25) ∧ OI (σ.1 3) (σ.1 58) (σ.2.2.1 64) (σ.2.2.1 65) (σ.2.2.1 72) (σ.2.2.1 42) ∧ (0 < (σ.1 60) → (σ.2.2.1 34) (16 * (σ.1 3)).toNat < 0) ∧ FIp (σ.1 97) (σ.2.2.1 91) ∧ (0 < (σ.1 90) → 0 < (σ.1 60)) ∧ ((σ.1 99) = 1 → 0 < (σ.1 60)) ∧ FHp (σ.2.2.1 116) (σ.2.2.1 110)

def iPc (D : va_G) (dA : Nat → ClassId) (h0 : Nat) (sz : Nat) : Array Value → State → Prop :=
  va_Pc [.ref h0] (fun U => U.heap.size = sz ∧ va_P D vwCl (pW dA h0 (fun _ => 0) (fun _ => 0) 0) U.heap ∧ va_K D vwCl (tyX dA) U ∧ va_D (fun _ => True) (pW dA h0 (fun _ => 0) (fun _ => 0) 0))
def iQ (D : va_G) (dA : Nat → ClassId) (h0 : Nat) (sz : Nat) (post : MS → Prop) : Array Value → State → Outcome → State → Prop :=
  va_Qv (S := (Nat → Nat) × MS) (fun u => post u.2) (fun u t => mAt D dA h0 u.1 (va_A (pW dA h0 (fun _ => 0) (fun _ => 0) 0) sz) u.2 t) (va_A (pW dA h0 (fun _ => 0) (fun _ => 0) 0) sz)
theorem i_start {l : Launch} {D : va_G} {dA : Nat → ClassId} {h0 sz : Nat} {rm : Room} {mc ms : Nat} {Qc : Array Value → State → Outcome → State → Prop}
    (body : ∀ p e s m args below meth c ls, s.heap.size = sz → meth.name = "<init>" → Cx D dA p s m args meth c cX12_init RX12 1 none → PWd D dA h0 (va_A (pW dA h0 (fun _ => 0) (fun _ => 0) 0) s.heap.size) s.heap 0 (fun _ => 0) (fun _ => 0) s.heap [] → lv_has ls 1 [(0, .ref h0)] →
      W p l e rm s m args below meth c s.heap [] 0 0 (MQ below Qc args s mc ms (va_A (pW dA h0 (fun _ => 0) (fun _ => 0) 0) s.heap.size)) (F0 m 0 ls [])) :
    Met l yX12_init (cw0 yX12_init cX12_init 1 none) rm (iPc D dA h0 sz) Qc mc ms (va_A (pW dA h0 (fun _ => 0) (fun _ => 0) 0) sz) := by
  refine Met.ofW (cc := cX12_init) (maxL := 1) (ret := none) (by decide) rfl ?_
  intro p e s m args below meth c s₁ B hml hv
  obtain ⟨rfl, hsz, hP, hK, hD0⟩ := hv
  have hts := atoms_spec (ws := cw0 yX12_init cX12_init 1 none) B.pre
  have hown : s.vm.findClass yX12_init.cls = some m.cls := findClass_of_methodNamed B.named
  have hin : meth.name = "<init>" := (name_of_methodNamed B.named B.method).1
  have hl := lv_entry [.ref h0] (n := 1) (Nat.le_of_ble_eq_true rfl)
  rw [lg_entry_eq]
  subst hsz
  exact body p e s m _ below meth c _ rfl hin ⟨B.exec, B.bytes, hml, hown, fun w h => hts w (List.mem_cons_of_mem _ h), hK, B.returns, B.notSynchronized⟩ ⟨hP, hD0.self, va_S.rf⟩ hl
theorem i_vret {p : Program} {l : Launch} {e : Env} {R : Room} {s : State} {m : MethodId} {args : Array Value} {below : List Frame} {meth : Method} {c : Code} {H : Heap} {locs : List Loc} {cc : ByteArray} {pc mc ms : Nat} {ls : Array Slot} {D : va_G} {dA : Nat → ClassId} {nL : Nat} {h0 : Nat} {ad : Nat → Nat} {σ : MS} {post : MS → Prop}
    (B : Cx D dA p s m args meth c cc RX12 nL none) (hM : MWd D dA h0 ad (va_A (pW dA h0 (fun _ => 0) (fun _ => 0) 0) s.heap.size) s.heap σ H locs) (hdg : decode cc pc = .ok (.return_, 1)) (hp : post σ) :
    W p l e R s m args below meth c H locs mc ms (MQ below (iQ D dA h0 s.heap.size post) args s mc ms (va_A (pW dA h0 (fun _ => 0) (fun _ => 0) 0) s.heap.size)) (F0 m pc ls []) :=
  W.vret B.1 B.2.1 B.2.2.2.2.2.2.1 (fun t ht hW => ⟨⟨(ad, σ), rfl, hp, by rw [ht]; exact hM.1, va_K.moved hW.alike B.2.2.2.2.2.1, hM.2.1, hM.2.2.2⟩, hM.2.2.1.F ht⟩) hM.2.2.1.2.2 hdg B.2.2.2.2.2.2.2
