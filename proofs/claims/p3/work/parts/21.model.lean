/-! the reference: one object, its whole numbers, its rows -/
def mKL : List Nat := [2, 0, 2, 0, 0, 0, 0, 0, 0, 0, 0, 1, 2, 2, 2, 0, 2, 2, 2, 2, 2, 2, 0, 2, 2, 2, 2, 2, 2, 2, 2, 2, 2, 2, 2, 2, 2, 2, 2, 2, 2, 2, 2, 2, 2, 2, 2, 2, 2, 2, 2, 2, 2, 2, 2, 2, 0, 0, 0, 0, 0, 0, 0, 0, 2, 2, 2, 2, 2, 2, 2, 2, 2, 2, 2, 2, 2, 0, 0, 2, 2, 2, 2, 2, 2, 2, 2, 2, 2, 2, 0, 2, 2, 2, 2, 2, 2, 0, 0, 0, 0, 0, 0, 0, 0, 0, 2, 2, 2, 2, 2, 2, 2, 2, 2, 2, 2, 2, 2, 2, 2, 2, 2, 2, 0, 0, 2, 0, 0]
def mTL : List Nat := [1, 9, 1, 9, 9, 9, 9, 9, 9, 9, 9, 9, 3, 0, 0, 9, 3, 0, 0, 0, 0, 0, 9, 0, 0, 0, 0, 0, 0, 0, 0, 0, 0, 0, 0, 0, 0, 0, 0, 0, 0, 3, 0, 0, 0, 0, 0, 0, 0, 0, 0, 0, 0, 2, 0, 3, 9, 9, 9, 9, 9, 9, 9, 9, 0, 0, 0, 0, 0, 0, 0, 0, 0, 0, 0, 0, 0, 9, 9, 2, 2, 0, 0, 0, 0, 0, 0, 0, 0, 2, 9, 0, 0, 0, 0, 0, 0, 9, 9, 9, 9, 9, 9, 9, 9, 9, 0, 0, 0, 0, 0, 0, 0, 0, 0, 0, 2, 1, 0, 2, 0, 0, 0, 0, 9, 9, 0, 9, 9]
def mNL : List Nat := [3020, 0, 6000, 0, 0, 0, 0, 0, 0, 0, 0, 0, 128, 128, 128, 0, 1600, 1600, 1600, 1600, 1600, 1600, 0, 18, 96, 12, 32, 32, 32, 32, 3000, 3000, 32, 32, 32, 32, 32, 32, 384, 256, 32, 400, 400, 400, 400, 400, 3200, 3200, 3200, 3200, 3200, 3200, 3200, 3200, 12800, 12800, 0, 0, 0, 0, 0, 0, 0, 0, 216, 12960, 12960, 12960, 12960, 12960, 12960, 12960, 51840, 200, 200, 200, 200, 0, 0, 16, 256, 20, 20, 200, 2400, 2400, 2400, 2400, 48000, 2400, 0, 16, 16, 16, 16, 16, 20, 0, 0, 0, 0, 0, 0, 0, 0, 0, 500, 500, 500, 500, 500, 500, 500, 500, 500, 20000, 500, 40000, 60, 200, 201, 201, 201, 201, 0, 0, 16, 0, 0]
def mArrs : List Nat := [0, 2, 12, 13, 14, 16, 17, 18, 19, 20, 21, 23, 24, 25, 26, 27, 28, 29, 30, 31, 32, 33, 34, 35, 36, 37, 38, 39, 40, 41, 42, 43, 44, 45, 46, 47, 48, 49, 50, 51, 52, 53, 54, 55, 64, 65, 66, 67, 68, 69, 70, 71, 72, 73, 74, 75, 76, 79, 80, 81, 82, 83, 84, 85, 86, 87, 88, 89, 91, 92, 93, 94, 95, 96, 106, 107, 108, 109, 110, 111, 112, 113, 114, 115, 116, 117, 118, 119, 120, 121, 122, 123, 126]
def fRng : List (Nat × Int × Int) := [(1, 0, 3000), (3, 0, 1), (4, 0, 3000), (7, 0, 6), (8, 0, 3001), (9, 0, 3002), (15, 0, 64), (22, 0, 1600), (56, 0, 7), (57, 0, 6), (58, 0, 16), (59, 0, 16), (60, 0, 16), (61, 0, 200), (62, 0, 1590), (63, 0, 1500), (77, 0, 200), (90, 0, 200), (97, 0, 16), (98, 0, 1), (99, 0, 1), (100, 0, 1), (101, 0, 5000), (103, 0, 600000), (105, 0, 5000), (124, 0, 201), (127, 0, 1), (128, 0, 1000)]
def aRng : List (Nat × Int × Int) := [(0, -128, 127), (2, -128, 127), (13, 0, 5), (14, 0, 15), (18, 0, 5), (19, -1, 16), (20, 0, 5), (21, 0, 3199), (24, 0, 7), (25, 0, 9), (26, 0, 1500), (27, 0, 40), (28, 0, 1500), (29, 0, 40), (32, 0, 3190), (33, 0, 8), (34, -1, 15), (36, 0, 12), (37, 0, 12), (38, 0, 399), (39, 0, 3199), (40, 0, 8), (42, 0, 3), (43, -1, 15), (44, 0, 3190), (45, 0, 8), (46, 0, 215), (47, 0, 4), (48, -1, 1), (49, -1, 7), (51, 0, 6000), (52, -1, 30), (53, 0, 1), (64, 0, 40), (65, 0, 115), (67, 0, 7), (69, 0, 6000), (70, 0, 30), (71, 0, 4), (79, 0, 1), (80, 0, 1), (81, 0, 3199), (82, 0, 8), (83, 0, 15), (86, -1, 199), (87, 0, 20), (88, 0, 199), (89, 0, 1), (91, 0, 2), (109, 0, 199), (110, -1, 11), (113, 0, 80), (116, 0, 1), (117, -128, 127), (119, 0, 1), (120, 0, 199), (121, 0, 12), (122, 0, 21), (126, 0, 15)]
abbrev iRng : Int × Int := (-2147483648, 2147483647)
abbrev MS : Type := (Nat → Int) × (Nat → Int64) × (Nat → Nat → Int) × (Nat → Nat → Int64)
def mV (ad : Nat → Nat) (f : Nat → Int) (g : Nat → Int64) (k : Nat) : Value := match mKL.getD k 0 with
  | 0 => .int (II (f k))
  | 1 => .long (g k)
  | _ => .ref (ad k)
def mE (dA : Nat → ClassId) (A : Nat → Nat → Int) (L : Nat → Nat → Int64) (k : Nat) : va_E := .inl (dA (mTL.getD k 0), mNL.getD k 0, cond (Nat.beq (mTL.getD k 0) 3) (.inr (.inl (L k))) (.inl (fun j => II (A k j))))
def mW (dA : Nat → ClassId) (h0 : Nat) (ad : Nat → Nat) (σ : MS) : va_W := (h0, .inr (14, (List.range 129).map (mV ad σ.1 σ.2.1))) :: mArrs.map (fun k => (ad k, mE dA σ.2.2.1 σ.2.2.2 k))
def tyX (dA : Nat → ClassId) : List (ClassId × FieldType) := [(dA 0, .int), (dA 1, .byte), (dA 2, .boolean), (dA 3, .long), (dA 4, .array .int), (dA 5, .object "java/lang/Object")]
def GI (σ : MS) : Prop := (∀ k, (lk fRng k iRng).1 ≤ σ.1 k ∧ σ.1 k ≤ (lk fRng k iRng).2) ∧ ∀ k j, (lk aRng k iRng).1 ≤ σ.2.2.1 k j ∧ σ.2.2.1 k j ≤ (lk aRng k iRng).2
theorem lk_all {α : Type} {P : α → Prop} (l : List (Nat × α)) (h : ∀ q ∈ l, P q.2) (j : Nat) (d : α) (hd : P d) : P (lk l j d) := by
  induction l with
  | nil => exact hd
  | cons q l ih =>
    obtain ⟨k, v⟩ := q
    simp only [lk]
    cases Nat.beq j k with
    | true => exact h _ List.mem_cons_self
    | false => exact ih (fun q hq => h q (List.mem_cons_of_mem _ hq))
theorem fRng_ok (k : Nat) : -2147483648 ≤ (lk fRng k iRng).1 ∧ (lk fRng k iRng).2 ≤ 2147483647 := lk_all (P := fun q : Int × Int => -2147483648 ≤ q.1 ∧ q.2 ≤ 2147483647) fRng (by decide) k iRng (by decide)
theorem aRng_ok (k : Nat) : -2147483648 ≤ (lk aRng k iRng).1 ∧ (lk aRng k iRng).2 ≤ 2147483647 := lk_all (P := fun q : Int × Int => -2147483648 ≤ q.1 ∧ q.2 ≤ 2147483647) aRng (by decide) k iRng (by decide)
theorem GI.f {σ : MS} (h : GI σ) (k : Nat) : inr (σ.1 k) := by
  have h1 := h.1 k; have h2 := fRng_ok k; unfold inr; omega
theorem GI.a {σ : MS} (h : GI σ) (k j : Nat) : inr (σ.2.2.1 k j) := by
  have h1 := h.2 k j; have h2 := aRng_ok k; unfold inr; omega
theorem mW_arr {dA : Nat → ClassId} {h0 : Nat} {ad : Nat → Nat} {σ : MS} (i : Nat) {k : Nat} (h : mArrs[i]? = some k) : (mW dA h0 ad σ)[i + 1]? = some (ad k, mE dA σ.2.2.1 σ.2.2.2 k) := by
  simp [mW, h]
theorem mW_fld {ad : Nat → Nat} {f : Nat → Int} {g : Nat → Int64} {k : Nat} (h : k < 129) : ((List.range 129).map (mV ad f g))[k]? = some (mV ad f g k) := by
  simp [h]
theorem mV_i {ad : Nat → Nat} {f : Nat → Int} {g : Nat → Int64} {k : Nat} (h : mKL.getD k 0 = 0) : mV ad f g k = .int (II (f k)) := by
  unfold mV; rw [h]; rfl
theorem mV_l {ad : Nat → Nat} {f : Nat → Int} {g : Nat → Int64} {k : Nat} (h : mKL.getD k 0 = 1) : mV ad f g k = .long (g k) := by
  unfold mV; rw [h]; rfl
theorem mV_r {ad : Nat → Nat} {f : Nat → Int} {g : Nat → Int64} {k : Nat} (h : mKL.getD k 0 = 2) : mV ad f g k = .ref (ad k) := by
  unfold mV; rw [h]; rfl
def u1 {α : Type} (f : Nat → α) (k : Nat) (v : α) : Nat → α := fun j => cond (Nat.beq j k) v (f j)
theorem u1_eq {α : Type} (f : Nat → α) (k : Nat) (v : α) : u1 f k v k = v := by
  unfold u1; rw [show Nat.beq k k = true from Nat.beq_refl k]; rfl
theorem u1_ne {α : Type} (f : Nat → α) {k j : Nat} (v : α) (h : j ≠ k) : u1 f k v j = f j := by
  unfold u1
  cases e : Nat.beq j k with
  | true => exact absurd (Nat.eq_of_beq_eq_true e) h
  | false => rfl
theorem u1_up {α : Type} (f : Nat → α) (l : List (Nat × α)) (k : Nat) (v : α) : u1 (up f l) k v = up f (ins l k v) := up_ins f l k v
theorem set_map_range {β : Type} (n k : Nat) (F G : Nat → β) (x : β) (hk : G k = x) (h : ∀ j, j ≠ k → G j = F j) : ((List.range n).map F).set k x = (List.range n).map G := by
  apply List.ext_getElem?
  intro i
  by_cases e : k = i
  · subst e
    by_cases hn : k < n
    · simp [hn, hk]
    · simp [hn]
  · rw [List.getElem?_set_ne e]
    by_cases hn : i < n
    · simp [hn, h i (fun q => e q.symm)]
    · simp [hn]
theorem mW_setf {dA : Nat → ClassId} {h0 : Nat} {ad : Nat → Nat} {f : Nat → Int} {g : Nat → Int64} {A : Nat → Nat → Int} {L : Nat → Nat → Int64} (k : Nat) (hkd : mKL.getD k 0 = 0) (v : Int) :
    (mW dA h0 ad (f, g, A, L)).set 0 (h0, .inr (14, ((List.range 129).map (mV ad f g)).set k (.int (II v)))) = mW dA h0 ad (u1 f k v, g, A, L) := by
  have e : ((List.range 129).map (mV ad f g)).set k (.int (II v)) = (List.range 129).map (mV ad (u1 f k v) g) := by
    refine set_map_range 129 k _ _ _ ?_ ?_
    · rw [mV_i hkd, u1_eq]
    · intro j hj
      unfold mV
      rw [u1_ne f v hj]
  rw [e]
  rfl
theorem mW_setl {dA : Nat → ClassId} {h0 : Nat} {ad : Nat → Nat} {f : Nat → Int} {g : Nat → Int64} {A : Nat → Nat → Int} {L : Nat → Nat → Int64} (k : Nat) (hkd : mKL.getD k 0 = 1) (v : Int64) :
    (mW dA h0 ad (f, g, A, L)).set 0 (h0, .inr (14, ((List.range 129).map (mV ad f g)).set k (.long v))) = mW dA h0 ad (f, u1 g k v, A, L) := by
  have e : ((List.range 129).map (mV ad f g)).set k (.long v) = (List.range 129).map (mV ad f (u1 g k v)) := by
    refine set_map_range 129 k _ _ _ ?_ ?_
    · rw [mV_l hkd, u1_eq]
    · intro j hj
      unfold mV
      rw [u1_ne g v hj]
  rw [e]
  rfl
theorem mArrs_nd : ∀ (i j k : Nat), mArrs[i]? = some k → mArrs[j]? = some k → i = j := by
  have h : mArrs.Nodup := by decide +kernel
  intro i j k hi hj
  obtain ⟨hi', ei⟩ := List.getElem?_eq_some_iff.mp hi
  obtain ⟨hj', ej⟩ := List.getElem?_eq_some_iff.mp hj
  exact (List.getElem_inj h).mp (ei.trans ej.symm)
theorem set_map_arrs {β : Type} {i k : Nat} (F G : Nat → β) (x : β) (hi : mArrs[i]? = some k) (hk : G k = x) (h : ∀ j, j ≠ k → G j = F j) : (mArrs.map F).set i x = mArrs.map G := by
  apply List.ext_getElem?
  intro t
  by_cases e : i = t
  · subst e
    obtain ⟨hl, -⟩ := List.getElem?_eq_some_iff.mp hi
    rw [List.getElem?_set_self (by simpa using hl), List.getElem?_map, hi]
    simp [hk]
  · rw [List.getElem?_set_ne e, List.getElem?_map, List.getElem?_map]
    cases ht : mArrs[t]? with
    | none => rfl
    | some q =>
      have hq : q ≠ k := fun z => e (mArrs_nd i t k hi (by rw [ht, z]))
      simp [h q hq]
theorem mE_i {dA : Nat → ClassId} {A : Nat → Nat → Int} {L : Nat → Nat → Int64} {k t n : Nat} (ht : mTL.getD k 0 = t) (hn : mNL.getD k 0 = n) (h3 : Nat.beq t 3 = false) : mE dA A L k = .inl (dA t, n, .inl (fun j => II (A k j))) := by
  unfold mE; rw [ht, hn, h3]; rfl
theorem mE_l {dA : Nat → ClassId} {A : Nat → Nat → Int} {L : Nat → Nat → Int64} {k n : Nat} (ht : mTL.getD k 0 = 3) (hn : mNL.getD k 0 = n) : mE dA A L k = .inl (dA 3, n, .inr (.inl (L k))) := by
  unfold mE; rw [ht, hn]; rfl
theorem mW_setA {dA : Nat → ClassId} {h0 : Nat} {ad : Nat → Nat} {f : Nat → Int} {g : Nat → Int64} {A : Nat → Nat → Int} {L : Nat → Nat → Int64} {i k t n : Nat} (hi : mArrs[i]? = some k) (ht : mTL.getD k 0 = t) (hn : mNL.getD k 0 = n) (h3 : Nat.beq t 3 = false) (a : Nat → Int) (F : Nat → Int32) (hF : F = fun j => II (a j)) :
    (mW dA h0 ad (f, g, A, L)).set (i + 1) (ad k, .inl (dA t, n, .inl F)) = mW dA h0 ad (f, g, u1 A k a, L) := by
  subst hF
  unfold mW
  rw [List.set_cons_succ]
  refine congrArg (fun l => _ :: l) ?_
  refine set_map_arrs _ _ _ hi ?_ ?_
  · show (ad k, mE dA (u1 A k a) L k) = _
    rw [mE_i ht hn h3, u1_eq]
  · intro j hj
    show (ad j, mE dA (u1 A k a) L j) = (ad j, mE dA A L j)
    unfold mE
    rw [u1_ne A a hj]
theorem mW_setLA {dA : Nat → ClassId} {h0 : Nat} {ad : Nat → Nat} {f : Nat → Int} {g : Nat → Int64} {A : Nat → Nat → Int} {L : Nat → Nat → Int64} {i k n : Nat} (hi : mArrs[i]? = some k) (ht : mTL.getD k 0 = 3) (hn : mNL.getD k 0 = n) (a : Nat → Int64) :
    (mW dA h0 ad (f, g, A, L)).set (i + 1) (ad k, .inl (dA 3, n, .inr (.inl a))) = mW dA h0 ad (f, g, A, u1 L k a) := by
  unfold mW
  rw [List.set_cons_succ]
  refine congrArg (fun l => _ :: l) ?_
  refine set_map_arrs _ _ _ hi ?_ ?_
  · show (ad k, mE dA A (u1 L k a) k) = _
    rw [mE_l ht hn, u1_eq]
  · intro j hj
    show (ad j, mE dA A (u1 L k a) j) = (ad j, mE dA A L j)
    unfold mE
    rw [u1_ne L a hj]
/-- which addresses the world has does not change -/
theorem mW_addr {dA : Nat → ClassId} {h0 : Nat} {ad : Nat → Nat} {σ σ' : MS} {k q : Nat} {e : va_E} (h : (mW dA h0 ad σ)[k]? = some (q, e)) : ∃ e', (mW dA h0 ad σ')[k]? = some (q, e') := by
  unfold mW at h ⊢
  cases k with
  | zero =>
    simp only [List.getElem?_cons_zero, Option.some.injEq, Prod.mk.injEq] at h ⊢
    exact ⟨_, h.1, rfl⟩
  | succ k =>
    simp only [List.getElem?_cons_succ, List.getElem?_map, Option.map_eq_some_iff, Prod.mk.injEq] at h ⊢
    obtain ⟨a, ha, hb, -⟩ := h
    exact ⟨_, a, ha, hb, rfl⟩
def MWd (D : va_G) (dA : Nat → ClassId) (h0 : Nat) (ad : Nat → Nat) (A0 : Nat → Prop) (H0 : Heap) (σ : MS) (H : Heap) (locs : List Loc) : Prop :=
  va_P D vwCl (mW dA h0 ad σ) H ∧ va_D A0 (mW dA h0 ad σ) ∧ va_S A0 H0 H locs ∧ GI σ
/-- what a walk knows of the machine -/
def Cx (D : va_G) (dA : Nat → ClassId) (p : Program) (s : State) (m : MethodId) (args : Array Value) (meth : Method) (c : Code) (cc : ByteArray) (own : String) (nL : Nat) (ret : Option FieldType) : Prop :=
  p.tables.exec = Jvm.exec ∧ c.code = cc ∧ c.maxLocals = nL ∧ s.vm.findClass own = some m.cls ∧ (∀ w ∈ lw_g, w.before args s = true) ∧ va_K D vwCl (tyX dA) s ∧ meth.sig.returnType = ret ∧ meth.locks = false
