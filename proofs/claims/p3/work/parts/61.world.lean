def oc : Nat → Option Nat
  | 0 => none
  | b + 1 => some b
def cv (v : Nat) : Value := va_rf (oc v)
def kd (t : Nat) : Nat × Nat × List Nat := kdL.getD t (2, 0, [])
def nR (t : Nat) : Nat × Nat := nrL.getD t (0, 0)
def cd (t k : Nat) : Nat := cond (Nat.ble 50 t) (t * 32) (t * 32 + k)
def iR (t k : Nat) : Int × Int := lk irL (cd t k) iRng
def rF (t k : Nat) : Nat × Nat × Nat := lk rfL (cd t k) (0, 0, 0)
def xI (t k : Nat) : Bool := xIL.contains (cd t k)
def xR (t k : Nat) : Bool := xRL.contains (cd t k)
def xT (t : Nat) : Bool := (Nat.ble 15 t && Nat.ble t 23) || Nat.beq t 12 || Nat.beq t 11 || Nat.beq t 6
def fv (s : Nat) (i : Int) (j : Int64) (r : Nat) : Value := match s with
  | 0 => .int (II i)
  | 1 => .long j
  | _ => cv r
def fl (so : List Nat) (i : Nat → Int) (j : Nat → Int64) (r : Nat → Nat) : List Value := (List.range so.length).map (fun k => fv (so.getD k 0) (i k) (j k) (r k))
def av (s n : Nat) (i : Nat → Int) (j : Nat → Int64) (r : Nat → Nat) : vp_A := (n, match s with
  | 0 => .inl (fun k => II (i k))
  | 1 => .inr (.inl j)
  | _ => .inr (.inr (.inr (.inr (fun k => oc (r k))))))
def eK (dA : Nat → ClassId) (q : Nat × Nat × List Nat) (n : Nat) (i : Nat → Int) (j : Nat → Int64) (r : Nat → Nat) : va_E := match q.1 with
  | 0 => .inr (q.2.1, fl q.2.2 i j r)
  | _ => .inl (dA q.2.1, av (q.2.2.getD 0 0) n i j r)
def cE (dA : Nat → ClassId) (T N : Nat → Nat) (I : Nat → Nat → Int) (J : Nat → Nat → Int64) (R : Nat → Nat → Nat) (a : Nat) : va_E := eK dA (kd (T a)) (N a) (I a) (J a) (R a)
abbrev cW (dA : Nat → ClassId) (L : List Nat) (T N : Nat → Nat) (I : Nat → Nat → Int) (J : Nat → Nat → Int64) (R : Nat → Nat → Nat) : va_W := va_pl L (cE dA T N I J R)
def rOk (T : Nat → Nat) (q : Nat × Nat × Nat) (v : Nat) : Prop := q.1 = 0 ∨ (q.1 = 1 ∧ v = 0) ∨ ∃ b, v = b + 1 ∧ (T b = q.2.1 ∨ T b = q.2.2)
def TY (T N : Nat → Nat) (I : Nat → Nat → Int) (R : Nat → Nat → Nat) (a : Nat) : Prop := (nR (T a)).1 ≤ N a ∧ N a ≤ (nR (T a)).2 ∧ ∀ k, k < N a → ((iR (T a) k).1 ≤ I a k ∧ I a k ≤ (iR (T a) k).2) ∧ rOk T (rF (T a) k) (R a k)
def CT (T N : Nat → Nat) (I : Nat → Nat → Int) (R : Nat → Nat → Nat) : Prop := ∀ a, T a ≠ 0 → TY T N I R a
/-! what holds between cells -/
def X1 (T N : Nat → Nat) (I : Nat → Nat → Int) (R : Nat → Nat → Nat) : Prop := ∀ a, 15 ≤ T a → T a ≤ 23 → I a 2 ≤ N (R a 1 - 1) ∧ (∀ i : Nat, (i : Int) < I a 2 → R (R a 1 - 1) i ≠ 0) ∧ (T (R a 1 - 1) ≠ 1 → I (R a 1 - 1) 1000000 = a)
def X2 (T N : Nat → Nat) (I : Nat → Nat → Int) (R : Nat → Nat → Nat) : Prop := ∀ a, T a = 12 → N (R a 3 - 1) = N (R a 2 - 1) ∧ N (R a 4 - 1) = N (R a 2 - 1) ∧ N (R a 5 - 1) = N (R a 2 - 1) ∧ (N (R a 2 - 1) : Int) ≤ I (R (R a 0 - 1) 3 - 1) 2
def X3 (T N : Nat → Nat) (I : Nat → Nat → Int) (R : Nat → Nat → Nat) : Prop := ∀ a, T a = 11 → (N (R a 2 - 1) : Int) ≤ I a 0 + 1
def X4 (T : Nat → Nat) (I : Nat → Nat → Int) (R : Nat → Nat → Nat) : Prop := ∀ a, T a = 18 → ∀ i : Nat, (i : Int) < I a 2 → I (R (R a 1 - 1) i - 1) 0 ≤ i
def X5 (T : Nat → Nat) (I : Nat → Nat → Int) (R : Nat → Nat → Nat) : Prop := ∀ a, T a = 6 → ∀ i : Nat, (i : Int) < I a 5 → R (R a 4 - 1) i ≠ 0
def XI (T N : Nat → Nat) (I : Nat → Nat → Int) (R : Nat → Nat → Nat) : Prop := X1 T N I R ∧ X2 T N I R ∧ X3 T N I R ∧ X4 T I R ∧ X5 T I R
def WF (eA : Nat) (L : List Nat) (T N : Nat → Nat) (I : Nat → Nat → Int) (J : Nat → Nat → Int64) (R : Nat → Nat → Nat) : Prop :=
  (∀ a, a ∈ L ↔ (T a ≠ 0 ∧ T a ≠ 1)) ∧ (∀ a, T a = 1 ↔ a = eA) ∧ (∀ a, T a = 0 → ∀ k, I a k = 0 ∧ J a k = 0 ∧ R a k = 0) ∧ CT T N I R ∧ XI T N I R
def CWd (D : va_G) (dA : Nat → ClassId) (eA : Nat) (A0 : Nat → Prop) (H0 : Heap) (L : List Nat) (T N : Nat → Nat) (I : Nat → Nat → Int) (J : Nat → Nat → Int64) (R : Nat → Nat → Nat) (H : Heap) (locs : List Loc) : Prop :=
  va_P D vwCl (cW dA L T N I J R) H ∧ va_D A0 (cW dA L T N I J R) ∧ va_S A0 H0 H locs ∧ WF eA L T N I J R
section CB
variable {T N T' N' : Nat → Nat} {I I' : Nat → Nat → Int} {J J' : Nat → Nat → Int64} {R R' : Nat → Nat → Nat} {a b k t : Nat} {L : List Nat} {eA : Nat}
theorem CT.n (h : CT T N I R) (hT : T a = t) (ht : t ≠ 0) : (nR t).1 ≤ N a ∧ N a ≤ (nR t).2 := by
  have := h a (by rw [hT]; exact ht)
  unfold TY at this
  rw [hT] at this
  exact ⟨this.1, this.2.1⟩
theorem CT.i (h : CT T N I R) (hT : T a = t) (ht : t ≠ 0) (hk : k < N a) : (iR t k).1 ≤ I a k ∧ I a k ≤ (iR t k).2 := by
  have := h a (by rw [hT]; exact ht)
  unfold TY at this
  rw [hT] at this
  exact (this.2.2 k hk).1
theorem CT.io (h : CT T N I R) (hT : T a = t) (ht : t ≠ 0) (hk : k < (nR t).1) : (iR t k).1 ≤ I a k ∧ I a k ≤ (iR t k).2 := h.i hT ht (Nat.lt_of_lt_of_le hk (h.n hT ht).1)
theorem CT.r (h : CT T N I R) (hT : T a = t) (ht : t ≠ 0) (hk : k < N a) : rOk T (rF t k) (R a k) := by
  have := h a (by rw [hT]; exact ht)
  unfold TY at this
  rw [hT] at this
  exact (this.2.2 k hk).2
theorem rOk.two {q : Nat × Nat × Nat} {v t1 t2 : Nat} (h : rOk T q v) (hq : q = (2, t1, t2)) : ∃ b, v = b + 1 ∧ (T b = t1 ∨ T b = t2) := by
  subst hq
  rcases h with h | h | h
  · cases h
  · cases h.1
  · exact h
theorem rOk.one {q : Nat × Nat × Nat} {v t1 : Nat} (h : rOk T q v) (hq : q = (2, t1, t1)) : ∃ b, v = b + 1 ∧ T b = t1 := by
  obtain ⟨b, h1, h2⟩ := h.two hq
  exact ⟨b, h1, h2.elim id id⟩
theorem rOk.nul {q : Nat × Nat × Nat} {v t1 : Nat} (h : rOk T q v) (hq : q = (1, t1, t1)) : v = 0 ∨ ∃ b, v = b + 1 ∧ T b = t1 := by
  subst hq
  rcases h with h | h | ⟨b, h1, h2⟩
  · cases h
  · exact Or.inl h.2
  · exact Or.inr ⟨b, h1, h2.elim id id⟩
theorem CT.ro (h : CT T N I R) (hT : T a = t) (ht : t ≠ 0) (hk : k < (nR t).1) {t1 : Nat} (hq : rF t k = (2, t1, t1)) : ∃ b, R a k = b + 1 ∧ T b = t1 := (h.r hT ht (Nat.lt_of_lt_of_le hk (h.n hT ht).1)).one hq
theorem CT.rn (h : CT T N I R) (hT : T a = t) (ht : t ≠ 0) (hk : k < (nR t).1) {t1 : Nat} (hq : rF t k = (1, t1, t1)) : R a k = 0 ∨ ∃ b, R a k = b + 1 ∧ T b = t1 := (h.r hT ht (Nat.lt_of_lt_of_le hk (h.n hT ht).1)).nul hq
theorem CT.ra (h : CT T N I R) (hT : T a = t) (ht : t ≠ 0) (hk : k < N a) {t1 : Nat} (hq : rF t k = (2, t1, t1)) : ∃ b, R a k = b + 1 ∧ T b = t1 := (h.r hT ht hk).one hq
theorem CT.rna (h : CT T N I R) (hT : T a = t) (ht : t ≠ 0) (hk : k < N a) {t1 : Nat} (hq : rF t k = (1, t1, t1)) : R a k = 0 ∨ ∃ b, R a k = b + 1 ∧ T b = t1 := (h.r hT ht hk).nul hq
theorem rOk.mono {q : Nat × Nat × Nat} {v : Nat} (h : rOk T q v) (hT : ∀ b, T b ≠ 0 → T' b = T b) (h1 : q.2.1 ≠ 0 ∧ q.2.2 ≠ 0 ∨ q.1 = 0) : rOk T' q v := by
  rcases h with h | h | ⟨b, h2, h3⟩
  · exact Or.inl h
  · exact Or.inr (Or.inl h)
  · rcases h1 with h1 | h1
    · refine Or.inr (Or.inr ⟨b, h2, ?_⟩)
      rcases h3 with h3 | h3
      · exact Or.inl ((hT b (by rw [h3]; exact h1.1)).trans h3)
      · exact Or.inr ((hT b (by rw [h3]; exact h1.2)).trans h3)
    · exact Or.inl h1
theorem rF_ok (t k : Nat) : (rF t k).2.1 ≠ 0 ∧ (rF t k).2.2 ≠ 0 ∨ (rF t k).1 = 0 :=
  lk_all (P := fun q : Nat × Nat × Nat => q.2.1 ≠ 0 ∧ q.2.2 ≠ 0 ∨ q.1 = 0) rfL (by decide) _ _ (Or.inr rfl)
theorem cd_arr {t k j : Nat} (h : 50 ≤ t) : cd t k = cd t j := by
  unfold cd
  rw [Nat.ble_eq_true_of_le h]
  rfl
theorem iR_arr {t k : Nat} (h : 50 ≤ t) : iR t k = iR t 0 := by unfold iR; rw [cd_arr h]
theorem rF_arr {t k : Nat} (h : 50 ≤ t) : rF t k = rF t 0 := by unfold rF; rw [cd_arr h]
theorem xI_arr {t k : Nat} (h : 50 ≤ t) : xI t k = xI t 0 := by unfold xI; rw [cd_arr (j := 0) h]
theorem xR_arr {t k : Nat} (h : 50 ≤ t) : xR t k = xR t 0 := by unfold xR; rw [cd_arr (j := 0) h]
/-- a list's row -/
theorem CT.ed (h : CT T N I R) (h1 : 15 ≤ T a) (h2 : T a ≤ 23) : ∃ b, R a 1 = b + 1 ∧ (T b = T a + 35 ∨ T b = 1) := by
  have hd : ∀ t, t < 24 → 15 ≤ t → rF t 1 = (2, t + 35, 1) ∧ 1 < (nR t).1 := by decide
  have hq := hd (T a) (by omega) h1
  exact (h.r (t := T a) rfl (by omega) (Nat.lt_of_lt_of_le hq.2 (h.n (t := T a) rfl (by omega)).1)).two hq.1
theorem xI_size {t : Nat} (h1 : 15 ≤ t) (h2 : t ≤ 23) : xI t 2 = true ∧ xR t 1 = true ∧ xI (t + 35) 0 = true ∧ xR (t + 35) 0 = true := by
  have hd : ∀ t, t < 24 → 15 ≤ t → xI t 2 = true ∧ xR t 1 = true ∧ xI (t + 35) 0 = true ∧ xR (t + 35) 0 = true := by decide
  exact hd t (by omega) h1
theorem XI.keep (hC : CT T N I R) (h : XI T N I R) (hk : ∀ b, T b ≠ 0 → T' b = T b ∧ N' b = N b ∧ (∀ k, xI (T b) k = true → I' b k = I b k) ∧ ∀ k, xR (T b) k = true → R' b k = R b k) (hn : ∀ b, T b = 0 → xT (T' b) = false) : XI T' N' I' R' := by
  have old : ∀ b, xT (T' b) = true → T b ≠ 0 ∧ T' b = T b := by
    intro b hb
    by_cases e : T b = 0
    · rw [hn b e] at hb; cases hb
    · exact ⟨e, (hk b e).1⟩
  obtain ⟨h1, h2, h3, h4, h5⟩ := h
  refine ⟨?_, ?_, ?_, ?_, ?_⟩
  · intro a q1 q2
    obtain ⟨e0, e1⟩ := old a (by have hd : ∀ t, t < 24 → 15 ≤ t → xT t = true := by decide
                                 exact hd _ (by omega) q1)
    rw [e1] at q1 q2
    obtain ⟨-, -, kI, kR⟩ := hk a e0
    have hs := xI_size q1 q2
    have c1 := kI 2 hs.1
    have c2 := kR 1 hs.2.1
    obtain ⟨b, eb, tb⟩ := hC.ed q1 q2
    have hb0 : T b ≠ 0 := by rcases tb with tb | tb <;> omega
    obtain ⟨p1, p2, p3, p4⟩ := hk b hb0
    obtain ⟨g1, g2, g3⟩ := h1 a q1 q2
    rw [c1, c2]
    rw [eb, Nat.add_sub_cancel] at g1 g2 g3 ⊢
    refine ⟨by rw [p2]; exact g1, fun i hi => ?_, fun hne => ?_⟩
    · rcases tb with tb | tb
      · rw [p4 i (by rw [tb, xR_arr (by omega)]; exact hs.2.2.2)]; exact g2 i hi
      · exfalso
        have hz := (hC.n tb (by decide)).2
        have hz' : N b ≤ 0 := hz
        omega
    · rw [p1] at hne
      rcases tb with tb | tb
      · rw [p3 _ (by rw [tb, xI_arr (by omega)]; exact hs.2.2.1)]; exact g3 hne
      · exact absurd tb hne
  · intro a q1
    obtain ⟨e0, e1⟩ := old a (by rw [q1]; decide)
    rw [e1] at q1
    obtain ⟨-, -, kI, kR⟩ := hk a e0
    obtain ⟨b0, eb0, tb0⟩ := hC.ro (k := 0) (t1 := 11) q1 (by decide) (by decide) (by decide)
    obtain ⟨b2, eb2, tb2⟩ := hC.ro (k := 2) (t1 := 84) q1 (by decide) (by decide) (by decide)
    obtain ⟨b3, eb3, tb3⟩ := hC.ro (k := 3) (t1 := 85) q1 (by decide) (by decide) (by decide)
    obtain ⟨b4, eb4, tb4⟩ := hC.ro (k := 4) (t1 := 86) q1 (by decide) (by decide) (by decide)
    obtain ⟨b5, eb5, tb5⟩ := hC.ro (k := 5) (t1 := 88) q1 (by decide) (by decide) (by decide)
    obtain ⟨b6, eb6, tb6⟩ := hC.ro (k := 3) (t1 := 19) tb0 (by decide) (by decide) (by decide)
    have g := h2 a q1
    rw [kR 0 (by rw [q1]; decide), kR 2 (by rw [q1]; decide), kR 3 (by rw [q1]; decide), kR 4 (by rw [q1]; decide), kR 5 (by rw [q1]; decide)]
    rw [eb0, eb2, eb3, eb4, eb5] at g ⊢
    simp only [Nat.add_sub_cancel] at g ⊢
    rw [(hk b0 (by rw [tb0]; decide)).2.2.2 3 (by rw [tb0]; decide)]
    rw [eb6] at g ⊢
    simp only [Nat.add_sub_cancel] at g ⊢
    rw [(hk b2 (by rw [tb2]; decide)).2.1, (hk b3 (by rw [tb3]; decide)).2.1, (hk b4 (by rw [tb4]; decide)).2.1, (hk b5 (by rw [tb5]; decide)).2.1, (hk b6 (by rw [tb6]; decide)).2.2.1 2 (by rw [tb6]; decide)]
    exact g
  · intro a q1
    obtain ⟨e0, e1⟩ := old a (by rw [q1]; decide)
    rw [e1] at q1
    obtain ⟨-, -, kI, kR⟩ := hk a e0
    obtain ⟨b2, eb2, tb2⟩ := hC.ro (k := 2) (t1 := 78) q1 (by decide) (by decide) (by decide)
    have g := h3 a q1
    rw [kR 2 (by rw [q1]; decide), kI 0 (by rw [q1]; decide)]
    rw [eb2, Nat.add_sub_cancel] at g ⊢
    rw [(hk b2 (by rw [tb2]; decide)).2.1]
    exact g
  · intro a q1 i hi
    obtain ⟨e0, e1⟩ := old a (by rw [q1]; decide)
    rw [e1] at q1
    obtain ⟨-, -, kI, kR⟩ := hk a e0
    rw [kI 2 (by rw [q1]; decide)] at hi
    rw [kR 1 (by rw [q1]; decide)]
    obtain ⟨b, eb, tb⟩ := hC.ed (a := a) (by omega) (by omega)
    obtain ⟨f1, f2, -⟩ := h1 a (by omega) (by omega)
    have g := h4 a q1 i hi
    rw [eb, Nat.add_sub_cancel] at g f1 f2 ⊢
    have tb : T b = 53 := by
      rcases tb with tb | tb
      · omega
      · exfalso
        have hz : N b ≤ 0 := (hC.n tb (by decide)).2
        omega
    have hne := f2 i hi
    rw [(hk b (by rw [tb]; decide)).2.2.2 i (by rw [tb, xR_arr (by decide)]; decide)]
    rcases hC.rna (k := i) (t1 := 11) tb (by decide) (by omega) (by rw [rF_arr (by decide)]; decide) with z | ⟨c, ec, tc⟩
    · exact absurd z hne
    · rw [ec, Nat.add_sub_cancel] at g ⊢
      rw [(hk c (by rw [tc]; decide)).2.2.1 0 (by rw [tc]; decide)]
      exact g
  · intro a q1 i hi
    obtain ⟨e0, e1⟩ := old a (by rw [q1]; decide)
    rw [e1] at q1
    obtain ⟨-, -, kI, kR⟩ := hk a e0
    rw [kI 5 (by rw [q1]; decide)] at hi
    rw [kR 4 (by rw [q1]; decide)]
    obtain ⟨b, eb, tb⟩ := hC.ro (k := 4) (t1 := 68) q1 (by decide) (by decide) (by decide)
    have g := h5 a q1 i hi
    rw [eb, Nat.add_sub_cancel] at g ⊢
    rw [(hk b (by rw [tb]; decide)).2.2.2 i (by rw [tb, xR_arr (by decide)]; decide)]
    exact g
/-! one place written -/
def w2 {α : Type} (f : Nat → Nat → α) (a k : Nat) (v : α) : Nat → Nat → α := fun b j => if b = a ∧ j = k then v else f b j
theorem w2_at {α : Type} {f f' : Nat → Nat → α} {a k : Nat} {v : α} (h : f' = w2 f a k v) : f' a k = v := by subst h; simp [w2]
theorem w2_ne {α : Type} {f f' : Nat → Nat → α} {a k b j : Nat} {v : α} (h : f' = w2 f a k v) (hn : b ≠ a ∨ j ≠ k) : f' b j = f b j := by
  subst h
  unfold w2
  rw [if_neg]
  rintro ⟨rfl, rfl⟩
  rcases hn with h | h <;> exact h rfl
theorem w2_nb {α : Type} {f f' : Nat → Nat → α} {a k b : Nat} {v : α} (h : f' = w2 f a k v) (hn : b ≠ a) : f' b = f b := funext fun _ => w2_ne h (Or.inl hn)
theorem w2_row {α : Type} {f f' : Nat → Nat → α} {a k : Nat} {v : α} (h : f' = w2 f a k v) : f' a = va_up (f a) k v := by
  subst h
  funext j
  unfold w2 va_up
  by_cases e : j = k
  · simp [e]
  · simp [e]
theorem tne {t1 t2 : Nat} (hb : T b = t1) (ha : T a = t2) (h : t1 ≠ t2) : b ≠ a := fun e => h (by rw [← hb, ← ha, e])
theorem CT.wi {v : Int} (h : CT T N I R) (hu : I' = w2 I a k v) (hv : k < N a → (iR (T a) k).1 ≤ v ∧ v ≤ (iR (T a) k).2) : CT T N I' R := by
  intro b hb
  obtain ⟨h1, h2, h3⟩ := h b hb
  refine ⟨h1, h2, fun j hj => ⟨?_, (h3 j hj).2⟩⟩
  by_cases e : b = a ∧ j = k
  · obtain ⟨rfl, rfl⟩ := e
    rw [w2_at hu]; exact hv hj
  · rw [w2_ne hu (by by_cases e1 : b = a; exact Or.inr (fun e2 => e ⟨e1, e2⟩); exact Or.inl e1)]
    exact (h3 j hj).1
theorem CT.wr {v : Nat} (h : CT T N I R) (hu : R' = w2 R a k v) (hv : k < N a → rOk T (rF (T a) k) v) : CT T N I R' := by
  intro b hb
  obtain ⟨h1, h2, h3⟩ := h b hb
  refine ⟨h1, h2, fun j hj => ⟨(h3 j hj).1, ?_⟩⟩
  by_cases e : b = a ∧ j = k
  · obtain ⟨rfl, rfl⟩ := e
    rw [w2_at hu]; exact hv hj
  · rw [w2_ne hu (by by_cases e1 : b = a; exact Or.inr (fun e2 => e ⟨e1, e2⟩); exact Or.inl e1)]
    exact (h3 j hj).2
theorem XI.wi {v : Int} (hC : CT T N I R) (h : XI T N I R) (hu : I' = w2 I a k v) (hx : xI (T a) k = false) : XI T N I' R := by
  refine h.keep hC (fun b hb => ⟨rfl, rfl, fun j hj => w2_ne hu ?_, fun _ _ => rfl⟩) (fun b hb => by rw [hb]; decide)
  by_cases e : b = a
  · subst e
    exact Or.inr (fun q => by subst q; rw [hx] at hj; cases hj)
  · exact Or.inl e
theorem XI.wr {v : Nat} (hC : CT T N I R) (h : XI T N I R) (hu : R' = w2 R a k v) (hx : xR (T a) k = false) : XI T N I R' := by
  refine h.keep hC (fun b hb => ⟨rfl, rfl, fun _ _ => rfl, fun j hj => w2_ne hu ?_⟩) (fun b hb => by rw [hb]; decide)
  by_cases e : b = a
  · subst e
    exact Or.inr (fun q => by subst q; rw [hx] at hj; cases hj)
  · exact Or.inl e
theorem WF.wi {v : Int} (h : WF eA L T N I J R) (ha : T a ≠ 0) (hu : I' = w2 I a k v) (hv : k < N a → (iR (T a) k).1 ≤ v ∧ v ≤ (iR (T a) k).2) (hx : XI T N I' R) : WF eA L T N I' J R :=
  ⟨h.1, h.2.1, fun b hb j => by rw [w2_ne hu (Or.inl (fun e => ha (e ▸ hb)))]; exact h.2.2.1 b hb j, h.2.2.2.1.wi hu hv, hx⟩
theorem WF.wj {v : Int64} (h : WF eA L T N I J R) (ha : T a ≠ 0) (hu : J' = w2 J a k v) : WF eA L T N I J' R :=
  ⟨h.1, h.2.1, fun b hb j => by rw [w2_ne hu (Or.inl (fun e => ha (e ▸ hb)))]; exact h.2.2.1 b hb j, h.2.2.2.1, h.2.2.2.2⟩
theorem WF.wr {v : Nat} (h : WF eA L T N I J R) (ha : T a ≠ 0) (hu : R' = w2 R a k v) (hv : k < N a → rOk T (rF (T a) k) v) (hx : XI T N I R') : WF eA L T N I J R' :=
  ⟨h.1, h.2.1, fun b hb j => by rw [w2_ne hu (Or.inl (fun e => ha (e ▸ hb)))]; exact h.2.2.1 b hb j, h.2.2.2.1.wr hu hv, hx⟩
/-- a new cell -/
theorem WF.new {q n : Nat} (h : WF eA L T N I J R) (hq : T q = 0) (hqe : q ≠ eA) (ht : t ≠ 0 ∧ t ≠ 1) (hT : T' = va_up T q t) (hN : N' = va_up N q n) (hx : xT t = false) (hn : (nR t).1 ≤ n ∧ n ≤ (nR t).2) (hz : ∀ k, k < n → ((iR t k).1 ≤ 0 ∧ 0 ≤ (iR t k).2) ∧ (rF t k).1 ≤ 1) : WF eA (L ++ [q]) T' N' I J R := by
  subst hT; subst hN
  have hold : ∀ b, T b ≠ 0 → b ≠ q := fun b hb e => hb (e ▸ hq)
  refine ⟨fun b => ?_, fun b => ?_, fun b hb => ?_, fun b hb => ?_, ?_⟩
  · by_cases e : b = q
    · subst e
      rw [va_up_self]
      simp [ht]
    · rw [va_up_ne _ _ e]
      simp only [List.mem_append, List.mem_singleton, e, or_false]
      exact h.1 b
  · by_cases e : b = q
    · subst e
      rw [va_up_self]
      exact ⟨fun z => absurd z ht.2, fun z => absurd z hqe⟩
    · rw [va_up_ne _ _ e]; exact h.2.1 b
  · by_cases e : b = q
    · subst e
      exact h.2.2.1 b hq
    · rw [va_up_ne _ _ e] at hb; exact h.2.2.1 b hb
  · unfold TY
    by_cases e : b = q
    · subst e
      rw [va_up_self, va_up_self]
      refine ⟨hn.1, hn.2, fun k hk => ?_⟩
      have z := h.2.2.1 b hq k
      rw [z.1, z.2.2]
      refine ⟨(hz k hk).1, ?_⟩
      have := (hz k hk).2
      rcases Nat.lt_or_ge (rF t k).1 1 with g | g
      · exact Or.inl (by omega)
      · exact Or.inr (Or.inl ⟨by omega, rfl⟩)
    · rw [va_up_ne _ _ e, va_up_ne _ _ e]
      rw [va_up_ne _ _ e] at hb
      obtain ⟨h1, h2, h3⟩ := h.2.2.2.1 b hb
      exact ⟨h1, h2, fun k hk => ⟨(h3 k hk).1, (h3 k hk).2.mono (fun c hc => va_up_ne _ _ (hold c hc)) (rF_ok _ _)⟩⟩
  · refine h.2.2.2.2.keep h.2.2.2.1 (fun b hb => ⟨va_up_ne _ _ (hold b hb), va_up_ne _ _ (hold b hb), fun _ _ => rfl, fun _ _ => rfl⟩) (fun b hb => ?_)
    by_cases e : b = q
    · subst e; rw [va_up_self]; exact hx
    · rw [va_up_ne _ _ e, hb]; decide
/-- a cell gets its true tag -/
theorem WF.tag {t0 : Nat} (h : WF eA L T N I J R) (hq : T a = t0) (h0 : t0 ≠ 0 ∧ t0 ≠ 1) (ht : t ≠ 0 ∧ t ≠ 1) (hT : T' = va_up T a t) (hraw : ∀ q ∈ rfL, q.2.2.1 ≠ t0 ∧ q.2.2.2 ≠ t0) (hty : TY T' N I R a) (hx : XI T' N I R) : WF eA L T' N I J R := by
  subst hT
  have hne : ∀ b, b ≠ a → va_up T a t b = T b := fun b e => va_up_ne _ _ e
  refine ⟨fun b => ?_, fun b => ?_, fun b hb => ?_, fun b hb => ?_, hx⟩
  · by_cases e : b = a
    · subst e
      rw [va_up_self, h.1 b, hq]
      exact ⟨fun _ => ht, fun _ => h0⟩
    · rw [hne b e]; exact h.1 b
  · by_cases e : b = a
    · subst e
      rw [va_up_self]
      refine ⟨fun z => absurd z ht.2, fun z => ?_⟩
      have := (h.2.1 b).mpr z
      rw [hq] at this
      exact absurd this h0.2
    · rw [hne b e]; exact h.2.1 b
  · by_cases e : b = a
    · subst e; rw [va_up_self] at hb; exact absurd hb ht.1
    · rw [hne b e] at hb; exact h.2.2.1 b hb
  · by_cases e : b = a
    · subst e; exact hty
    · rw [hne b e] at hb
      obtain ⟨h1, h2, h3⟩ := h.2.2.2.1 b hb
      unfold TY
      rw [hne b e]
      refine ⟨h1, h2, fun k hk => ⟨(h3 k hk).1, ?_⟩⟩
      rcases (h3 k hk).2 with g | g | ⟨c, g1, g2⟩
      · exact Or.inl g
      · exact Or.inr (Or.inl g)
      · have hr := lk_all (P := fun q : Nat × Nat × Nat => q.2.1 ≠ t0 ∧ q.2.2 ≠ t0) rfL (fun q hq => hraw q hq) (cd (T b) k) (0, 0, 0)
        by_cases ez : (rF (T b) k).1 = 0
        · exact Or.inl ez
        · refine Or.inr (Or.inr ⟨c, g1, ?_⟩)
          have hd : (rF (T b) k).2.1 ≠ t0 ∧ (rF (T b) k).2.2 ≠ t0 := by
            by_cases e0 : t0 = 0
            · exact absurd e0 h0.1
            · exact hr ⟨fun z => e0 z.symm, fun z => e0 z.symm⟩
          have hc : c ≠ a := by
            intro z
            subst z
            rw [hq] at g2
            rcases g2 with g2 | g2
            · exact hd.1 g2.symm
            · exact hd.2 g2.symm
          rw [hne c hc]
          exact g2
end CB
