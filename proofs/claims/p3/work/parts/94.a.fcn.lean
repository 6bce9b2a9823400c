/-! how many rules of a list have failed -/
def fcn (I : Nat → Nat → Int) (R : Nat → Nat → Nat) (g : Nat) : Nat → Int
  | 0 => 0
  | n + 1 => fcn I R g n + (if I (R (R g 1 - 1) n - 1) 5 = 2 then 1 else 0)
def FLq (I : Nat → Nat → Int) (R : Nat → Nat → Nat) (g f : Nat) : Prop := I f 2 ≤ fcn I R g (I g 2).toNat
section FCN
variable {m m2 ex ex2 : List Nat} {T N T1 N1 T2 N2 : Nat → Nat} {I I1 I2 : Nat → Nat → Int} {J J1 J2 : Nat → Nat → Int64} {R R1 R2 : Nat → Nat → Nat} {a b k t q r f g n i : Nat} {v : Int}
theorem fcn_succ : fcn I R g (n + 1) = fcn I R g n + (if I (R (R g 1 - 1) n - 1) 5 = 2 then 1 else 0) := rfl
theorem fcn_le : fcn I R g n ≤ n := by
  induction n with
  | zero => exact Int.le_refl _
  | succ n ih => rw [fcn_succ]; split <;> omega
theorem fcn_lt (hi : i < n) (hs : I (R (R g 1 - 1) i - 1) 5 ≠ 2) : fcn I R g n + 1 ≤ n := by
  induction n with
  | zero => omega
  | succ n ih =>
    rw [fcn_succ]
    by_cases e : i = n
    · subst e
      rw [if_neg hs]
      have := fcn_le (I := I) (R := R) (g := g) (n := i)
      omega
    · have := ih (by omega)
      split <;> omega
theorem fcn_cg (h : ∀ i, i < n → R1 (R1 g 1 - 1) i = R (R g 1 - 1) i ∧ I1 (R (R g 1 - 1) i - 1) 5 = I (R (R g 1 - 1) i - 1) 5) : fcn I1 R1 g n = fcn I R g n := by
  induction n with
  | zero => rfl
  | succ n ih =>
    rw [fcn_succ, fcn_succ, ih (fun i hi => h i (by omega)), (h n (by omega)).1, (h n (by omega)).2]
theorem fcn_ge (hu : I1 = w2 I r 5 v) (h : I r 5 ≠ 2) : fcn I R g n ≤ fcn I1 R g n := by
  induction n with
  | zero => exact Int.le_refl _
  | succ n ih =>
    rw [fcn_succ, fcn_succ]
    by_cases e : R (R g 1 - 1) n - 1 = r
    · rw [e, if_neg h]; split <;> omega
    · rw [w2_ne hu (Or.inl e)]; omega
theorem fcn_gt (hu : I1 = w2 I r 5 2) (hi : i < n) (er : R (R g 1 - 1) i = r + 1) (h : I r 5 ≠ 2) : fcn I R g n + 1 ≤ fcn I1 R g n := by
  induction n with
  | zero => omega
  | succ n ih =>
    rw [fcn_succ, fcn_succ]
    by_cases e : i = n
    · subst e
      have h2 := fcn_ge (R := R) (g := g) (n := i) hu h
      rw [er, Nat.add_sub_cancel, if_neg h, if_pos (w2_at hu)]
      omega
    · have := ih (by omega)
      by_cases e : R (R g 1 - 1) n - 1 = r
      · rw [e, if_neg h]; split <;> omega
      · rw [w2_ne hu (Or.inl e)]; omega
theorem fcn_ne (hu : I1 = w2 I a k v) (hk : k ≠ 5) : fcn I1 R g n = fcn I R g n := fcn_cg (fun i _ => ⟨rfl, w2_ne hu (Or.inr (fun e => hk e.symm))⟩)
theorem fcn_nt (hC : CT T N I R) (hu : I1 = w2 I a k v) {c : Nat} (ha : T a = t) (ht : t ≠ 8) (hx : ∀ i, i < n → ∃ c, R (R g 1 - 1) i = c + 1 ∧ T c = 8) : fcn I1 R g n = fcn I R g n := fcn_cg (fun i hi => ⟨rfl, by
  obtain ⟨c, ec, tc⟩ := hx i hi
  rw [ec, Nat.add_sub_cancel]
  exact w2_ne hu (Or.inl (tne tc ha (fun e => ht e.symm)))⟩)
theorem ruX (hC : CT T N I R) (hX : XI T N I R) (hT : T g = 15) (hi : (i : Int) < I g 2) : ∃ c, R (R g 1 - 1) i = c + 1 ∧ T c = 8 := by
  obtain ⟨b, eb, tb, hn⟩ := edX hC hX (a := g) (by omega) (by omega) (by omega)
  rw [hT] at tb
  have hne := (hX.1 g (by omega) (by omega)).2.1 i hi
  rw [eb, Nat.add_sub_cancel] at hne ⊢
  rcases ga50 (k := i) hC tb (by omega) with z | z
  · exact absurd z hne
  · exact z
theorem fcn_fr (hC : CT T N I R) (hX : XI T N I R) (hT : T g = 15) (hF : Fr m ex T N I J R T1 N1 I1 J1 R1) (hx : ∀ b, T b = 15 ∨ T b = 50 ∨ T b = 8 → b ∉ ex) (hm : [481, 1600, 261].all (fun x => !m.contains x) = true) (hn : (n : Int) ≤ I g 2) : fcn I1 R1 g n = fcn I R g n := by
  have hm' := List.all_eq_true.mp hm
  have no : ∀ x ∈ ([481, 1600, 261] : List Nat), m.contains x = false := fun x hxx => by
    have := hm' x hxx
    simpa using this
  refine fcn_cg (fun i hi => ?_)
  obtain ⟨b, eb, tb, hb⟩ := edX hC hX (a := g) (by omega) (by omega) (by omega)
  rw [hT] at tb
  obtain ⟨c, ec, tc⟩ := ruX hC hX hT (i := i) (by omega)
  refine ⟨?_, ?_⟩
  · rw [hF.r (k := 1) hT (by decide) (hx g (Or.inl hT)) (no 481 (by simp)), eb, Nat.add_sub_cancel]
    exact hF.r (k := i) tb (by decide) (hx b (Or.inr (Or.inl tb))) (by rw [cd_arr (j := 0) (by decide)]; exact no 1600 (by simp))
  · rw [ec, Nat.add_sub_cancel]
    exact hF.i (k := 5) tc (by decide) (hx c (Or.inr (Or.inr tc))) (no 261 (by simp))
theorem FLq.fr (h : FLq I R g f) (hC : CT T N I R) (hX : XI T N I R) (hT : T g = 15) (tf : T f = 16) (hF : Fr m ex T N I J R T1 N1 I1 J1 R1) (hx : ∀ b, T b = 15 ∨ T b = 50 ∨ T b = 8 ∨ T b = 16 → b ∉ ex) (hm : [482, 514, 481, 1600, 261].all (fun x => !m.contains x) = true) : FLq I1 R1 g f := by
  have hm' := List.all_eq_true.mp hm
  have no : ∀ x ∈ ([482, 514, 481, 1600, 261] : List Nat), m.contains x = false := fun x hxx => by
    have := hm' x hxx
    simpa using this
  unfold FLq
  have h0 := (g15_2 hC hT).1
  rw [hF.i (k := 2) hT (by decide) (hx g (Or.inl hT)) (no 482 (by simp)), hF.i (k := 2) tf (by decide) (hx f (Or.inr (Or.inr (Or.inr tf)))) (no 514 (by simp)), fcn_fr hC hX hT hF (fun b hb => hx b (by rcases hb with h | h | h <;> simp [h])) (by have q := hm; simp only [List.all_cons, List.all_nil, Bool.and_true, Bool.and_eq_true] at q ⊢; exact ⟨q.2.2.1, q.2.2.2.1, q.2.2.2.2⟩) (by omega)]
  exact h
/-- a rule's state that was not 2 becomes another one -/
theorem FLq.ws (h : FLq I R g f) (hu : I1 = w2 I r 5 v) (hs : I r 5 ≠ 2) (e1 : I1 g 2 = I g 2) (e2 : I1 f 2 = I f 2) : FLq I1 R g f := by
  unfold FLq
  rw [e1, e2]
  have := fcn_ge (R := R) (g := g) (n := (I g 2).toNat) hu hs
  unfold FLq at h
  omega
theorem FLq.wo {k : Nat} (h : FLq I R g f) (hu : I1 = w2 I r k v) (hk : k ≠ 5) (hk2 : k ≠ 2) : FLq I1 R g f := by
  unfold FLq
  rw [w2_ne hu (Or.inr (fun e => hk2 e.symm)), w2_ne hu (Or.inr (fun e => hk2 e.symm)), fcn_ne hu hk]
  exact h
theorem FLq.lt (h : FLq I R g f) {z : Int} (h0 : 0 ≤ z) (h1 : z < I g 2) (er : R (R g 1 - 1) z.toNat = r + 1) (hs : I r 5 ≠ 2) : I f 2 + 1 ≤ I g 2 := by
  have := fcn_lt (I := I) (R := R) (g := g) (i := z.toNat) (n := (I g 2).toNat) (by omega) (by rw [er, Nat.add_sub_cancel]; exact hs)
  unfold FLq at h
  omega
end FCN
