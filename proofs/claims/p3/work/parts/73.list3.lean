section LX
variable {T N T' : Nat → Nat} {I I' : Nat → Nat → Int} {J : Nat → Nat → Int64} {R R' : Nat → Nat → Nat} {a b k lt q x : Nat}
/-- no list's row -/
def NoL (T : Nat → Nat) (R : Nat → Nat → Nat) (q : Nat) : Prop := ∀ a, 15 ≤ T a → T a ≤ 23 → R a 1 ≠ q + 1
theorem NoL.fresh (hC : CT T N I R) (hq : T q = 0) : NoL T R q := by
  intro a h1 h2 e
  obtain ⟨b, e1, tb⟩ := hC.ed h1 h2
  have : b = q := by omega
  subst this
  rcases tb with tb | tb <;> omega
/-- what stands in a row that is no list's counts nowhere -/
theorem XI.out (hC : CT T N I R) (h : XI T N I R) (h1 : 15 ≤ lt) (h2 : lt ≤ 23) (hT : T q = lt + 35) (hno : NoL T R q) (hI : ∀ b, b ≠ q → I' b = I b) (hR : ∀ b, b ≠ q → R' b = R b) : XI T N I' R' := by
  obtain ⟨x1, x2, x3, x4, x5⟩ := h
  have ne : ∀ {b t : Nat}, T b = t → t ≠ lt + 35 → b ≠ q := fun hb ht e => ht (by rw [← hb, e, hT])
  refine ⟨fun a q1 q2 => ?_, fun a q1 => ?_, fun a q1 => ?_, fun a q1 i hi => ?_, fun a q1 i hi => ?_⟩
  · have na : a ≠ q := ne rfl (by omega)
    obtain ⟨b, e1, tb⟩ := hC.ed q1 q2
    have nb : b ≠ q := fun e => hno a q1 q2 (by rw [e1, e])
    have := x1 a q1 q2
    rw [hI a na, hR a na]
    rw [e1, Nat.add_sub_cancel] at this ⊢
    rw [hR b nb, hI b nb]
    exact this
  · have na : a ≠ q := ne q1 (by omega)
    obtain ⟨b0, e0, t0⟩ := g12_0 hC q1
    have := x2 a q1
    rw [hR a na]
    rw [e0, Nat.add_sub_cancel] at this ⊢
    obtain ⟨b3, e3, t3⟩ := g11_3 hC t0
    rw [hR b0 (ne t0 (by omega))]
    rw [e3, Nat.add_sub_cancel] at this ⊢
    rw [hI b3 (ne t3 (by omega))]
    exact this
  · have na : a ≠ q := ne q1 (by omega)
    rw [hR a na, hI a na]
    exact x3 a q1
  · have na : a ≠ q := ne q1 (by omega)
    rw [hI a na] at hi
    rw [hR a na]
    have g := x4 a q1 i hi
    obtain ⟨b, e1, tb⟩ := hC.ed (a := a) (by omega) (by omega)
    obtain ⟨f1, f2, -⟩ := x1 a (by omega) (by omega)
    have nb : b ≠ q := fun e => hno a (by omega) (by omega) (by rw [e1, e])
    rw [e1, Nat.add_sub_cancel] at g f1 f2 ⊢
    rw [hR b nb]
    have tb : T b = 53 := by
      rcases tb with tb | tb
      · omega
      · have := n_one hC tb
        omega
    rcases ga53 hC tb (k := i) (by omega) with z | ⟨c, ec, tc⟩
    · exact absurd z (f2 i hi)
    · rw [ec, Nat.add_sub_cancel] at g ⊢
      rw [hI c (ne tc (by omega))]
      exact g
  · have na : a ≠ q := ne q1 (by omega)
    rw [hI a na] at hi
    rw [hR a na]
    obtain ⟨b, e1, tb⟩ := g6_4 hC q1
    have g := x5 a q1 i hi
    rw [e1, Nat.add_sub_cancel] at g ⊢
    rw [hR b (ne tb (by omega))]
    exact g
/-- a list gets another row -/
theorem XI.rowset (hC : CT T N I R) (h : XI T N I R) (h1 : 15 ≤ lt) (h2 : lt ≤ 23) (hT : T a = lt) (hq : T q = lt + 35) (hno : NoL T R q) (hn : I a 2 ≤ N q) (he : ∀ i : Nat, (i : Int) < I a 2 → R q i = R (R a 1 - 1) i) (ho : I q 1000000 = a) (hu : R' = w2 R a 1 (q + 1)) : XI T N I R' := by
  obtain ⟨x1, x2, x3, x4, x5⟩ := h
  have hra : R' a 1 = q + 1 := w2_at hu
  have hne : ∀ c, c ≠ a → R' c = R c := fun c hc => w2_nb hu hc
  have nqa : q ≠ a := tne hq hT (by omega)
  refine ⟨fun c q1 q2 => ?_, fun c q1 => ?_, fun c q1 => ?_, fun c q1 i hi => ?_, fun c q1 i hi => ?_⟩
  · by_cases e : c = a
    · subst e
      rw [hra, Nat.add_sub_cancel]
      refine ⟨hn, fun i hi => ?_, fun _ => ho⟩
      rw [hne q nqa, he i hi]
      exact (x1 c q1 q2).2.1 i hi
    · obtain ⟨b, e1, tb⟩ := hC.ed q1 q2
      have g := x1 c q1 q2
      rw [hne c e]
      rw [e1, Nat.add_sub_cancel] at g ⊢
      have nb : b ≠ a := by
        intro z
        rw [z, hT] at tb
        rcases tb with tb | tb <;> omega
      rw [hne b nb]
      exact g
  · obtain ⟨b0, e0, t0⟩ := g12_0 hC q1
    have g := x2 c q1
    have nc : c ≠ a := tne q1 hT (by omega)
    rw [hne c nc]
    rw [e0, Nat.add_sub_cancel] at g ⊢
    rw [hne b0 (tne t0 hT (by omega))]
    exact g
  · rw [hne c (tne q1 hT (by omega))]; exact x3 c q1
  · by_cases e : c = a
    · subst e
      rw [hra, Nat.add_sub_cancel, hne q nqa, he i hi]
      exact x4 c q1 i hi
    · obtain ⟨b, e1, tb⟩ := hC.ed (a := c) (by omega) (by omega)
      have g := x4 c q1 i hi
      rw [hne c e]
      rw [e1, Nat.add_sub_cancel] at g ⊢
      have nb : b ≠ a := by
        intro z
        rw [z, hT] at tb
        rcases tb with tb | tb <;> omega
      rw [hne b nb]
      exact g
  · obtain ⟨b, e1, tb⟩ := g6_4 hC q1
    have g := x5 c q1 i hi
    rw [hne c (tne q1 hT (by omega))]
    rw [e1, Nat.add_sub_cancel] at g ⊢
    rw [hne b (tne tb hT (by omega))]
    exact g
/-- an element comes behind the last one -/
theorem XI.elem (hC : CT T N I R) (h : XI T N I R) (h1 : 15 ≤ lt) (h2 : lt ≤ 23) (hT : T a = lt) (hb : R a 1 = b + 1) (tb : T b = lt + 35) {v : Nat} (hk : I a 2 ≤ (k : Int)) (hu : R' = w2 R b k v) : XI T N I R' := by
  obtain ⟨x1, x2, x3, x4, x5⟩ := h
  have hne : ∀ c, c ≠ b → R' c = R c := fun c hc => w2_nb hu hc
  have hown := (x1 a (by omega) (by omega)).2.2
  rw [hb, Nat.add_sub_cancel] at hown
  have hown := hown (by omega)
  have uniq : ∀ c, 15 ≤ T c → T c ≤ 23 → R c 1 = b + 1 → c = a := by
    intro c q1 q2 e
    have g := (x1 c q1 q2).2.2
    rw [e, Nat.add_sub_cancel] at g
    have g := g (by omega)
    omega
  refine ⟨fun c q1 q2 => ?_, fun c q1 => ?_, fun c q1 => ?_, fun c q1 i hi => ?_, fun c q1 i hi => ?_⟩
  · have nc : c ≠ b := fun e => by rw [e, tb] at q1 q2; omega
    have g := x1 c q1 q2
    rw [hne c nc]
    obtain ⟨d, e1, td⟩ := hC.ed q1 q2
    rw [e1, Nat.add_sub_cancel] at g ⊢
    refine ⟨g.1, fun i hi => ?_, g.2.2⟩
    by_cases e : d = b
    · subst e
      have := uniq c q1 q2 e1
      subst this
      rw [w2_ne hu (Or.inr (by omega))]
      exact g.2.1 i hi
    · rw [hne d e]
      exact g.2.1 i hi
  · obtain ⟨b0, e0, t0⟩ := g12_0 hC q1
    have g := x2 c q1
    rw [hne c (tne q1 tb (by omega))]
    rw [e0, Nat.add_sub_cancel] at g ⊢
    rw [hne b0 (tne t0 tb (by omega))]
    exact g
  · rw [hne c (tne q1 tb (by omega))]; exact x3 c q1
  · have nc : c ≠ b := tne q1 tb (by omega)
    have g := x4 c q1 i hi
    rw [hne c nc]
    obtain ⟨d, e1, td⟩ := hC.ed (a := c) (by omega) (by omega)
    rw [e1, Nat.add_sub_cancel] at g ⊢
    by_cases e : d = b
    · subst e
      have := uniq c (by omega) (by omega) e1
      subst this
      rw [w2_ne hu (Or.inr (by omega))]
      exact g
    · rw [hne d e]
      exact g
  · obtain ⟨d, e1, td⟩ := g6_4 hC q1
    have g := x5 c q1 i hi
    rw [hne c (tne q1 tb (by omega))]
    rw [e1, Nat.add_sub_cancel] at g ⊢
    rw [hne d (tne td tb (by omega))]
    exact g
/-- a list's size is told anew -/
theorem XI.size {v : Int} (hC : CT T N I R) (h : XI T N I R) (h1 : 15 ≤ lt) (h2 : lt ≤ 23) (hT : T a = lt) (hb : R a 1 = b + 1) (hn : v ≤ N b) (he : ∀ i : Nat, (i : Int) < v → R b i ≠ 0) (hm : lt = 19 → I a 2 ≤ v) (hk : lt = 18 → ∀ i : Nat, (i : Int) < v → I (R b i - 1) 0 ≤ i) (hu : I' = w2 I a 2 v) : XI T N I' R := by
  obtain ⟨x1, x2, x3, x4, x5⟩ := h
  have hne : ∀ c, c ≠ a → I' c = I c := fun c hc => w2_nb hu hc
  have ha : I' a 2 = v := w2_at hu
  refine ⟨fun c q1 q2 => ?_, fun c q1 => ?_, fun c q1 => ?_, fun c q1 i hi => ?_, fun c q1 i hi => ?_⟩
  · obtain ⟨d, e1, td⟩ := hC.ed q1 q2
    have nd : d ≠ a := by
      intro z
      rw [z, hT] at td
      rcases td with td | td <;> omega
    have g := x1 c q1 q2
    rw [e1, Nat.add_sub_cancel] at g ⊢
    rw [hne d nd]
    by_cases e : c = a
    · subst e
      have : d = b := by omega
      subst this
      rw [ha]
      exact ⟨hn, he, g.2.2⟩
    · rw [hne c e]
      exact g
  · obtain ⟨b0, e0, t0⟩ := g12_0 hC q1
    obtain ⟨b3, e3, t3⟩ := g11_3 hC t0
    have g := x2 c q1
    rw [e0, Nat.add_sub_cancel, e3, Nat.add_sub_cancel] at g ⊢
    refine ⟨g.1, g.2.1, g.2.2.1, ?_⟩
    by_cases e : b3 = a
    · subst e
      rw [ha]
      have := hm (by rw [← hT, t3])
      have := g.2.2.2
      omega
    · rw [hne b3 e]
      exact g.2.2.2
  · rw [hne c (tne q1 hT (by omega))]; exact x3 c q1
  · obtain ⟨d, e1, td⟩ := hC.ed (a := c) (by omega) (by omega)
    obtain ⟨f1, f2, -⟩ := x1 c (by omega) (by omega)
    have num : ∀ y, T y = 11 → I' y 0 = I y 0 := fun y hy => by rw [hne y (tne hy hT (by omega))]
    by_cases e : c = a
    · subst e
      rw [ha] at hi
      have : d = b := by omega
      rw [e1, Nat.add_sub_cancel, this]
      have h18 : lt = 18 := by omega
      have g := hk h18 i hi
      have td : T b = 53 := by
        rw [this] at td
        rcases td with td | td
        · omega
        · have := n_one hC td
          omega
      rcases ga53 hC td (k := i) (by omega) with z | ⟨y, ec, tc⟩
      · exact absurd z (he i hi)
      · rw [ec, Nat.add_sub_cancel] at g ⊢
        rw [num y tc]; exact g
    · rw [hne c e] at hi
      have g := x4 c q1 i hi
      rw [e1, Nat.add_sub_cancel] at g f1 f2 ⊢
      have td : T d = 53 := by
        rcases td with td | td
        · omega
        · have := n_one hC td
          omega
      rcases ga53 hC td (k := i) (by omega) with z | ⟨y, ec, tc⟩
      · exact absurd z (f2 i hi)
      · rw [ec, Nat.add_sub_cancel] at g ⊢
        rw [num y tc]; exact g
  · rw [hne c (tne q1 hT (by omega))] at hi
    exact x5 c q1 i hi
end LX
