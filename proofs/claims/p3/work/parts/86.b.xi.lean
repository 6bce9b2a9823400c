section XCH
variable {T N : Nat → Nat} {I I' : Nat → Nat → Int} {R R' : Nat → Nat → Nat} {a b k v : Nat}
/-- a chain is put into its row -/
theorem XI.chn (hC : CT T N I R) (h : XI T N I R) (ha : T a = 68) (hu : R' = w2 R a k (v + 1)) : XI T N I R' := by
  have key : ∀ b, T b ≠ 68 → R' b = R b := fun b hb => by funext j; exact w2_ne hu (Or.inl (fun e => hb (e ▸ ha)))
  obtain ⟨x1, x2, x3, x4, x5⟩ := h
  refine ⟨fun c q1 q2 => ?_, fun c q1 => ?_, fun c q1 => ?_, fun c q1 i hi => ?_, fun c q1 i hi => ?_⟩
  · have h9 := x1 c q1 q2
    obtain ⟨b, eb, tb⟩ := hC.ed q1 q2
    rw [key c (by omega), eb, Nat.add_sub_cancel]
    rw [eb, Nat.add_sub_cancel] at h9
    rw [key b (by omega)]
    exact h9
  · have h9 := x2 c q1
    obtain ⟨b, eb, tb⟩ := g12_0 hC q1
    rw [key c (by omega), eb, Nat.add_sub_cancel, key b (by omega)]
    rw [eb, Nat.add_sub_cancel] at h9
    exact h9
  · rw [key c (by omega)]
    exact x3 c q1
  · have h9 := x4 c q1
    obtain ⟨b, eb, tb⟩ := hC.ed (a := c) (by omega) (by omega)
    rw [key c (by omega), eb, Nat.add_sub_cancel, key b (by omega)]
    rw [eb, Nat.add_sub_cancel] at h9
    exact h9 i hi
  · have h9 := x5 c q1 i hi
    rw [key c (by omega)]
    by_cases e : R c 4 - 1 = a
    · by_cases e2 : i = k
      · rw [e, e2, w2_at hu]; exact Nat.succ_ne_zero _
      · rw [w2_ne hu (Or.inr e2)]; exact h9
    · rw [w2_ne hu (Or.inl e)]; exact h9
/-- the number of chains grows -/
theorem XI.cnt {z : Int} (hC : CT T N I R) (h : XI T N I R) (ha : T a = 6) (hb : R a 4 = b + 1) (he : ∀ i : Nat, (i : Int) < z → R b i ≠ 0) (hu : I' = w2 I a 5 z) : XI T N I' R := by
  have key : ∀ c, T c ≠ 6 → I' c = I c := fun c hc => by funext j; exact w2_ne hu (Or.inl (fun e => hc (e ▸ ha)))
  obtain ⟨x1, x2, x3, x4, x5⟩ := h
  refine ⟨fun c q1 q2 => ?_, fun c q1 => ?_, fun c q1 => ?_, fun c q1 i hi => ?_, fun c q1 i hi => ?_⟩
  · have h9 := x1 c q1 q2
    obtain ⟨b, eb, tb⟩ := hC.ed q1 q2
    rw [key c (by omega), eb, Nat.add_sub_cancel]
    rw [eb, Nat.add_sub_cancel] at h9
    rw [key b (by omega)]
    exact h9
  · have h9 := x2 c q1
    obtain ⟨b, eb, tb⟩ := g12_0 hC q1
    obtain ⟨b2, eb2, tb2⟩ := g11_3 hC tb
    rw [eb, Nat.add_sub_cancel, eb2, Nat.add_sub_cancel] at h9 ⊢
    rw [key b2 (by omega)]
    exact h9
  · rw [key c (by omega)]
    exact x3 c q1
  · rw [key c (by omega)] at hi
    have h9 := x4 c q1 i hi
    obtain ⟨b, eb, tb⟩ := hC.ed (a := c) (by omega) (by omega)
    obtain ⟨y1, y2, -⟩ := x1 c (by omega) (by omega)
    rw [eb, Nat.add_sub_cancel] at h9 y1 y2 ⊢
    have hz : N b ≠ 0 := by omega
    rcases tb with tb | tb
    · rw [q1] at tb
      have y3 := y2 i hi
      obtain ⟨b3, e3⟩ : ∃ b3, R b i = b3 + 1 := ⟨R b i - 1, by omega⟩
      have y4 := hC.r (k := i) tb (by decide) (by omega)
      rw [rF_arr (by decide)] at y4
      rcases y4 with y5 | ⟨-, y5⟩ | ⟨b4, y5, y6⟩
      · exact absurd y5 (by decide)
      · exact absurd y5 y3
      · rw [y5, Nat.add_sub_cancel] at h9 ⊢
        have y7 : T b4 = 11 := by
          have d : (rF 53 0).2.1 = 11 ∧ (rF 53 0).2.2 = 11 := by decide
          rw [d.1, d.2] at y6
          omega
        rw [key b4 (by omega)]
        exact h9
    · exfalso
      have hz' := (hC.n tb (by decide)).2
      have hz'' : N b ≤ 0 := hz'
      omega
  · by_cases e : c = a
    · subst e
      rw [hb, Nat.add_sub_cancel]
      rw [w2_at hu] at hi
      exact he i hi
    · have e1 : I' c 5 = I c 5 := w2_ne hu (Or.inl e)
      rw [e1] at hi
      exact x5 c q1 i hi
end XCH
theorem upN {T N N' : Nat → Nat} {q n b t : Nat} (hN : N' = va_up N q n) (h0 : T q = 0) (hb : T b = t) (ht : t ≠ 0) : N' b = N b := by
  rw [hN, va_up_ne _ _ (fun e => ht (by rw [← hb, e, h0]))]
theorem aw68 : 50 ≤ 68 ∧ xT 68 = false ∧ ((iR 68 0).1 ≤ 0 ∧ 0 ≤ (iR 68 0).2) ∧ (rF 68 0).1 ≤ 1 ∧ (nR 68).2 ≤ 10000000 := by decide +kernel
theorem aw86 : 50 ≤ 86 ∧ xT 86 = false ∧ ((iR 86 0).1 ≤ 0 ∧ 0 ≤ (iR 86 0).2) ∧ (rF 86 0).1 ≤ 1 ∧ (nR 86).2 ≤ 10000000 := by decide +kernel
