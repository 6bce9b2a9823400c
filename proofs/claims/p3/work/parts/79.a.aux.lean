section AY
variable {T N T' : Nat → Nat} {I : Nat → Nat → Int} {J : Nat → Nat → Int64} {R : Nat → Nat → Nat} {a b t q v : Nat}
theorem qTag {t0 t1 : Nat} (hT : T' = va_up T a t1) (h : v = 0 ∨ ∃ b, v = b + 1 ∧ T b = t) (ha : T a = t0) (ht : t ≠ t0) : v = 0 ∨ ∃ b, v = b + 1 ∧ T' b = t := by
  rcases h with h | ⟨b, h1, h2⟩
  · exact Or.inl h
  · exact Or.inr ⟨b, h1, by rw [hT, va_up_ne _ _ (tne h2 ha ht)]; exact h2⟩
/-- a paper's rows -/
theorem gp2 {k mb v th ls pr : Nat} (h : XI T N I R) (hT : T a = 12) (e0 : R a 0 = k + 1) (e1 : R k 3 = mb + 1) (e2 : R a 2 = v + 1) (e3 : R a 3 = th + 1) (e4 : R a 4 = ls + 1) (e5 : R a 5 = pr + 1) : N th = N v ∧ N ls = N v ∧ N pr = N v ∧ (N v : Int) ≤ I mb 2 := by
  have g := h.2.1 a hT
  rw [e0, Nat.add_sub_cancel, e1, Nat.add_sub_cancel, e2, e3, e4, e5, Nat.add_sub_cancel, Nat.add_sub_cancel, Nat.add_sub_cancel, Nat.add_sub_cancel] at g
  exact g
theorem gp5 {ch : Nat} (h : XI T N I R) (hT : T a = 6) (e : R a 4 = ch + 1) {i : Int} (h0 : 0 ≤ i) (hi : i < I a 5) : R ch i.toNat ≠ 0 := by
  have g := h.2.2.2.2 a hT i.toNat (by omega)
  rw [e, Nat.add_sub_cancel] at g
  exact g
theorem gp3 {ln : Nat} (h : XI T N I R) (hT : T a = 11) (e : R a 2 = ln + 1) : (N ln : Int) ≤ I a 0 + 1 := by
  have g := h.2.2.1 a hT
  rw [e, Nat.add_sub_cancel] at g
  exact g
theorem gp4 {c : Nat} (h : XI T N I R) (hT : T a = 18) {i : Int} (h0 : 0 ≤ i) (hi : i < I a 2) (e : R (R a 1 - 1) i.toNat = c + 1) : I c 0 ≤ i := by
  have g := h.2.2.2.1 a hT i.toNat (by omega)
  rw [e, Nat.add_sub_cancel] at g
  omega
end AY
