section PS
variable {m ex : List Nat} {T N T1 N1 : Nat → Nat} {I I1 : Nat → Nat → Int} {J J1 : Nat → Nat → Int64} {R R1 : Nat → Nat → Nat} {c : Nat}
/-- the founds that are told have their uses -/
def FUp (I : Nat → Nat → Int) (R : Nat → Nat → Nat) (c : Nat) : Prop := ∀ i : Nat, (i : Int) < I c 0 → (i : Int) < I (R c 6 - 1) 2 → R (R (R (R c 6 - 1) 1 - 1) i - 1) 0 ≠ 0
theorem FUp.at {fl b : Nat} (h : FUp I R c) (e1 : R c 6 = fl + 1) {i : Int} (h0 : 0 ≤ i) (h1 : i < I c 0) (h2 : i < I fl 2) (e2 : R (R fl 1 - 1) i.toNat = b + 1) : R b 0 ≠ 0 := by
  have := h i.toNat (by omega) (by rw [e1, Nat.add_sub_cancel]; omega)
  rw [e1, Nat.add_sub_cancel, e2, Nat.add_sub_cancel] at this
  exact this
end PS
