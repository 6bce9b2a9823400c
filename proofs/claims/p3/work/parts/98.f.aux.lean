section TKX
variable {T N : Nat → Nat} {I I1 : Nat → Nat → Int} {R R1 : Nat → Nat → Nat} {g f c fl : Nat}
theorem fcn_nn {n : Nat} : 0 ≤ fcn I R g n := by
  induction n with
  | zero => exact Int.le_refl _
  | succ n ih => rw [fcn_succ]; split <;> omega
theorem FLq.zero (h : I f 2 = 0) : FLq I R g f := by
  unfold FLq
  rw [h]
  exact fcn_nn
end TKX
