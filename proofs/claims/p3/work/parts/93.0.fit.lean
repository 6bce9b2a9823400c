theorem fitZ {x : Int} (h : 0 ≤ x ∧ x ≤ 1) : fits .boolean (.int (II x)) = true := by
  have h2 : x = 0 ∨ x = 1 := by omega
  rcases h2 with rfl | rfl <;> rfl
