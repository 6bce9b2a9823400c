section DVE
variable {p : Program} {l : Launch} {e : Env} {R : Room} {s : State} {m : MethodId} {args : Array Value} {below : List Frame} {meth : Method} {c : Code} {H : Heap} {locs : List Loc} {cells slots : Nat} {Q : State → Prop}
variable {cc : ByteArray} {pc : Nat} {ls : Array Slot} {rest : List Value} {D : va_G} {dA : Nat → ClassId} {nL : Nat} {ret : Option FieldType} {own : String}
theorem tdiv_f {x y : Int} (h0 : 1 < y) : (0 ≤ x → 0 ≤ x.tdiv y ∧ y * x.tdiv y ≤ x ∧ x < y * x.tdiv y + y) ∧ (x < 0 → x.tdiv y ≤ 0 ∧ x ≤ y * x.tdiv y ∧ y * x.tdiv y < x + y) := by
  refine ⟨fun hx => ?_, fun hx => ?_⟩
  · rw [Int.tdiv_eq_ediv_of_nonneg hx]
    have h1 := Int.mul_ediv_self_le (x := x) (k := y) (by omega)
    have h2 := Int.lt_mul_ediv_self_add (x := x) (k := y) (by omega)
    exact ⟨Int.ediv_nonneg hx (by omega), h1, h2⟩
  · have e : x.tdiv y = -((-x) / y) := by
      have h3 := Int.neg_tdiv (a := -x) (b := y)
      rw [Int.neg_neg] at h3
      rw [h3, Int.tdiv_eq_ediv_of_nonneg (by omega)]
    have h1 := Int.mul_ediv_self_le (x := -x) (k := y) (by omega)
    have h2 := Int.lt_mul_ediv_self_add (x := -x) (k := y) (by omega)
    have h4 := Int.ediv_nonneg (a := -x) (b := y) (by omega) (by omega)
    rw [e, Int.mul_neg]
    omega
theorem II_divE {x y : Int} (hx : inr x) (hy : inr y) (h0 : 1 < y) : II x / II y = II (x.tdiv y) ∧ inr (x.tdiv y) := by
  have hf := tdiv_f (x := x) h0
  have hb : inr (x.tdiv y) := by
    unfold inr at hx ⊢
    rcases Int.lt_or_le x 0 with h | h
    · have q := hf.2 h
      have := Int.mul_le_mul_of_nonpos_right (a := y) (b := 1) (c := x.tdiv y) (by omega) q.1
      omega
    · have q := hf.1 h
      have := Int.mul_le_mul_of_nonneg_right (a := 1) (b := y) (c := x.tdiv y) (by omega) q.1
      omega
  refine ⟨?_, hb⟩
  rw [← Int32.toInt_inj, II_toInt hb, Int32.toInt_div_of_ne_right, II_toInt hx, II_toInt hy]
  intro q
  have q2 := congrArg Int32.toInt q
  rw [II_toInt hy] at q2
  have e1 : (-1 : Int32).toInt = -1 := by decide
  rw [e1] at q2
  omega
theorem q_divE (B : Cx D dA p s m args meth c cc own nL ret) {x y : Int} (hdg : decode cc pc = .ok (.idiv, 1)) (hx : inr x) (hy : inr y) (h0 : 1 < y) (k : ∀ z : Int, inr z → (0 ≤ x → 0 ≤ z ∧ y * z ≤ x ∧ x < y * z + y) → (x < 0 → z ≤ 0 ∧ x ≤ y * z ∧ y * z < x + y) → W p l e R s m args below meth c H locs cells slots Q (F0 m (pc + 1) ls (.int (II z) :: rest))) : W p l e R s m args below meth c H locs cells slots Q (F0 m pc ls (.int (II y) :: .int (II x) :: rest)) := by
  refine lv_idiv B.1 B.2.1 hdg (fun q => ?_) ?_
  · have := (II_eq hy (by unfold inr; omega)).mp (show II y = II 0 from q)
    omega
  · obtain ⟨h1, h2⟩ := II_divE hx hy h0
    rw [h1]
    exact k _ h2 (tdiv_f h0).1 (tdiv_f h0).2
theorem q_remE (B : Cx D dA p s m args meth c cc own nL ret) {x y : Int} (hdg : decode cc pc = .ok (.irem, 1)) (hx : inr x) (hy : inr y) (h0 : 1 < y) (k : ∀ z : Int, inr z → (0 ≤ x → 0 ≤ z ∧ z < y) → (x < 0 → -y < z ∧ z ≤ 0) → W p l e R s m args below meth c H locs cells slots Q (F0 m (pc + 1) ls (.int (II z) :: rest))) : W p l e R s m args below meth c H locs cells slots Q (F0 m pc ls (.int (II y) :: .int (II x) :: rest)) := by
  refine lv_irem B.1 B.2.1 hdg (fun q => ?_) ?_
  · have := (II_eq hy (by unfold inr; omega)).mp (show II y = II 0 from q)
    omega
  · obtain ⟨h1, h2⟩ := II_divE hx hy h0
    rw [h1]
    have e : II x - II (x.tdiv y) * II y = II (x - x.tdiv y * y) := by rw [II_mul, II_sub]
    rw [e]
    have hf := tdiv_f (x := x) h0
    have e2 : x.tdiv y * y = y * x.tdiv y := Int.mul_comm _ _
    rw [e2]
    refine k _ (by unfold inr at hx hy ⊢; omega) (by omega) (by omega)
end DVE
