section SBR
variable {p : Program} {l : Launch} {e : Env} {R : Room} {s : State} {m : MethodId} {args : Array Value} {below : List Frame} {meth : Method} {c : Code} {H : Heap} {locs : List Loc} {cells slots : Nat} {Q : State → Prop}
variable {cc : ByteArray} {pc : Nat} {ls : Array Slot} {rest : List Value} {D : va_G} {dA : Nat → ClassId} {nL : Nat} {ret : Option FieldType} {own : String}
theorem shr0 (x : Int32) : x >>> (II 0 &&& 31) = x := by
  have e : (II 0 &&& 31 : Int32) = 0 := by decide
  rw [e]
  exact Int32.shiftRight_zero
theorem shl0 (x : Int32) : x <<< (II 0 &&& 31) = x := by
  have e : (II 0 &&& 31 : Int32) = 0 := by decide
  rw [e]
  exact Int32.shiftLeft_zero
theorem q_shr0 (B : Cx D dA p s m args meth c cc own nL ret) {x : Int} (hdg : decode cc pc = .ok (.ishr, 1)) (k : W p l e R s m args below meth c H locs cells slots Q (F0 m (pc + 1) ls (.int (II x) :: rest))) : W p l e R s m args below meth c H locs cells slots Q (F0 m pc ls (.int (II 0) :: .int (II x) :: rest)) :=
  lv_ishr B.1 B.2.1 hdg (by rw [shr0]; exact k)
theorem q_shl0 (B : Cx D dA p s m args meth c cc own nL ret) {x : Int} (hdg : decode cc pc = .ok (.ishl, 1)) (k : W p l e R s m args below meth c H locs cells slots Q (F0 m (pc + 1) ls (.int (II x) :: rest))) : W p l e R s m args below meth c H locs cells slots Q (F0 m pc ls (.int (II 0) :: .int (II x) :: rest)) :=
  lv_ishl B.1 B.2.1 hdg (by rw [shl0]; exact k)
theorem q_wrapE {x : Int} (k : ∀ z : Int, (-2147483648 : Int) ≤ z ∧ z ≤ 2147483647 → (-2147483648 ≤ x → x ≤ 2147483647 → z = x) → W p l e R s m args below meth c H locs cells slots Q (F0 m pc ls (.int (II z) :: rest))) : W p l e R s m args below meth c H locs cells slots Q (F0 m pc ls (.int (II x) :: rest)) :=
  q_any (fun z hz ez => k z hz (fun h1 h2 => by
    have hx : inr x := ⟨h1, h2⟩
    have := congrArg Int32.toInt ez
    rw [II_toInt hx, II_toInt hz] at this
    exact this.symm))
theorem c_cmp1 {eA : Nat} {A0 : Nat → Prop} {index : Nat} (B : Cx D dA p s m args meth c cc own nL ret) (hX : SX eA A0 s s.heap) (hS : va_S A0 s.heap H locs) (hl : Cond.fieldLink own index "java/lang/String" "COMPACT_STRINGS" "Z" ∈ lw_g) (hdg : decode cc pc = .ok (.getstatic index, 3)) (k : W p l e R s m args below meth c H locs cells slots Q (F0 m (pc + 3) ls (.int (II 1) :: rest))) : W p l e R s m args below meth c H locs cells slots Q (F0 m pc ls rest) :=
  va_gets B.1 B.2.1 hX.2.1 hS B.2.2.2.1 (B.2.2.2.2.1 _ hl) (fun _ h => h) hdg (by
    have e : (1 : Int32) = II 1 := by decide
    rw [e]; exact k)
end SBR
/-! digits -/
def DG (a j : Int) : Prop := 0 ≤ a ∧ 0 ≤ j ∧ a < (10 : Int) ^ j.toNat
theorem DG.mono {a j k : Int} (h : DG a j) (hk : j ≤ k) : DG a k := by
  obtain ⟨h1, h2, h3⟩ := h
  refine ⟨h1, by omega, Int.lt_of_lt_of_le h3 ?_⟩
  have e : k.toNat = j.toNat + (k - j).toNat := by omega
  rw [e, Int.pow_add]
  have h4 : (0 : Int) < 10 ^ (k - j).toNat := Int.pow_pos (by decide)
  have h5 : (0 : Int) ≤ 10 ^ j.toNat := by omega
  have := Int.mul_le_mul_of_nonneg_left (a := 1) (b := (10 : Int) ^ (k - j).toNat) (c := 10 ^ j.toNat) (by omega) h5
  omega
theorem DG.le {a j : Int} {n : Nat} (h : DG a j) (hn : (10 : Int) ^ n ≤ a) : (n : Int) < j := by
  obtain ⟨h1, h2, h3⟩ := h
  rcases Int.lt_or_le n j with g | g
  · exact g
  · exfalso
    have := (DG.mono (a := a) (j := j) (k := n) ⟨h1, h2, h3⟩ g).2.2
    have e : ((n : Int)).toNat = n := by omega
    rw [e] at this
    omega
theorem DG.two {a j : Int} (h : DG a j) (ha : 10 ≤ a) : 2 ≤ j := by
  have := DG.le (n := 1) h (by omega)
  omega
theorem DG.div {a b j : Int} (h : DG a j) (ha : 100 ≤ a) (hb0 : 0 ≤ b) (hb : 100 * b ≤ a) : DG b (j - 2) ∧ 3 ≤ j := by
  have h3 := DG.le (n := 2) h (by omega)
  obtain ⟨q1, q2, q3⟩ := h
  refine ⟨⟨hb0, by omega, ?_⟩, by omega⟩
  have e : j.toNat = (j - 2).toNat + 2 := by omega
  rw [e, Int.pow_add] at q3
  have e2 : (10 : Int) ^ 2 = 100 := rfl
  rw [e2] at q3
  omega
def PW (p i : Int) : Prop := 10 ≤ i ∨ p = -((10 : Int) ^ i.toNat)
theorem PW.one : PW (-10) 1 := Or.inr (by decide)
theorem PW.next {p i z : Int} (h : PW p i) (h1 : 1 ≤ i) (h2 : i < 10) (hz : -2147483648 ≤ 10 * p → 10 * p ≤ 2147483647 → z = 10 * p) : PW z (i + 1) := by
  rcases h with h | h
  · omega
  · by_cases e : i = 9
    · exact Or.inl (by omega)
    · refine Or.inr ?_
      have e1 : (i + 1).toNat = i.toNat + 1 := by omega
      rw [e1, Int.pow_succ]
      have hr : (10 : Int) ^ i.toNat ≤ 10 ^ 8 := by
        have : i.toNat ≤ 8 := by omega
        have e2 : (8 : Nat) = i.toNat + (8 - i.toNat) := by omega
        rw [e2, Int.pow_add]
        have h4 : (0 : Int) < 10 ^ (8 - i.toNat) := Int.pow_pos (by decide)
        have h5 : (0 : Int) < 10 ^ i.toNat := Int.pow_pos (by decide)
        have := Int.mul_le_mul_of_nonneg_left (a := 1) (b := (10 : Int) ^ (8 - i.toNat)) (c := 10 ^ i.toNat) (by omega) (by omega)
        omega
      have h6 : (0 : Int) < 10 ^ i.toNat := Int.pow_pos (by decide)
      have e8 : (10 : Int) ^ 8 = 100000000 := by decide
      rw [e8] at hr
      have := hz (by omega) (by omega)
      omega
theorem PW.dg {p i x : Int} (h : PW p i) (h2 : 1 ≤ i) (h3 : i < 10) (hx : x ≤ 0) (hp : p < x) : DG (-x) i := by
  rcases h with h | h
  · omega
  · exact ⟨by omega, by omega, by omega⟩
theorem DG.ten {x : Int} (h : x ≤ 0) (h2 : -2147483648 ≤ x) : DG (-x) 10 := by
  refine ⟨by omega, by omega, ?_⟩
  have e : ((10 : Int) ^ (10 : Int).toNat) = 10000000000 := by decide
  rw [e]
  omega
