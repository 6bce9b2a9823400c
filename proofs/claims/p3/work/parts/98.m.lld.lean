/-! the law: what it loads, what it keeps -/
abbrev lwA (s : State) : Nat → Prop := fun q => s.heap.size ≤ q
def LC (p : Program) (s : State) (m : MethodId) (meth : Method) (c : Code) (b Ln : Nat) (xs : Nat → Int32) (D : va_G) (dA : Nat → ClassId) (eA : Nat) : Prop :=
  Cx D dA p s m #[Value.ref b] meth c cL_law RL 4 ret ∧ SX eA (lwA s) s s.heap ∧ va_X b Ln xs s s.heap ∧ b < s.heap.size ∧ Ln ≤ 3072
def lNS (N : Nat → Nat) (R : Nat → Nat → Nat) (hd : Nat) : Nat := N (R (R hd 5 - 1) 0 - 1)
section LNS
variable {m : List Nat} {T N T1 N1 : Nat → Nat} {I I1 : Nat → Nat → Int} {J J1 : Nat → Nat → Int64} {R R1 : Nat → Nat → Nat} {hd g : Nat}
theorem lNS_le (hC : CT T N I R) (td : T hd = 2) : lNS N R hd ≤ 70000 := by
  obtain ⟨g, e1, t1⟩ := g2_5 hC td
  obtain ⟨v, e2, t2⟩ := g14_0 hC t1
  unfold lNS
  rw [e1, Nat.add_sub_cancel, e2, Nat.add_sub_cancel]
  exact (hC.n t2 (by decide)).2
theorem lNS_w (e1 : R hd 5 = g + 1) : lNS N R hd = N (R g 0 - 1) := by
  unfold lNS
  rw [e1, Nat.add_sub_cancel]
theorem lNS_fr (hC : CT T N I R) (td : T hd = 2) (hF : Fr m [] T N I J R T1 N1 I1 J1 R1) (h1 : m.contains 69 = false) (h2 : m.contains 448 = false) : lNS N1 R1 hd = lNS N R hd := by
  obtain ⟨g, e1, t1⟩ := g2_5 hC td
  obtain ⟨v, e2, t2⟩ := g14_0 hC t1
  have f1 : R1 hd 5 = g + 1 := (hF.r (k := 5) td (by decide) nm0 h1).trans e1
  have f2 : R1 g 0 = v + 1 := (hF.r (k := 0) t1 (by decide) nm0 h2).trans e2
  unfold lNS
  rw [e1, f1, Nat.add_sub_cancel, e2, f2, Nat.add_sub_cancel]
  exact hF.n t2 (by decide) nm0
end LNS
section LLD
variable {p : Program} {l : Launch} {e : Env} {Rm : Room} {s : State} {m : MethodId} {args : Array Value} {below : List Frame} {meth : Method} {c : Code} {H : Heap} {locs : List Loc} {cells slots : Nat} {Q : State → Prop}
variable {pc : Nat} {ls : Array Slot} {rest : List Value} {D : va_G} {dA : Nat → ClassId} {rt : Option FieldType} {b Ln n h0 hd : Nat} {xs : Nat → Int32}
/-- script[i + k] -/
theorem L_ld {k : Nat} {kz : Int} (B : Cx D dA p s m args meth c cL_law RL 4 rt) (hX : va_X b Ln xs s s.heap) (hbl : b < s.heap.size) (hL : Ln ≤ 3072) (hS : va_S (lwA s) s.heap H locs) (hn : 6 * n + 6 ≤ Ln) (hl : lv_has ls 4 [(3, .int (II (6 * (n : Int)))), (2, .ref h0), (1, .ref hd), (0, .ref b)]) (hk : k < 6) (hkz : kz = (k : Int))
    (d0 : decode cL_law pc = .ok (.aload_n 0, 1)) (d1 : decode cL_law (pc + 1) = .ok (.iload_n 3, 1)) (d2 : decode cL_law (pc + 1 + 1) = .ok (.iconst kz, 1)) (d3 : decode cL_law (pc + 1 + 1 + 1) = .ok (.iadd, 1)) (d4 : decode cL_law (pc + 1 + 1 + 1 + 1) = .ok (.iaload, 1))
    (kk : W p l e Rm s m args below meth c H locs cells slots Q (F0 m (pc + 1 + 1 + 1 + 1 + 1) ls (.int (II (xs (6 * n + k)).toInt) :: rest))) : W p l e Rm s m args below meth c H locs cells slots Q (F0 m pc ls rest) := by
  subst hkz
  refine lv_aload_n B.1 B.2.1 d0 rfl (lv_at hl 3 rfl) ?_
  refine lv_iload_n B.1 B.2.1 d1 rfl (lv_at hl 0 rfl) ?_
  refine q_con B d2 ?_
  refine q_add B d3 ?_
  refine va_sld (A := lwA s) B.1 B.2.1 hX hbl (Nat.not_le.mpr hbl) hS (II_in (n := Ln) (by omega) (by omega) (by omega)) d4 ?_
  rw [II_clamp (by omega) (by unfold inr; omega), show (6 * (n : Int) + (k : Int)).toNat = 6 * n + k by omega, II_of (xs (6 * n + k))]
  exact kk
end LLD
