section AX
variable {m ex : List Nat} {T N T1 N1 : Nat → Nat} {I I1 : Nat → Nat → Int} {J J1 : Nat → Nat → Int64} {R R1 : Nat → Nat → Nat} {a b k t q v : Nat}
theorem upT {T' : Nat → Nat} {t' : Nat} (h : T' = va_up T q t') (hq : T q = 0) (hb : T b = t) (ht : t ≠ 0) : T' b = t := by
  rw [h, va_up_ne]
  · exact hb
  · rintro rfl; exact ht (by rw [← hb, hq])
theorem rokR {q : Nat × Nat × Nat} {md : Nat} (h : T b = t) (hq : q = (md, t, t)) : rOk T q (b + 1) := by
  subst hq; exact Or.inr (Or.inr ⟨b, rfl, Or.inl h⟩)
theorem rokQ {q : Nat × Nat × Nat} (h : v = 0 ∨ ∃ b, v = b + 1 ∧ T b = t) (hq : q = (1, t, t)) : rOk T q v := by
  subst hq
  rcases h with h | ⟨b, h1, h2⟩
  · exact Or.inr (Or.inl ⟨rfl, h⟩)
  · exact Or.inr (Or.inr ⟨b, h1, Or.inl h2⟩)
theorem qFr (hF : Fr m ex T N I J R T1 N1 I1 J1 R1) (h : v = 0 ∨ ∃ b, v = b + 1 ∧ T b = t) (ht : t ≠ 0) (he : ∀ b, T b = t → b ∉ ex) : v = 0 ∨ ∃ b, v = b + 1 ∧ T1 b = t := by
  rcases h with h | ⟨b, h1, h2⟩
  · exact Or.inl h
  · exact Or.inr ⟨b, h1, hF.tt h2 ht (he b h2)⟩
theorem nm0' {ex : List Nat} (h : ex = []) : ∀ b : Nat, T b = t → b ∉ ex := fun b _ => by rw [h]; exact nm0
theorem T0_of (hF : Fr m [] T N I J R T1 N1 I1 J1 R1) (h : T1 q = 0) : T q = 0 := by
  by_cases e : T q = 0
  · exact e
  · exact absurd ((hF q e nm0).1.symm.trans h) e
theorem Fr_c (hF : Fr m ex T N I J R T1 N1 I1 J1 R1) (h : T1 a = t) (hm : m.contains (cd t k) = true) : T a ≠ 0 → a ∉ ex → m.contains (cd (T a) k) = true := fun h1 h2 => by
  rw [← (hF a h1 h2).1, h]; exact hm
theorem e2x (h : T q ≠ 0 → q ∈ ex) : ∀ b ∈ [q], T b ≠ 0 → b ∈ ex := fun b h1 h2 => by
  rw [List.mem_singleton] at h1
  subst h1
  exact h h2
end AX
section MX
variable {p : Program} {l : Launch} {e : Env} {Rm : Room} {s : State} {m : MethodId} {args : Array Value} {below : List Frame} {meth : Method} {c : Code} {H : Heap} {locs : List Loc} {cells slots : Nat} {Q : State → Prop}
variable {cc : ByteArray} {pc : Nat} {ls : Array Slot} {rest : List Value} {D : va_G} {dA : Nat → ClassId} {nL : Nat} {ret : Option FieldType} {own : String} {index : Nat}
theorem c_mmax (B : Cx D dA p s m args meth c cc own nL ret) (hok : okT own index yJ9_max_7cf53 cJ9_max_7cf53 2 (some .int)) (hl : ls.size = nL) {x y : Int} (hx : inr x) (hy : inr y) (hf : 1 ≤ Rm.frames) (hlo : (rest.map fun v => v.category).sum + 13 ≤ Rm.locals) (hc : cells ≤ Rm.cells) (hs : slots ≤ Rm.slots) (hdg : decode cc pc = .ok (.invokestatic index, 3)) (kk : ∀ z : Int, (z = x ∨ z = y) → x ≤ z → y ≤ z → W p l e Rm s m args below meth c H locs cells slots Q (F0 m (pc + 3) ls (.int (II z) :: rest))) : W p l e Rm s m args below meth c H locs cells slots Q (F0 m pc ls (.int (II y) :: .int (II x) :: rest)) := by
  refine va_mmax B.1 B.2.1 (by rw [B.2.2.1, hl]) B.2.2.2.1 (B.2.2.2.2.1 _ hok.1) (B.2.2.2.2.1 _ hok.2.1) (B.2.2.2.2.1 _ hok.2.2.1) (B.2.2.2.2.1 _ hok.2.2.2) hf hlo hc hs hdg ?_
  split
  · next h => rw [II_lt hx hy] at h; exact kk y (Or.inr rfl) (by omega) (by omega)
  · next h => rw [II_lt hx hy] at h; exact kk x (Or.inl rfl) (by omega) (by omega)
theorem c_mmin (B : Cx D dA p s m args meth c cc own nL ret) (hok : okT own index yJ9_min_7cf53 cJ9_min_7cf53 2 (some .int)) (hl : ls.size = nL) {x y : Int} (hx : inr x) (hy : inr y) (hf : 1 ≤ Rm.frames) (hlo : (rest.map fun v => v.category).sum + 13 ≤ Rm.locals) (hc : cells ≤ Rm.cells) (hs : slots ≤ Rm.slots) (hdg : decode cc pc = .ok (.invokestatic index, 3)) (kk : ∀ z : Int, (z = x ∨ z = y) → z ≤ x → z ≤ y → W p l e Rm s m args below meth c H locs cells slots Q (F0 m (pc + 3) ls (.int (II z) :: rest))) : W p l e Rm s m args below meth c H locs cells slots Q (F0 m pc ls (.int (II y) :: .int (II x) :: rest)) := by
  refine va_mmin B.1 B.2.1 (by rw [B.2.2.1, hl]) B.2.2.2.1 (B.2.2.2.2.1 _ hok.1) (B.2.2.2.2.1 _ hok.2.1) (B.2.2.2.2.1 _ hok.2.2.1) (B.2.2.2.2.1 _ hok.2.2.2) hf hlo hc hs hdg ?_
  split
  · next h => rw [II_lt hy hx] at h; exact kk y (Or.inr rfl) (by omega) (by omega)
  · next h => rw [II_lt hy hx] at h; exact kk x (Or.inl rfl) (by omega) (by omega)
theorem c_mabsl (B : Cx D dA p s m args meth c cc own nL ret) (hok : okT own index yJ9_abs_067f4 cJ9_abs_067f4 2 (some .long)) (hl : ls.size = nL) {x : Int64} (hf : 1 ≤ Rm.frames) (hlo : (rest.map fun v => v.category).sum + 13 ≤ Rm.locals) (hc : cells ≤ Rm.cells) (hs : slots ≤ Rm.slots) (hdg : decode cc pc = .ok (.invokestatic index, 3)) (kk : ∀ z : Int64, W p l e Rm s m args below meth c H locs cells slots Q (F0 m (pc + 3) ls (.long z :: rest))) : W p l e Rm s m args below meth c H locs cells slots Q (F0 m pc ls (.long x :: rest)) :=
  va_mabs_long B.1 B.2.1 (by rw [B.2.2.1, hl]) B.2.2.2.1 (B.2.2.2.2.1 _ hok.1) (B.2.2.2.2.1 _ hok.2.1) (B.2.2.2.2.1 _ hok.2.2.1) (B.2.2.2.2.1 _ hok.2.2.2) hf hlo hc hs hdg (kk _)
end MX
