theorem and255 (x : Int) : II x &&& II 255 = II (x % 256) := by
  apply Int32.toBitVec_inj.mp
  rw [Int32.toBitVec_and]
  apply BitVec.eq_of_toNat_eq
  rw [BitVec.toNat_and]
  have e1 : ∀ z : Int, (II z).toBitVec.toNat = (z % 4294967296).toNat := by
    intro z
    show (BitVec.ofInt 32 z).toNat = _
    rw [BitVec.toNat_ofInt]
    rfl
  rw [e1, e1, e1]
  rw [show ((255 : Int) % 4294967296).toNat = 2 ^ 8 - 1 from rfl, Nat.and_two_pow_sub_one_eq_mod]
  omega
/-- the byte of a text at a place, 0 behind its end -/
def sgn (t : Nat → Int) (b z k : Int) : Int := if k < z then t (3000 * b + k).toNat % 256 else 0
theorem sgn_lt {t : Nat → Int} {b z k : Int} (h : k < z) : sgn t b z k = t (3000 * b + k).toNat % 256 := if_pos h
theorem sgn_ge {t : Nat → Int} {b z k : Int} (h : z ≤ k) : sgn t b z k = 0 := if_neg (by omega)
section MX
variable {p : Program} {l : Launch} {e : Env} {R : Room} {s : State} {m : MethodId} {args : Array Value} {below : List Frame} {meth : Method} {c : Code} {H : Heap} {locs : List Loc} {cells slots : Nat} {Q : State → Prop}
variable {cc : ByteArray} {pc : Nat} {ls : Array Slot} {rest : List Value}
variable {D : va_G} {dA : Nat → ClassId} {own : String} {nL : Nat} {ret : Option FieldType}
theorem q_and255 (B : Cx D dA p s m args meth c cc own nL ret) {x : Int} (hdg : decode cc pc = .ok (.iand, 1)) (k : W p l e R s m args below meth c H locs cells slots Q (F0 m (pc + 1) ls (.int (II (x % 256)) :: rest))) : W p l e R s m args below meth c H locs cells slots Q (F0 m pc ls (.int (II 255) :: .int (II x) :: rest)) := lv_iand B.1 B.2.1 hdg (by rw [and255]; exact k)
/-- a number that may have gone round -/
theorem q_wrap {x : Int} (k : ∀ z : Int, (-2147483648 : Int) ≤ z ∧ z ≤ 2147483647 → W p l e R s m args below meth c H locs cells slots Q (F0 m pc ls (.int (II z) :: rest))) : W p l e R s m args below meth c H locs cells slots Q (F0 m pc ls (.int (II x) :: rest)) := q_any (fun z hz _ => k z hz)
end MX
theorem wr_at {α : Type} (a : Nat → α) (z : Int) (v : α) : wr a z v z.toNat = v := if_pos rfl
theorem wr_ne {α : Type} {a : Nat → α} {z : Int} {v : α} {j : Nat} (h : j ≠ z.toNat) : wr a z v j = a j := if_neg h
/-- the table of names: a group's number is 7 at most, a rule's and a mark's is below how many there are -/
def NIp (k n b rl mk : Int) (s m : Nat → Int) : Prop := k = 0 → ∀ j : Nat, 64 * b ≤ (j : Int) → (j : Int) < 64 * b + n → (s j = 1 → m j ≤ 7) ∧ (s j = 3 → m j < rl) ∧ (s j = 4 → m j < mk)
def u3 (k s r : Int) : Int := if s = k then r + 1 else r
theorem u3_le {k s r : Int} : r ≤ u3 k s r := by unfold u3; split <;> omega
theorem u3_eq {k s r : Int} (h : s = k) : u3 k s r = r + 1 := if_pos h
theorem u3_ne {k s r : Int} (h : s ≠ k) : u3 k s r = r := if_neg h
theorem NIp_bad {k n b rl mk : Int} {s m : Nat → Int} (h : k ≠ 0) : NIp k n b rl mk s m := fun e => absurd e h
theorem NIp_same {k k' n n' b rl mk rl' mk' : Int} {s m : Nat → Int} (h : NIp k n b rl mk s m) (hk : k' = 0 → k = 0) (hn : n' ≤ n) (h1 : rl ≤ rl') (h2 : mk ≤ mk') : NIp k' n' b rl' mk' s m := fun e j j0 j1 => by
  obtain ⟨a1, a2, a3⟩ := h (hk e) j j0 (by omega)
  exact ⟨a1, fun q => by have := a2 q; omega, fun q => by have := a3 q; omega⟩
theorem NIp_push {k k' n b rl mk : Int} {s m : Nat → Int} {x y : Int} (h : NIp k n b rl mk s m) (hk : k' = 0 → k = 0) (hb : 0 ≤ b) (hn : 0 ≤ n) (hxy : x = 1 → y ≤ 7) (h3 : x = 3 → y = rl) (h4 : x = 4 → y = mk) : NIp k' (n + 1) b (u3 3 x rl) (u3 4 x mk) (wr s (64 * b + n) x) (wr m (64 * b + n) y) := by
  intro e0 j h1 h2
  by_cases e : j = (64 * b + n).toNat
  · subst e
    rw [wr_at, wr_at]
    exact ⟨hxy, fun q => by rw [u3_eq q, h3 q]; omega, fun q => by rw [u3_eq q, h4 q]; omega⟩
  · rw [wr_ne e, wr_ne e]
    obtain ⟨a1, a2, a3⟩ := h (hk e0) j h1 (by omega)
    exact ⟨a1, fun q => by have := a2 q; have := u3_le (k := 3) (s := x) (r := rl); omega, fun q => by have := a3 q; have := u3_le (k := 4) (s := x) (r := mk); omega⟩
/-- behind a telling of a sort -/
theorem NIp_t {k k' n b rl mk rl' mk' x : Int} {s m : Nat → Int} (h : NIp k n b (u3 3 x rl) (u3 4 x mk) s m) (hk : k' = 0 → k = 0) (h1 : x = 3 → rl + 1 ≤ rl') (h2 : x ≠ 3 → rl ≤ rl') (h3 : x = 4 → mk + 1 ≤ mk') (h4 : x ≠ 4 → mk ≤ mk') : NIp k' n b rl' mk' s m := fun e j j0 j1 => by
  obtain ⟨a1, a2, a3⟩ := h (hk e) j j0 j1
  refine ⟨a1, fun q => ?_, fun q => ?_⟩
  · have := a2 q
    by_cases e3 : x = 3
    · rw [u3_eq e3] at this; have := h1 e3; omega
    · rw [u3_ne e3] at this; have := h2 e3; omega
  · have := a3 q
    by_cases e3 : x = 4
    · rw [u3_eq e3] at this; have := h3 e3; omega
    · rw [u3_ne e3] at this; have := h4 e3; omega
/-- the names that are asked for: where what they name is put -/
def AIp (n : Int) (s r a : Nat → Int) : Prop := ∀ j : Nat, (j : Int) < n → (r j = 0 → a j < 18 ∧ s j = 1) ∧ (r j = 1 → a j < 96 ∧ s j = 1) ∧ (r j = 3 → a j < 400) ∧ (r j = 4 → s j = 1)
theorem AIp_push {n : Int} {s r a : Nat → Int} {x y z : Int} (h : AIp n s r a) (hn : 0 ≤ n) (hx : (y = 0 → z < 18 ∧ x = 1) ∧ (y = 1 → z < 96 ∧ x = 1) ∧ (y = 3 → z < 400) ∧ (y = 4 → x = 1)) : AIp (n + 1) (wr s n x) (wr r n y) (wr a n z) := by
  intro j hj
  by_cases e : j = n.toNat
  · subst e
    rw [wr_at, wr_at, wr_at]
    exact hx
  · rw [wr_ne e, wr_ne e, wr_ne e]
    exact h j (by omega)
def APe (n : Int) (r a r' a' : Nat → Int) : Prop := ∀ j : Nat, (j : Int) < n → r' j = r j ∧ a' j = a j
theorem APe_rfl {n : Int} {r a : Nat → Int} : APe n r a r a := fun _ _ => ⟨rfl, rfl⟩
theorem APe_push {n : Int} {r a : Nat → Int} {y z : Int} (hn : 0 ≤ n) : APe n r a (wr r n y) (wr a n z) := fun j hj => ⟨wr_ne (by omega), wr_ne (by omega)⟩
theorem APe_trans {n m : Int} {r a r' a' r2 a2 : Nat → Int} (h1 : APe n r a r' a') (h2 : APe m r' a' r2 a2) (h : n ≤ m) : APe n r a r2 a2 := fun j hj => by
  obtain ⟨x1, x2⟩ := h1 j hj
  obtain ⟨y1, y2⟩ := h2 j (by omega)
  exact ⟨y1.trans x1, y2.trans x2⟩
theorem APe_tr {n m : Int} {r a r' a' r2 a2 : Nat → Int} (h2 : APe m r' a' r2 a2) (h1 : APe n r a r' a') (h : n ≤ m) : APe n r a r2 a2 := APe_trans h1 h2 h
