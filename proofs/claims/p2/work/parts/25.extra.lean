theorem and255 (x : Int) : II x &&& II 255 = II (x % 256) := by
  apply Int32.toBitVec_inj.mp
  rw [Int32.toBitVec_and]
  apply BitVec.eq_of_toNat_eq
  rw [BitVec.toNat_and]
  have e1 : ∀ z : Int, (II z).toBitVec.toNat = (z % 4294967296).toNat := by
    intro z
    show (BitVec.ofInt 32 z).toNat = _
    rw [BitVec.toNat_ofInt]
    rfl
  rw [e1, e1, e1]
  rw [show ((255 : Int) % 4294967296).toNat = 2 ^ 8 - 1 from rfl, Nat.and_two_pow_sub_one_eq_mod]
  omega
/-- the byte of a text at a place, 0 behind its end -/
def sgn (t : Nat → Int) (b z k : Int) : Int := if k < z then t (3000 * b + k).toNat % 256 else 0
theorem sgn_lt {t : Nat → Int} {b z k : Int} (h : k < z) : sgn t b z k = t (3000 * b + k).toNat % 256 := if_pos h
theorem sgn_ge {t : Nat → Int} {b z k : Int} (h : z ≤ k) : sgn t b z k = 0 := if_neg (by omega)
section MX
variable {p : Program} {l : Launch} {e : Env} {R : Room} {s : State} {m : MethodId} {args : Array Value} {below : List Frame} {meth : Method} {c : Code} {H : Heap} {locs : List Loc} {cells slots : Nat} {Q : State → Prop}
variable {cc : ByteArray} {pc : Nat} {ls : Array Slot} {rest : List Value}
variable {D : va_G} {dA : Nat → ClassId} {own : String} {nL : Nat} {ret : Option FieldType}
theorem q_and255 (B : Cx D dA p s m args meth c cc own nL ret) {x : Int} (hdg : decode cc pc = .ok (.iand, 1)) (k : W p l e R s m args below meth c H locs cells slots Q (F0 m (pc + 1) ls (.int (II (x % 256)) :: rest))) : W p l e R s m args below meth c H locs cells slots Q (F0 m pc ls (.int (II 255) :: .int (II x) :: rest)) := lv_iand B.1 B.2.1 hdg (by rw [and255]; exact k)
/-- a number that may have gone round -/
theorem q_wrap {x : Int} (k : ∀ z : Int, (-2147483648 : Int) ≤ z ∧ z ≤ 2147483647 → W p l e R s m args below meth c H locs cells slots Q (F0 m pc ls (.int (II z) :: rest))) : W p l e R s m args below meth c H locs cells slots Q (F0 m pc ls (.int (II x) :: rest)) := q_any (fun z hz _ => k z hz)
end MX
theorem wr_at {α : Type} (a : Nat → α) (z : Int) (v : α) : wr a z v z.toNat = v := if_pos rfl
theorem wr_ne {α : Type} {a : Nat → α} {z : Int} {v : α} {j : Nat} (h : j ≠ z.toNat) : wr a z v j = a j := if_neg h
/-- the table of names: a group's number is 7 at most -/
def NIp (n b : Int) (s m : Nat → Int) : Prop := ∀ j : Nat, 64 * b ≤ (j : Int) → (j : Int) < 64 * b + n → s j = 1 → m j ≤ 7
theorem NIp_push {n b : Int} {s m : Nat → Int} {x y : Int} (h : NIp n b s m) (hb : 0 ≤ b) (hn : 0 ≤ n) (hxy : x = 1 → y ≤ 7) : NIp (n + 1) b (wr s (64 * b + n) x) (wr m (64 * b + n) y) := by
  intro j h1 h2 h3
  by_cases e : j = (64 * b + n).toNat
  · subst e
    rw [wr_at] at h3 ⊢
    exact hxy h3
  · rw [wr_ne e] at h3 ⊢
    exact h j h1 (by omega) h3
/-- the names that are asked for: where what they name is put -/
def AIp (n : Int) (s r a : Nat → Int) : Prop := ∀ j : Nat, (j : Int) < n → (r j = 0 → a j < 18 ∧ s j = 1) ∧ (r j = 1 → a j < 96 ∧ s j = 1) ∧ (r j = 3 → a j < 400) ∧ (r j = 4 → s j = 1)
theorem AIp_push {n : Int} {s r a : Nat → Int} {x y z : Int} (h : AIp n s r a) (hn : 0 ≤ n) (hx : (y = 0 → z < 18 ∧ x = 1) ∧ (y = 1 → z < 96 ∧ x = 1) ∧ (y = 3 → z < 400) ∧ (y = 4 → x = 1)) : AIp (n + 1) (wr s n x) (wr r n y) (wr a n z) := by
  intro j hj
  by_cases e : j = n.toNat
  · subst e
    rw [wr_at, wr_at, wr_at]
    exact hx
  · rw [wr_ne e, wr_ne e, wr_ne e]
    exact h j (by omega)
def APe (n : Int) (r a r' a' : Nat → Int) : Prop := ∀ j : Nat, (j : Int) < n → r' j = r j ∧ a' j = a j
theorem APe_rfl {n : Int} {r a : Nat → Int} : APe n r a r a := fun _ _ => ⟨rfl, rfl⟩
theorem APe_push {n : Int} {r a : Nat → Int} {y z : Int} (hn : 0 ≤ n) : APe n r a (wr r n y) (wr a n z) := fun j hj => ⟨wr_ne (by omega), wr_ne (by omega)⟩
theorem APe_trans {n m : Int} {r a r' a' r2 a2 : Nat → Int} (h1 : APe n r a r' a') (h2 : APe m r' a' r2 a2) (h : n ≤ m) : APe n r a r2 a2 := fun j hj => by
  obtain ⟨x1, x2⟩ := h1 j hj
  obtain ⟨y1, y2⟩ := h2 j (by omega)
  exact ⟨y1.trans x1, y2.trans x2⟩
