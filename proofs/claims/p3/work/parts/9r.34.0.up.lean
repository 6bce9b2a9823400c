/-! a function that is changed twice at the same places -/
def subk {α : Type} (r l : List (Nat × α)) : Bool := r.all (fun q => l.any (fun p => Nat.beq p.1 q.1))
def mp {α : Type} (l r : List (Nat × α)) : List (Nat × α) := l.map (fun p => (p.1, lk r p.1 p.2))
theorem lk_no {α : Type} (l : List (Nat × α)) (j : Nat) (d : α) (h : ∀ p ∈ l, p.1 ≠ j) : lk l j d = d := by
  induction l with
  | nil => rfl
  | cons q l ih =>
    obtain ⟨k, v⟩ := q
    simp only [lk]
    cases e : Nat.beq j k with
    | true => exact absurd (Nat.eq_of_beq_eq_true e).symm (h (k, v) List.mem_cons_self)
    | false => exact ih (fun p hp => h p (List.mem_cons_of_mem _ hp))
theorem lk_mp {α : Type} (l r : List (Nat × α)) (j : Nat) (d : α) (h : ∃ p ∈ l, p.1 = j) : lk (mp l r) j d = lk r j (lk l j d) := by
  induction l with
  | nil => obtain ⟨p, hp, -⟩ := h; cases hp
  | cons q l ih =>
    obtain ⟨k, v⟩ := q
    show cond (Nat.beq j k) (lk r k v) (lk (mp l r) j d) = lk r j (cond (Nat.beq j k) v (lk l j d))
    cases e : Nat.beq j k with
    | true => have := Nat.eq_of_beq_eq_true e; subst this; rfl
    | false =>
      refine ih ?_
      obtain ⟨p, hp, hj⟩ := h
      rcases List.mem_cons.mp hp with h1 | h1
      · subst h1
        have hj' : k = j := hj
        rw [hj', Nat.beq_refl] at e; cases e
      · exact ⟨p, h1, hj⟩
theorem up_mp {α : Type} (f : Nat → α) (l r : List (Nat × α)) (h : subk r l = true) : up (up f l) r = up f (mp l r) := by
  funext j
  show lk r j (lk l j (f j)) = lk (mp l r) j (f j)
  by_cases hj : ∃ p ∈ l, p.1 = j
  · exact (lk_mp l r j (f j) hj).symm
  · have hn : ∀ p ∈ l, p.1 ≠ j := fun p hp e => hj ⟨p, hp, e⟩
    rw [lk_no l j _ hn, lk_no r j, lk_no (mp l r) j]
    · intro p hp
      obtain ⟨q, hq, e⟩ := List.mem_map.mp hp
      rw [← e]; exact hn q hq
    · intro p hp e
      have h1 := List.all_eq_true.mp h p hp
      obtain ⟨q, hq, e2⟩ := List.any_eq_true.mp h1
      exact hn q hq ((Nat.eq_of_beq_eq_true e2).trans e)
section MU
variable {D : va_G} {dA : Nat → ClassId} {h0 : Nat} {ad : Nat → Nat} {A0 : Nat → Prop} {H0 H : Heap} {locs : List Loc} {f : Nat → Int} {g : Nat → Int64} {A : Nat → Nat → Int} {L : Nat → Nat → Int64}
theorem MW_uF {l r : List (Nat × Int)} (hM : MWd D dA h0 ad A0 H0 (up (up f l) r, g, A, L) H locs) (h : subk r l = true) : MWd D dA h0 ad A0 H0 (up f (mp l r), g, A, L) H locs := by rw [← up_mp f l r h]; exact hM
theorem MW_uG {l r : List (Nat × Int64)} (hM : MWd D dA h0 ad A0 H0 (f, up (up g l) r, A, L) H locs) (h : subk r l = true) : MWd D dA h0 ad A0 H0 (f, up g (mp l r), A, L) H locs := by rw [← up_mp g l r h]; exact hM
theorem MW_uA {l r : List (Nat × (Nat → Int))} (hM : MWd D dA h0 ad A0 H0 (f, g, up (up A l) r, L) H locs) (h : subk r l = true) : MWd D dA h0 ad A0 H0 (f, g, up A (mp l r), L) H locs := by rw [← up_mp A l r h]; exact hM
theorem MW_uL {l r : List (Nat × (Nat → Int64))} (hM : MWd D dA h0 ad A0 H0 (f, g, A, up (up L l) r) H locs) (h : subk r l = true) : MWd D dA h0 ad A0 H0 (f, g, A, up L (mp l r)) H locs := by rw [← up_mp L l r h]; exact hM
end MU
