/-! ints as whole numbers -/
def II (z : Int) : Int32 := Int32.ofInt z
def inr (z : Int) : Prop := -2147483648 ≤ z ∧ z ≤ 2147483647
theorem II_toInt {z : Int} (h : inr z) : (II z).toInt = z := by
  unfold II; unfold inr at h
  exact Int32.toInt_ofInt_of_le (by omega) (by omega)
theorem toInt_inr (x : Int32) : inr x.toInt := by
  have h1 := Int32.le_toInt x
  have h2 := Int32.toInt_lt x
  unfold inr; omega
theorem II_of (x : Int32) : x = II x.toInt := (Int32.ofInt_toInt x).symm
theorem II_add (x y : Int) : II x + II y = II (x + y) := (Int32.ofInt_add x y).symm
theorem II_sub (x y : Int) : II x - II y = II (x - y) := (Int32.ofInt_sub x y).symm
theorem II_mul (x y : Int) : II x * II y = II (x * y) := (Int32.ofInt_mul x y).symm
theorem II_neg (x : Int) : - II x = II (- x) := (Int32.ofInt_neg x).symm
theorem II_lt {x y : Int} (hx : inr x) (hy : inr y) : II x < II y ↔ x < y := by
  rw [Int32.lt_iff_toInt_lt, II_toInt hx, II_toInt hy]
theorem II_le {x y : Int} (hx : inr x) (hy : inr y) : II x ≤ II y ↔ x ≤ y := by
  rw [Int32.le_iff_toInt_le, II_toInt hx, II_toInt hy]
theorem II_eq {x y : Int} (hx : inr x) (hy : inr y) : II x = II y ↔ x = y := by
  rw [← Int32.toInt_inj, II_toInt hx, II_toInt hy]
theorem II_clamp {z : Int} (h0 : 0 ≤ z) (h : inr z) : (II z).toNatClampNeg = z.toNat := by
  show (II z).toInt.toNat = z.toNat
  rw [II_toInt h]
theorem II_in {z : Int} {n : Nat} (h0 : 0 ≤ z) (h1 : z < n) (hn : n ≤ 2147483647) : vp_in (II z) n := by
  have hr : inr z := by unfold inr; omega
  have h00 : inr 0 := by unfold inr; omega
  unfold vp_in
  rw [II_clamp h0 hr]
  rintro (h | h)
  · have h' : II z < II 0 := h
    rw [II_lt hr h00] at h'
    omega
  · omega
theorem inr_lit {z : Int} (h : (decide (-2147483648 ≤ z) && decide (z ≤ 2147483647)) = true) : inr z := by
  simp at h; exact h
/-! functions that are changed at a few places -/
def lk {α : Type} : List (Nat × α) → Nat → α → α
  | [], _, d => d
  | (k, v) :: l, j, d => cond (Nat.beq j k) v (lk l j d)
def up {α : Type} (f : Nat → α) (l : List (Nat × α)) : Nat → α := fun j => lk l j (f j)
def ins {α : Type} : List (Nat × α) → Nat → α → List (Nat × α)
  | [], k, v => [(k, v)]
  | (k', v') :: l, k, v => cond (Nat.beq k k') ((k, v) :: l) ((k', v') :: ins l k v)
theorem lk_ins {α : Type} (l : List (Nat × α)) (k : Nat) (v : α) (j : Nat) (d : α) : lk (ins l k v) j d = cond (Nat.beq j k) v (lk l j d) := by
  induction l with
  | nil => rfl
  | cons q l ih =>
    obtain ⟨k', v'⟩ := q
    simp only [ins]
    cases h : Nat.beq k k' with
    | true =>
      have e := Nat.eq_of_beq_eq_true h
      subst e
      simp only [cond_true, lk]
      cases Nat.beq j k <;> rfl
    | false =>
      simp only [cond_false, lk, ih]
      cases h1 : Nat.beq j k' with
      | true =>
        have e := Nat.eq_of_beq_eq_true h1
        subst e
        cases h2 : Nat.beq j k with
        | true => have e2 := Nat.eq_of_beq_eq_true h2; subst e2; rw [h1] at h; cases h
        | false => rfl
      | false => rfl
theorem up_ins {α : Type} (f : Nat → α) (l : List (Nat × α)) (k : Nat) (v : α) : (fun j => cond (Nat.beq j k) v (up f l j)) = up f (ins l k v) := by
  funext j
  exact (lk_ins l k v j (f j)).symm
def insL {α : Type} (l : List (Nat × α)) : List (Nat × α) → List (Nat × α)
  | [] => l
  | (k, v) :: r => ins (insL l r) k v
theorem up_up {α : Type} (f : Nat → α) (l r : List (Nat × α)) : up (up f l) r = up f (insL l r) := by
  induction r with
  | nil => rfl
  | cons q r ih =>
    obtain ⟨k, v⟩ := q
    rw [insL, ← up_ins, ← ih]
    rfl
theorem up_nil {α : Type} (f : Nat → α) : up f [] = f := rfl
theorem up_pad {α : Type} (f : Nat → α) (l : List (Nat × α)) (k : Nat) {v : α} (h : up f l k = v) : up f l = up f (ins l k v) := by
  rw [← up_ins]
  funext j
  cases e : Nat.beq j k with
  | true => have e2 := Nat.eq_of_beq_eq_true e; subst e2; exact h
  | false => rfl
/-- one row of an array that is written at a place -/
def wr {α : Type} (a : Nat → α) (z : Int) (v : α) : Nat → α := fun j => if j = z.toNat then v else a j
