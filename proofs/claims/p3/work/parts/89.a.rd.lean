/-! the reader: the sorts end at n -/
def TKz (S : Nat → Int) (n : Int) : Prop := 0 ≤ n ∧ n ≤ 3000 ∧ (S n.toNat = 0 ∨ S n.toNat = 1) ∧ ∀ j : Nat, (j : Int) < n → S j ≠ 0 ∧ S j ≠ 1
theorem TKz.lt {S : Nat → Int} {n k : Int} (h : TKz S n) (h1 : S k.toNat ≠ 0) (h2 : S k.toNat ≠ 1) (h3 : k ≤ n) : k < n := by
  by_cases e : k = n
  · subst e; rcases h.2.2.1 with q | q <;> contradiction
  · omega
theorem TKz.end {S : Nat → Int} {n k : Int} (h : TKz S n) (h1 : S k.toNat = 0 ∨ S k.toNat = 1) (h0 : 0 ≤ k) (h3 : k ≤ n) : k = n := by
  by_cases e : k = n
  · exact e
  · have := h.2.2.2 k.toNat (by omega)
    rcases h1 with q | q
    · exact absurd q this.1
    · exact absurd q this.2
theorem Fr.irow {m ex : List Nat} {T N T1 N1 : Nat → Nat} {I I1 : Nat → Nat → Int} {J J1 : Nat → Nat → Int64} {R R1 : Nat → Nat → Nat} {b t : Nat} (h : Fr m ex T N I J R T1 N1 I1 J1 R1) (hT : T b = t) (ht : 50 ≤ t) (hb : b ∉ ex) (hm : m.contains (cd t 0) = false) : I1 b = I b := by
  funext k
  exact h.i hT (by omega) hb (by rw [cd_arr (j := 0) ht]; exact hm)
