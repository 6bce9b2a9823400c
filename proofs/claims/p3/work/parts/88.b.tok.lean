/-! the tokens: what is read of the tape, what is written of the sorts -/
def TKo (I I' : Nat → Nat → Int) (s : Nat) (at_ : Int) : Prop := ∀ j : Nat, (j : Int) ≠ at_ → I' s j = I s j
def TKb (I : Nat → Nat → Int) (b : Nat) (lo hi : Int) : Prop := ∀ j : Nat, lo ≤ (j : Int) → (j : Int) < hi → 0 ≤ I b j
def TKn (I : Nat → Nat → Int) (s : Nat) (hi : Int) : Prop := ∀ j : Nat, (j : Int) < hi → I s j ≠ 0 ∧ I s j ≠ 1
section TKS
variable {I I1 I2 : Nat → Nat → Int} {s b : Nat} {z at_ lo hi v : Int}
theorem TKo.rf : TKo I I s at_ := fun _ _ => rfl
theorem TKo.wr (hu : I2 = w2 I1 s z.toNat v) (h : TKo I I1 s at_) (hz : z = at_) (h0 : 0 ≤ at_) : TKo I I2 s at_ := fun j hj => by
  rw [w2_ne hu (Or.inr (by omega))]; exact h j hj
theorem TKo.ot (h : TKo I I1 s at_) (hu : I2 s = I1 s) : TKo I I2 s at_ := fun j hj => by rw [hu]; exact h j hj
theorem TKb.nil (h : hi ≤ lo) : TKb I b lo hi := fun j h1 h2 => by omega
theorem TKb.add (h : TKb I b lo z) (e : hi = z + 1) (h0 : 0 ≤ z) (hb : 0 ≤ I b z.toNat) : TKb I b lo hi := fun j h1 h2 => by
  by_cases e : j = z.toNat
  · rw [e]; exact hb
  · exact h j h1 (by omega)
theorem TKb.to (h : TKb I b lo z) (e : hi ≤ z) : TKb I b lo hi := fun j h1 h2 => h j h1 (by omega)
theorem TKb.app (h : TKb I b lo z) (h' : TKb I b z hi) : TKb I b lo hi := fun j h1 h2 => by
  by_cases e : (j : Int) < z
  · exact h j h1 e
  · exact h' j (by omega) h2
theorem TKb.cg (h : TKb I b lo hi) (e : I1 b = I b) : TKb I1 b lo hi := fun j h1 h2 => by rw [e]; exact h j h1 h2
theorem TKn.nil (h : hi ≤ 0) : TKn I s hi := fun j h2 => by omega
theorem TKn.add (h : TKn I s z) (ho : TKo I I1 s z) (h0 : 0 ≤ z) (hv : I1 s z.toNat ≠ 0 ∧ I1 s z.toNat ≠ 1) (e : hi = z + 1) : TKn I1 s hi := fun j h2 => by
  by_cases e : j = z.toNat
  · rw [e]; exact hv
  · rw [ho j (by omega)]; exact h j (by omega)
theorem TKn.kp (h : TKn I s hi) (ho : TKo I I1 s z) (hz : hi ≤ z) : TKn I1 s hi := fun j h2 => by rw [ho j (by omega)]; exact h j h2
end TKS
