def TKs (I : Nat → Nat → Int) (s b : Nat) (len : Int) : Prop := ∃ n : Int, TKz (I s) n ∧ n ≤ len ∧ (I s n.toNat = 0 → TKb I b 0 len)
section SCN
variable {I I1 I2 : Nat → Nat → Int} {s b : Nat} {n v len hi : Int}
theorem TKn.cg (h : TKn I s hi) (e : I1 s = I s) : TKn I1 s hi := fun j h2 => by rw [e]; exact h j h2
theorem TKs.mk (hn : TKn I1 s n) (hu : I2 = w2 I1 s n.toNat v) (hv : v = 0 ∨ v = 1) (h0 : 0 ≤ n) (h3 : n ≤ 3000) (hl : n ≤ len) (hb : v = 0 → TKb I2 b 0 len) : TKs I2 s b len := by
  have e : I2 s n.toNat = v := w2_at hu
  refine ⟨n, ⟨h0, h3, by rw [e]; exact hv, fun j hj => ?_⟩, hl, fun q => hb (e.symm.trans q)⟩
  rw [w2_ne hu (Or.inr (by omega))]
  exact hn j hj
end SCN
