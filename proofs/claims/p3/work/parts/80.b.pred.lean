section PR
variable {m ex : List Nat} {T N T1 N1 : Nat → Nat} {I I1 : Nat → Nat → Int} {J J1 : Nat → Nat → Int64} {R R1 : Nat → Nat → Nat} {c : Nat}
/-- every visit's paper is there -/
def VP (I : Nat → Nat → Int) (R : Nat → Nat → Nat) (c : Nat) : Prop := ∀ i : Nat, (i : Int) < I c 19 → I (R c 13 - 1) i < I (R c 5 - 1) 2
theorem VP.at {vp pl : Nat} (h : VP I R c) (e1 : R c 13 = vp + 1) (e2 : R c 5 = pl + 1) {i : Int} (h0 : 0 ≤ i) (h1 : i < I c 19) : I vp i.toNat < I pl 2 := by
  have := h i.toNat (by omega)
  rw [e1, e2, Nat.add_sub_cancel, Nat.add_sub_cancel] at this
  exact this
theorem VP.of {vp pl : Nat} (e1 : R c 13 = vp + 1) (e2 : R c 5 = pl + 1) (h : ∀ i : Nat, (i : Int) < I c 19 → I vp i < I pl 2) : VP I R c := by
  intro i hi
  rw [e1, e2, Nat.add_sub_cancel, Nat.add_sub_cancel]
  exact h i hi
theorem VP.fr (hC : CT T N I R) (h : VP I R c) (hT : T c = 5) (hF : Fr m ex T N I J R T1 N1 I1 J1 R1) (hx : ∀ b, T b = 5 ∨ T b = 90 ∨ T b = 22 → b ∉ ex) (hm : [179, 173, 165, 2880, 706].all (fun x => !m.contains x) = true) : VP I1 R1 c := by
  have hm' := List.all_eq_true.mp hm
  have no : ∀ x ∈ ([179, 173, 165, 2880, 706] : List Nat), m.contains x = false := fun x hxx => by
    have := hm' x hxx
    simpa using this
  obtain ⟨vp, e1, t1⟩ := g5_13 hC hT
  obtain ⟨pl, e2, t2⟩ := g5_5 hC hT
  have nc := hx c (Or.inl hT)
  refine VP.of (vp := vp) (pl := pl) ((hF.r (k := 13) hT (by decide) nc (no 173 (by simp))).trans e1) ((hF.r (k := 5) hT (by decide) nc (no 165 (by simp))).trans e2) (fun i hi => ?_)
  rw [hF.i (k := 19) hT (by decide) nc (no 179 (by simp))] at hi
  rw [hF.i (k := i) t1 (by decide) (hx vp (Or.inr (Or.inl t1))) (by rw [cd_arr (j := 0) (by decide)]; exact no 2880 (by simp)), hF.i (k := 2) t2 (by decide) (hx pl (Or.inr (Or.inr t2))) (no 706 (by simp))]
  have := h i hi
  rw [e1, e2, Nat.add_sub_cancel, Nat.add_sub_cancel] at this
  exact this
end PR
