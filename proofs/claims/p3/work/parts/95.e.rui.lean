theorem rui_fr {m : List Nat} {T N T1 N1 : Nat → Nat} {I I1 : Nat → Nat → Int} {J J1 : Nat → Nat → Int64} {R R1 : Nat → Nat → Nat} {g : Nat} (hC : CT T N I R) (hX : XI T N I R) (hT : T g = 15) (hF : Fr m [] T N I J R T1 N1 I1 J1 R1) (hm : [481, 1600].all (fun x => !m.contains x) = true) {i : Nat} (hi : (i : Int) < I g 2) : R1 (R1 g 1 - 1) i = R (R g 1 - 1) i := by
  have hm' := List.all_eq_true.mp hm
  have no : ∀ x ∈ ([481, 1600] : List Nat), m.contains x = false := fun x hxx => by
    have := hm' x hxx
    simpa using this
  obtain ⟨b, eb, tb, hn⟩ := edX hC hX (a := g) (by omega) (by omega) (by omega)
  rw [hT] at tb
  rw [hF.r (k := 1) hT (by decide) nm0 (no 481 (by simp)), eb, Nat.add_sub_cancel]
  exact hF.r (k := i) tb (by decide) nm0 (by rw [cd_arr (j := 0) (by decide)]; exact no 1600 (by simp))
