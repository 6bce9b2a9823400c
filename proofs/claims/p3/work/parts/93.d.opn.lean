section OPE
variable {m m2 ex ex2 : List Nat} {T N T1 N1 T2 N2 : Nat → Nat} {I I1 I2 : Nat → Nat → Int} {J J1 J2 : Nat → Nat → Int64} {R R1 R2 : Nat → Nat → Nat} {a b k t q l g n : Nat}
theorem kdi_fr2 (hC : CT T N I R) (hX : XI T N I R) (hT : T g = 18) (hF : Fr m [] T N I J R T1 N1 I1 J1 R1) (hm : [577, 1696].all (fun x => !m.contains x) = true) {i : Nat} (hi : (i : Int) < I g 2) : R1 (R1 g 1 - 1) i = R (R g 1 - 1) i := by
  have hm' := List.all_eq_true.mp hm
  have no : ∀ x ∈ ([577, 1696] : List Nat), m.contains x = false := fun x hxx => by
    have := hm' x hxx
    simpa using this
  obtain ⟨b, eb, tb, hn⟩ := edX hC hX (a := g) (by omega) (by omega) (by omega)
  rw [hT] at tb
  rw [hF.r (k := 1) hT (by decide) nm0 (no 577 (by simp)), eb, Nat.add_sub_cancel]
  exact hF.r (k := i) tb (by decide) nm0 (by rw [cd_arr (j := 0) (by decide)]; exact no 1696 (by simp))
theorem kdT (hC : CT T N I R) (hX : XI T N I R) (hT : T g = 18) {i : Nat} (hi : (i : Int) < I g 2) (e : R (R g 1 - 1) i = b + 1) : T b = 11 := by
  obtain ⟨c, ec, tc⟩ := kdX hC hX hT hi
  have : b = c := by omega
  rw [this]; exact tc
theorem spn_at2 {kd ml : Nat} {z : Int} (hz : 0 ≤ z) (e1 : R (R g 1 - 1) z.toNat = kd + 1) (e2 : R kd 3 = ml + 1) : spn I R g (z + 1).toNat = spn I R g z.toNat + 1 + ((I ml 2 - I kd 4).toNat : Int) := by
  rw [show (z + 1).toNat = z.toNat + 1 from by omega]
  exact spn_at e1 e2
end OPE
