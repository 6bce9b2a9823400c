/-! what holds of the desk between calls -/
def DI (T : Nat → Nat) (I : Nat → Nat → Int) (R : Nat → Nat → Nat) (d : Nat) : Prop := ∃ c b pl ru fa fl, (R d 3 = c + 1 ∧ T c = 5) ∧ (R d 6 = b + 1 ∧ T b = 6) ∧ (R d 4 = pl + 1 ∧ T pl = 22) ∧ R c 5 = pl + 1 ∧ R c 4 = b + 1 ∧ (R b 0 = ru + 1 ∧ T ru = 15) ∧ (R b 1 = fa + 1 ∧ T fa = 16) ∧ (R c 6 = fl + 1 ∧ T fl = 23) ∧ FLq I R ru fa ∧ FUg I R c fl
section DIS
variable {m : List Nat} {T N T1 N1 : Nat → Nat} {I I1 : Nat → Nat → Int} {J J1 : Nat → Nat → Int64} {R R1 : Nat → Nat → Nat} {d c b pl ru fa fl : Nat}
theorem DI.up (td : T d = 2) (h1 : R d 3 = c + 1) (tc : T c = 5) (h2 : R d 6 = b + 1) (tb : T b = 6) (h3 : R d 4 = pl + 1) (tp : T pl = 22) (h4 : R c 5 = pl + 1) (h5 : R c 4 = b + 1) (h6 : R b 0 = ru + 1) (tr : T ru = 15) (h7 : R b 1 = fa + 1) (tf : T fa = 16) (h8 : R c 6 = fl + 1) (tl : T fl = 23) (hF : Fr m [] T N I J R T1 N1 I1 J1 R1) (hm : [67, 70, 68, 165, 164, 192, 193, 166].all (fun x => !m.contains x) = true) (f1 : FLq I1 R1 ru fa) (f2 : FUg I1 R1 c fl) : DI T1 I1 R1 d := by
  have hm' := List.all_eq_true.mp hm
  have no : ∀ x ∈ ([67, 70, 68, 165, 164, 192, 193, 166] : List Nat), m.contains x = false := fun x hxx => by
    have := hm' x hxx
    simpa using this
  exact ⟨c, b, pl, ru, fa, fl, ⟨(hF.r (k := 3) td (by decide) nm0 (no 67 (by simp))).trans h1, hF.tt tc (by decide) nm0⟩, ⟨(hF.r (k := 6) td (by decide) nm0 (no 70 (by simp))).trans h2, hF.tt tb (by decide) nm0⟩, ⟨(hF.r (k := 4) td (by decide) nm0 (no 68 (by simp))).trans h3, hF.tt tp (by decide) nm0⟩, (hF.r (k := 5) tc (by decide) nm0 (no 165 (by simp))).trans h4, (hF.r (k := 4) tc (by decide) nm0 (no 164 (by simp))).trans h5, ⟨(hF.r (k := 0) tb (by decide) nm0 (no 192 (by simp))).trans h6, hF.tt tr (by decide) nm0⟩, ⟨(hF.r (k := 1) tb (by decide) nm0 (no 193 (by simp))).trans h7, hF.tt tf (by decide) nm0⟩, ⟨(hF.r (k := 6) tc (by decide) nm0 (no 166 (by simp))).trans h8, hF.tt tl (by decide) nm0⟩, f1, f2⟩
theorem DI.fr (h : DI T I R d) (hC : CT T N I R) (hX : XI T N I R) (td : T d = 2) (hF : Fr m [] T N I J R T1 N1 I1 J1 R1) (h0 : [67, 70, 68, 165, 164, 192, 193, 166].all (fun x => !m.contains x) = true) (h1 : [482, 514, 481, 1600, 261].all (fun x => !m.contains x) = true) (h2 : [160, 738, 737, 1856, 416].all (fun x => !m.contains x) = true) : DI T1 I1 R1 d := by
  obtain ⟨c, b, pl, ru, fa, fl, a1, a2, a3, a4, a5, a6, a7, a8, a9, a10⟩ := h
  exact DI.up td a1.1 a1.2 a2.1 a2.2 a3.1 a3.2 a4 a5 a6.1 a6.2 a7.1 a7.2 a8.1 a8.2 hF h0 (a9.fr hC hX a6.2 a7.2 hF (fun _ _ => nm0) h1) (a10.fr hC hX a1.2 a8.2 hF (fun _ _ => nm0) h2)
end DIS
