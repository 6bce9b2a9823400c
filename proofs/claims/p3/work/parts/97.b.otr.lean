/-! lists of rules that stay -/
def OTR (T : Nat → Nat) (I : Nat → Nat → Int) (R : Nat → Nat → Nat) (I1 : Nat → Nat → Int) (R1 : Nat → Nat → Nat) (a : Nat) : Prop := ∀ b, T b = 15 → b ≠ a → I1 b 2 = I b 2 ∧ R1 b 1 = R b 1 ∧ ∀ i : Nat, (i : Int) < I b 2 → R1 (R b 1 - 1) i = R (R b 1 - 1) i
section OTR
variable {m m2 ex ex2 : List Nat} {T N T1 N1 T2 N2 : Nat → Nat} {I I1 I2 : Nat → Nat → Int} {J J1 J2 : Nat → Nat → Int64} {R R1 R2 : Nat → Nat → Nat} {a b k t q l g f n : Nat} {v : Int}
theorem OTR.rf : OTR T I R I R a := fun _ _ _ => ⟨rfl, rfl, fun _ _ => rfl⟩
theorem OTR.ch {t2 : Nat} {a2 : Nat} (h : OTR T I R I1 R1 a) (hg : T a = t2) (hne : t2 ≠ 15) : OTR T I R I1 R1 a2 := fun b hb _ => h b hb (tne hb hg (fun e => hne e.symm))
theorem rowX (hC : CT T N I R) (hX : XI T N I R) (hT : T b = 15) {i : Nat} (hi : (i : Int) < I b 2) : T (R b 1 - 1) = 50 := by
  obtain ⟨c, ec, tc, hn⟩ := edX hC hX (a := b) (by omega) (by omega) (by omega)
  rw [ec, Nat.add_sub_cancel]; omega
theorem OTR.step (h : OTR T I R I1 R1 a) (hC : CT T N I R) (hX : XI T N I R) (hF : Fr m [] T N I J R T1 N1 I1 J1 R1) (hc : Fr m2 ex2 T1 N1 I1 J1 R1 T2 N2 I2 J2 R2) (hx : ∀ b, T1 b = 15 ∨ T1 b = 50 → b ∉ ex2) (hm : [482, 481, 1600].all (fun x => !m2.contains x) = true) : OTR T I R I2 R2 a := fun b hb hl => by
  have hm' := List.all_eq_true.mp hm
  have no : ∀ x ∈ ([482, 481, 1600] : List Nat), m2.contains x = false := fun x hxx => by
    have := hm' x hxx
    simpa using this
  obtain ⟨q1, q2, q3⟩ := h b hb hl
  have t1 := hF.tt hb (by decide) nm0
  refine ⟨?_, ?_, fun i hi => ?_⟩
  · rw [hc.i (k := 2) t1 (by decide) (hx b (Or.inl t1)) (no 482 (by simp))]; exact q1
  · rw [hc.r (k := 1) t1 (by decide) (hx b (Or.inl t1)) (no 481 (by simp))]; exact q2
  · have t2 := hF.tt (rowX hC hX hb hi) (by decide) nm0
    rw [hc.r (k := i) t2 (by decide) (hx _ (Or.inr t2)) (by rw [cd_arr (j := 0) (by decide)]; exact no 1600 (by simp))]
    exact q3 i hi
theorem OTR.wi (h : OTR T I R I1 R1 a) (hF : Fr m [] T N I J R T1 N1 I1 J1 R1) (hu : I2 = w2 I1 q k v) (tq : T1 q = t) (ht : t ≠ 15) : OTR T I R I2 R1 a := fun b hb hl => by
  obtain ⟨q1, q2, q3⟩ := h b hb hl
  exact ⟨(w2_ne hu (Or.inl (tne (hF.tt hb (by decide) nm0) tq (fun e => ht e.symm)))).trans q1, q2, q3⟩
theorem OTR.wr {u : Nat} (h : OTR T I R I1 R1 a) (hC : CT T N I R) (hX : XI T N I R) (hF : Fr m [] T N I J R T1 N1 I1 J1 R1) (hu : R2 = w2 R1 q k u) (tq : T1 q = t) (ht : t ≠ 15) (ht2 : t ≠ 50) : OTR T I R I1 R2 a := fun b hb hl => by
  obtain ⟨q1, q2, q3⟩ := h b hb hl
  refine ⟨q1, (w2_ne hu (Or.inl (tne (hF.tt hb (by decide) nm0) tq (fun e => ht e.symm)))).trans q2, fun i hi => ?_⟩
  rw [w2_ne hu (Or.inl (tne (hF.tt (rowX hC hX hb hi) (by decide) nm0) tq (fun e => ht2 e.symm)))]
  exact q3 i hi
theorem OTR.ad (h : OTR T I R I1 R1 a) (hF : Fr m [] T N I J R T1 N1 I1 J1 R1) (h4 : ∀ b, T1 b = 15 → b ≠ a → I2 b 2 = I1 b 2) (h8 : ROT 15 T1 I1 R1 R2 a) : OTR T I R I2 R2 a := fun b hb hl => by
  obtain ⟨q1, q2, q3⟩ := h b hb hl
  have t1 := hF.tt hb (by decide) nm0
  obtain ⟨r1, r2⟩ := h8 b t1 hl
  refine ⟨(h4 b t1 hl).trans q1, r1.trans q2, fun i hi => ?_⟩
  have r3 := r2 i (by rw [q1]; exact hi)
  rw [q2] at r3
  rw [r3]
  exact q3 i hi
theorem OTR.trans (h : OTR T I R I1 R1 a) (hF : Fr m [] T N I J R T1 N1 I1 J1 R1) (h2 : OTR T1 I1 R1 I2 R2 a) : OTR T I R I2 R2 a := fun b hb hl => by
  obtain ⟨q1, q2, q3⟩ := h b hb hl
  obtain ⟨r1, r2, r3⟩ := h2 b (hF.tt hb (by decide) nm0) hl
  refine ⟨r1.trans q1, r2.trans q2, fun i hi => ?_⟩
  have r4 := r3 i (by rw [q1]; exact hi)
  rw [q2] at r4
  rw [r4]
  exact q3 i hi
theorem FLq.otr (h : FLq I R g f) (hC : CT T N I R) (hX : XI T N I R) (tg : T g = 15) (tf : T f = 16) (ho : OTR T I R I1 R1 a) (hga : g ≠ a) (hF : Fr m [] T N I J R T1 N1 I1 J1 R1) (hm : [514, 261].all (fun x => !m.contains x) = true) : FLq I1 R1 g f := by
  have hm' := List.all_eq_true.mp hm
  have no : ∀ x ∈ ([514, 261] : List Nat), m.contains x = false := fun x hxx => by
    have := hm' x hxx
    simpa using this
  obtain ⟨q1, q2, q3⟩ := ho g tg hga
  unfold FLq
  have h0 := (g15_2 hC tg).1
  rw [q1, hF.i (k := 2) tf (by decide) nm0 (no 514 (by simp)), fcn_cg (I := I) (R := R) (fun i hi => ⟨?_, ?_⟩)]
  · exact h
  · rw [q2]; exact q3 i (by omega)
  · obtain ⟨c, ec, tc⟩ := ruX hC hX tg (i := i) (by omega)
    rw [ec, Nat.add_sub_cancel]
    exact hF.i (k := 5) tc (by decide) nm0 (no 261 (by simp))
/-- nothing of the kinds changes by one write -/
theorem spn_cg (h1 : I1 g 2 = I g 2) (h : ∀ i : Nat, (i : Int) < I g 2 → R1 (R1 g 1 - 1) i = R (R g 1 - 1) i ∧ I1 (R1 (R (R g 1 - 1) i - 1) 3 - 1) 2 = I (R (R (R g 1 - 1) i - 1) 3 - 1) 2 ∧ I1 (R (R g 1 - 1) i - 1) 4 = I (R (R g 1 - 1) i - 1) 4) : spn I1 R1 g (I1 g 2).toNat = spn I R g (I g 2).toNat := by
  rw [h1]
  have key : ∀ n : Nat, (n : Int) ≤ I g 2 → spn I1 R1 g n = spn I R g n := by
    intro n
    induction n with
    | zero => intro _; rfl
    | succ n ih =>
      intro hn
      obtain ⟨a1, a2, a3⟩ := h n (by omega)
      rw [spn_succ, spn_succ, a1, a2, a3, ih (by omega)]
  rcases Int.lt_or_le (I g 2) 0 with z | z
  · have e : (I g 2).toNat = 0 := by omega
    rw [e]; rfl
  · exact key _ (by omega)
theorem spn_wi (hC : CT T N I R) (hX : XI T N I R) (tg : T g = 18) (hu : I1 = w2 I q k v) (tq : T q = t) (h1 : t ≠ 18) (h2 : t ≠ 19) (h3 : t ≠ 11) : spn I1 R g (I1 g 2).toNat = spn I R g (I g 2).toNat := by
  refine spn_cg (w2_ne hu (Or.inl (tne tg tq (fun e => h1 e.symm)))) (fun i hi => ?_)
  obtain ⟨c, ec, tc⟩ := kdX hC hX tg hi
  obtain ⟨ml, em, tm⟩ := g11_3 hC tc
  rw [ec, Nat.add_sub_cancel, em, Nat.add_sub_cancel]
  exact ⟨rfl, w2_ne hu (Or.inl (tne tm tq (fun e => h2 e.symm))), w2_ne hu (Or.inl (tne tc tq (fun e => h3 e.symm)))⟩
theorem spn_wr {u : Nat} (hC : CT T N I R) (hX : XI T N I R) (tg : T g = 18) (hu : R1 = w2 R q k u) (tq : T q = t) (h1 : t ≠ 18) (h2 : t ≠ 53) (h3 : t ≠ 11) : spn I R1 g (I g 2).toNat = spn I R g (I g 2).toNat := by
  refine spn_cg rfl (fun i hi => ?_)
  obtain ⟨b, eb, tb, hn⟩ := edX hC hX (a := g) (by omega) (by omega) (by omega)
  rw [tg] at tb
  obtain ⟨c, ec, tc⟩ := kdX hC hX tg hi
  rw [ec, Nat.add_sub_cancel, w2_ne hu (Or.inl (tne tg tq (fun e => h1 e.symm))), eb, Nat.add_sub_cancel, w2_ne hu (Or.inl (tne tb tq (fun e => h2 e.symm))), w2_ne hu (Or.inl (tne tc tq (fun e => h3 e.symm)))]
  rw [eb, Nat.add_sub_cancel] at ec
  exact ⟨ec, rfl, rfl⟩
end OTR
