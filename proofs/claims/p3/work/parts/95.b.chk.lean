/-! what a check keeps -/
def VVg (I : Nat → Nat → Int) (c vp vf pl : Nat) : Prop := ∀ i : Nat, (i : Int) < I c 19 → I vp i < I pl 2 ∧ I vf i < I c 19
def FUg (I : Nat → Nat → Int) (R : Nat → Nat → Nat) (c fl : Nat) : Prop := ∀ i : Nat, (i : Int) < I c 0 → (i : Int) < I fl 2 → R (R (R fl 1 - 1) i - 1) 0 ≠ 0
section CHK
variable {m m2 ex ex2 : List Nat} {T N T1 N1 T2 N2 : Nat → Nat} {I I1 I2 : Nat → Nat → Int} {J J1 J2 : Nat → Nat → Int64} {R R1 R2 : Nat → Nat → Nat} {a b k t q r f g n c vp vf pl fl : Nat} {v : Int}
theorem VVg.at (h : VVg I c vp vf pl) {i : Int} (h0 : 0 ≤ i) (h1 : i < I c 19) : I vp i.toNat < I pl 2 ∧ I vf i.toNat < I c 19 := h i.toNat (by omega)
theorem VVg.zero (h : I c 19 = 0) : VVg I c vp vf pl := fun i hi => by omega
theorem VVg.w (h : VVg I c vp vf pl) (hu : I1 = w2 I a k v) (h1 : c ≠ a ∨ 19 ≠ k) (h2 : vp ≠ a) (h3 : vf ≠ a) (h4 : pl ≠ a ∨ 2 ≠ k) : VVg I1 c vp vf pl := fun i hi => by
  rw [w2_ne hu h1] at hi ⊢
  rw [w2_ne hu (Or.inl h2), w2_ne hu (Or.inl h3), w2_ne hu h4]
  exact h i hi
theorem VVg.fr (h : VVg I c vp vf pl) (tc : T c = 5) (t1 : T vp = 90) (t2 : T vf = 91) (t3 : T pl = 22) (hF : Fr m ex T N I J R T1 N1 I1 J1 R1) (hx : ∀ b, T b = 5 ∨ T b = 90 ∨ T b = 91 ∨ T b = 22 → b ∉ ex) (hm : [179, 2880, 2912, 706].all (fun x => !m.contains x) = true) : VVg I1 c vp vf pl := by
  have hm' := List.all_eq_true.mp hm
  have no : ∀ x ∈ ([179, 2880, 2912, 706] : List Nat), m.contains x = false := fun x hxx => by
    have := hm' x hxx
    simpa using this
  intro i hi
  rw [hF.i (k := 19) tc (by decide) (hx c (Or.inl tc)) (no 179 (by simp))] at hi ⊢
  rw [hF.i (k := i) t1 (by decide) (hx vp (Or.inr (Or.inl t1))) (by rw [cd_arr (j := 0) (by decide)]; exact no 2880 (by simp)), hF.i (k := i) t2 (by decide) (hx vf (Or.inr (Or.inr (Or.inl t2)))) (by rw [cd_arr (j := 0) (by decide)]; exact no 2912 (by simp)), hF.i (k := 2) t3 (by decide) (hx pl (Or.inr (Or.inr (Or.inr t3)))) (no 706 (by simp))]
  exact h i hi
/-- one visit more -/
theorem VVg.add (h : VVg I c vp vf pl) (h0 : 0 ≤ I c 19) (e : I1 c 19 = I c 19 + 1) (e1 : ∀ i : Nat, (i : Int) < I c 19 → I1 vp i = I vp i) (e2 : ∀ i : Nat, (i : Int) < I c 19 → I1 vf i = I vf i) (e3 : I1 pl 2 = I pl 2) (e4 : I1 vp (I c 19).toNat < I pl 2) (e5 : I1 vf (I c 19).toNat < I c 19 + 1) : VVg I1 c vp vf pl := fun i hi => by
  rw [e] at hi ⊢
  rw [e3]
  by_cases q : (i : Int) < I c 19
  · have := h i q
    rw [e1 i q, e2 i q]
    omega
  · have : i = (I c 19).toNat := by omega
    rw [this]
    exact ⟨e4, e5⟩
theorem FUg.zero (h : I c 0 = 0) : FUg I R c fl := fun i hi => by omega
theorem FUg.wi (h : FUg I R c fl) (hu : I1 = w2 I a k v) (h1 : c ≠ a ∨ 0 ≠ k) (h2 : fl ≠ a ∨ 2 ≠ k) : FUg I1 R c fl := fun i hi hj => by
  rw [w2_ne hu h1] at hi
  rw [w2_ne hu h2] at hj
  exact h i hi hj
theorem fnX (hC : CT T N I R) (hX : XI T N I R) (hT : T fl = 23) {i : Nat} (hi : (i : Int) < I fl 2) : ∃ b c, R fl 1 = b + 1 ∧ T b = 58 ∧ R b i = c + 1 ∧ T c = 13 := by
  obtain ⟨b, eb, tb, hn⟩ := edX hC hX (a := fl) (by omega) (by omega) (by omega)
  rw [hT] at tb
  have hne := (hX.1 fl (by omega) (by omega)).2.1 i hi
  rw [eb, Nat.add_sub_cancel] at hne
  rcases ga58 (k := i) hC tb (by omega) with z | ⟨c, e, t⟩
  · exact absurd z hne
  · exact ⟨b, c, eb, tb, e, t⟩
theorem FUg.fr (h : FUg I R c fl) (hC : CT T N I R) (hX : XI T N I R) (tc : T c = 5) (tf : T fl = 23) (hF : Fr m ex T N I J R T1 N1 I1 J1 R1) (hx : ∀ b, T b = 5 ∨ T b = 23 ∨ T b = 58 ∨ T b = 13 → b ∉ ex) (hm : [160, 738, 737, 1856, 416].all (fun x => !m.contains x) = true) : FUg I1 R1 c fl := by
  have hm' := List.all_eq_true.mp hm
  have no : ∀ x ∈ ([160, 738, 737, 1856, 416] : List Nat), m.contains x = false := fun x hxx => by
    have := hm' x hxx
    simpa using this
  intro i hi hj
  rw [hF.i (k := 0) tc (by decide) (hx c (Or.inl tc)) (no 160 (by simp))] at hi
  rw [hF.i (k := 2) tf (by decide) (hx fl (Or.inr (Or.inl tf))) (no 738 (by simp))] at hj
  obtain ⟨b, d, eb, tb, ed, td⟩ := fnX hC hX tf hj
  have g := h i hi hj
  rw [hF.r (k := 1) tf (by decide) (hx fl (Or.inr (Or.inl tf))) (no 737 (by simp)), eb, Nat.add_sub_cancel, hF.r (k := i) tb (by decide) (hx b (Or.inr (Or.inr (Or.inl tb)))) (by rw [cd_arr (j := 0) (by decide)]; exact no 1856 (by simp)), ed, Nat.add_sub_cancel, hF.r (k := 0) td (by decide) (hx d (Or.inr (Or.inr (Or.inr td)))) (no 416 (by simp))]
  rw [eb, Nat.add_sub_cancel, ed, Nat.add_sub_cancel] at g
  exact g
/-- a found more in the list, not told yet -/
theorem FUg.ad (h : FUg I R c fl) (hC : CT T N I R) (hX : XI T N I R) (tf : T fl = 23) (hF : Fr m [] T N I J R T1 N1 I1 J1 R1) (hm : [416].all (fun x => !m.contains x) = true) (e0 : I1 c 0 = I c 0) (e1 : I c 0 ≤ I fl 2) (a2 : ∀ i : Nat, (i : Int) < I fl 2 → R1 (R1 fl 1 - 1) i = R (R fl 1 - 1) i) : FUg I1 R1 c fl := by
  have hm' := List.all_eq_true.mp hm
  have no : ∀ x ∈ ([416] : List Nat), m.contains x = false := fun x hxx => by
    have := hm' x hxx
    simpa using this
  intro i hi hj
  rw [e0] at hi
  obtain ⟨b, d, eb, tb, ed, td⟩ := fnX hC hX tf (i := i) (by omega)
  have g := h i hi (by omega)
  rw [a2 i (by omega), eb, Nat.add_sub_cancel, ed, Nat.add_sub_cancel, hF.r (k := 0) td (by decide) nm0 (no 416 (by simp))]
  rw [eb, Nat.add_sub_cancel, ed, Nat.add_sub_cancel] at g
  exact g
/-- a found gets its use -/
theorem FUg.wu {u : Nat} (h : FUg I R c fl) (hC : CT T N I R) (hX : XI T N I R) (tf : T fl = 23) (tq : T q = 13) (hu : R1 = w2 R q 0 (u + 1)) : FUg I R1 c fl := by
  intro i hi hj
  obtain ⟨b, d, eb, tb, ed, td⟩ := fnX hC hX tf (i := i) hj
  have g := h i hi hj
  rw [w2_ne hu (Or.inl (tne tf tq (by decide))), eb, Nat.add_sub_cancel, w2_ne hu (Or.inl (tne tb tq (by decide))), ed, Nat.add_sub_cancel]
  rw [eb, Nat.add_sub_cancel, ed, Nat.add_sub_cancel] at g
  by_cases e : d = q
  · rw [e, w2_at hu]; exact Nat.succ_ne_zero _
  · rw [w2_ne hu (Or.inl e)]; exact g
/-- one told more -/
theorem FUg.told (h : FUg I R c fl) (hu : I1 = w2 I c 0 v) (hv : v = I c 0 + 1) (h0 : 0 ≤ I c 0) (hne : fl ≠ c) (hn : I c 0 < I fl 2 → R (R (R fl 1 - 1) (I c 0).toNat - 1) 0 ≠ 0) : FUg I1 R c fl := by
  intro i hi hj
  rw [w2_at hu] at hi
  rw [w2_ne hu (Or.inl hne)] at hj
  by_cases e : (i : Int) < I c 0
  · exact h i e hj
  · have : i = (I c 0).toNat := by omega
    rw [this]
    exact hn (by omega)
theorem FLq.wt (h : FLq I R g f) (hC : CT T N I R) (hX : XI T N I R) (tg : T g = 15) (tf : T f = 16) (ha : T a = t) (h1 : t ≠ 15) (h2 : t ≠ 16) (h3 : t ≠ 8) (hu : I1 = w2 I a k v) : FLq I1 R g f := by
  unfold FLq
  have h0 := (g15_2 hC tg).1
  rw [w2_ne hu (Or.inl (tne tg ha (fun e => h1 e.symm))), w2_ne hu (Or.inl (tne tf ha (fun e => h2 e.symm))), fcn_nt (c := 0) hC hu ha h3 (fun i hi => ruX hC hX tg (by omega))]
  exact h
theorem FLq.wr {u : Nat} (h : FLq I R g f) (hC : CT T N I R) (hX : XI T N I R) (tg : T g = 15) (ha : T a = t) (h1 : t ≠ 15) (h2 : t ≠ 50) (hu : R1 = w2 R a k u) : FLq I R1 g f := by
  unfold FLq
  have h0 := (g15_2 hC tg).1
  rw [fcn_cg (I1 := I) (R1 := R1) (R := R) (I := I) (fun i hi => ⟨?_, rfl⟩)]
  · exact h
  · obtain ⟨b, eb, tb, hn⟩ := edX hC hX (a := g) (by omega) (by omega) (by omega)
    rw [tg] at tb
    rw [w2_ne hu (Or.inl (tne tg ha (fun e => h1 e.symm))), eb, Nat.add_sub_cancel]
    exact w2_ne hu (Or.inl (tne tb ha (fun e => h2 e.symm)))
theorem FUp.of (h : FUg I R c fl) (e : R c 6 = fl + 1) : FUp I R c := fun i h1 h2 => by
  rw [e, Nat.add_sub_cancel] at h2 ⊢
  exact h i h1 h2
end CHK
section CHK2
variable {T N : Nat → Nat} {I I1 : Nat → Nat → Int} {R R1 R2 : Nat → Nat → Nat} {a k q c vp vf pl fl i f : Nat} {v : Int}
theorem VVg.wp (h : VVg I c vp vf pl) (hu : I1 = w2 I vp k v) (h1 : c ≠ vp) (h3 : vf ≠ vp) (h4 : pl ≠ vp) (hk : I c 19 ≤ k) : VVg I1 c vp vf pl := fun i hi => by
  rw [w2_ne hu (Or.inl h1)] at hi ⊢
  rw [w2_ne hu (Or.inr (by omega)), w2_ne hu (Or.inl h3), w2_ne hu (Or.inl h4)]
  exact h i hi
theorem VVg.wf (h : VVg I c vp vf pl) (hu : I1 = w2 I vf k v) (h1 : c ≠ vf) (h3 : vp ≠ vf) (h4 : pl ≠ vf) (hk : I c 19 ≤ k) : VVg I1 c vp vf pl := fun i hi => by
  rw [w2_ne hu (Or.inl h1)] at hi ⊢
  rw [w2_ne hu (Or.inl h3), w2_ne (b := vf) (j := i) hu (Or.inr (by omega)), w2_ne hu (Or.inl h4)]
  exact h i hi
theorem VVg.inc (h : VVg I c vp vf pl) (hu : I1 = w2 I c 19 v) (hv : v = I c 19 + 1) (h0 : 0 ≤ I c 19) (h1 : vp ≠ c) (h2 : vf ≠ c) (h3 : pl ≠ c) (hp : I vp (I c 19).toNat < I pl 2) (hf : I vf (I c 19).toNat < I c 19 + 1) : VVg I1 c vp vf pl := fun i hi => by
  rw [w2_at hu] at hi ⊢
  rw [w2_ne hu (Or.inl h1), w2_ne hu (Or.inl h2), w2_ne hu (Or.inl h3)]
  by_cases e : (i : Int) < I c 19
  · have := h i e
    omega
  · have e2 : i = (I c 19).toNat := by omega
    rw [e2]
    omega
theorem FU1 {u : Nat} (hC : CT T N I R) (hX : XI T N I R) (tf : T fl = 23) (tq : T q = 13) (hu : R1 = w2 R q 0 (u + 1)) {z : Int} (h0 : 0 ≤ z) (hi : z < I fl 2) (e : R (R fl 1 - 1) z.toNat = q + 1) : R1 (R1 (R1 fl 1 - 1) z.toNat - 1) 0 ≠ 0 := by
  obtain ⟨b, d, eb, tb, ed, td⟩ := fnX hC hX tf (i := z.toNat) (by omega)
  rw [eb, Nat.add_sub_cancel] at e
  rw [w2_ne hu (Or.inl (tne tf tq (by decide))), eb, Nat.add_sub_cancel, w2_ne hu (Or.inl (tne tb tq (by decide))), e, Nat.add_sub_cancel, w2_at hu]
  exact Nat.succ_ne_zero _
end CHK2
