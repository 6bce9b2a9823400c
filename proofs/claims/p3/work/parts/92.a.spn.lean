/-! lists that stay, and how many spots the kinds of a list have -/
def OT (t : Nat) (T : Nat → Nat) (I I1 : Nat → Nat → Int) (l : Nat) : Prop := ∀ b, T b = t → b ≠ l → I1 b 2 = I b 2
def kdi (R : Nat → Nat → Nat) (g i : Nat) : Nat := R (R g 1 - 1) i - 1
def spn (I : Nat → Nat → Int) (R : Nat → Nat → Nat) (g : Nat) : Nat → Int
  | 0 => 0
  | n + 1 => spn I R g n + 1 + ((I (R (kdi R g n) 3 - 1) 2 - I (kdi R g n) 4).toNat : Int)
def NK (T : Nat → Nat) (I : Nat → Nat → Int) (R : Nat → Nat → Nat) (I1 : Nat → Nat → Int) (R1 : Nat → Nat → Nat) (g q l : Nat) : Prop :=
  I1 g 2 = I g 2 + 1 ∧ (∀ i : Nat, (i : Int) < I g 2 → R1 (R1 g 1 - 1) i = R (R g 1 - 1) i) ∧ R1 (R1 g 1 - 1) (I g 2).toNat = q + 1 ∧ R1 q 3 = l + 1 ∧ T l = 0
section SPN
variable {m m2 ex ex2 : List Nat} {T N T1 N1 T2 N2 : Nat → Nat} {I I1 I2 : Nat → Nat → Int} {J J1 J2 : Nat → Nat → Int64} {R R1 R2 : Nat → Nat → Nat} {a b k t q l g n : Nat}
theorem spn_succ : spn I R g (n + 1) = spn I R g n + 1 + ((I (R (R (R g 1 - 1) n - 1) 3 - 1) 2 - I (R (R g 1 - 1) n - 1) 4).toNat : Int) := rfl
theorem tne2 {t1 t2 t3 : Nat} (hb : T b = t1 ∨ T b = t2) (ha : T a = t3) (h1 : t1 ≠ t3) (h2 : t2 ≠ t3) : b ≠ a := fun e => by
  rw [e, ha] at hb
  rcases hb with h | h
  · exact h1 h.symm
  · exact h2 h.symm
theorem OT.rf : OT t T I I l := fun _ _ _ => rfl
theorem OT.step (h : OT t T I I1 l) (hF : Fr m ex T N I J R T1 N1 I1 J1 R1) (h9 : ∀ b, T b = t → b ∉ ex) (hc : Fr m2 ex2 T1 N1 I1 J1 R1 T2 N2 I2 J2 R2) (ht : t ≠ 0) (hm : m2.contains (cd t 2) = false) (hx : ∀ b, T1 b = t → b ∉ ex2) : OT t T I I2 l := fun b hb hl => by
  have h1 := hF.tt hb ht (h9 b hb)
  rw [hc.i h1 ht (hx b h1) hm]
  exact h b hb hl
theorem OT.ad (h : OT t T I I1 l) (hF : Fr m ex T N I J R T1 N1 I1 J1 R1) (h9 : ∀ b, T b = t → b ∉ ex) (ht : t ≠ 0) (hc : ∀ b, T1 b = t → b ≠ l → I2 b 2 = I1 b 2) : OT t T I I2 l := fun b hb hl => (hc b (hF.tt hb ht (h9 b hb)) hl).trans (h b hb hl)
theorem OT.wr {v : Int} (h : OT t T I I1 l) (hF : Fr m ex T N I J R T1 N1 I1 J1 R1) (h9 : ∀ b, T b = t → b ∉ ex) (ht : t ≠ 0) {t2 : Nat} (ha : T1 a = t2) (hne : t ≠ t2) (hu : I2 = w2 I1 a k v) : OT t T I I2 l := fun b hb hl => by
  rw [w2_ne hu (Or.inl (tne (hF.tt hb ht (h9 b hb)) ha hne))]; exact h b hb hl
theorem OT.ch {t2 : Nat} (h : OT t T I I1 g) (hg : T g = t2) (hne : t ≠ t2) : OT t T I I1 l := fun b hb _ => h b hb (tne hb hg hne)
/-- the row of a list that is not empty -/
theorem edX (hC : CT T N I R) (hX : XI T N I R) (h1 : 15 ≤ T a) (h2 : T a ≤ 23) (hs : 0 < I a 2) : ∃ b, R a 1 = b + 1 ∧ T b = T a + 35 ∧ I a 2 ≤ N b := by
  obtain ⟨b, eb, tb⟩ := hC.ed h1 h2
  have g := (hX.1 a h1 h2).1
  rw [eb, Nat.add_sub_cancel] at g
  refine ⟨b, eb, ?_, g⟩
  rcases tb with tb | tb
  · exact tb
  · exfalso
    have hz : N b ≤ 0 := (hC.n tb (by decide)).2
    omega
theorem kdX (hC : CT T N I R) (hX : XI T N I R) (hT : T g = 18) {i : Nat} (hi : (i : Int) < I g 2) : ∃ c, R (R g 1 - 1) i = c + 1 ∧ T c = 11 := by
  obtain ⟨b, eb, tb, hn⟩ := edX hC hX (a := g) (by omega) (by omega) (by omega)
  rw [hT] at tb
  have hne := (hX.1 g (by omega) (by omega)).2.1 i hi
  rw [eb, Nat.add_sub_cancel] at hne ⊢
  rcases ga53 (k := i) hC tb (by omega) with z | z
  · exact absurd z hne
  · exact z
/-- the kinds of a list stay where they are -/
theorem kdi_fr (hC : CT T N I R) (hX : XI T N I R) (hT : T g = 18) (hF : Fr m [] T N I J R T1 N1 I1 J1 R) (hc : Fr m2 ex2 T1 N1 I1 J1 R T2 N2 I2 J2 R2) (hx : ∀ b, T1 b = 18 ∨ T1 b = 53 → b ∉ ex2) (hm : [577, 1696].all (fun x => !m2.contains x) = true) : ∀ i : Nat, (i : Int) < I g 2 → R2 (R2 g 1 - 1) i = R (R g 1 - 1) i := by
  have hm' := List.all_eq_true.mp hm
  have no : ∀ x ∈ ([577, 1696] : List Nat), m2.contains x = false := fun x hxx => by
    have := hm' x hxx
    simpa using this
  intro i hi
  obtain ⟨b, eb, tb, hn⟩ := edX hC hX (a := g) (by omega) (by omega) (by omega)
  rw [hT] at tb
  have t1 := hF.tt hT (by decide) nm0
  have t2 := hF.tt tb (by decide) nm0
  rw [hc.r (k := 1) t1 (by decide) (hx g (Or.inl t1)) (no 577 (by simp)), eb, Nat.add_sub_cancel]
  exact hc.r (k := i) t2 (by decide) (hx b (Or.inr t2)) (by rw [cd_arr (j := 0) (by decide)]; exact no 1696 (by simp))
theorem NK.mk (h0 : I2 g 2 = I g 2) (hk : ∀ i : Nat, (i : Int) < I g 2 → R1 (R1 g 1 - 1) i = R (R g 1 - 1) i) (a0 : I1 g 2 = I2 g 2 + 1) (a1 : R2 (R2 g 1 - 1) (I2 g 2).toNat = q + 1) (a2 : ∀ i : Nat, (i : Int) < I2 g 2 → R2 (R2 g 1 - 1) i = R1 (R1 g 1 - 1) i) (a3 : R2 q 3 = l + 1) (hz : T l = 0) : NK T I R I1 R2 g q l :=
  ⟨by rw [a0, h0], fun i hi => (a2 i (by rw [h0]; exact hi)).trans (hk i hi), by rw [← h0]; exact a1, a3, hz⟩
theorem NK.fr (h : NK T I R I1 R1 g q l) (hC : CT T1 N1 I1 R1) (hX : XI T1 N1 I1 R1) (tg : T1 g = 18) (tq : T1 q = 11) (h0 : 0 ≤ I g 2) (hF : Fr m [] T1 N1 I1 J1 R1 T2 N2 I2 J2 R2) (hm : [578, 577, 1696, 355].all (fun x => !m.contains x) = true) : NK T I R I2 R2 g q l := by
  have hm' := List.all_eq_true.mp hm
  have no : ∀ x ∈ ([578, 577, 1696, 355] : List Nat), m.contains x = false := fun x hxx => by
    have := hm' x hxx
    simpa using this
  obtain ⟨a1, a2, a3, a4, a5⟩ := h
  obtain ⟨b, eb, tb, hn⟩ := edX hC hX (a := g) (by omega) (by omega) (by omega)
  rw [tg] at tb
  have c1 : I2 g 2 = I1 g 2 := hF.i (k := 2) tg (by decide) nm0 (no 578 (by simp))
  have c2 : R2 g 1 = R1 g 1 := hF.r (k := 1) tg (by decide) nm0 (no 577 (by simp))
  have c3 : ∀ i, R2 b i = R1 b i := fun i => hF.r (k := i) tb (by decide) nm0 (by rw [cd_arr (j := 0) (by decide)]; exact no 1696 (by simp))
  have c4 : R2 q 3 = R1 q 3 := hF.r (k := 3) tq (by decide) nm0 (no 355 (by simp))
  refine ⟨c1.trans a1, fun i hi => ?_, ?_, c4.trans a4, a5⟩
  · have := a2 i hi
    rw [c2, eb, Nat.add_sub_cancel, c3]
    rw [eb, Nat.add_sub_cancel] at this
    exact this
  · rw [c2, eb, Nat.add_sub_cancel, c3]
    rw [eb, Nat.add_sub_cancel] at a3
    exact a3
theorem spn_old (hC : CT T N I R) (hX : XI T N I R) (hT : T g = 18) (hF : Fr m [] T N I J R T1 N1 I1 J1 R1) (hm : [355, 356].all (fun x => !m.contains x) = true) (h2 : ∀ i : Nat, (i : Int) < I g 2 → R1 (R1 g 1 - 1) i = R (R g 1 - 1) i) (h3 : ∀ b, T b = 19 → I1 b 2 = I b 2) (n : Nat) (hn : (n : Int) ≤ I g 2) : spn I1 R1 g n = spn I R g n := by
  have hm' := List.all_eq_true.mp hm
  have no : ∀ x ∈ ([355, 356] : List Nat), m.contains x = false := fun x hxx => by
    have := hm' x hxx
    simpa using this
  induction n with
  | zero => rfl
  | succ n ih =>
    have e := ih (by omega)
    obtain ⟨c, ec, tc⟩ := kdX hC hX hT (i := n) (by omega)
    have e2 := h2 n (by omega)
    obtain ⟨ml, em, tm⟩ := g11_3 hC tc
    have c3 : R1 c 3 = R c 3 := hF.r (k := 3) tc (by decide) nm0 (no 355 (by simp))
    have c4 : I1 c 4 = I c 4 := hF.i (k := 4) tc (by decide) nm0 (no 356 (by simp))
    rw [spn_succ, spn_succ, e2, ec, Nat.add_sub_cancel, c3, c4, e, em, Nat.add_sub_cancel, h3 ml tm]
/-- nothing of the kinds changes -/
theorem spn_fr (hC : CT T N I R) (hX : XI T N I R) (hT : T g = 18) (hF : Fr m [] T N I J R T1 N1 I1 J1 R1) (hm : [355, 356, 577, 578, 1696, 610].all (fun x => !m.contains x) = true) : spn I1 R1 g (I1 g 2).toNat = spn I R g (I g 2).toNat := by
  have hm' := List.all_eq_true.mp hm
  have no : ∀ x ∈ ([355, 356, 577, 578, 1696, 610] : List Nat), m.contains x = false := fun x hxx => by
    have := hm' x hxx
    simpa using this
  have c1 : I1 g 2 = I g 2 := hF.i (k := 2) hT (by decide) nm0 (no 578 (by simp))
  have c2 : R1 g 1 = R g 1 := hF.r (k := 1) hT (by decide) nm0 (no 577 (by simp))
  have h0 := (g18_2 hC hT).1
  rw [c1]
  refine spn_old hC hX hT hF (by have q := hm; simp only [List.all_cons, List.all_nil, Bool.and_true, Bool.and_eq_true] at q ⊢; exact ⟨q.1, q.2.1⟩) (fun i hi => ?_) (fun b hb => hF.i (k := 2) hb (by decide) nm0 (no 610 (by simp))) _ (by omega)
  obtain ⟨b, eb, tb, hn⟩ := edX hC hX (a := g) (by omega) (by omega) (by omega)
  rw [hT] at tb
  rw [c2, eb, Nat.add_sub_cancel]
  exact hF.r (k := i) tb (by decide) nm0 (by rw [cd_arr (j := 0) (by decide)]; exact no 1696 (by simp))
/-- one kind more -/
theorem spn_new (hC : CT T N I R) (hX : XI T N I R) (hT : T g = 18) (hF : Fr m [] T N I J R T1 N1 I1 J1 R1) (hm : [355, 356].all (fun x => !m.contains x) = true) (h : NK T I R I1 R1 g q l) (ho : OT 19 T I I1 l) {z : Int} (hz : I1 l 2 ≤ I1 q 4 + z) (hz0 : 0 ≤ z) : spn I1 R1 g (I1 g 2).toNat ≤ spn I R g (I g 2).toNat + 1 + z := by
  have h0 := (g18_2 hC hT).1
  obtain ⟨a1, a2, a3, a4, a5⟩ := h
  have e : (I1 g 2).toNat = (I g 2).toNat + 1 := by omega
  rw [e]
  have e1 := spn_old hC hX hT hF hm a2 (fun b hb => ho b hb (fun z => by rw [z] at hb; omega)) (I g 2).toNat (by omega)
  rw [spn_succ, e1, a3, Nat.add_sub_cancel, a4, Nat.add_sub_cancel]
  omega
theorem spn_mono {a b : Nat} (h : a ≤ b) : spn I R g a ≤ spn I R g b := by
  induction b with
  | zero => have e : a = 0 := by omega
            rw [e]; exact Int.le_refl _
  | succ b ih =>
    by_cases e : a = b + 1
    · rw [e]; exact Int.le_refl _
    · have := ih (by omega)
      rw [spn_succ]
      omega
theorem spn_nn : 0 ≤ spn I R g n := by
  have := spn_mono (I := I) (R := R) (g := g) (Nat.zero_le n)
  exact this
theorem spn_at {kd ml : Nat} (e1 : R (R g 1 - 1) n = kd + 1) (e2 : R kd 3 = ml + 1) : spn I R g (n + 1) = spn I R g n + 1 + ((I ml 2 - I kd 4).toNat : Int) := by
  rw [spn_succ, e1, Nat.add_sub_cancel, e2, Nat.add_sub_cancel]
theorem edN2 (hC : CT T N I R) (hT : T g = t) (h1 : 15 ≤ t) (h2 : t ≤ 23) (hF : Fr m [] T N I J R T1 N1 I1 J1 R1) (hr : R1 g 1 = R g 1) : N1 (R1 g 1 - 1) = N (R g 1 - 1) := by
  obtain ⟨b, eb, tb⟩ := hC.ed (a := g) (by omega) (by omega)
  rw [hr, eb, Nat.add_sub_cancel]
  exact hF.n (t := T b) rfl (by omega) nm0
theorem edB (hC : CT T N I R) (hT : T g = 21) : N (R g 1 - 1) ≤ 60 := by
  obtain ⟨b, eb, tb⟩ := hC.ed (a := g) (by omega) (by omega)
  rw [eb, Nat.add_sub_cancel]
  rcases tb with tb | tb
  · rw [hT] at tb
    exact (gn56 hC tb).2
  · have : N b ≤ 0 := (hC.n tb (by decide)).2
    omega
theorem edBF (hC : CT T N I R) (hT : T g = 23) : N (R g 1 - 1) ≤ 750 := by
  obtain ⟨b, eb, tb⟩ := hC.ed (a := g) (by omega) (by omega)
  rw [eb, Nat.add_sub_cancel]
  rcases tb with tb | tb
  · rw [hT] at tb
    exact (gn58 hC tb).2
  · have : N b ≤ 0 := (hC.n tb (by decide)).2
    omega
end SPN
section RMF
variable {p : Program} {l : Launch} {e : Env} {R : Room} {s : State} {m : MethodId} {args : Array Value} {below : List Frame} {meth : Method} {c : Code} {H : Heap} {locs : List Loc} {cells slots : Nat} {Q : State → Prop}
variable {cc : ByteArray} {pc : Nat} {ls : Array Slot} {rest : List Value} {D : va_G} {dA : Nat → ClassId} {nL : Nat} {ret : Option FieldType} {own : String}
theorem q_remF (B : Cx D dA p s m args meth c cc own nL ret) {x y : Int} (hdg : decode cc pc = .ok (.irem, 1)) (hx : inr x) (hy : inr y) (h0 : 1 < y) (k : ∀ z : Int, inr z → (0 ≤ x → z = x % y) → (x < 0 → -y < z ∧ z ≤ 0) → W p l e R s m args below meth c H locs cells slots Q (F0 m (pc + 1) ls (.int (II z) :: rest))) : W p l e R s m args below meth c H locs cells slots Q (F0 m pc ls (.int (II y) :: .int (II x) :: rest)) := by
  refine lv_irem B.1 B.2.1 hdg (fun q => ?_) ?_
  · have := (II_eq hy (by unfold inr; omega)).mp (show II y = II 0 from q)
    omega
  · obtain ⟨h1, h2⟩ := II_divE hx hy h0
    rw [h1]
    have e : II x - II (x.tdiv y) * II y = II (x - x.tdiv y * y) := by rw [II_mul, II_sub]
    rw [e]
    have hf := tdiv_f (x := x) h0
    have e2 : x.tdiv y * y = y * x.tdiv y := Int.mul_comm _ _
    rw [e2]
    refine k _ (by unfold inr at hx hy ⊢; omega) (fun h => ?_) (by omega)
    rw [Int.tdiv_eq_ediv_of_nonneg h, Int.emod_def]
end RMF
