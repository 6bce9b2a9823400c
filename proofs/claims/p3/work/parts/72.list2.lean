def eci (t : Nat) : Nat := [9, 9, 10, 5, 10, 12, 12, 7, 4].getD (t - 15) 0
def eCn (t : Nat) : String := ["CustomsDesk$Rule", "CustomsDesk$Rule", "CustomsDesk$Spot", "CustomsDesk$Kind", "CustomsDesk$Spot", "CustomsDesk$Use", "CustomsDesk$Use", "CustomsDesk$Paper", "CustomsDesk$Found"].getD (t - 15) ""
theorem ls_cases {lt : Nat} (h1 : 15 ≤ lt) (h2 : lt ≤ 23) : lt = 15 ∨ lt = 16 ∨ lt = 17 ∨ lt = 18 ∨ lt = 19 ∨ lt = 20 ∨ lt = 21 ∨ lt = 22 ∨ lt = 23 := by omega
theorem kdel {lt : Nat} (h1 : 15 ≤ lt) (h2 : lt ≤ 23) : ∃ so, kd (el lt) = (0, eci lt, so) := by
  rcases ls_cases h1 h2 with rfl | rfl | rfl | rfl | rfl | rfl | rfl | rfl | rfl <;> exact ⟨_, rfl⟩
theorem vwel {lt : Nat} (h1 : 15 ≤ lt) (h2 : lt ≤ 23) : (vwCl[eci lt]?).map (fun q => q.1) = some (eCn lt) := by
  rcases ls_cases h1 h2 with rfl | rfl | rfl | rfl | rfl | rfl | rfl | rfl | rfl <;> rfl
theorem castel {lt eA : Nat} {A : Nat → Prop} {U : State} {H : Heap} (h1 : 15 ≤ lt) (h2 : lt ≤ 23) (h : SX eA A U H) : va_Nw (.castable (eCn lt) "java/lang/Object") U := by
  obtain ⟨-, -, -, -, -, -, -, -, -, c1, c2, c3, c4, c5, c6, -⟩ := h
  rcases ls_cases h1 h2 with rfl | rfl | rfl | rfl | rfl | rfl | rfl | rfl | rfl
  · exact c2
  · exact c2
  · exact c3
  · exact c5
  · exact c3
  · exact c4
  · exact c4
  · exact c1
  · exact c6
section CL
variable {p : Program} {l : Launch} {e : Env} {Rm : Room} {s : State} {m : MethodId} {args : Array Value} {below : List Frame} {meth : Method} {c : Code} {H : Heap} {locs : List Loc} {cells slots : Nat} {Q : State → Prop}
variable {cc : ByteArray} {pc : Nat} {ls : Array Slot} {rest : List Value}
variable {D : va_G} {dA : Nat → ClassId} {nL : Nat} {ret : Option FieldType} {own : String} {eA : Nat} {A0 : Nat → Prop} {H0 : Heap} {L : List Nat} {T N : Nat → Nat} {I : Nat → Nat → Int} {J : Nat → Nat → Int64} {R : Nat → Nat → Nat} {a b t k ci n index lt : Nat} {so : List Nat} {C ref : String} {z : Int}
theorem c_newO (B : Cx D dA p s m args meth c cc own nL ret) (hX : SX eA A0 s s.heap) (hA : ∀ q, H0.size ≤ q → A0 q) (hM : CWd D dA eA A0 H0 L T N I J R H locs) (hkd : kd t = (1, 5, [2])) (hq : 50 ≤ t ∧ xT t = false ∧ ((iR t 0).1 ≤ 0 ∧ 0 ≤ (iR t 0).2) ∧ (rF t 0).1 ≤ 1) (hcl : Cond.classLink own index "java/lang/Object" ∈ lw_g) {n' : Nat} (hz : z = (n' : Int)) (hb : n' ≤ 100000) (hn : (nR t).1 ≤ n' ∧ n' ≤ (nR t).2) (hcells : cells + 1 ≤ Rm.cells) (hslots : slots + n' ≤ Rm.slots) (hdg : decode cc pc = .ok (.anewarray index, 3))
    (kk : ∀ (q : Nat) (L' : List Nat) (T' N' : Nat → Nat) (H : Heap), T q = 0 → T' = va_up T q t → N' = va_up N q n' → CWd D dA eA A0 H0 L' T' N' I J R H locs → W p l e Rm s m args below meth c H locs (cells + 1) (slots + n') Q (F0 m (pc + 3) ls (.ref q :: rest))) : W p l e Rm s m args below meth c H locs cells slots Q (F0 m pc ls (.int (II z) :: rest)) := by
  subst hz
  have hr : inr (n' : Int) := by unfold inr; omega
  obtain ⟨-, -, -, -, -, -, -, -, ⟨-, -, -, -, hao, -, -⟩, -⟩ := id hX
  refine va_newq (D := D) (C := "java/lang/Object") B.1 B.2.1 B.2.2.2.1 (B.2.2.2.2.1 _ hcl) hao B.2.2.2.2.2.1 hM.1 hM.2.1 hM.2.2.1 hA (N' := n') ?_ (by rw [II_clamp (by omega) hr]; omega) (by omega) hcells hslots hdg (fun q cA H1 hK1 hP hD hS => ?_)
  · intro hq
    have h2 : II (n' : Int) < II 0 := hq
    rw [II_lt hr inr0] at h2
    omega
  · have hcA : cA = dA 5 := by
      have h1 := va_nmO (hK1.2 (tyX dA).length (cA, .object "java/lang/Object") (by rw [List.getElem?_append_right (Nat.le_refl _), Nat.sub_self]; rfl)).2 rfl
      have h2 := va_nmO (B.2.2.2.2.2.1.2 5 _ rfl).2 rfl
      exact Option.some.inj (h1.symm.trans h2)
    subst hcA
    obtain ⟨h1, h2⟩ := hM.push hX.out hP hD hS (kd_ok hkd (by omega)) hq.2.1 hn (fun k _ => by rw [iR_arr hq.1, rF_arr hq.1]; exact ⟨hq.2.2.1, hq.2.2.2⟩) (by rw [hkd]; rfl)
    exact kk q _ _ _ H1 h1 rfl rfl h2
/-- a number that no cell shows -/
theorem CWd.ghost {d : Nat} {v : Int} {I' : Nat → Nat → Int} (hM : CWd D dA eA A0 H0 L T N I J R H locs) (hT : T a = t) (hkd : kd t = (1, d, [2])) (hk : N a ≤ k) (hu : I' = w2 I a k v) (hx : XI T N I' R) : CWd D dA eA A0 H0 L T N I' J R H locs := by
  have e1 : cW dA L T N I' J R = cW dA L T N I J R := by
    refine va_pl_congr (fun x => ?_)
    by_cases hb : x = a
    · subst hb
      rw [cE_a hT hkd, cE_a hT hkd]
      rfl
    · unfold cE
      rw [w2_nb hu hb]
  have hw := hM.2.2.2.wi (by rw [hT]; exact (kd_ok hkd (by omega)).1) hu (fun h => absurd h (by omega)) hx
  unfold CWd at hM ⊢
  rw [e1]
  exact ⟨hM.1, hM.2.1, hM.2.2.1, hw⟩
theorem c_tlen (B : Cx D dA p s m args meth c cc own nL ret) (hX : SX eA A0 s s.heap) (hM : CWd D dA eA A0 s.heap L T N I J R H locs) (hdg : decode cc pc = .ok (.arraylength, 1)) (kk : W p l e Rm s m args below meth c H locs cells slots Q (F0 m (pc + 1) ls (.int (II 0) :: rest))) : W p l e Rm s m args below meth c H locs cells slots Q (F0 m pc ls (.ref eA :: rest)) := by
  obtain ⟨cell, h1, h2, h3, h4, h5, h6, h7⟩ := hX.1.2.kept hM.2.2.1.2.1
  exact W.alen B.1 B.2.1 h1 h2 (n := II 0) (by rw [h5]; decide) rfl rfl hdg kk
theorem c_gsE (B : Cx D dA p s m args meth c cc own nL ret) (hX : SX eA A0 s s.heap) (hM : CWd D dA eA A0 s.heap L T N I J R H locs) (hl : Cond.fieldLink own index "java/util/ArrayList" "DEFAULTCAPACITY_EMPTY_ELEMENTDATA" "[Ljava/lang/Object;" ∈ lw_g) (hdg : decode cc pc = .ok (.getstatic index, 3)) (kk : W p l e Rm s m args below meth c H locs cells slots Q (F0 m (pc + 3) ls (.ref eA :: rest))) : W p l e Rm s m args below meth c H locs cells slots Q (F0 m pc ls rest) :=
  va_gets B.1 B.2.1 hX.1.1 hM.2.2.1 B.2.2.2.1 (B.2.2.2.2.1 _ hl) (fun _ h => h) hdg kk
/-- a row is written: any row of references -/
theorem CWd.rowR {f : Nat → Nat} {R' : Nat → Nat → Nat} {H1 : Heap} {locs1 : List Loc} {i d : Nat} (hM : CWd D dA eA A0 H0 L T N I J R H locs) (hT : T a = t) (hkd : kd t = (1, d, [2])) (hi : (cW dA L T N I J R)[i]? = some (a, cE dA T N I J R a)) (hu : R' = va_up R a f) (hP : va_P D vwCl ((cW dA L T N I J R).set i (a, .inl (dA d, N a, .inr (.inr (.inr (.inr (fun j => oc (f j)))))))) H1) (hD : va_D A0 ((cW dA L T N I J R).set i (a, .inl (dA d, N a, .inr (.inr (.inr (.inr (fun j => oc (f j))))))))) (hS : va_S A0 H0 H1 locs1) (ht : ∀ k, k < N a → rOk T (rF t k) (f k)) (hx : XI T N I R') : CWd D dA eA A0 H0 L T N I J R' H1 locs1 := by
  have h0 := kd_ok hkd (by omega)
  refine hM.set hi ((hM.2.2.2.1 a).mpr (by rw [hT]; exact h0)) (by rw [cE_a hT hkd, hu, va_up_self]; rfl) (fun b hb => by unfold cE; rw [hu, va_up_ne _ _ hb]) hP hD hS ⟨hM.2.2.2.1, hM.2.2.2.2.1, fun b hb k => ?_, fun b hb => ?_, hx⟩
  · have hne : b ≠ a := fun e => h0.1 (by rw [← hT, ← e]; exact hb)
    rw [hu, va_up_ne _ _ hne]
    exact hM.2.2.2.2.2.1 b hb k
  · obtain ⟨q1, q2, q3⟩ := hM.2.2.2.2.2.2.1 b hb
    refine ⟨q1, q2, fun k hk => ⟨(q3 k hk).1, ?_⟩⟩
    by_cases e : b = a
    · subst e
      rw [hu, va_up_self, hT]
      exact ht k hk
    · rw [hu, va_up_ne _ _ e]
      exact (q3 k hk).2
theorem c_astO (B : Cx D dA p s m args meth c cc own nL ret) (hX : SX eA A0 s s.heap) (hM : CWd D dA eA A0 H0 L T N I J R H locs) (h1 : 15 ≤ lt) (h2 : lt ≤ 23) (hT : T a = lt + 35) {x : Nat} (hx : T x = el lt) (hdg : decode cc pc = .ok (.aastore, 1)) (z1 : 0 ≤ z) (z2 : z < N a) (hxi : ∀ R', R' = w2 R a z.toNat (x + 1) → XI T N I R')
    (kk : ∀ (R' : Nat → Nat → Nat) (H : Heap) (locs : List Loc), R' = w2 R a z.toNat (x + 1) → CWd D dA eA A0 H0 L T N I J R' H locs → W p l e Rm s m args below meth c H locs cells slots Q (F0 m (pc + 1) ls rest)) : W p l e Rm s m args below meth c H locs cells slots Q (F0 m pc ls (.ref x :: .int (II z) :: .ref a :: rest)) := by
  obtain ⟨i, hi⟩ := hM.ix hT (kd_ok (kdEs h1 h2) (by omega))
  have hi' := hi
  rw [cE_a hT (kdEs h1 h2)] at hi
  obtain ⟨so, hk⟩ := kdel h1 h2
  obtain ⟨i2, hi2⟩ := hM.ix hx (kd_ok hk (by omega))
  rw [cE_o hx hk] at hi2
  obtain ⟨r, hr1, hr2⟩ := Option.map_eq_some_iff.mp (vwel h1 h2)
  have hca : va_Nw (.castable r.1 "java/lang/Object") s := by rw [hr2]; exact castel h1 h2 hX
  have hm := mx_le h1 h2
  obtain ⟨q1, q2, -⟩ := c_in hM hT (kd_ok (kdEs h1 h2) (by omega)).1 (by rw [nREs h1 h2]; show ecap lt ≤ _; omega) z1 z2
  refine va_astqO (D := D) (n := N a) (f := fun j => oc (R a j)) B.1 B.2.1 B.2.2.2.2.2.1 hM.1 hM.2.1 hM.2.2.1 i 5 i2 (eci lt) hi rfl hca hi2 hr1 q1 hdg (fun H1 locs1 hP hD hS => kk _ H1 locs1 rfl ?_)
  rw [q2] at hP hD
  have e1 : va_up (fun j => oc (R a j)) z.toNat (some x) = fun j => oc (va_up (R a) z.toNat (x + 1) j) := oc_up (R a) z.toNat (x + 1)
  rw [e1] at hP hD
  refine hM.rowR (f := va_up (R a) z.toNat (x + 1)) hT (kdEs h1 h2) hi' ?_ hP hD hS (fun k hk => ?_) (hxi _ rfl)
  · funext b
    by_cases hb : b = a
    · subst hb; rw [w2_row rfl, va_up_self]
    · rw [w2_nb rfl hb, va_up_ne _ _ hb]
  · by_cases e : k = z.toNat
    · subst e
      rw [va_up_self, rF_arr (by omega), rFEs h1 h2]
      exact Or.inr (Or.inr ⟨x, rfl, Or.inl hx⟩)
    · rw [va_up_ne _ _ e]
      exact hM.2.2.2.2.2.2.1.r hT (by omega) hk
theorem c_astN (B : Cx D dA p s m args meth c cc own nL ret) (hM : CWd D dA eA A0 H0 L T N I J R H locs) (h1 : 15 ≤ lt) (h2 : lt ≤ 23) (hT : T a = lt + 35) (hdg : decode cc pc = .ok (.aastore, 1)) (z1 : 0 ≤ z) (z2 : z < N a) (hxi : ∀ R', R' = w2 R a z.toNat 0 → XI T N I R')
    (kk : ∀ (R' : Nat → Nat → Nat) (H : Heap) (locs : List Loc), R' = w2 R a z.toNat 0 → CWd D dA eA A0 H0 L T N I J R' H locs → W p l e Rm s m args below meth c H locs cells slots Q (F0 m (pc + 1) ls rest)) : W p l e Rm s m args below meth c H locs cells slots Q (F0 m pc ls (.null :: .int (II z) :: .ref a :: rest)) := by
  obtain ⟨i, hi⟩ := hM.ix hT (kd_ok (kdEs h1 h2) (by omega))
  have hi' := hi
  rw [cE_a hT (kdEs h1 h2)] at hi
  have hm := mx_le h1 h2
  obtain ⟨q1, q2, -⟩ := c_in hM hT (kd_ok (kdEs h1 h2) (by omega)).1 (by rw [nREs h1 h2]; show ecap lt ≤ _; omega) z1 z2
  refine va_astqN (D := D) (n := N a) (f := fun j => oc (R a j)) B.1 B.2.1 B.2.2.2.2.2.1 hM.1 hM.2.1 hM.2.2.1 i 5 hi rfl q1 hdg (fun H1 locs1 hP hD hS => kk _ H1 locs1 rfl ?_)
  rw [q2] at hP hD
  have e1 : va_up (fun j => oc (R a j)) z.toNat none = fun j => oc (va_up (R a) z.toNat 0 j) := oc_up (R a) z.toNat 0
  rw [e1] at hP hD
  refine hM.rowR (f := va_up (R a) z.toNat 0) hT (kdEs h1 h2) hi' ?_ hP hD hS (fun k hk => ?_) (hxi _ rfl)
  · funext b
    by_cases hb : b = a
    · subst hb; rw [w2_row rfl, va_up_self]
    · rw [w2_nb rfl hb, va_up_ne _ _ hb]
  · by_cases e : k = z.toNat
    · subst e
      rw [va_up_self, rF_arr (by omega), rFEs h1 h2]
      exact Or.inr (Or.inl ⟨rfl, rfl⟩)
    · rw [va_up_ne _ _ e]
      exact hM.2.2.2.2.2.2.1.r hT (by omega) hk
/-- a row of a list is copied into a new one -/
theorem c_cpyO {n' : Int} (B : Cx D dA p s m args meth c cc own nL ret) (hX : SX eA A0 s s.heap) (hM : CWd D dA eA A0 H0 L T N I J R H locs) (h1 : 15 ≤ lt) (h2 : lt ≤ 23) (hTb : T b = lt + 35) (hTa : T a = lt + 35) (hl : ls.size = nL) (hlink : Cond.methodLink own index arraycopyName ∈ lw_g) (hnat : Cond.native arraycopyName ∈ lw_g) (hst : Cond.static arraycopyName ∈ lw_g) (hini : Cond.initialized "java/lang/System" ∈ lw_g) (n1 : 0 ≤ n') (n2 : n' ≤ N b) (n3 : n' ≤ N a) (hf : 1 ≤ Rm.frames) (hlo : (rest.map fun v => v.category).sum + (nativeFrameWords "java/lang/System" "arraycopy" 5 + 11) ≤ Rm.locals) (hdg : decode cc pc = .ok (.invokestatic index, 3)) (hxi : ∀ R', R' = va_up R a (fun j => if (j : Int) < n' then R b j else R a j) → XI T N I R')
    (kk : ∀ (R' : Nat → Nat → Nat) (H : Heap) (locs : List Loc), R' = va_up R a (fun j => if (j : Int) < n' then R b j else R a j) → CWd D dA eA A0 H0 L T N I J R' H locs → W p l e Rm s m args below meth c H locs cells slots Q (F0 m (pc + 3) ls rest)) : W p l e Rm s m args below meth c H locs cells slots Q (F0 m pc ls (.int (II n') :: .int (II 0) :: .ref a :: .int (II 0) :: .ref b :: rest)) := by
  have hm := mx_le h1 h2
  have hnb : N b ≤ ecap lt := by have := (hM.2.2.2.2.2.2.1.n hTb (by omega)).2; rw [nREs h1 h2] at this; exact this
  have hr : inr n' := by unfold inr; omega
  obtain ⟨i, hi⟩ := hM.ix hTa (kd_ok (kdEs h1 h2) (by omega))
  have hi' := hi
  rw [cE_a hTa (kdEs h1 h2)] at hi
  obtain ⟨i0, hi0⟩ := hM.ix hTb (kd_ok (kdEs h1 h2) (by omega))
  rw [cE_a hTb (kdEs h1 h2)] at hi0
  obtain ⟨so, hk⟩ := kdel h1 h2
  obtain ⟨r, hr1, hr2⟩ := Option.map_eq_some_iff.mp (vwel h1 h2)
  have hz : (II (0 : Int)).toNatClampNeg = 0 := by rw [II_clamp (by omega) inr0]; rfl
  have hnn : (II n').toNatClampNeg = n'.toNat := II_clamp n1 hr
  have hneg : ∀ x : Int, 0 ≤ x → inr x → ¬ II x < 0 := fun x h3 h4 h5 => by
    have h6 : II x < II 0 := h5
    rw [II_lt h4 inr0] at h6
    omega
  refine va_copyq (D := D) (C := eCn lt) (n0 := N b) (n1 := N a) (f := fun j => oc (R b j)) (g := fun j => oc (R a j)) B.1 B.2.1 (by rw [B.2.2.1, hl]) B.2.2.2.1 (B.2.2.2.2.1 _ hlink) (B.2.2.2.2.1 _ hnat) (B.2.2.2.2.1 _ hst) (B.2.2.2.2.1 _ hini) B.2.2.2.2.2.1 hM.1 hM.2.1 hM.2.2.1 i0 i 5 5 hi0 hi rfl rfl (hneg 0 (by omega) inr0) (hneg 0 (by omega) inr0) (hneg n' n1 hr) (by rw [hz, hnn]; omega) (by rw [hz, hnn]; omega) ?_ ?_ hf hlo hdg (fun H1 locs1 hP hD hS => kk _ H1 locs1 rfl ?_)
  · intro j hj y hy
    rw [hz, hnn] at *
    rw [Nat.zero_add] at hy
    rcases hM.2.2.2.2.2.2.1.rna (k := j) (t1 := el lt) hTb (by omega) (by omega) (by rw [rF_arr (by omega), rFEs h1 h2]) with z | ⟨e1, z, te⟩
    · have hy2 : oc (R b j) = some y := hy
      rw [z] at hy2; cases hy2
    · have hy2 : oc (R b j) = some y := hy
      rw [z] at hy2
      cases hy2
      obtain ⟨i2, hi2⟩ := hM.ix te (kd_ok hk (by omega))
      rw [cE_o te hk] at hi2
      have := va_recv B.2.2.2.2.2.1 hM.1 hr1 hi2
      rw [hr2] at this
      exact this
  · intro comp c0 q1 q2
    obtain ⟨c1, t1, f1, f2, f3⟩ := Cond.castable_spec (va_Nw.use (A := args) rfl (castel h1 h2 hX))
    cases q2.symm.trans f1
    cases q1.symm.trans f2
    exact f3
  · rw [hz, hnn] at hP hD
    have e1 : va_cpy (fun j => oc (R b j)) (fun j => oc (R a j)) 0 0 n'.toNat = fun (j : Nat) => oc (if (j : Int) < n' then R b j else R a j) := by
      funext j
      unfold va_cpy
      by_cases hj : (j : Int) < n'
      · rw [if_pos (by omega), if_pos hj]
        simp
      · rw [if_neg (by omega), if_neg hj]
    rw [e1] at hP hD
    refine hM.rowR (f := fun j => if (j : Int) < n' then R b j else R a j) hTa (kdEs h1 h2) hi' rfl hP hD hS (fun k hk => ?_) (hxi _ rfl)
    by_cases hj : (k : Int) < n'
    · rw [if_pos hj]
      have h5 := hM.2.2.2.2.2.2.1.r (k := k) hTb (by omega) (by omega)
      exact h5
    · rw [if_neg hj]
      exact hM.2.2.2.2.2.2.1.r hTa (by omega) hk
end CL
