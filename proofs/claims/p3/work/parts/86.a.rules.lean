section CAR
variable {p : Program} {l : Launch} {e : Env} {Rm : Room} {s : State} {m : MethodId} {args : Array Value} {below : List Frame} {meth : Method} {c : Code} {H : Heap} {locs : List Loc} {cells slots : Nat} {Q : State → Prop}
variable {cc : ByteArray} {pc : Nat} {ls : Array Slot} {rest : List Value}
variable {D : va_G} {dA : Nat → ClassId} {nL : Nat} {ret : Option FieldType} {own : String} {eA : Nat} {A0 : Nat → Prop} {H0 : Heap} {L : List Nat} {T N : Nat → Nat} {I : Nat → Nat → Int} {J : Nat → Nat → Int64} {R : Nat → Nat → Nat} {a b t k ci n index : Nat} {z : Int}
/-- rows of rows: their class, the class of the rows within -/
theorem cAOA_sp (hX : SX eA A0 s s.heap) (hK : va_K D vwCl (tyX dA) s) : ∃ kA : Class, s.vm.findClass (FieldType.array .int).toString = some (dA 0) ∧ s.vm.classes[dA 4]? = some kA ∧ kA.kind = .array (dA 0) (.array .int) := by
  obtain ⟨-, -, -, -, -, -, -, -, ⟨-, -, -, -, -, h, -⟩, -⟩ := hX
  obtain ⟨comp, cA, kA, h1, h2, h3, h4, h5⟩ := arrayOverA_spec (show (Cond.arrayOver (.array .int)).holds #[] s none s [] = true from h)
  have e0 : s.vm.findClass ("[" ++ (FieldType.int).toString) = some (dA 0) := (hK.2 0 (dA 0, .int) rfl).2
  have e4 : s.vm.findClass ("[" ++ (FieldType.array .int).toString) = some (dA 4) := (hK.2 4 (dA 4, .array .int) rfl).2
  have e5 : some comp = some (dA 0) := h1.symm.trans e0
  have e6 : some cA = some (dA 4) := h5.symm.trans e4
  cases e5; cases e6
  exact ⟨kA, e0, h3, h4⟩
theorem c_newA {n' : Nat} (B : Cx D dA p s m args meth c cc own nL ret) (hX : SX eA A0 s s.heap) (hA : ∀ q, H0.size ≤ q → A0 q) (hM : CWd D dA eA A0 H0 L T N I J R H locs) (hkd : kd t = (1, 4, [2])) (hq : 50 ≤ t ∧ xT t = false ∧ ((iR t 0).1 ≤ 0 ∧ 0 ≤ (iR t 0).2) ∧ (rF t 0).1 ≤ 1 ∧ (nR t).2 ≤ 10000000) (hcl : Cond.classLink own index "[I" ∈ lw_g) (hz : z = (n' : Int)) (hn : (nR t).1 ≤ n' ∧ n' ≤ (nR t).2) (hcells : cells + 1 ≤ Rm.cells) (hslots : slots + n' ≤ Rm.slots) (hdg : decode cc pc = .ok (.anewarray index, 3))
    (kk : ∀ (q : Nat) (L' : List Nat) (T' N' : Nat → Nat) (H : Heap), T q = 0 → T' = va_up T q t → N' = va_up N q n' → CWd D dA eA A0 H0 L' T' N' I J R H locs → W p l e Rm s m args below meth c H locs (cells + 1) (slots + n') Q (F0 m (pc + 3) ls (.ref q :: rest))) : W p l e Rm s m args below meth c H locs cells slots Q (F0 m pc ls (.int (II z) :: rest)) := by
  subst hz
  have hr : inr (n' : Int) := by unfold inr; omega
  have hc : (II (n' : Int)).toNatClampNeg = n' := by rw [II_clamp (by omega) hr]; omega
  have hX' := hX
  obtain ⟨-, -, -, -, -, -, -, -, ⟨-, -, -, -, -, h, -⟩, -⟩ := hX'
  refine W.anewA (t := .int) B.1 B.2.1 B.2.2.2.1 (B.2.2.2.2.1 _ hcl) h (g := F0 m pc ls (.int (II (n' : Int)) :: rest)) rfl hdg rfl ?_ ?_ hcells (by rw [hc]; exact hslots) (fun cA kA comp h1 h2 h3 h4 => ?_)
  · intro hq
    have h2 : II (n' : Int) < II 0 := hq
    rw [II_lt hr inr0] at h2
    omega
  · rw [hc]; omega
  · have e4 : s.vm.findClass ("[" ++ (FieldType.array .int).toString) = some (dA 4) := (B.2.2.2.2.2.1.2 4 (dA 4, .array .int) rfl).2
    have e6 : some cA = some (dA 4) := h1.symm.trans e4
    cases e6
    rw [hc]
    have hcell : ({ cls := dA 4, slots := Array.replicate n' .null, vm := .none } : Cell) = vp_cell (dA 4) (av 2 n' (fun _ => 0) (fun _ => 0) (fun _ => 0)) := by
      show _ = vp_cell (dA 4) (n', .inr (.inr (.inr (.inr (fun j => oc 0)))))
      rw [vp_cell_q, arrV_new]; rfl
    rw [hcell]
    generalize hH1 : H.push (vp_cell (dA 4) (av 2 n' (fun _ => 0) (fun _ => 0) (fun _ => 0))) = H1
    have z1 : H1.size = H.size + 1 := by rw [← hH1]; simp
    have o1 : ∀ q, q < H.size → H1[q]? = H[q]? := fun q hq => by rw [← hH1, Array.getElem?_push, if_neg (Nat.ne_of_lt hq)]
    have e1 : H1[H.size]? = some (vp_cell (dA 4) (av 2 n' (fun _ => 0) (fun _ => 0) (fun _ => 0))) := by rw [← hH1]; simp
    have hk : ∀ (k : Nat) (x : Nat × va_E), (cW dA L T N I J R)[k]? = some x → H1[x.1]? = H[x.1]? := fun k x hx => o1 x.1 ((hM.1 k x hx).lt)
    have hS := hM.2.2.1
    have hPn : va_P D vwCl (cW dA L T N I J R ++ [(H.size, .inl (dA 4, av 2 n' (fun _ => 0) (fun _ => 0) (fun _ => 0)))]) H1 := (hM.1.kept hk).app (fun k x hx => by
      have hz : k < 1 := (List.getElem?_eq_some_iff.mp hx).1
      rw [show k = 0 by omega] at hx
      cases hx
      exact e1)
    obtain ⟨g1, g2⟩ := hM.push (t := t) (n := n') hX.out hPn (hM.2.1.push hM.1 rfl (hA _ hS.1)) ⟨Nat.le_trans hS.1 (by omega), fun x h1 h2 => (o1 x (Nat.lt_of_lt_of_le h1 hS.1)).trans (hS.2.1 x h1 h2), hS.2.2⟩ (kd_ok hkd (by omega)) hq.2.1 hn (fun k _ => by rw [iR_arr hq.1, rF_arr hq.1]; exact ⟨hq.2.2.1, hq.2.2.2.1⟩) (by rw [hkd]; rfl)
    exact kk H.size _ _ _ H1 g1 rfl rfl g2
theorem c_astA (B : Cx D dA p s m args meth c cc own nL ret) (hX : SX eA A0 s s.heap) (hM : CWd D dA eA A0 H0 L T N I J R H locs) {tx : Nat} (hT : T a = t) (hkd : kd t = (1, 4, [2])) (h5 : 50 ≤ t) (hbig : (nR t).2 ≤ 10000000) {x : Nat} (hx : T x = tx) (hkx : kd tx = (1, 0, [0])) (hrf : (rF t 0).2.1 = tx) (hdg : decode cc pc = .ok (.aastore, 1)) (z1 : 0 ≤ z) (z2 : z < N a) (hxi : ∀ R', R' = w2 R a z.toNat (x + 1) → XI T N I R')
    (kk : ∀ (R' : Nat → Nat → Nat) (H : Heap) (locs : List Loc), R' = w2 R a z.toNat (x + 1) → CWd D dA eA A0 H0 L T N I J R' H locs → W p l e Rm s m args below meth c H locs cells slots Q (F0 m (pc + 1) ls rest)) : W p l e Rm s m args below meth c H locs cells slots Q (F0 m pc ls (.ref x :: .int (II z) :: .ref a :: rest)) := by
  obtain ⟨i, hi⟩ := hM.ix hT (kd_ok hkd (by omega))
  have hi' := hi
  rw [cE_a hT hkd] at hi
  obtain ⟨i2, hi2⟩ := hM.ix hx (kd_ok hkx (by omega))
  rw [cE_a hx hkx] at hi2
  obtain ⟨q1, q2, -⟩ := c_in hM hT (kd_ok hkd (by omega)).1 (by omega) z1 z2
  obtain ⟨kA, f1, f2, f3⟩ := cAOA_sp hX B.2.2.2.2.2.1
  obtain ⟨kE, hkE, -⟩ := Vm.findClass_spec f1
  have hP := hM.1
  have hD := hM.2.1
  have hcx : H[x]? = some (vp_cell (dA 0) (av 0 (N x) (I x) (J x) (R x))) := hP i2 _ hi2
  have hca : H[a]? = some (vp_cell (dA 4) (N a, .inr (.inr (.inr (.inr (fun j => oc (R a j))))))) := hP i _ hi
  have hcx' := hcx
  rw [show av 0 (N x) (I x) (J x) (R x) = (N x, .inl (fun j => II (I x j))) from rfl, vp_cell_i] at hcx'
  have hlt : (II z).toNatClampNeg < N a := Nat.not_le.mp fun q => q1 (Or.inr q)
  have h0 : ¬ II z < 0 := fun q => q1 (Or.inl q)
  refine W.aast B.1 B.2.1 (g := F0 m pc ls (.ref x :: .int (II z) :: .ref a :: rest)) hca (fun q h => by rw [vp_cell_q] at h; cases h) (fun h => by rw [vp_cell_q] at h; cases h) (by rw [vp_cell_q]; exact f2) f3 rfl hkE ⟨h0, by rw [vp_cell_q, arrV_size]; exact hlt⟩ hcx' (fun q h => by cases h) hkE (va_asg _ _) rfl rfl hdg (fun H1 e9 z9 oq => kk _ H1 _ rfl ?_)
  have hP1 := hP.set hD hi (e := .inl (dA 4, N a, .inr (.inr (.inr (.inr (va_up (fun j => oc (R a j)) (II z).toNatClampNeg (some x))))))) (by
    show H1[a]? = some (vp_cell _ _)
    rw [e9]
    rw [vp_cell_q, vp_cell_q, arrV_store]
    congr 2
    funext q
    by_cases hq : q = (II z).toNatClampNeg
    · subst hq
      simp [updV, va_up, va_rf]
    · simp [updV, va_up, hq]) oq
  have hD1 := hD.set (e := .inl (dA 4, N a, .inr (.inr (.inr (.inr (va_up (fun j => oc (R a j)) (II z).toNatClampNeg (some x))))))) hi
  have hS1 := hM.2.2.1.put (k := (II z).toNatClampNeg) z9 oq (hD.2 i _ hi)
  rw [q2] at hP1 hD1
  have e1 : va_up (fun j => oc (R a j)) z.toNat (some x) = fun j => oc (va_up (R a) z.toNat (x + 1) j) := oc_up (R a) z.toNat (x + 1)
  rw [e1] at hP1 hD1
  refine hM.rowR (f := va_up (R a) z.toNat (x + 1)) hT hkd hi' ?_ hP1 hD1 hS1 (fun k hk => ?_) (hxi _ rfl)
  · funext b
    by_cases hb : b = a
    · subst hb; rw [w2_row rfl, va_up_self]
    · rw [w2_nb rfl hb, va_up_ne _ _ hb]
  · by_cases e : k = z.toNat
    · subst e
      rw [va_up_self, rF_arr h5]
      exact Or.inr (Or.inr ⟨x, rfl, Or.inl (by rw [hrf]; exact hx)⟩)
    · rw [va_up_ne _ _ e]
      exact hM.2.2.2.2.2.2.1.r hT (kd_ok hkd (by omega)).1 hk
end CAR
