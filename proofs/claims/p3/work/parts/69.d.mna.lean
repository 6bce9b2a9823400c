section MNW
variable {T N T' N' : Nat → Nat} {I : Nat → Nat → Int} {J : Nat → Nat → Int64} {R R' : Nat → Nat → Nat} {L rows : List Nat} {eA q n k t tr : Nat}
/-- many rows, and the row of them -/
theorem WF.many (h : WF eA L T N I J R) (hq : T q = 0) (hqe : q ≠ eA) (hqr : q ∉ rows) (hr : ∀ a ∈ rows, T a = 0 ∧ a ≠ eA) (ht : t ≠ 0 ∧ t ≠ 1) (htr : tr ≠ 0 ∧ tr ≠ 1) (hT : T' = va_up (vr_up T rows tr) q t) (hN : N' = va_up (vr_up N rows k) q n) (hR : ∀ a, a ≠ q → R' a = R a)
    (hx : xT t = false ∧ xT tr = false) (hn : (nR t).1 ≤ n ∧ n ≤ (nR t).2) (hk : (nR tr).1 ≤ k ∧ k ≤ (nR tr).2) (hzr : ∀ j, j < k → ((iR tr j).1 ≤ 0 ∧ 0 ≤ (iR tr j).2) ∧ (rF tr j).1 ≤ 1) (hzq : ∀ j, j < n → (iR t j).1 ≤ 0 ∧ 0 ≤ (iR t j).2) (hrq : ∀ j, j < n → rOk T' (rF t j) (R' q j)) : WF eA ((L ++ rows) ++ [q]) T' N' I J R' := by
  have tq : T' q = t := by rw [hT, va_up_self]
  have nq : N' q = n := by rw [hN, va_up_self]
  have trw : ∀ a ∈ rows, T' a = tr := fun a ha => by
    have hne : a ≠ q := fun e => hqr (by rw [← e]; exact ha)
    rw [hT, va_up_ne _ _ hne, vr_up_in ha]
  have nrw : ∀ a ∈ rows, N' a = k := fun a ha => by
    have hne : a ≠ q := fun e => hqr (by rw [← e]; exact ha)
    rw [hN, va_up_ne _ _ hne, vr_up_in ha]
  have told : ∀ a, a ≠ q → a ∉ rows → T' a = T a := fun a h1 h2 => by rw [hT, va_up_ne _ _ h1, vr_up_ne h2]
  have nold : ∀ a, a ≠ q → a ∉ rows → N' a = N a := fun a h1 h2 => by rw [hN, va_up_ne _ _ h1, vr_up_ne h2]
  have hold : ∀ a, T a ≠ 0 → a ≠ q ∧ a ∉ rows := fun a ha => ⟨fun e => ha (e ▸ hq), fun e => ha (hr a e).1⟩
  refine ⟨fun b => ?_, fun b => ?_, fun b hb => ?_, fun b hb => ?_, ?_⟩
  · by_cases e : b = q
    · subst e; rw [tq]; simp [ht]
    · by_cases e2 : b ∈ rows
      · rw [trw b e2]; simp [e2, htr]
      · rw [told b e e2]; simp only [List.mem_append, e2, List.mem_singleton, e, or_false]; exact h.1 b
  · by_cases e : b = q
    · subst e; rw [tq]; exact ⟨fun z => absurd z ht.2, fun z => absurd z hqe⟩
    · by_cases e2 : b ∈ rows
      · rw [trw b e2]; exact ⟨fun z => absurd z htr.2, fun z => absurd z (hr b e2).2⟩
      · rw [told b e e2]; exact h.2.1 b
  · by_cases e : b = q
    · subst e; rw [tq] at hb; exact absurd hb ht.1
    · by_cases e2 : b ∈ rows
      · rw [trw b e2] at hb; exact absurd hb htr.1
      · rw [told b e e2] at hb; rw [hR b e]; exact h.2.2.1 b hb
  · unfold TY
    by_cases e : b = q
    · subst e
      rw [tq, nq]
      refine ⟨hn.1, hn.2, fun j hj => ?_⟩
      rw [(h.2.2.1 b hq j).1]
      exact ⟨hzq j hj, hrq j hj⟩
    · by_cases e2 : b ∈ rows
      · rw [trw b e2, nrw b e2, hR b e]
        refine ⟨hk.1, hk.2, fun j hj => ?_⟩
        have z := h.2.2.1 b (hr b e2).1 j
        rw [z.1, z.2.2]
        refine ⟨(hzr j hj).1, ?_⟩
        have := (hzr j hj).2
        rcases Nat.lt_or_ge (rF tr j).1 1 with g | g
        · exact Or.inl (by omega)
        · exact Or.inr (Or.inl ⟨by omega, rfl⟩)
      · rw [told b e e2] at hb
        rw [told b e e2, nold b e e2, hR b e]
        obtain ⟨h1, h2, h3⟩ := h.2.2.2.1 b hb
        exact ⟨h1, h2, fun j hj => ⟨(h3 j hj).1, (h3 j hj).2.mono (fun c hc => told c (hold c hc).1 (hold c hc).2) (rF_ok _ _)⟩⟩
  · refine h.2.2.2.2.keep h.2.2.2.1 (fun b hb => ⟨told b (hold b hb).1 (hold b hb).2, nold b (hold b hb).1 (hold b hb).2, fun _ _ => rfl, fun _ _ => by rw [hR b (hold b hb).1]⟩) (fun b hb => ?_)
    by_cases e : b = q
    · subst e; rw [tq]; exact hx.1
    · by_cases e2 : b ∈ rows
      · rw [trw b e2]; exact hx.2
      · rw [told b e e2, hb]; decide
end MNW
section MNC
variable {p : Program} {l : Launch} {e : Env} {Rm : Room} {s : State} {m : MethodId} {args : Array Value} {below : List Frame} {meth : Method} {c : Code} {H : Heap} {locs : List Loc} {cells slots : Nat} {Q : State → Prop}
variable {cc : ByteArray} {pc : Nat} {ls : Array Slot} {rest : List Value}
variable {D : va_G} {dA : Nat → ClassId} {nL : Nat} {ret : Option FieldType} {own : String} {eA : Nat} {A0 : Nat → Prop} {H0 : Heap} {L : List Nat} {T N : Nat → Nat} {I : Nat → Nat → Int} {J : Nat → Nat → Int64} {R : Nat → Nat → Nat} {a b t tr n k index : Nat}
theorem c_mna (B : Cx D dA p s m args meth c cc own nL ret) (hX : SX eA A0 s s.heap) (hA : ∀ q, H0.size ≤ q → A0 q) (hM : CWd D dA eA A0 H0 L T N I J R H locs) (hkd : kd t = (1, 4, [2])) (hkr : kd tr = (1, 0, [0])) (hq : 50 ≤ t ∧ xT t = false ∧ ((iR t 0).1 ≤ 0 ∧ 0 ≤ (iR t 0).2) ∧ rF t 0 = (2, tr, tr)) (hqr : 50 ≤ tr ∧ xT tr = false ∧ ((iR tr 0).1 ≤ 0 ∧ 0 ≤ (iR tr 0).2) ∧ (rF tr 0).1 ≤ 1) (hcl : Cond.classLink own index "[[I" ∈ lw_g) (hn : (nR t).1 ≤ n ∧ n ≤ (nR t).2) (hk : (nR tr).1 ≤ k ∧ k ≤ (nR tr).2) (hb : n ≤ 1000 ∧ k ≤ 1000) (hcells : cells + (1 + n) ≤ Rm.cells) (hslots : slots + (n + n * k) ≤ Rm.slots) (hdg : decode cc pc = .ok (.multianewarray index 2, 4))
    (kk : ∀ (q : Nat) (rows : List Nat) (L' : List Nat) (T' N' : Nat → Nat) (R' : Nat → Nat → Nat) (H : Heap), T q = 0 → (∀ a ∈ rows, T a = 0) → q ∉ rows → T' = va_up (vr_up T rows tr) q t → N' = va_up (vr_up N rows k) q n → (∀ a, a ≠ q → R' a = R a) → CWd D dA eA A0 H0 L' T' N' I J R' H locs → W p l e Rm s m args below meth c H locs (cells + 1 + n) (slots + n + n * k) Q (F0 m (pc + 4) ls (.ref q :: rest))) : W p l e Rm s m args below meth c H locs cells slots Q (F0 m pc ls (.int (II (k : Int)) :: .int (II (n : Int)) :: rest)) := by
  have hrn : inr (n : Int) := by unfold inr; omega
  have hrk : inr (k : Int) := by unfold inr; omega
  have neg : ∀ x : Int, 0 ≤ x → inr x → ¬ II x < 0 := fun x h3 h4 h5 => by
    have h6 : II x < II 0 := h5
    rw [II_lt h4 inr0] at h6
    omega
  have hX' := hX
  obtain ⟨-, -, -, -, -, -, -, -, ⟨-, -, -, -, -, h, -⟩, -⟩ := hX'
  have e0 : s.vm.findClass ("[" ++ (FieldType.int).toString) = some (dA 0) := (B.2.2.2.2.2.1.2 0 (dA 0, .int) rfl).2
  have e4 : s.vm.findClass ("[" ++ (FieldType.array .int).toString) = some (dA 4) := (B.2.2.2.2.2.1.2 4 (dA 4, .array .int) rfl).2
  refine va_mna (X := []) (L := L) (f := cE dA T N I J R) (ty := .int) (cy := dA 0) (N' := n) (K' := k) (z := av 0 k (fun _ => 0) (fun _ => 0) (fun _ => 0)) B.1 B.2.1 B.2.2.2.1 (B.2.2.2.2.1 _ hcl) (show (Cond.arrayOver (.array .int)).before args s = true from h) (B.2.2.2.2.1 _ acc_int) e0 B.2.2.2.2.2.1 hM.1 hM.2.1 hM.2.2.1 hA (neg n (by omega) hrn) (neg k (by omega) hrk) (by rw [II_clamp (by omega) hrn]; omega) (by rw [II_clamp (by omega) hrk]; omega) (by omega) (by show k * 4 ≤ _; omega) (by omega) rfl rfl hcells hslots (fun cI => ?_) hdg (fun q r cA H1 hinj hnl hK1 hP hD hS => ?_)
  · rw [hav_int]
    exact arrV_new cI k _
  · have ecA : cA = dA 4 := by
      have h1 := (hK1.2 (tyX dA).length (cA, .array .int) (by rw [List.getElem?_append_right (Nat.le_refl _), Nat.sub_self]; rfl)).2
      exact Option.some.inj (h1.symm.trans e4)
    subst ecA
    generalize hrows : (List.range n).map r = rows at hP hD
    have hrin : ∀ i, i < n → r i ∈ rows := fun i hi => by rw [← hrows]; exact List.mem_map.mpr ⟨i, List.mem_range.mpr hi, rfl⟩
    have hP2 := va_P.swap (a := []) hP
    have hD2 := va_D.swap (a := []) hD
    rw [List.nil_append] at hP2 hD2
    have hrL : ∀ a ∈ rows, a ∉ L := fun a ha => by
      rw [← hrows] at ha
      obtain ⟨i, hi, rfl⟩ := List.mem_map.mp ha
      exact hnl i (List.mem_range.mp hi)
    -- the row of rows is none of them
    have hqn : q ∉ L ++ rows := by
      intro hqq
      obtain ⟨i, hi⟩ := va_pl_get (X := []) (f := vr_up (cE dA T N I J R) rows (.inl (dA 0, av 0 k (fun _ => 0) (fun _ => 0) (fun _ => 0)))) hqq
      rw [List.nil_append] at hi
      have hl : i < (va_pl (L ++ rows) (vr_up (cE dA T N I J R) rows (.inl (dA 0, av 0 k (fun _ => 0) (fun _ => 0) (fun _ => 0))))).length := (List.getElem?_eq_some_iff.mp hi).1
      have hlast : ((va_pl (L ++ rows) (vr_up (cE dA T N I J R) rows (.inl (dA 0, av 0 k (fun _ => 0) (fun _ => 0) (fun _ => 0))))) ++ [(q, (Sum.inl (dA 4, n, Sum.inr (Sum.inr (Sum.inr (Sum.inr (fun i => if i < n then some (r i) else none))))) : va_E))])[((va_pl (L ++ rows) (vr_up (cE dA T N I J R) rows (.inl (dA 0, av 0 k (fun _ => 0) (fun _ => 0) (fun _ => 0)))))).length]? = some (q, (Sum.inl (dA 4, n, Sum.inr (Sum.inr (Sum.inr (Sum.inr (fun i => if i < n then some (r i) else none))))) : va_E)) := by rw [List.getElem?_append_right (Nat.le_refl _), Nat.sub_self]; rfl
      have hfst : ((va_pl (L ++ rows) (vr_up (cE dA T N I J R) rows (.inl (dA 0, av 0 k (fun _ => 0) (fun _ => 0) (fun _ => 0))))) ++ [(q, (Sum.inl (dA 4, n, Sum.inr (Sum.inr (Sum.inr (Sum.inr (fun i => if i < n then some (r i) else none))))) : va_E))])[i]? = some (q, vr_up (cE dA T N I J R) rows (.inl (dA 0, av 0 k (fun _ => 0) (fun _ => 0) (fun _ => 0))) q) := by rw [List.getElem?_append_left hl]; exact hi
      have := hD2.1 i _ _ _ hfst hlast rfl
      omega
    have hqr2 : q ∉ rows := fun hh => hqn (List.mem_append_right _ hh)
    have hqL : q ∉ L := fun hh => hqn (List.mem_append_left _ hh)
    have hqe : q ≠ eA := by
      intro e9
      refine hX.out ?_
      rw [← e9]
      exact hD2.2 (va_pl (L ++ rows) (vr_up (cE dA T N I J R) rows (.inl (dA 0, av 0 k (fun _ => 0) (fun _ => 0) (fun _ => 0))))).length _ (by rw [List.getElem?_append_right (Nat.le_refl _), Nat.sub_self]; rfl)
    have hre : ∀ a ∈ rows, a ≠ eA := by
      intro a ha e9
      refine hX.out ?_
      rw [← e9]
      obtain ⟨i, hi⟩ := va_pl_get (X := []) (f := vr_up (cE dA T N I J R) rows (.inl (dA 0, av 0 k (fun _ => 0) (fun _ => 0) (fun _ => 0)))) (List.mem_append_right L ha)
      rw [List.nil_append] at hi
      have hl := (List.getElem?_eq_some_iff.mp hi).1
      exact hD2.2 i _ (by rw [List.getElem?_append_left hl]; exact hi)
    have t0 : ∀ a, a ∉ L → a ≠ eA → T a = 0 := fun a h1 h2 => by
      by_cases e0 : T a = 0
      · exact e0
      · by_cases e1 : T a = 1
        · exact absurd ((hM.2.2.2.2.1 a).mp e1) h2
        · exact absurd ((hM.2.2.2.1 a).mpr ⟨e0, e1⟩) h1
    obtain ⟨T', hT'⟩ : ∃ X, X = va_up (vr_up T rows tr) q t := ⟨_, rfl⟩
    obtain ⟨N', hN'⟩ : ∃ X, X = va_up (vr_up N rows k) q n := ⟨_, rfl⟩
    obtain ⟨R', hR'⟩ : ∃ X, X = va_up R q (fun i => if i < n then r i + 1 else 0) := ⟨_, rfl⟩
    have hRo : ∀ a, a ≠ q → R' a = R a := fun a ha => by rw [hR', va_up_ne _ _ ha]
    have hw : WF eA ((L ++ rows) ++ [q]) T' N' I J R' := hM.2.2.2.many (t0 q hqL hqe) hqe hqr2 (fun a ha => ⟨t0 a (hrL a ha) (hre a ha), hre a ha⟩) (kd_ok hkd (by omega)) (kd_ok hkr (by omega)) hT' hN' hRo ⟨hq.2.1, hqr.2.1⟩ hn hk (fun j _ => by rw [iR_arr hqr.1, rF_arr hqr.1]; exact ⟨hqr.2.2.1, hqr.2.2.2⟩) (fun j _ => by rw [iR_arr hq.1]; exact hq.2.2.1) (fun j hj => by
      rw [rF_arr hq.1, hq.2.2.2, hR', va_up_self, if_pos hj]
      refine Or.inr (Or.inr ⟨r j, rfl, Or.inl ?_⟩)
      have hne : r j ≠ q := fun e9 => hqr2 (by rw [← e9]; exact hrin j hj)
      rw [hT', va_up_ne _ _ hne, vr_up_in (hrin j hj)])
    have hcw : va_pl (L ++ rows) (vr_up (cE dA T N I J R) rows (.inl (dA 0, av 0 k (fun _ => 0) (fun _ => 0) (fun _ => 0)))) ++ [(q, .inl (dA 4, n, .inr (.inr (.inr (.inr (fun i => if i < n then some (r i) else none))))))] = cW dA ((L ++ rows) ++ [q]) T' N' I J R' := by
      rw [va_pl_push hqn]
      refine va_pl_congr (fun b => ?_)
      by_cases e1 : b = q
      · subst e1
        rw [va_up_self]
        unfold cE
        have z := hM.2.2.2.2.2.1 b (t0 b hqL hqe)
        rw [hT', hN', hR', va_up_self, va_up_self, va_up_self, hkd]
        show _ = Sum.inl (dA 4, av 2 n (I b) (J b) (fun i => if i < n then r i + 1 else 0))
        refine congrArg (fun g => Sum.inl (dA 4, n, Sum.inr (Sum.inr (Sum.inr (Sum.inr g))))) (funext fun i => ?_)
        by_cases hi : i < n
        · rw [if_pos hi]; show _ = oc (if i < n then r i + 1 else 0); rw [if_pos hi]; rfl
        · rw [if_neg hi]; show _ = oc (if i < n then r i + 1 else 0); rw [if_neg hi]; rfl
      · rw [va_up_ne _ _ e1]
        by_cases e2 : b ∈ rows
        · rw [vr_up_in e2]
          unfold cE
          have z := hM.2.2.2.2.2.1 b (t0 b (hrL b e2) (hre b e2))
          rw [hT', hN', hR', va_up_ne _ _ e1, va_up_ne _ _ e1, va_up_ne _ _ e1, vr_up_in e2, vr_up_in e2, hkr]
          rw [show I b = fun _ => 0 from funext fun k => (z k).1, show J b = fun _ => 0 from funext fun k => (z k).2.1, show R b = fun _ => 0 from funext fun k => (z k).2.2]
          rfl
        · rw [vr_up_ne e2]
          unfold cE
          rw [hT', hN', hR', va_up_ne _ _ e1, va_up_ne _ _ e1, va_up_ne _ _ e1, vr_up_ne e2, vr_up_ne e2]
    rw [hcw] at hP2 hD2
    exact kk q rows _ T' N' R' H1 (t0 q hqL hqe) (fun a ha => t0 a (hrL a ha) (hre a ha)) hqr2 hT' hN' hRo ⟨hP2, hD2, hS, hw⟩
theorem Fr.many {mm ex : List Nat} {T N T1 N1 T2 N2 : Nat → Nat} {I I1 : Nat → Nat → Int} {J J1 : Nat → Nat → Int64} {R R1 R2 : Nat → Nat → Nat} {q : Nat} {rows : List Nat} (h : Fr mm ex T N I J R T1 N1 I1 J1 R1) (hq : T1 q = 0) (hr : ∀ a ∈ rows, T1 a = 0) (hT : T2 = va_up (vr_up T1 rows tr) q t) (hN : N2 = va_up (vr_up N1 rows k) q n) (hR : ∀ a, a ≠ q → R2 a = R1 a) : Fr mm ex T N I J R T2 N2 I1 J1 R2 := by
  subst hT; subst hN
  intro b hb he
  obtain ⟨h1, h2, h3⟩ := h b hb he
  have hne : b ≠ q := fun e => hb (by rw [← h1, e, hq])
  have hnr : b ∉ rows := fun e => hb (by rw [← h1, hr b e])
  refine ⟨by rw [va_up_ne _ _ hne, vr_up_ne hnr]; exact h1, by rw [va_up_ne _ _ hne, vr_up_ne hnr]; exact h2, fun j hj => ?_⟩
  rw [hR b hne]
  exact h3 j hj
end MNC
