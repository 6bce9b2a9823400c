section CPI
variable {T N T' N' : Nat → Nat} {I I' : Nat → Nat → Int} {J : Nat → Nat → Int64} {R : Nat → Nat → Nat} {L : List Nat} {eA q n t : Nat} {f : Nat → Int}
theorem WF.newI (h : WF eA L T N I J R) (hq : T q = 0) (hqe : q ≠ eA) (ht : t ≠ 0 ∧ t ≠ 1) (hT : T' = va_up T q t) (hN : N' = va_up N q n) (hI : I' = va_up I q f) (hx : xT t = false) (hn : (nR t).1 ≤ n ∧ n ≤ (nR t).2) (hz : ∀ k, k < n → ((iR t k).1 ≤ f k ∧ f k ≤ (iR t k).2) ∧ (rF t k).1 ≤ 1) : WF eA (L ++ [q]) T' N' I' J R := by
  subst hT; subst hN; subst hI
  have hold : ∀ b, T b ≠ 0 → b ≠ q := fun b hb e => hb (e ▸ hq)
  refine ⟨fun b => ?_, fun b => ?_, fun b hb => ?_, fun b hb => ?_, ?_⟩
  · by_cases e : b = q
    · subst e
      rw [va_up_self]
      simp [ht]
    · rw [va_up_ne _ _ e]
      simp only [List.mem_append, List.mem_singleton, e, or_false]
      exact h.1 b
  · by_cases e : b = q
    · subst e
      rw [va_up_self]
      exact ⟨fun z => absurd z ht.2, fun z => absurd z hqe⟩
    · rw [va_up_ne _ _ e]; exact h.2.1 b
  · by_cases e : b = q
    · subst e
      rw [va_up_self] at hb
      exact absurd hb ht.1
    · rw [va_up_ne _ _ e] at hb
      rw [va_up_ne _ _ e]; exact h.2.2.1 b hb
  · unfold TY
    by_cases e : b = q
    · subst e
      rw [va_up_self, va_up_self, va_up_self]
      refine ⟨hn.1, hn.2, fun k hk => ⟨(hz k hk).1, ?_⟩⟩
      have z := h.2.2.1 b hq k
      rw [z.2.2]
      have := (hz k hk).2
      rcases Nat.lt_or_ge (rF t k).1 1 with g | g
      · exact Or.inl (by omega)
      · exact Or.inr (Or.inl ⟨by omega, rfl⟩)
    · rw [va_up_ne _ _ e, va_up_ne _ _ e, va_up_ne _ _ e]
      rw [va_up_ne _ _ e] at hb
      obtain ⟨h1, h2, h3⟩ := h.2.2.2.1 b hb
      exact ⟨h1, h2, fun k hk => ⟨(h3 k hk).1, (h3 k hk).2.mono (fun c hc => va_up_ne _ _ (hold c hc)) (rF_ok _ _)⟩⟩
  · refine h.2.2.2.2.keep h.2.2.2.1 (fun b hb => ⟨va_up_ne _ _ (hold b hb), va_up_ne _ _ (hold b hb), fun _ _ => by rw [va_up_ne _ _ (hold b hb)], fun _ _ => rfl⟩) (fun b hb => ?_)
    by_cases e : b = q
    · subst e; rw [va_up_self]; exact hx
    · rw [va_up_ne _ _ e, hb]; decide
end CPI
section CPJ
variable {p : Program} {l : Launch} {e : Env} {Rm : Room} {s : State} {m : MethodId} {args : Array Value} {below : List Frame} {meth : Method} {c : Code} {H : Heap} {locs : List Loc} {cells slots : Nat} {Q : State → Prop}
variable {cc : ByteArray} {pc : Nat} {ls : Array Slot} {rest : List Value}
variable {D : va_G} {dA : Nat → ClassId} {nL : Nat} {ret : Option FieldType} {own : String} {eA : Nat} {A0 : Nat → Prop} {H0 : Heap} {L : List Nat} {T N : Nat → Nat} {I : Nat → Nat → Int} {J : Nat → Nat → Int64} {R : Nat → Nat → Nat} {a b t t0 k n index : Nat} {z : Int}
theorem CWd.pushI {q : Nat} {x : va_E} {H1 : Heap} {f : Nat → Int} (hM : CWd D dA eA A0 H0 L T N I J R H locs) (hE : ¬ A0 eA) (hP : va_P D vwCl (cW dA L T N I J R ++ [(q, x)]) H1) (hD : va_D A0 (cW dA L T N I J R ++ [(q, x)])) (hS : va_S A0 H0 H1 locs) (ht : t ≠ 0 ∧ t ≠ 1) (hx : xT t = false) (hn : (nR t).1 ≤ n ∧ n ≤ (nR t).2) (hz : ∀ k, k < n → ((iR t k).1 ≤ f k ∧ f k ≤ (iR t k).2) ∧ (rF t k).1 ≤ 1) (he : eK dA (kd t) n f (fun _ => 0) (fun _ => 0) = x) : T q = 0 ∧ CWd D dA eA A0 H0 (L ++ [q]) (va_up T q t) (va_up N q n) (va_up I q f) J R H1 locs := by
  obtain ⟨h1, h2, h3⟩ := c_fresh hM hE hD
  refine ⟨h3, ?_⟩
  have e1 : cW dA L T N I J R ++ [(q, x)] = cW dA (L ++ [q]) (va_up T q t) (va_up N q n) (va_up I q f) J R := by
    rw [va_pl_push h1]
    refine va_pl_congr (fun b => ?_)
    by_cases hb : b = q
    · subst hb
      rw [va_up_self, ← he]
      unfold cE
      rw [va_up_self, va_up_self, va_up_self]
      have z := hM.2.2.2.2.2.1 b h3
      rw [show J b = fun _ => 0 from funext fun k => (z k).2.1, show R b = fun _ => 0 from funext fun k => (z k).2.2]
    · rw [va_up_ne _ _ hb]
      unfold cE
      rw [va_up_ne _ _ hb, va_up_ne _ _ hb, va_up_ne _ _ hb]
  rw [e1] at hP hD
  exact ⟨hP, hD, hS, hM.2.2.2.newI h3 h2 ht rfl rfl rfl hx hn hz⟩
/-- a row of ints is written whole -/
theorem CWd.rowI {f : Nat → Int} {I' : Nat → Nat → Int} {H1 : Heap} {locs1 : List Loc} {i d : Nat} (hM : CWd D dA eA A0 H0 L T N I J R H locs) (hT : T a = t) (hkd : kd t = (1, d, [0])) (hxi : xI t 0 = false) (h50 : 50 ≤ t) (hi : (cW dA L T N I J R)[i]? = some (a, cE dA T N I J R a)) (hu : I' = va_up I a f) (hP : va_P D vwCl ((cW dA L T N I J R).set i (a, .inl (dA d, N a, .inl (fun j => II (f j))))) H1) (hD : va_D A0 ((cW dA L T N I J R).set i (a, .inl (dA d, N a, .inl (fun j => II (f j)))))) (hS : va_S A0 H0 H1 locs1) (ht : ∀ k, k < N a → (iR t k).1 ≤ f k ∧ f k ≤ (iR t k).2) : CWd D dA eA A0 H0 L T N I' J R H1 locs1 := by
  have h0 := kd_ok hkd (by omega)
  refine hM.set hi ((hM.2.2.2.1 a).mpr (by rw [hT]; exact h0)) (by rw [cE_a hT hkd, hu, va_up_self]; rfl) (fun b hb => by unfold cE; rw [hu, va_up_ne _ _ hb]) hP hD hS ⟨hM.2.2.2.1, hM.2.2.2.2.1, fun b hb k => ?_, fun b hb => ?_, ?_⟩
  · have hne : b ≠ a := fun e => h0.1 (by rw [← hT, ← e]; exact hb)
    rw [hu, va_up_ne _ _ hne]
    exact hM.2.2.2.2.2.1 b hb k
  · obtain ⟨q1, q2, q3⟩ := hM.2.2.2.2.2.2.1 b hb
    refine ⟨q1, q2, fun k hk => ⟨?_, (q3 k hk).2⟩⟩
    by_cases e : b = a
    · subst e
      rw [hu, va_up_self, hT]
      exact ht k hk
    · rw [hu, va_up_ne _ _ e]
      exact (q3 k hk).1
  · refine hM.2.2.2.2.2.2.2.keep hM.2.2.2.2.2.2.1 (fun b hb => ⟨rfl, rfl, fun k hk => ?_, fun _ _ => rfl⟩) (fun b hb => by rw [hb]; decide)
    by_cases e : b = a
    · subst e; rw [hT, xI_arr h50, hxi] at hk; cases hk
    · rw [hu, va_up_ne _ _ e]
theorem fitsI {v : Int} : fits .int (.int (II v)) = true := rfl
theorem c_cloneI (B : Cx D dA p s m args meth c cc RJ7 nL ret) (hX : SX eA A0 s s.heap) (hA : ∀ q, H0.size ≤ q → A0 q) (hM : CWd D dA eA A0 H0 L T N I J R H locs) (hl : ls.size = nL) (hT : T a = t0) (hkd0 : kd t0 = (1, 0, [0])) (hkd : kd t = (1, 0, [0])) (hq : 50 ≤ t ∧ xT t = false ∧ iR t 0 = iRng ∧ (rF t 0).1 ≤ 1 ∧ 50 ≤ t0 ∧ iR t0 0 = iRng) (hn : (nR t).1 ≤ N a ∧ N a ≤ (nR t).2) (hf : 1 ≤ Rm.frames) (hlo : (rest.map fun v => v.category).sum + 14 ≤ Rm.locals) (hcells : cells + 1 ≤ Rm.cells) (hslots : slots + N a ≤ Rm.slots) (hdg : decode cc pc = .ok (.invokevirtual 316, 3))
    (kk : ∀ (q : Nat) (L' : List Nat) (T' N' : Nat → Nat) (I' : Nat → Nat → Int) (H : Heap), T q = 0 → T' = va_up T q t → N' = va_up N q (N a) → I' = va_up I q (I a) → CWd D dA eA A0 H0 L' T' N' I' J R H locs → W p l e Rm s m args below meth c H locs (cells + 1) (slots + N a) Q (F0 m (pc + 3) ls (.ref q :: rest))) : W p l e Rm s m args below meth c H locs cells slots Q (F0 m pc ls (.ref a :: rest)) := by
  obtain ⟨i, hi⟩ := hM.ix hT (kd_ok hkd0 (by omega))
  rw [cE_a hT hkd0] at hi
  obtain ⟨-, -, -, -, -, -, -, -, -, -, -, -, -, -, -, hcl, -⟩ := id hX
  refine va_clone (D := D) (ad := "[I") B.1 B.2.1 (by rw [B.2.2.1, hl]) B.2.2.2.1 (B.2.2.2.2.1 _ clk_i.1) (B.2.2.2.2.1 _ clk_i.2.1) (B.2.2.2.2.1 _ clk_n.1) (B.2.2.2.2.1 _ clk_n.2) (B.2.2.2.2.1 _ clk_i.2.2) hcl B.2.2.2.2.2.1 hM.1 hM.2.1 hM.2.2.1 hA i 0 hi rfl (B.2.2.2.2.2.1.2 0 _ rfl).2 ?_ hf hlo hcells hslots hdg (fun q H1 hK1 hP hD hS => ?_)
  · intro j v hv
    have hv2 : (arrV (dA 0) (N a) (fun j => Value.int (II (I a j)))).slots[j]? = some v := hv
    by_cases hj : j < N a
    · rw [arrV_read _ _ hj] at hv2
      cases hv2
      rfl
    · have hsz : (arrV (dA 0) (N a) (fun j => Value.int (II (I a j)))).slots.size = N a := arrV_size _ _ _
      rw [Array.getElem?_eq_none (by omega)] at hv2
      cases hv2
  · obtain ⟨h1, h2⟩ := hM.pushI (t := t) (f := I a) hX.out hP hD hS (kd_ok hkd (by omega)) hq.2.1 hn (fun k hk => by
      rw [iR_arr hq.1, rF_arr hq.1, hq.2.2.1]
      have := hM.2.2.2.2.2.2.1.i hT (kd_ok hkd0 (by omega)).1 hk
      rw [iR_arr hq.2.2.2.2.1, hq.2.2.2.2.2] at this
      exact ⟨this, hq.2.2.2.1⟩) (by rw [hkd]; rfl)
    exact kk q _ _ _ _ H1 h1 rfl rfl rfl h2
theorem c_cpyI {n' : Int} (B : Cx D dA p s m args meth c cc own nL ret) (hM : CWd D dA eA A0 H0 L T N I J R H locs) (hTb : T b = t0) (hkd0 : kd t0 = (1, 0, [0])) (hTa : T a = t) (hkd : kd t = (1, 0, [0])) (hq : 50 ≤ t ∧ xI t 0 = false ∧ iR t 0 = iRng ∧ 50 ≤ t0 ∧ iR t0 0 = iRng ∧ (nR t).2 ≤ 1000000) (hl : ls.size = nL) (hlink : Cond.methodLink own index arraycopyName ∈ lw_g) (n1 : 0 ≤ n') (n2 : n' ≤ N b) (n3 : n' ≤ N a) (hf : 1 ≤ Rm.frames) (hlo : (rest.map fun v => v.category).sum + (nativeFrameWords "java/lang/System" "arraycopy" 5 + 11) ≤ Rm.locals) (hdg : decode cc pc = .ok (.invokestatic index, 3))
    (kk : ∀ (I' : Nat → Nat → Int) (H : Heap) (locs : List Loc), I' = va_up I a (fun j => if (j : Int) < n' then I b j else I a j) → CWd D dA eA A0 H0 L T N I' J R H locs → W p l e Rm s m args below meth c H locs cells slots Q (F0 m (pc + 3) ls rest)) : W p l e Rm s m args below meth c H locs cells slots Q (F0 m pc ls (.int (II n') :: .int (II 0) :: .ref a :: .int (II 0) :: .ref b :: rest)) := by
  have hna : N a ≤ (nR t).2 := (hM.2.2.2.2.2.2.1.n hTa (kd_ok hkd (by omega)).1).2
  have hr : inr n' := by unfold inr; omega
  obtain ⟨i, hi⟩ := hM.ix hTa (kd_ok hkd (by omega))
  have hi' := hi
  rw [cE_a hTa hkd] at hi
  obtain ⟨i0, hi0⟩ := hM.ix hTb (kd_ok hkd0 (by omega))
  rw [cE_a hTb hkd0] at hi0
  have hz : (II (0 : Int)).toNatClampNeg = 0 := by rw [II_clamp (by omega) inr0]; rfl
  have hnn : (II n').toNatClampNeg = n'.toNat := II_clamp n1 hr
  have hneg : ∀ x : Int, 0 ≤ x → inr x → ¬ II x < 0 := fun x h3 h4 h5 => by
    have h6 : II x < II 0 := h5
    rw [II_lt h4 inr0] at h6
    omega
  refine va_copyi (D := D) (n0 := N b) (n1 := N a) (f := fun j => II (I b j)) (g := fun j => II (I a j)) (ty := .int) B.1 B.2.1 (by rw [B.2.2.1, hl]) B.2.2.2.1 (B.2.2.2.2.1 _ hlink) (B.2.2.2.2.1 _ anat) (B.2.2.2.2.1 _ astt) (B.2.2.2.2.1 _ aini) B.2.2.2.2.2.1 hM.1 hM.2.1 hM.2.2.1 i0 i 0 0 hi0 hi rfl rfl rfl (hneg 0 (by omega) inr0) (hneg 0 (by omega) inr0) (hneg n' n1 hr) (by rw [hz, hnn]; omega) (by rw [hz, hnn]; omega) (fun i _ => rfl) hf hlo hdg (fun H1 locs1 hP hD hS => kk _ H1 locs1 rfl ?_)
  rw [hz, hnn] at hP hD
  have e1 : va_cpy (fun j => II (I b j)) (fun j => II (I a j)) 0 0 n'.toNat = fun (j : Nat) => II (if (j : Int) < n' then I b j else I a j) := by
    funext j
    unfold va_cpy
    by_cases hj : (j : Int) < n'
    · rw [if_pos (by omega), if_pos hj]
      simp
    · rw [if_neg (by omega), if_neg hj]
  rw [e1] at hP hD
  refine hM.rowI (f := fun j => if (j : Int) < n' then I b j else I a j) hTa hkd hq.2.1 hq.1 hi' rfl hP hD hS (fun k hk => ?_)
  rw [iR_arr hq.1, hq.2.2.1]
  by_cases hj : (k : Int) < n'
  · rw [if_pos hj]
    have h5 := hM.2.2.2.2.2.2.1.i (k := k) hTb (kd_ok hkd0 (by omega)).1 (by omega)
    rw [iR_arr hq.2.2.2.1, hq.2.2.2.2.1] at h5
    exact h5
  · rw [if_neg hj]
    have h5 := hM.2.2.2.2.2.2.1.i (k := k) hTa (kd_ok hkd (by omega)).1 hk
    rw [iR_arr hq.1, hq.2.2.1] at h5
    exact h5
end CPJ
section CPF
variable {m ex : List Nat} {T N T1 N1 : Nat → Nat} {I I1 I2 : Nat → Nat → Int} {J J1 : Nat → Nat → Int64} {R R1 : Nat → Nat → Nat} {q : Nat}
theorem Fr.rowI {f : Nat → Int} (h : Fr m ex T N I J R T1 N1 I1 J1 R1) (hu : I2 = va_up I1 q f) (hz : T q = 0) : Fr m ex T N I J R T1 N1 I2 J1 R1 := by
  intro b hb he
  obtain ⟨h1, h2, h3⟩ := h b hb he
  have hne : b ≠ q := fun e => hb (by rw [e]; exact hz)
  exact ⟨h1, h2, fun k hk => ⟨by rw [hu, va_up_ne _ _ hne]; exact (h3 k hk).1, (h3 k hk).2.1, (h3 k hk).2.2⟩⟩
end CPF
set_option maxRecDepth 20000 in
theorem k_J7_copyOf_59c91 (l : Launch) (D : va_G) (dA : Nat → ClassId) (eA : Nat) (L : List Nat) (T N : Nat → Nat) (I : Nat → Nat → Int) (J : Nat → Nat → Int64) (R : Nat → Nat → Nat) (a_o : Nat) {t0 : Nat} (t_o : T a_o = t0) (a_n : Int) (i_n : (-2147483648 : Int) ≤ a_n ∧ a_n ≤ 2147483647) (t : Nat) (hk0 : kd t0 = (1, 0, [0])) (hk : kd t = (1, 0, [0])) (hq : 50 ≤ t ∧ xI t 0 = false ∧ iR t 0 = iRng ∧ 50 ≤ t0 ∧ iR t0 0 = iRng ∧ (nR t).2 ≤ 1000000 ∧ xT t = false ∧ (rF t 0).1 ≤ 1 ∧ (nR t0).2 ≤ 1000000) (p_1 : 0 ≤ a_n) (p_2 : (nR t).1 ≤ a_n.toNat) (p_3 : a_n.toNat ≤ (nR t).2) : GC l yJ7_copyOf_59c91 cJ7_copyOf_59c91 3 (some (.array .int)) ({ frames := 1, cells := 1, slots := a_n.toNat, locals := 60 }) D dA eA L T N I J R [.ref a_o, .int (II a_n)] 1 a_n.toNat (gR (fun r _ T' N' I' J' R' dz dl => J' = J ∧ R' = R ∧ Fr [] [] T N I J R T' N' I' J' R' ∧ T' r = t ∧ (N' r = a_n.toNat ∧ T r = 0 ∧ dz ≤ 1 ∧ dl ≤ a_n.toNat))) := by
  refine g_enter (own := RJ7) (by decide) rfl (Nat.le_of_ble_eq_true rfl) (fun p e s m args below meth c ls hmn B hX hM hl => ?_)
  have hA : ∀ q, s.heap.size ≤ q → cF dA L T N I J R s.heap.size q := fun q h => Or.inr h
  have hl : lv_has ls 3 [(0, .ref a_o), (1, .int (II a_n))] := hl
  have hno : N a_o ≤ (nR t0).2 := (hM.2.2.2.2.2.2.1.n t_o (kd_ok hk0 (by omega)).1).2
  obtain ⟨q1, q2, q3, q4, q5, q6, q7, q8, q9⟩ := hq
  refine lv_iload_n B.1 B.2.1 dJ7_copyOf_59c91_0 rfl (lv_at hl 1 rfl) ?_
  refine lv_aload_n B.1 B.2.1 dJ7_copyOf_59c91_1 rfl (lv_at hl 0 rfl) ?_
  refine c_len B hM t_o hk0 (by decide) dJ7_copyOf_59c91_2 rfl ?_
  refine q_cne (tgt := 14) B dJ7_copyOf_59c91_3 (by decide) (by unfold inr; omega) (by unfold inr; omega) (fun hne => ?_) (fun he => ?_)
  · refine lv_iload_n B.1 B.2.1 dJ7_copyOf_59c91_14 rfl (lv_at hl 1 rfl) ?_
    refine c_newa (t := t) (atype := .int) (n' := a_n.toNat) B hX.out hA hM hk ⟨q1, q7, by rw [q3]; decide, q8, by omega⟩ rfl rfl (fun _ => va_RA_i) acc_int hav_int (by decide) (by omega) ⟨p_2, p_3⟩ (by show 0 + 1 ≤ 1; omega) (by show 0 + a_n.toNat ≤ a_n.toNat; omega) dJ7_copyOf_59c91_15 (fun q L1 T1 N1 H hq hT1 hN1 hM1 => ?_)
    have tq : T1 q = t := by rw [hT1, va_up_self]
    have nq : N1 q = a_n.toNat := by rw [hN1, va_up_self]
    have hF : Fr [] [] T N I J R T1 N1 I J R := Fr.new Fr.rf hq hT1 hN1
    have to1 : T1 a_o = t0 := hF.tt t_o (kd_ok hk0 (by omega)).1 nm0
    have no1 : N1 a_o = N a_o := hF.n t_o (kd_ok hk0 (by omega)).1 nm0
    refine lv_astore_n (lv' := [(2, .ref q), (0, .ref a_o), (1, .int (II a_n))]) B.1 B.2.1 dJ7_copyOf_59c91_17 rfl hl (by decide) rfl (fun ls hl => ?_)
    refine lv_aload_n B.1 B.2.1 dJ7_copyOf_59c91_18 rfl (lv_at hl 1 rfl) ?_
    refine q_con B dJ7_copyOf_59c91_19 ?_
    refine lv_aload_n B.1 B.2.1 dJ7_copyOf_59c91_20 rfl (lv_at hl 0 rfl) ?_
    refine q_con B dJ7_copyOf_59c91_21 ?_
    refine lv_aload_n B.1 B.2.1 dJ7_copyOf_59c91_22 rfl (lv_at hl 1 rfl) ?_
    refine c_len B hM1 to1 hk0 (by decide) dJ7_copyOf_59c91_23 rfl ?_
    refine lv_iload_n B.1 B.2.1 dJ7_copyOf_59c91_24 rfl (lv_at hl 2 rfl) ?_
    refine c_mmin B ml_J7_304 hl.1 (by unfold inr; omega) (by unfold inr; omega) (Nat.le_of_ble_eq_true rfl) (Nat.le_of_ble_eq_true rfl) (by show 0 + 1 ≤ 1; omega) (by show 0 + a_n.toNat ≤ a_n.toNat; omega) dJ7_copyOf_59c91_25 (fun z oz lz uz => ?_)
    refine c_cpyI B hM1 to1 hk0 tq hk ⟨q1, q2, q3, q4, q5, q6⟩ hl.1 al_J7_150 (by omega) (by omega) (by omega) (Nat.le_of_ble_eq_true rfl) (Nat.le_of_ble_eq_true rfl) dJ7_copyOf_59c91_28 (fun I2 H locs hu hM2 => ?_)
    refine lv_aload_n B.1 B.2.1 dJ7_copyOf_59c91_31 rfl (lv_at hl 0 rfl) ?_
    exact g_aret (v := q + 1) B (Or.inr ⟨_, rfl⟩) hM2 dJ7_copyOf_59c91_32 ⟨by show 0 + 1 ≤ 1; omega, by show 0 + a_n.toNat ≤ a_n.toNat; omega⟩ rfl ⟨q, rfl, rfl, rfl, hF.rowI hu hq, tq, nq, hq, by omega, by omega⟩
  · refine lv_aload_n B.1 B.2.1 dJ7_copyOf_59c91_6 rfl (lv_at hl 0 rfl) ?_
    have hna : N a_o = a_n.toNat := by omega
    refine c_cloneI (t := t) B hX hA hM hl.1 t_o hk0 hk ⟨q1, q7, q3, q8, q4, q5⟩ (by rw [hna]; exact ⟨p_2, p_3⟩) (Nat.le_of_ble_eq_true rfl) (Nat.le_of_ble_eq_true rfl) (by show 0 + 1 ≤ 1; omega) (by show 0 + N a_o ≤ a_n.toNat; omega) dJ7_copyOf_59c91_7 (fun q L1 T1 N1 I1 H hq hT1 hN1 hI1 hM1 => ?_)
    have tq : T1 q = t := by rw [hT1, va_up_self]
    have nq : N1 q = N a_o := by rw [hN1, va_up_self]
    have hF : Fr [] [] T N I J R T1 N1 I1 J R := (Fr.new Fr.rf hq hT1 hN1).rowI hI1 hq
    obtain ⟨i, hi⟩ := hM1.ix tq (kd_ok hk (by omega))
    rw [cE_a tq hk] at hi
    refine va_castE B.1 B.2.1 B.2.2.2.1 (B.2.2.2.2.1 _ cl_J7_317) ⟨_, hM1.1 i _ hi, rfl, (B.2.2.2.2.2.1.2 0 _ rfl).2⟩ dJ7_copyOf_59c91_10 ?_
    exact g_aret (v := q + 1) B (Or.inr ⟨_, rfl⟩) hM1 dJ7_copyOf_59c91_13 ⟨by show 0 + 1 ≤ 1; omega, by show 0 + N a_o ≤ a_n.toNat; omega⟩ rfl ⟨q, rfl, rfl, rfl, hF, tq, by omega, hq, by omega, by omega⟩
