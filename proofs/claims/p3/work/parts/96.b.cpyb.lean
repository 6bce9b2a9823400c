section CPJ
variable {p : Program} {l : Launch} {e : Env} {Rm : Room} {s : State} {m : MethodId} {args : Array Value} {below : List Frame} {meth : Method} {c : Code} {H : Heap} {locs : List Loc} {cells slots : Nat} {Q : State → Prop}
variable {cc : ByteArray} {pc : Nat} {ls : Array Slot} {rest : List Value}
variable {D : va_G} {dA : Nat → ClassId} {nL : Nat} {ret : Option FieldType} {own : String} {eA : Nat} {A0 : Nat → Prop} {H0 : Heap} {L : List Nat} {T N : Nat → Nat} {I : Nat → Nat → Int} {J : Nat → Nat → Int64} {R : Nat → Nat → Nat} {a b t t0 k n index : Nat} {z : Int}
theorem c_cloneB (B : Cx D dA p s m args meth c cc RJ7 nL ret) (hX : SX eA A0 s s.heap) (hA : ∀ q, H0.size ≤ q → A0 q) (hM : CWd D dA eA A0 H0 L T N I J R H locs) (hl : ls.size = nL) (hT : T a = t0) (hkd0 : kd t0 = (1, 1, [0])) (hkd : kd t = (1, 1, [0])) (hq : 50 ≤ t ∧ xT t = false ∧ (rF t 0).1 ≤ 1) (hvv : ∀ k, k < N a → ((iR t 0).1 ≤ I a k ∧ I a k ≤ (iR t 0).2) ∧ -128 ≤ I a k ∧ I a k ≤ 127) (hn : (nR t).1 ≤ N a ∧ N a ≤ (nR t).2) (hf : 1 ≤ Rm.frames) (hlo : (rest.map fun v => v.category).sum + 14 ≤ Rm.locals) (hcells : cells + 1 ≤ Rm.cells) (hslots : slots + N a ≤ Rm.slots) (hdg : decode cc pc = .ok (.invokevirtual 310, 3))
    (kk : ∀ (q : Nat) (L' : List Nat) (T' N' : Nat → Nat) (I' : Nat → Nat → Int) (H : Heap), T q = 0 → T' = va_up T q t → N' = va_up N q (N a) → I' = va_up I q (I a) → CWd D dA eA A0 H0 L' T' N' I' J R H locs → W p l e Rm s m args below meth c H locs (cells + 1) (slots + N a) Q (F0 m (pc + 3) ls (.ref q :: rest))) : W p l e Rm s m args below meth c H locs cells slots Q (F0 m pc ls (.ref a :: rest)) := by
  obtain ⟨i, hi⟩ := hM.ix hT (kd_ok hkd0 (by omega))
  rw [cE_a hT hkd0] at hi
  obtain ⟨-, -, -, -, -, -, -, -, -, -, -, -, -, -, -, -, hcl⟩ := id hX
  refine va_clone (D := D) (ad := "[B") B.1 B.2.1 (by rw [B.2.2.1, hl]) B.2.2.2.1 (B.2.2.2.2.1 _ clk_b.1) (B.2.2.2.2.1 _ clk_b.2.1) (B.2.2.2.2.1 _ clk_n.1) (B.2.2.2.2.1 _ clk_n.2) (B.2.2.2.2.1 _ clk_b.2.2) hcl B.2.2.2.2.2.1 hM.1 hM.2.1 hM.2.2.1 hA i 1 hi rfl (B.2.2.2.2.2.1.2 1 _ rfl).2 ?_ hf hlo hcells hslots hdg (fun q H1 hK1 hP hD hS => ?_)
  · intro j v hv
    have hv2 : (arrV (dA 1) (N a) (fun j => Value.int (II (I a j)))).slots[j]? = some v := hv
    by_cases hj : j < N a
    · rw [arrV_read _ _ hj] at hv2
      cases hv2
      exact fitB (hvv j hj).2
    · have hsz : (arrV (dA 1) (N a) (fun j => Value.int (II (I a j)))).slots.size = N a := arrV_size _ _ _
      rw [Array.getElem?_eq_none (by omega)] at hv2
      cases hv2
  · obtain ⟨h1, h2⟩ := hM.pushI (t := t) (f := I a) hX.out hP hD hS (kd_ok hkd (by omega)) hq.2.1 hn (fun k hk => by
      rw [iR_arr hq.1, rF_arr hq.1]
      exact ⟨(hvv k hk).1, hq.2.2⟩) (by rw [hkd]; rfl)
    exact kk q _ _ _ _ H1 h1 rfl rfl rfl h2
theorem c_cpyB {n' : Int} (B : Cx D dA p s m args meth c cc own nL ret) (hM : CWd D dA eA A0 H0 L T N I J R H locs) (hTb : T b = t0) (hkd0 : kd t0 = (1, 1, [0])) (hTa : T a = t) (hkd : kd t = (1, 1, [0])) (hq : 50 ≤ t ∧ xI t 0 = false ∧ (nR t).2 ≤ 1000000) (hv : ∀ k : Nat, (k : Int) < n' → ((iR t 0).1 ≤ I b k ∧ I b k ≤ (iR t 0).2) ∧ -128 ≤ I b k ∧ I b k ≤ 127) (hl : ls.size = nL) (hlink : Cond.methodLink own index arraycopyName ∈ lw_g) (n1 : 0 ≤ n') (n2 : n' ≤ N b) (n3 : n' ≤ N a) (hf : 1 ≤ Rm.frames) (hlo : (rest.map fun v => v.category).sum + (nativeFrameWords "java/lang/System" "arraycopy" 5 + 11) ≤ Rm.locals) (hdg : decode cc pc = .ok (.invokestatic index, 3))
    (kk : ∀ (I' : Nat → Nat → Int) (H : Heap) (locs : List Loc), I' = va_up I a (fun j => if (j : Int) < n' then I b j else I a j) → CWd D dA eA A0 H0 L T N I' J R H locs → W p l e Rm s m args below meth c H locs cells slots Q (F0 m (pc + 3) ls rest)) : W p l e Rm s m args below meth c H locs cells slots Q (F0 m pc ls (.int (II n') :: .int (II 0) :: .ref a :: .int (II 0) :: .ref b :: rest)) := by
  have hna : N a ≤ (nR t).2 := (hM.2.2.2.2.2.2.1.n hTa (kd_ok hkd (by omega)).1).2
  have hr : inr n' := by unfold inr; omega
  obtain ⟨i, hi⟩ := hM.ix hTa (kd_ok hkd (by omega))
  have hi' := hi
  rw [cE_a hTa hkd] at hi
  obtain ⟨i0, hi0⟩ := hM.ix hTb (kd_ok hkd0 (by omega))
  rw [cE_a hTb hkd0] at hi0
  have hz : (II (0 : Int)).toNatClampNeg = 0 := by rw [II_clamp (by omega) inr0]; rfl
  have hnn : (II n').toNatClampNeg = n'.toNat := II_clamp n1 hr
  have hneg : ∀ x : Int, 0 ≤ x → inr x → ¬ II x < 0 := fun x h3 h4 h5 => by
    have h6 : II x < II 0 := h5
    rw [II_lt h4 inr0] at h6
    omega
  refine va_copyi (D := D) (n0 := N b) (n1 := N a) (f := fun j => II (I b j)) (g := fun j => II (I a j)) (ty := .byte) B.1 B.2.1 (by rw [B.2.2.1, hl]) B.2.2.2.1 (B.2.2.2.2.1 _ hlink) (B.2.2.2.2.1 _ anat) (B.2.2.2.2.1 _ astt) (B.2.2.2.2.1 _ aini) B.2.2.2.2.2.1 hM.1 hM.2.1 hM.2.2.1 i0 i 1 1 hi0 hi rfl rfl rfl (hneg 0 (by omega) inr0) (hneg 0 (by omega) inr0) (hneg n' n1 hr) (by rw [hz, hnn]; omega) (by rw [hz, hnn]; omega) (fun i hi9 => by rw [hz, Nat.zero_add]; exact fitB (hv i (by rw [hnn] at hi9; omega)).2) hf hlo hdg (fun H1 locs1 hP hD hS => kk _ H1 locs1 rfl ?_)
  rw [hz, hnn] at hP hD
  have e1 : va_cpy (fun j => II (I b j)) (fun j => II (I a j)) 0 0 n'.toNat = fun (j : Nat) => II (if (j : Int) < n' then I b j else I a j) := by
    funext j
    unfold va_cpy
    by_cases hj : (j : Int) < n'
    · rw [if_pos (by omega), if_pos hj]
      simp
    · rw [if_neg (by omega), if_neg hj]
  rw [e1] at hP hD
  refine hM.rowI (f := fun j => if (j : Int) < n' then I b j else I a j) hTa hkd hq.2.1 hq.1 hi' rfl hP hD hS (fun k hk => ?_)
  rw [iR_arr hq.1]
  by_cases hj : (k : Int) < n'
  · rw [if_pos hj]
    exact (hv k hj).1
  · rw [if_neg hj]
    have h5 := hM.2.2.2.2.2.2.1.i (k := k) hTa (kd_ok hkd (by omega)).1 hk
    rw [iR_arr hq.1] at h5
    exact h5
end CPJ
set_option maxRecDepth 20000 in
theorem k_J7_copyOf_9075b (l : Launch) (D : va_G) (dA : Nat → ClassId) (eA : Nat) (L : List Nat) (T N : Nat → Nat) (I : Nat → Nat → Int) (J : Nat → Nat → Int64) (R : Nat → Nat → Nat) (a_o : Nat) {t0 : Nat} (t_o : T a_o = t0) (a_n : Int) (i_n : (-2147483648 : Int) ≤ a_n ∧ a_n ≤ 2147483647) (t : Nat) (hk0 : kd t0 = (1, 1, [0])) (hk : kd t = (1, 1, [0])) (hq : 50 ≤ t ∧ xI t 0 = false ∧ ((iR t 0).1 ≤ 0 ∧ 0 ≤ (iR t 0).2) ∧ (nR t).2 ≤ 1000000 ∧ xT t = false ∧ (rF t 0).1 ≤ 1 ∧ (nR t0).2 ≤ 1000000) (hv : ∀ k : Nat, (k : Int) < a_n → k < N a_o → ((iR t 0).1 ≤ I a_o k ∧ I a_o k ≤ (iR t 0).2) ∧ -128 ≤ I a_o k ∧ I a_o k ≤ 127) (p_1 : 0 ≤ a_n) (p_2 : (nR t).1 ≤ a_n.toNat) (p_3 : a_n.toNat ≤ (nR t).2) : GC l yJ7_copyOf_9075b cJ7_copyOf_9075b 3 (some (.array .byte)) ({ frames := 1, cells := 1, slots := a_n.toNat, locals := 60 }) D dA eA L T N I J R [.ref a_o, .int (II a_n)] 1 a_n.toNat (gR (fun r _ T' N' I' J' R' dz dl => J' = J ∧ R' = R ∧ Fr [] [] T N I J R T' N' I' J' R' ∧ T' r = t ∧ (N' r = a_n.toNat ∧ T r = 0 ∧ dz ≤ 1 ∧ dl ≤ a_n.toNat))) := by
  refine g_enter (own := RJ7) (by decide) rfl (Nat.le_of_ble_eq_true rfl) (fun p e s m args below meth c ls hmn B hX hM hl => ?_)
  have hA : ∀ q, s.heap.size ≤ q → cF dA L T N I J R s.heap.size q := fun q h => Or.inr h
  have hl : lv_has ls 3 [(0, .ref a_o), (1, .int (II a_n))] := hl
  have hno : N a_o ≤ (nR t0).2 := (hM.2.2.2.2.2.2.1.n t_o (kd_ok hk0 (by omega)).1).2
  obtain ⟨q1, q2, q3, q6, q7, q8, q9⟩ := hq
  refine lv_iload_n B.1 B.2.1 dJ7_copyOf_9075b_0 rfl (lv_at hl 1 rfl) ?_
  refine lv_aload_n B.1 B.2.1 dJ7_copyOf_9075b_1 rfl (lv_at hl 0 rfl) ?_
  refine c_len B hM t_o hk0 (by decide) dJ7_copyOf_9075b_2 rfl ?_
  refine q_cne (tgt := 14) B dJ7_copyOf_9075b_3 (by decide) (by unfold inr; omega) (by unfold inr; omega) (fun hne => ?_) (fun he => ?_)
  · refine lv_iload_n B.1 B.2.1 dJ7_copyOf_9075b_14 rfl (lv_at hl 1 rfl) ?_
    refine c_newa (t := t) (atype := .byte) (n' := a_n.toNat) B hX.out hA hM hk ⟨q1, q7, q3, q8, by omega⟩ rfl rfl (fun _ => va_RA_b) acc_byte hav_byte (by decide) (by omega) ⟨p_2, p_3⟩ (by show 0 + 1 ≤ 1; omega) (by show 0 + a_n.toNat ≤ a_n.toNat; omega) dJ7_copyOf_9075b_15 (fun q L1 T1 N1 H hq hT1 hN1 hM1 => ?_)
    have tq : T1 q = t := by rw [hT1, va_up_self]
    have nq : N1 q = a_n.toNat := by rw [hN1, va_up_self]
    have hF : Fr [] [] T N I J R T1 N1 I J R := Fr.new Fr.rf hq hT1 hN1
    have to1 : T1 a_o = t0 := hF.tt t_o (kd_ok hk0 (by omega)).1 nm0
    have no1 : N1 a_o = N a_o := hF.n t_o (kd_ok hk0 (by omega)).1 nm0
    refine lv_astore_n (lv' := [(2, .ref q), (0, .ref a_o), (1, .int (II a_n))]) B.1 B.2.1 dJ7_copyOf_9075b_17 rfl hl (by decide) rfl (fun ls hl => ?_)
    refine lv_aload_n B.1 B.2.1 dJ7_copyOf_9075b_18 rfl (lv_at hl 1 rfl) ?_
    refine q_con B dJ7_copyOf_9075b_19 ?_
    refine lv_aload_n B.1 B.2.1 dJ7_copyOf_9075b_20 rfl (lv_at hl 0 rfl) ?_
    refine q_con B dJ7_copyOf_9075b_21 ?_
    refine lv_aload_n B.1 B.2.1 dJ7_copyOf_9075b_22 rfl (lv_at hl 1 rfl) ?_
    refine c_len B hM1 to1 hk0 (by decide) dJ7_copyOf_9075b_23 rfl ?_
    refine lv_iload_n B.1 B.2.1 dJ7_copyOf_9075b_24 rfl (lv_at hl 2 rfl) ?_
    refine c_mmin B ml_J7_304 hl.1 (by unfold inr; omega) (by unfold inr; omega) (Nat.le_of_ble_eq_true rfl) (Nat.le_of_ble_eq_true rfl) (by show 0 + 1 ≤ 1; omega) (by show 0 + a_n.toNat ≤ a_n.toNat; omega) dJ7_copyOf_9075b_25 (fun z oz lz uz => ?_)
    refine c_cpyB B hM1 to1 hk0 tq hk ⟨q1, q2, q6⟩ (fun k hk9 => hv k (by omega) (by omega)) hl.1 al_J7_150 (by omega) (by omega) (by omega) (Nat.le_of_ble_eq_true rfl) (Nat.le_of_ble_eq_true rfl) dJ7_copyOf_9075b_28 (fun I2 H locs hu hM2 => ?_)
    refine lv_aload_n B.1 B.2.1 dJ7_copyOf_9075b_31 rfl (lv_at hl 0 rfl) ?_
    exact g_aret (v := q + 1) B (Or.inr ⟨_, rfl⟩) hM2 dJ7_copyOf_9075b_32 ⟨by show 0 + 1 ≤ 1; omega, by show 0 + a_n.toNat ≤ a_n.toNat; omega⟩ rfl ⟨q, rfl, rfl, rfl, hF.rowI hu hq, tq, nq, hq, by omega, by omega⟩
  · refine lv_aload_n B.1 B.2.1 dJ7_copyOf_9075b_6 rfl (lv_at hl 0 rfl) ?_
    have hna : N a_o = a_n.toNat := by omega
    refine c_cloneB (t := t) B hX hA hM hl.1 t_o hk0 hk ⟨q1, q7, q8⟩ (fun k hk9 => hv k (by omega) hk9) (by rw [hna]; exact ⟨p_2, p_3⟩) (Nat.le_of_ble_eq_true rfl) (Nat.le_of_ble_eq_true rfl) (by show 0 + 1 ≤ 1; omega) (by show 0 + N a_o ≤ a_n.toNat; omega) dJ7_copyOf_9075b_7 (fun q L1 T1 N1 I1 H hq hT1 hN1 hI1 hM1 => ?_)
    have tq : T1 q = t := by rw [hT1, va_up_self]
    have nq : N1 q = N a_o := by rw [hN1, va_up_self]
    have hF : Fr [] [] T N I J R T1 N1 I1 J R := (Fr.new Fr.rf hq hT1 hN1).rowI hI1 hq
    obtain ⟨i, hi⟩ := hM1.ix tq (kd_ok hk (by omega))
    rw [cE_a tq hk] at hi
    refine va_castE B.1 B.2.1 B.2.2.2.1 (B.2.2.2.2.1 _ cl_J7_311) ⟨_, hM1.1 i _ hi, rfl, (B.2.2.2.2.2.1.2 1 _ rfl).2⟩ dJ7_copyOf_9075b_10 ?_
    exact g_aret (v := q + 1) B (Or.inr ⟨_, rfl⟩) hM1 dJ7_copyOf_9075b_13 ⟨by show 0 + 1 ≤ 1; omega, by show 0 + N a_o ≤ a_n.toNat; omega⟩ rfl ⟨q, rfl, rfl, rfl, hF, tq, by omega, hq, by omega, by omega⟩
