theorem cII0 : II 0 = 0 := by decide
theorem II_nat (n : Nat) : Int32.ofNat n = II (n : Int) := by
  unfold II
  first | rfl | simp
theorem upd_up (f : Nat → Int) (z : Nat) (v : Int) : upd (fun j => II (f j)) z (II v) = fun j => II (va_up f z v j) := by
  funext j
  unfold upd va_up
  split <;> simp_all
theorem oc_up (f : Nat → Nat) (z v : Nat) : va_up (fun j => oc (f j)) z (oc v) = fun j => oc (va_up f z v j) := by
  funext j
  unfold va_up
  split <;> rfl
section CA
variable {p : Program} {l : Launch} {e : Env} {Rm : Room} {s : State} {m : MethodId} {args : Array Value} {below : List Frame} {meth : Method} {c : Code} {H : Heap} {locs : List Loc} {cells slots : Nat} {Q : State → Prop}
variable {cc : ByteArray} {pc : Nat} {ls : Array Slot} {rest : List Value}
variable {D : va_G} {dA : Nat → ClassId} {nL : Nat} {ret : Option FieldType} {own : String} {eA : Nat} {A0 : Nat → Prop} {H0 : Heap} {L : List Nat} {T N : Nat → Nat} {I : Nat → Nat → Int} {J : Nat → Nat → Int64} {R : Nat → Nat → Nat} {a t k ci n index : Nat} {so : List Nat} {C ref : String} {Tt : u_T} {ty0 : Nat → FieldType} {z : Int}
theorem c_in (hM : CWd D dA eA A0 H0 L T N I J R H locs) (hT : T a = t) (h0 : t ≠ 0) (hnn : (nR t).2 ≤ 2147483647) (h1 : 0 ≤ z) (h2 : z < N a) : vp_in (II z) (N a) ∧ (II z).toNatClampNeg = z.toNat ∧ z.toNat < N a := by
  have h3 := (hM.2.2.2.2.2.2.1.n hT h0).2
  exact ⟨II_in h1 h2 (by omega), II_clamp h1 (by unfold inr; omega), by omega⟩
theorem c_ild (B : Cx D dA p s m args meth c cc own nL ret) (hM : CWd D dA eA A0 H0 L T N I J R H locs) (hT : T a = t) (hkd : kd t = (1, 0, [0])) (hnn : (nR t).2 ≤ 2147483647) (hdg : decode cc pc = .ok (.iaload, 1)) (h1 : 0 ≤ z) (h2 : z < N a) {v : Int} (hv : I a z.toNat = v)
    (kk : W p l e Rm s m args below meth c H locs cells slots Q (F0 m (pc + 1) ls (.int (II v) :: rest))) : W p l e Rm s m args below meth c H locs cells slots Q (F0 m pc ls (.int (II z) :: .ref a :: rest)) := by
  obtain ⟨i, hi⟩ := hM.ix hT (kd_ok hkd (by omega))
  rw [cE_a hT hkd] at hi
  obtain ⟨q1, q2, -⟩ := c_in hM hT (kd_ok hkd (by omega)).1 hnn h1 h2
  refine va_iald (D := D) (n := N a) (f := fun j => II (I a j)) B.1 B.2.1 B.2.2.2.2.2.1 hM.1 i 0 hi rfl q1 hdg ?_
  rw [q2, hv]; exact kk
theorem c_bld (B : Cx D dA p s m args meth c cc own nL ret) (hM : CWd D dA eA A0 H0 L T N I J R H locs) (hT : T a = t) (hkd : kd t = (1, 1, [0])) (hnn : (nR t).2 ≤ 2147483647) (hdg : decode cc pc = .ok (.baload, 1)) (h1 : 0 ≤ z) (h2 : z < N a) {v : Int} (hv : I a z.toNat = v)
    (kk : W p l e Rm s m args below meth c H locs cells slots Q (F0 m (pc + 1) ls (.int (II v) :: rest))) : W p l e Rm s m args below meth c H locs cells slots Q (F0 m pc ls (.int (II z) :: .ref a :: rest)) := by
  obtain ⟨i, hi⟩ := hM.ix hT (kd_ok hkd (by omega))
  rw [cE_a hT hkd] at hi
  obtain ⟨q1, q2, -⟩ := c_in hM hT (kd_ok hkd (by omega)).1 hnn h1 h2
  refine va_bald (D := D) (n := N a) (f := fun j => II (I a j)) B.1 B.2.1 B.2.2.2.2.2.1 hM.1 i 1 hi rfl q1 hdg ?_
  rw [q2, hv]; exact kk
theorem c_zld (B : Cx D dA p s m args meth c cc own nL ret) (hM : CWd D dA eA A0 H0 L T N I J R H locs) (hT : T a = t) (hkd : kd t = (1, 2, [0])) (hnn : (nR t).2 ≤ 2147483647) (hdg : decode cc pc = .ok (.baload, 1)) (h1 : 0 ≤ z) (h2 : z < N a) {v : Int} (hv : I a z.toNat = v)
    (kk : W p l e Rm s m args below meth c H locs cells slots Q (F0 m (pc + 1) ls (.int (II v) :: rest))) : W p l e Rm s m args below meth c H locs cells slots Q (F0 m pc ls (.int (II z) :: .ref a :: rest)) := by
  obtain ⟨i, hi⟩ := hM.ix hT (kd_ok hkd (by omega))
  rw [cE_a hT hkd] at hi
  obtain ⟨q1, q2, -⟩ := c_in hM hT (kd_ok hkd (by omega)).1 hnn h1 h2
  refine va_zald (D := D) (n := N a) (f := fun j => II (I a j)) B.1 B.2.1 B.2.2.2.2.2.1 hM.1 i 2 hi rfl q1 hdg ?_
  rw [q2, hv]; exact kk
theorem c_lld (B : Cx D dA p s m args meth c cc own nL ret) (hM : CWd D dA eA A0 H0 L T N I J R H locs) (hT : T a = t) (hkd : kd t = (1, 3, [1])) (hnn : (nR t).2 ≤ 2147483647) (hdg : decode cc pc = .ok (.laload, 1)) (h1 : 0 ≤ z) (h2 : z < N a) {v : Int64} (hv : J a z.toNat = v)
    (kk : W p l e Rm s m args below meth c H locs cells slots Q (F0 m (pc + 1) ls (.long v :: rest))) : W p l e Rm s m args below meth c H locs cells slots Q (F0 m pc ls (.int (II z) :: .ref a :: rest)) := by
  obtain ⟨i, hi⟩ := hM.ix hT (kd_ok hkd (by omega))
  rw [cE_a hT hkd] at hi
  obtain ⟨q1, q2, -⟩ := c_in hM hT (kd_ok hkd (by omega)).1 hnn h1 h2
  refine va_lald (D := D) (n := N a) (f := J a) B.1 B.2.1 B.2.2.2.2.2.1 hM.1 i 3 hi rfl q1 hdg ?_
  rw [q2, hv]; exact kk
theorem c_ald (B : Cx D dA p s m args meth c cc own nL ret) (hM : CWd D dA eA A0 H0 L T N I J R H locs) (hT : T a = t) (hkd : kd t = (1, 4, [2])) (hnn : (nR t).2 ≤ 2147483647) (hdg : decode cc pc = .ok (.aaload, 1)) (h1 : 0 ≤ z) (h2 : z < N a) {v : Nat} (hv : R a z.toNat = v)
    (kk : W p l e Rm s m args below meth c H locs cells slots Q (F0 m (pc + 1) ls (cv v :: rest))) : W p l e Rm s m args below meth c H locs cells slots Q (F0 m pc ls (.int (II z) :: .ref a :: rest)) := by
  obtain ⟨i, hi⟩ := hM.ix hT (kd_ok hkd (by omega))
  rw [cE_a hT hkd] at hi
  obtain ⟨q1, q2, q3⟩ := c_in hM hT (kd_ok hkd (by omega)).1 hnn h1 h2
  refine W.aald (v := cv v) (ty := .array .int) B.1 B.2.1 (hM.1 i _ hi) ((B.2.2.2.2.2.1.2 4 _ rfl).1 (N a) (fun j => va_rf (oc (R a j)))) rfl (fun q => by cases q) (by show ¬ ((II z) < 0 ∨ (arrV _ _ _).slots.size ≤ _); rw [arrV_size]; exact q1) (by show (arrV (dA 4) (N a) (fun j => va_rf (oc (R a j)))).slots[_]? = _; rw [q2, arrV_read _ _ q3, hv]; rfl) rfl rfl hdg kk
theorem c_aldO (B : Cx D dA p s m args meth c cc own nL ret) (hM : CWd D dA eA A0 H0 L T N I J R H locs) (hT : T a = t) (hkd : kd t = (1, 5, [2])) (hnn : (nR t).2 ≤ 2147483647) (hdg : decode cc pc = .ok (.aaload, 1)) (h1 : 0 ≤ z) (h2 : z < N a) {v : Nat} (hv : R a z.toNat = v)
    (kk : W p l e Rm s m args below meth c H locs cells slots Q (F0 m (pc + 1) ls (cv v :: rest))) : W p l e Rm s m args below meth c H locs cells slots Q (F0 m pc ls (.int (II z) :: .ref a :: rest)) := by
  obtain ⟨i, hi⟩ := hM.ix hT (kd_ok hkd (by omega))
  rw [cE_a hT hkd] at hi
  obtain ⟨q1, q2, -⟩ := c_in hM hT (kd_ok hkd (by omega)).1 hnn h1 h2
  refine va_aldq (D := D) (n := N a) (f := fun j => oc (R a j)) B.1 B.2.1 B.2.2.2.2.2.1 hM.1 i 5 hi rfl q1 hdg ?_
  rw [q2, hv]; exact kk
theorem tyX_at {d : Nat} (hd : d < 6) : ∃ ty, (tyX dA)[d]? = some (dA d, ty) := by
  unfold tyX
  match d, hd with
  | 0, _ => exact ⟨_, rfl⟩
  | 1, _ => exact ⟨_, rfl⟩
  | 2, _ => exact ⟨_, rfl⟩
  | 3, _ => exact ⟨_, rfl⟩
  | 4, _ => exact ⟨_, rfl⟩
  | 5, _ => exact ⟨_, rfl⟩
theorem c_len (B : Cx D dA p s m args meth c cc own nL ret) (hM : CWd D dA eA A0 H0 L T N I J R H locs) (hT : T a = t) {d s0 : Nat} (hkd : kd t = (1, d, [s0])) (hd : d < 6) (hdg : decode cc pc = .ok (.arraylength, 1)) {v : Int} (hv : (N a : Int) = v)
    (kk : W p l e Rm s m args below meth c H locs cells slots Q (F0 m (pc + 1) ls (.int (II v) :: rest))) : W p l e Rm s m args below meth c H locs cells slots Q (F0 m pc ls (.ref a :: rest)) := by
  obtain ⟨i, hi⟩ := hM.ix hT (kd_ok hkd (by omega))
  rw [cE_a hT hkd] at hi
  obtain ⟨ty, hty⟩ := tyX_at (dA := dA) hd
  exact va_alen (D := D) B.1 B.2.1 B.2.2.2.2.2.1 hM.1 i d hi hty (by rw [← hv]; exact II_nat (N a)) hdg kk
/-! rows written -/
theorem c_istX (B : Cx D dA p s m args meth c cc own nL ret) (hM : CWd D dA eA A0 H0 L T N I J R H locs) (hT : T a = t) (hkd : kd t = (1, 0, [0])) (hnn : (nR t).2 ≤ 2147483647) (hdg : decode cc pc = .ok (.iastore, 1)) (h1 : 0 ≤ z) (h2 : z < N a) {v : Int} (h3 : (iR t z.toNat).1 ≤ v) (h4 : v ≤ (iR t z.toNat).2) (hx : ∀ I', I' = w2 I a z.toNat v → XI T N I' R)
    (kk : ∀ (I' : Nat → Nat → Int) (H : Heap) (locs : List Loc), I' = w2 I a z.toNat v → CWd D dA eA A0 H0 L T N I' J R H locs → W p l e Rm s m args below meth c H locs cells slots Q (F0 m (pc + 1) ls rest)) : W p l e Rm s m args below meth c H locs cells slots Q (F0 m pc ls (.int (II v) :: .int (II z) :: .ref a :: rest)) := by
  obtain ⟨i, hi⟩ := hM.ix hT (kd_ok hkd (by omega))
  have hi' := hi
  have ha : a ∈ L := (hM.2.2.2.1 a).mpr (by rw [hT]; exact kd_ok hkd (by omega))
  rw [cE_a hT hkd] at hi
  obtain ⟨q1, q2, -⟩ := c_in hM hT (kd_ok hkd (by omega)).1 hnn h1 h2
  refine va_iast (D := D) (n := N a) (f := fun j => II (I a j)) B.1 B.2.1 B.2.2.2.2.2.1 hM.1 hM.2.1 hM.2.2.1 i 0 hi rfl q1 hdg (fun H1 locs1 hP hD hS => kk _ H1 locs1 rfl ?_)
  rw [q2, upd_up] at hP hD
  exact hM.set hi' ha (by rw [cE_a hT hkd, w2_row rfl]; rfl) (fun b hb => by unfold cE; rw [w2_nb rfl hb]) hP hD hS (hM.2.2.2.wi (by rw [hT]; exact (kd_ok hkd (by omega)).1) rfl (fun _ => by rw [hT]; exact ⟨h3, h4⟩) (hx _ rfl))
theorem c_ist (B : Cx D dA p s m args meth c cc own nL ret) (hM : CWd D dA eA A0 H0 L T N I J R H locs) (hT : T a = t) (hkd : kd t = (1, 0, [0])) (hq : 50 ≤ t ∧ (nR t).2 ≤ 2147483647 ∧ xI t 0 = false) (hdg : decode cc pc = .ok (.iastore, 1)) (h1 : 0 ≤ z) (h2 : z < N a) {v : Int} (h3 : (iR t 0).1 ≤ v) (h4 : v ≤ (iR t 0).2)
    (kk : ∀ (I' : Nat → Nat → Int) (H : Heap) (locs : List Loc), I' = w2 I a z.toNat v → CWd D dA eA A0 H0 L T N I' J R H locs → W p l e Rm s m args below meth c H locs cells slots Q (F0 m (pc + 1) ls rest)) : W p l e Rm s m args below meth c H locs cells slots Q (F0 m pc ls (.int (II v) :: .int (II z) :: .ref a :: rest)) :=
  c_istX B hM hT hkd hq.2.1 hdg h1 h2 (by rw [iR_arr hq.1]; exact h3) (by rw [iR_arr hq.1]; exact h4) (fun I' hu => hM.2.2.2.2.2.2.2.wi hM.2.2.2.2.2.2.1 hu (by rw [hT, xI_arr hq.1]; exact hq.2.2)) kk
theorem c_zst (B : Cx D dA p s m args meth c cc own nL ret) (hM : CWd D dA eA A0 H0 L T N I J R H locs) (hT : T a = t) (hkd : kd t = (1, 2, [0])) (hq : 50 ≤ t ∧ (nR t).2 ≤ 2147483647 ∧ xI t 0 = false ∧ iR t 0 = (0, 1)) (hdg : decode cc pc = .ok (.bastore, 1)) (h1 : 0 ≤ z) (h2 : z < N a) {v : Int} (h3 : 0 ≤ v) (h4 : v ≤ 1)
    (kk : ∀ (I' : Nat → Nat → Int) (H : Heap) (locs : List Loc), I' = w2 I a z.toNat v → CWd D dA eA A0 H0 L T N I' J R H locs → W p l e Rm s m args below meth c H locs cells slots Q (F0 m (pc + 1) ls rest)) : W p l e Rm s m args below meth c H locs cells slots Q (F0 m pc ls (.int (II v) :: .int (II z) :: .ref a :: rest)) := by
  obtain ⟨i, hi⟩ := hM.ix hT (kd_ok hkd (by omega))
  have hi' := hi
  have ha : a ∈ L := (hM.2.2.2.1 a).mpr (by rw [hT]; exact kd_ok hkd (by omega))
  rw [cE_a hT hkd] at hi
  obtain ⟨q1, q2, -⟩ := c_in hM hT (kd_ok hkd (by omega)).1 hq.2.1 h1 h2
  have hw : vp_nar .boolean (II v) = II v := by
    have : v = 0 ∨ v = 1 := by omega
    rcases this with rfl | rfl <;> decide
  refine va_zast (D := D) (n := N a) (f := fun j => II (I a j)) B.1 B.2.1 B.2.2.2.2.2.1 hM.1 hM.2.1 hM.2.2.1 i 2 hi rfl q1 hdg (fun H1 locs1 hP hD hS => kk _ H1 locs1 rfl ?_)
  rw [q2, hw, upd_up] at hP hD
  exact hM.set hi' ha (by rw [cE_a hT hkd, w2_row rfl]; rfl) (fun b hb => by unfold cE; rw [w2_nb rfl hb]) hP hD hS (hM.2.2.2.wi (by rw [hT]; exact (kd_ok hkd (by omega)).1) rfl (fun _ => by rw [hT, iR_arr hq.1, hq.2.2.2]; exact ⟨h3, h4⟩) (hM.2.2.2.2.2.2.2.wi hM.2.2.2.2.2.2.1 rfl (by rw [hT, xI_arr hq.1]; exact hq.2.2.1)))
theorem c_bst (B : Cx D dA p s m args meth c cc own nL ret) (hM : CWd D dA eA A0 H0 L T N I J R H locs) (hT : T a = t) (hkd : kd t = (1, 1, [0])) (hq : 50 ≤ t ∧ (nR t).2 ≤ 2147483647 ∧ xI t 0 = false ∧ iR t 0 = (-128, 127)) (hdg : decode cc pc = .ok (.bastore, 1)) (h1 : 0 ≤ z) (h2 : z < N a) {x : Int32}
    (kk : ∀ (I' : Nat → Nat → Int) (H : Heap) (locs : List Loc) (v : Int), -128 ≤ v → v ≤ 127 → I' = w2 I a z.toNat v → CWd D dA eA A0 H0 L T N I' J R H locs → W p l e Rm s m args below meth c H locs cells slots Q (F0 m (pc + 1) ls rest)) : W p l e Rm s m args below meth c H locs cells slots Q (F0 m pc ls (.int x :: .int (II z) :: .ref a :: rest)) := by
  obtain ⟨i, hi⟩ := hM.ix hT (kd_ok hkd (by omega))
  have hi' := hi
  have ha : a ∈ L := (hM.2.2.2.1 a).mpr (by rw [hT]; exact kd_ok hkd (by omega))
  rw [cE_a hT hkd] at hi
  obtain ⟨q1, q2, -⟩ := c_in hM hT (kd_ok hkd (by omega)).1 hq.2.1 h1 h2
  obtain ⟨v, hw, h3, h4⟩ := nar_byte_rng x
  refine va_bast (D := D) (n := N a) (f := fun j => II (I a j)) B.1 B.2.1 B.2.2.2.2.2.1 hM.1 hM.2.1 hM.2.2.1 i 1 hi rfl q1 hdg (fun H1 locs1 hP hD hS => kk _ H1 locs1 v h3 h4 rfl ?_)
  rw [q2, hw, upd_up] at hP hD
  exact hM.set hi' ha (by rw [cE_a hT hkd, w2_row rfl]; rfl) (fun b hb => by unfold cE; rw [w2_nb rfl hb]) hP hD hS (hM.2.2.2.wi (by rw [hT]; exact (kd_ok hkd (by omega)).1) rfl (fun _ => by rw [hT, iR_arr hq.1, hq.2.2.2]; exact ⟨h3, h4⟩) (hM.2.2.2.2.2.2.2.wi hM.2.2.2.2.2.2.1 rfl (by rw [hT, xI_arr hq.1]; exact hq.2.2.1)))
theorem c_lst (B : Cx D dA p s m args meth c cc own nL ret) (hM : CWd D dA eA A0 H0 L T N I J R H locs) (hT : T a = t) (hkd : kd t = (1, 3, [1])) (hnn : (nR t).2 ≤ 2147483647) (hdg : decode cc pc = .ok (.lastore, 1)) (h1 : 0 ≤ z) (h2 : z < N a) {v : Int64}
    (kk : ∀ (J' : Nat → Nat → Int64) (H : Heap) (locs : List Loc), J' = w2 J a z.toNat v → CWd D dA eA A0 H0 L T N I J' R H locs → W p l e Rm s m args below meth c H locs cells slots Q (F0 m (pc + 1) ls rest)) : W p l e Rm s m args below meth c H locs cells slots Q (F0 m pc ls (.long v :: .int (II z) :: .ref a :: rest)) := by
  obtain ⟨i, hi⟩ := hM.ix hT (kd_ok hkd (by omega))
  have hi' := hi
  have ha : a ∈ L := (hM.2.2.2.1 a).mpr (by rw [hT]; exact kd_ok hkd (by omega))
  rw [cE_a hT hkd] at hi
  obtain ⟨q1, q2, -⟩ := c_in hM hT (kd_ok hkd (by omega)).1 hnn h1 h2
  refine va_last (D := D) (n := N a) (f := J a) B.1 B.2.1 B.2.2.2.2.2.1 hM.1 hM.2.1 hM.2.2.1 i 3 hi rfl q1 hdg (fun H1 locs1 hP hD hS => kk _ H1 locs1 rfl ?_)
  rw [q2] at hP hD
  have hu : vp_updL (J a) z.toNat v = va_up (J a) z.toNat v := rfl
  rw [hu] at hP hD
  exact hM.set hi' ha (by rw [cE_a hT hkd, w2_row rfl]; rfl) (fun b hb => by unfold cE; rw [w2_nb rfl hb]) hP hD hS (hM.2.2.2.wj (by rw [hT]; exact (kd_ok hkd (by omega)).1) rfl)
/-! cells made -/
theorem c_fresh {q : Nat} {x : va_E} (hM : CWd D dA eA A0 H0 L T N I J R H locs) (hE : ¬ A0 eA) (hD : va_D A0 (cW dA L T N I J R ++ [(q, x)])) : q ∉ L ∧ q ≠ eA ∧ T q = 0 := by
  have h1 : q ∉ L := by
    intro hq
    obtain ⟨i, hi⟩ := va_pl_get (X := []) (f := cE dA T N I J R) hq
    rw [List.nil_append] at hi
    have hl : i < (cW dA L T N I J R).length := (List.getElem?_eq_some_iff.mp hi).1
    have := hD.1 i (cW dA L T N I J R).length (q, cE dA T N I J R q) (q, x) (by rw [List.getElem?_append_left hl]; exact hi) (by rw [List.getElem?_append_right (Nat.le_refl _), Nat.sub_self]; rfl) rfl
    omega
  have h2 : q ≠ eA := by
    rintro rfl
    exact hE (hD.2 (cW dA L T N I J R).length (q, x) (by rw [List.getElem?_append_right (Nat.le_refl _), Nat.sub_self]; rfl))
  refine ⟨h1, h2, ?_⟩
  by_cases e0 : T q = 0
  · exact e0
  · by_cases e1 : T q = 1
    · exact absurd ((hM.2.2.2.2.1 q).mp e1) h2
    · exact absurd ((hM.2.2.2.1 q).mpr ⟨e0, e1⟩) h1
theorem CWd.push {q : Nat} {x : va_E} {H1 : Heap} (hM : CWd D dA eA A0 H0 L T N I J R H locs) (hE : ¬ A0 eA) (hP : va_P D vwCl (cW dA L T N I J R ++ [(q, x)]) H1) (hD : va_D A0 (cW dA L T N I J R ++ [(q, x)])) (hS : va_S A0 H0 H1 locs) (ht : t ≠ 0 ∧ t ≠ 1) (hx : xT t = false) (hn : (nR t).1 ≤ n ∧ n ≤ (nR t).2) (hz : ∀ k, k < n → ((iR t k).1 ≤ 0 ∧ 0 ≤ (iR t k).2) ∧ (rF t k).1 ≤ 1) (he : eK dA (kd t) n (fun _ => 0) (fun _ => 0) (fun _ => 0) = x) : T q = 0 ∧ CWd D dA eA A0 H0 (L ++ [q]) (va_up T q t) (va_up N q n) I J R H1 locs := by
  obtain ⟨h1, h2, h3⟩ := c_fresh hM hE hD
  refine ⟨h3, ?_⟩
  have e1 : cW dA L T N I J R ++ [(q, x)] = cW dA (L ++ [q]) (va_up T q t) (va_up N q n) I J R := by
    rw [va_pl_push h1]
    refine va_pl_congr (fun b => ?_)
    by_cases hb : b = q
    · subst hb
      rw [va_up_self, ← he]
      unfold cE
      rw [va_up_self, va_up_self]
      have z := hM.2.2.2.2.2.1 b h3
      rw [show I b = fun _ => 0 from funext fun k => (z k).1, show J b = fun _ => 0 from funext fun k => (z k).2.1, show R b = fun _ => 0 from funext fun k => (z k).2.2]
    · rw [va_up_ne _ _ hb]
      unfold cE
      rw [va_up_ne _ _ hb, va_up_ne _ _ hb]
  rw [e1] at hP hD
  exact ⟨hP, hD, hS, hM.2.2.2.new h3 h2 ht rfl rfl hx hn hz⟩
theorem c_new (P : PK ci C Tt n ty0) (B : Cx D dA p s m args meth c cc own nL ret) (hE : ¬ A0 eA) (hA : ∀ q, H0.size ≤ q → A0 q) (hM : CWd D dA eA A0 H0 L T N I J R H locs) (hkd : kd t = (0, ci, so)) (hfs : ∀ j, j < n → defaultValue (ty0 j) = vp_V (fl so (fun _ => 0) (fun _ => 0) (fun _ => 0)) j) (hx : xT t = false) (hn : nR t = (n, n)) (hz : ∀ k, k < n → ((iR t k).1 ≤ 0 ∧ 0 ≤ (iR t k).2) ∧ (rF t k).1 ≤ 1) (hcl : Cond.classLink own index C ∈ lw_g) (hin : Cond.instantiable C n ∈ lw_g) (hini : Cond.initialized C ∈ lw_g) (hcells : cells + 1 ≤ Rm.cells) (hslots : slots + n ≤ Rm.slots) (hdg : decode cc pc = .ok (.new index, 3))
    (kk : ∀ (q : Nat) (L' : List Nat) (T' N' : Nat → Nat) (H : Heap), T q = 0 → T' = va_up T q t → N' = va_up N q n → CWd D dA eA A0 H0 L' T' N' I J R H locs → W p l e Rm s m args below meth c H locs (cells + 1) (slots + n) Q (F0 m (pc + 3) ls (.ref q :: rest))) : W p l e Rm s m args below meth c H locs cells slots Q (F0 m pc ls rest) := by
  refine va_new (D := D) (ci := ci) (C := C) (T := Tt) (N := n) (fs := fl so (fun _ => 0) (fun _ => 0) (fun _ => 0)) B.1 B.2.1 B.2.2.2.2.1 P.2.1 ty0 P.2.2.1 B.2.2.2.1 (B.2.2.2.2.1 _ hcl) (B.2.2.2.2.1 _ hin) (B.2.2.2.2.1 _ hini) B.2.2.2.2.2.1 hM.1 hM.2.1 hM.2.2.1 hA P.1 hfs hcells hslots hdg (fun q H1 hP hD hS => ?_)
  obtain ⟨h1, h2⟩ := hM.push hE hP hD hS (kd_ok hkd (by omega)) hx (by rw [hn]; exact ⟨Nat.le_refl _, Nat.le_refl _⟩) hz (by rw [hkd]; rfl)
  exact kk q _ _ _ H1 h1 rfl rfl h2
theorem c_newa {d s0 : Nat} {ty : FieldType} {atype : ArrayType} {n' : Nat} (B : Cx D dA p s m args meth c cc own nL ret) (hE : ¬ A0 eA) (hA : ∀ q, H0.size ≤ q → A0 q) (hM : CWd D dA eA A0 H0 L T N I J R H locs) (hkd : kd t = (1, d, [s0])) (hq : 50 ≤ t ∧ xT t = false ∧ ((iR t 0).1 ≤ 0 ∧ 0 ≤ (iR t 0).2) ∧ (rF t 0).1 ≤ 1 ∧ (nR t).2 ≤ 10000000) (hty : newarray.typeOf atype = ty) (htx : (tyX dA)[d]? = some (dA d, ty)) (hra : ∀ cA, va_RA s cA ty → s.vm.findClass ("[" ++ ty.toString) = some cA) (harr : Cond.arrayClass ty ∈ lw_g)
    (ha : ∀ (n : Nat) (cA : ClassId), vp_cell cA (av s0 n (fun _ => 0) (fun _ => 0) (fun _ => 0)) = arrV cA n (fun _ => defaultValue ty)) (hcb : componentBytes ty ≤ 8) (hz : z = (n' : Int)) (hn : (nR t).1 ≤ n' ∧ n' ≤ (nR t).2) (hcells : cells + 1 ≤ Rm.cells) (hslots : slots + n' ≤ Rm.slots) (hdg : decode cc pc = .ok (.newarray atype, 2))
    (kk : ∀ (q : Nat) (L' : List Nat) (T' N' : Nat → Nat) (H : Heap), T q = 0 → T' = va_up T q t → N' = va_up N q n' → CWd D dA eA A0 H0 L' T' N' I J R H locs → W p l e Rm s m args below meth c H locs (cells + 1) (slots + n') Q (F0 m (pc + 2) ls (.ref q :: rest))) : W p l e Rm s m args below meth c H locs cells slots Q (F0 m pc ls (.int (II z) :: rest)) := by
  subst hz
  have hr : inr (n' : Int) := by unfold inr; omega
  refine va_newa (D := D) (N' := n') (a0 := av s0 n' (fun _ => 0) (fun _ => 0) (fun _ => 0)) B.1 B.2.1 (by rw [hty]; exact B.2.2.2.2.1 _ harr) hty B.2.2.2.2.2.1 hM.1 hM.2.1 hM.2.2.1 hA (fun cA => ha n' cA) ?_ (by rw [II_clamp (by omega) hr]; omega) ?_ hcells hslots hdg (fun q cA H1 hK1 hP hD hS => ?_)
  · intro hq
    have h2 : II (n' : Int) < II 0 := hq
    rw [II_lt hr inr0] at h2
    omega
  · have h1 := Nat.mul_le_mul (Nat.le_trans hn.2 hq.2.2.2.2) hcb
    omega
  · have hcA : cA = dA d := by
      have h1 := hra _ (hK1.2 (tyX dA).length (cA, ty) (by rw [List.getElem?_append_right (Nat.le_refl _), Nat.sub_self]; rfl)).2
      have h2 := hra _ (B.2.2.2.2.2.1.2 d _ htx).2
      exact Option.some.inj (h1.symm.trans h2)
    subst hcA
    obtain ⟨h1, h2⟩ := hM.push hE hP hD hS (kd_ok hkd (by omega)) hq.2.1 hn (fun k _ => by rw [iR_arr hq.1, rF_arr hq.1]; exact ⟨hq.2.2.1, hq.2.2.2.1⟩) (by rw [hkd]; rfl)
    exact kk q _ _ _ H1 h1 rfl rfl h2
theorem va_RA_i {U : State} {cA : ClassId} (h : va_RA U cA .int) : U.vm.findClass ("[" ++ (FieldType.int).toString) = some cA := h
theorem va_RA_b {U : State} {cA : ClassId} (h : va_RA U cA .byte) : U.vm.findClass ("[" ++ (FieldType.byte).toString) = some cA := h
theorem va_RA_z {U : State} {cA : ClassId} (h : va_RA U cA .boolean) : U.vm.findClass ("[" ++ (FieldType.boolean).toString) = some cA := h
theorem va_RA_l {U : State} {cA : ClassId} (h : va_RA U cA .long) : U.vm.findClass ("[" ++ (FieldType.long).toString) = some cA := h
theorem hav_int (n : Nat) (cA : ClassId) : vp_cell cA (av 0 n (fun _ => 0) (fun _ => 0) (fun _ => 0)) = arrV cA n (fun _ => defaultValue .int) := by
  show vp_cell cA (n, .inl (fun _ => II 0)) = _
  rw [vp_cell_i, cII0]; rfl
theorem hav_byte (n : Nat) (cA : ClassId) : vp_cell cA (av 0 n (fun _ => 0) (fun _ => 0) (fun _ => 0)) = arrV cA n (fun _ => defaultValue .byte) := by
  show vp_cell cA (n, .inl (fun _ => II 0)) = _
  rw [vp_cell_i, cII0]; rfl
theorem hav_boolean (n : Nat) (cA : ClassId) : vp_cell cA (av 0 n (fun _ => 0) (fun _ => 0) (fun _ => 0)) = arrV cA n (fun _ => defaultValue .boolean) := by
  show vp_cell cA (n, .inl (fun _ => II 0)) = _
  rw [vp_cell_i, cII0]; rfl
theorem hav_long (n : Nat) (cA : ClassId) : vp_cell cA (av 1 n (fun _ => 0) (fun _ => 0) (fun _ => 0)) = arrV cA n (fun _ => defaultValue .long) := by
  show vp_cell cA (n, .inr (.inl (fun _ => 0))) = _
  rw [vp_cell_l]; rfl
/-- a cell gets its true tag -/
theorem CWd.tag {t0 : Nat} (hM : CWd D dA eA A0 H0 L T N I J R H locs) (hq : T a = t0) (h0 : t0 ≠ 0 ∧ t0 ≠ 1) (ht : t ≠ 0 ∧ t ≠ 1) (hk : kd t = kd t0) (hraw : ∀ q ∈ rfL, q.2.2.1 ≠ t0 ∧ q.2.2.2 ≠ t0) {T' : Nat → Nat} (hT : T' = va_up T a t) (hty : TY T' N I R a) (hx : XI T' N I R) : CWd D dA eA A0 H0 L T' N I J R H locs := by
  have e1 : cW dA L T N I J R = cW dA L T' N I J R := by
    refine va_pl_congr (fun b => ?_)
    unfold cE
    by_cases hb : b = a
    · subst hb
      rw [hT, va_up_self, hq, hk]
    · rw [hT, va_up_ne _ _ hb]
  have hw := hM.2.2.2.tag hq h0 ht hT hraw hty hx
  unfold CWd at hM ⊢
  rw [← e1]
  exact ⟨hM.1, hM.2.1, hM.2.2.1, hw⟩
end CA
