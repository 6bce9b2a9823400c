/-! cells of the class in the world -/
def PK (ci : Nat) (C : String) (Tt : u_T) (n : Nat) (ty0 : Nat → FieldType) : Prop := vwCl[ci]? = some (C, Tt, n) ∧ (∀ w ∈ u_ws C Tt n, w ∈ lw_g) ∧ (∀ k, k < n → parseFieldDescriptor (Tt k).2.2.1 = some (ty0 k)) ∧ ∀ a, a < n → ∀ b, b < n → a ≠ b → (Tt a).2.1 ≠ (Tt b).2.1
theorem kd_ok {t x : Nat} {y : List Nat} {i : Nat} (h : kd t = (i, x, y)) (hi : i < 2) : t ≠ 0 ∧ t ≠ 1 := by
  refine ⟨?_, ?_⟩
  · rintro rfl
    have e : (kd 0).1 = 2 := rfl
    rw [h] at e
    have e2 : i = 2 := e
    omega
  · rintro rfl
    have e : (kd 1).1 = 2 := rfl
    rw [h] at e
    have e2 : i = 2 := e
    omega
section CE
variable {D : va_G} {dA : Nat → ClassId} {eA : Nat} {A0 : Nat → Prop} {H0 H H1 : Heap} {locs locs1 : List Loc} {L : List Nat} {T N T' N' : Nat → Nat} {I I' : Nat → Nat → Int} {J J' : Nat → Nat → Int64} {R R' : Nat → Nat → Nat} {a t k ci d s0 : Nat} {so : List Nat}
theorem cE_o (hT : T a = t) (hk : kd t = (0, ci, so)) : cE dA T N I J R a = .inr (ci, fl so (I a) (J a) (R a)) := by
  unfold cE eK; rw [hT, hk]; rfl
theorem cE_a (hT : T a = t) (hk : kd t = (1, d, [s0])) : cE dA T N I J R a = .inl (dA d, av s0 (N a) (I a) (J a) (R a)) := by
  unfold cE eK; rw [hT, hk]; rfl
theorem CWd.ix (hM : CWd D dA eA A0 H0 L T N I J R H locs) (hT : T a = t) (ht : t ≠ 0 ∧ t ≠ 1) : ∃ i : Nat, (cW dA L T N I J R)[i]? = some (a, cE dA T N I J R a) :=
  va_pl_get (X := []) ((hM.2.2.2.1 a).mpr (by rw [hT]; exact ht))
theorem CWd.lt (hM : CWd D dA eA A0 H0 L T N I J R H locs) (hT : T a = t) (ht : t ≠ 0 ∧ t ≠ 1) : a < H.size := by
  obtain ⟨i, hi⟩ := hM.ix hT ht
  exact (hM.1 i _ hi).lt
theorem fl_len {i : Nat → Int} {j : Nat → Int64} {r : Nat → Nat} : (fl so i j r).length = so.length := by simp [fl]
theorem fl_get {i : Nat → Int} {j : Nat → Int64} {r : Nat → Nat} {srt : Nat} (hs : so[k]? = some srt) : (fl so i j r)[k]? = some (fv srt (i k) (j k) (r k)) := by
  have hk : k < so.length := (List.getElem?_eq_some_iff.mp hs).1
  have h2 : so[k] = srt := (List.getElem?_eq_some_iff.mp hs).2
  simp [fl, hk, h2]
theorem fl_seti {i : Nat → Int} {j : Nat → Int64} {r : Nat → Nat} {v : Int} (hs : so[k]? = some 0) : (fl so i j r).set k (.int (II v)) = fl so (va_up i k v) j r := by
  refine set_map_range _ k _ _ _ ?_ ?_
  · simp [List.getD, hs, fv, va_up_self]
  · intro x hx
    simp only [va_up_ne _ _ hx]
theorem fl_setl {i : Nat → Int} {j : Nat → Int64} {r : Nat → Nat} {v : Int64} (hs : so[k]? = some 1) : (fl so i j r).set k (.long v) = fl so i (va_up j k v) r := by
  refine set_map_range _ k _ _ _ ?_ ?_
  · simp [List.getD, hs, fv, va_up_self]
  · intro x hx
    simp only [va_up_ne _ _ hx]
theorem fl_setr {i : Nat → Int} {j : Nat → Int64} {r : Nat → Nat} {v : Nat} (hs : so[k]? = some 2) : (fl so i j r).set k (cv v) = fl so i j (va_up r k v) := by
  refine set_map_range _ k _ _ _ ?_ ?_
  · simp [List.getD, hs, fv, va_up_self]
  · intro x hx
    simp only [va_up_ne _ _ hx]
theorem CWd.set {e : va_E} {i : Nat} (hM : CWd D dA eA A0 H0 L T N I J R H locs) (hi : (cW dA L T N I J R)[i]? = some (a, cE dA T N I J R a)) (ha : a ∈ L) (he : cE dA T N I' J' R' a = e) (hne : ∀ b, b ≠ a → cE dA T N I' J' R' b = cE dA T N I J R b) (hP : va_P D vwCl ((cW dA L T N I J R).set i (a, e)) H1) (hD : va_D A0 ((cW dA L T N I J R).set i (a, e))) (hS : va_S A0 H0 H1 locs1) (hw : WF eA L T N I' J' R') : CWd D dA eA A0 H0 L T N I' J' R' H1 locs1 := by
  have e1 : (cW dA L T N I J R).set i (a, e) = cW dA L T N I' J' R' := by
    have h1 := va_pl_set (X := []) (e := e) hM.2.1 ha hi
    rw [List.nil_append, List.nil_append] at h1
    rw [h1]
    refine va_pl_congr (fun b => ?_)
    by_cases hb : b = a
    · subst hb; rw [va_up_self]; exact he.symm
    · rw [va_up_ne _ _ hb]; exact (hne b hb).symm
  rw [e1] at hP hD
  exact ⟨hP, hD, hS, hw⟩
end CE
section CG
variable {p : Program} {l : Launch} {e : Env} {Rm : Room} {s : State} {m : MethodId} {args : Array Value} {below : List Frame} {meth : Method} {c : Code} {H : Heap} {locs : List Loc} {cells slots : Nat} {Q : State → Prop}
variable {cc : ByteArray} {pc : Nat} {ls : Array Slot} {rest : List Value}
variable {D : va_G} {dA : Nat → ClassId} {nL : Nat} {ret : Option FieldType} {own : String} {eA : Nat} {A0 : Nat → Prop} {H0 : Heap} {L : List Nat} {T N : Nat → Nat} {I : Nat → Nat → Int} {J : Nat → Nat → Int64} {R : Nat → Nat → Nat} {a t k ci n index : Nat} {so : List Nat} {C ref : String} {Tt : u_T} {ty0 : Nat → FieldType}
theorem c_get0 (P : PK ci C Tt n ty0) (B : Cx D dA p s m args meth c cc own nL ret) (hM : CWd D dA eA A0 H0 L T N I J R H locs) (hT : T a = t) (hkd : kd t = (0, ci, so)) {srt : Nat} (hs : so[k]? = some srt) (hk : k < n) (hl : Cond.fieldLink own index (Tt k).1 (Tt k).2.1 (Tt k).2.2.1 ∈ lw_g) (hdg : decode cc pc = .ok (.getfield index, 3)) {v : Value} (hv : fv srt (I a k) (J a k) (R a k) = v)
    (kk : W p l e Rm s m args below meth c H locs cells slots Q (F0 m (pc + 3) ls (v :: rest))) : W p l e Rm s m args below meth c H locs cells slots Q (F0 m pc ls (.ref a :: rest)) := by
  obtain ⟨i, hi⟩ := hM.ix hT (kd_ok hkd (by omega))
  rw [cE_o hT hkd] at hi
  exact va_get (D := D) (ci := ci) (C := C) (T := Tt) (N := n) B.1 B.2.1 B.2.2.2.2.1 P.2.1 B.2.2.2.1 B.2.2.2.2.2.1 hM.1 i hi P.1 k hk (B.2.2.2.2.1 _ hl) (fun _ h => h) ((fl_get hs).trans (congrArg some hv)) hdg kk
theorem c_geti (P : PK ci C Tt n ty0) (B : Cx D dA p s m args meth c cc own nL ret) (hM : CWd D dA eA A0 H0 L T N I J R H locs) (hT : T a = t) (hkd : kd t = (0, ci, so)) (hs : so[k]? = some 0) (hk : k < n) (hl : Cond.fieldLink own index (Tt k).1 (Tt k).2.1 (Tt k).2.2.1 ∈ lw_g) (hdg : decode cc pc = .ok (.getfield index, 3)) {v : Int} (hv : I a k = v)
    (kk : W p l e Rm s m args below meth c H locs cells slots Q (F0 m (pc + 3) ls (.int (II v) :: rest))) : W p l e Rm s m args below meth c H locs cells slots Q (F0 m pc ls (.ref a :: rest)) :=
  c_get0 P B hM hT hkd hs hk hl hdg (v := .int (II v)) (by rw [← hv]; rfl) kk
theorem c_getl (P : PK ci C Tt n ty0) (B : Cx D dA p s m args meth c cc own nL ret) (hM : CWd D dA eA A0 H0 L T N I J R H locs) (hT : T a = t) (hkd : kd t = (0, ci, so)) (hs : so[k]? = some 1) (hk : k < n) (hl : Cond.fieldLink own index (Tt k).1 (Tt k).2.1 (Tt k).2.2.1 ∈ lw_g) (hdg : decode cc pc = .ok (.getfield index, 3)) {v : Int64} (hv : J a k = v)
    (kk : W p l e Rm s m args below meth c H locs cells slots Q (F0 m (pc + 3) ls (.long v :: rest))) : W p l e Rm s m args below meth c H locs cells slots Q (F0 m pc ls (.ref a :: rest)) :=
  c_get0 P B hM hT hkd hs hk hl hdg (v := .long v) (by rw [← hv]; rfl) kk
theorem c_getr (P : PK ci C Tt n ty0) (B : Cx D dA p s m args meth c cc own nL ret) (hM : CWd D dA eA A0 H0 L T N I J R H locs) (hT : T a = t) (hkd : kd t = (0, ci, so)) (hs : so[k]? = some 2) (hk : k < n) (hl : Cond.fieldLink own index (Tt k).1 (Tt k).2.1 (Tt k).2.2.1 ∈ lw_g) (hdg : decode cc pc = .ok (.getfield index, 3)) {v : Nat} (hv : R a k = v)
    (kk : W p l e Rm s m args below meth c H locs cells slots Q (F0 m (pc + 3) ls (cv v :: rest))) : W p l e Rm s m args below meth c H locs cells slots Q (F0 m pc ls (.ref a :: rest)) :=
  c_get0 P B hM hT hkd hs hk hl hdg (v := cv v) (by rw [← hv]; rfl) kk
theorem fits_cv {ty : FieldType} {v : Nat} (h1 : fits ty .null = true) (h2 : ∀ b, fits ty (.ref b) = true) : fits ty (cv v) = true := by
  cases v with
  | zero => exact h1
  | succ b => exact h2 b
theorem nar_cv {ty : FieldType} {v : Nat} (h1 : narrow ty .null = .null) (h2 : ∀ b, narrow ty (.ref b) = .ref b) : narrow ty (cv v) = cv v := by
  cases v with
  | zero => exact h1
  | succ b => exact h2 b
/-- a field is written: what va_put (or va_putF) leaves -/
theorem c_put0 (P : PK ci C Tt n ty0) (B : Cx D dA p s m args meth c cc own nL ret) (hM : CWd D dA eA A0 H0 L T N I J R H locs) (hT : T a = t) (hkd : kd t = (0, ci, so)) {srt : Nat} (hs : so[k]? = some srt) (hk : k < n) (hl : Cond.fieldLink own index (Tt k).1 (Tt k).2.1 (Tt k).2.2.1 ∈ lw_g) (hfin : (Tt k).2.2.2 = false ∨ ((Tt k).2.2.2 = true ∧ meth.name = "<init>" ∧ (Tt k).1 = own)) (hdg : decode cc pc = .ok (.putfield index, 3)) {v : Value} (hn : narrow (ty0 k) v = v) (hft : fits (ty0 k) v = true)
    {I' : Nat → Nat → Int} {J' : Nat → Nat → Int64} {R' : Nat → Nat → Nat} (he : (fl so (I a) (J a) (R a)).set k v = fl so (I' a) (J' a) (R' a)) (hne : ∀ b, b ≠ a → I' b = I b ∧ J' b = J b ∧ R' b = R b) (hw : WF eA L T N I' J' R')
    (kk : ∀ (H : Heap) (locs : List Loc), CWd D dA eA A0 H0 L T N I' J' R' H locs → W p l e Rm s m args below meth c H locs cells slots Q (F0 m (pc + 3) ls rest)) : W p l e Rm s m args below meth c H locs cells slots Q (F0 m pc ls (v :: .ref a :: rest)) := by
  obtain ⟨i, hi⟩ := hM.ix hT (kd_ok hkd (by omega))
  have hi' := hi
  rw [cE_o hT hkd] at hi
  have ha : a ∈ L := (hM.2.2.2.1 a).mpr (by rw [hT]; exact kd_ok hkd (by omega))
  have fin : ∀ (H1 : Heap) (locs1 : List Loc), va_P D vwCl ((cW dA L T N I J R).set i (a, .inr (ci, (fl so (I a) (J a) (R a)).set k v))) H1 → va_D A0 ((cW dA L T N I J R).set i (a, .inr (ci, (fl so (I a) (J a) (R a)).set k v))) → va_S A0 H0 H1 locs1 → CWd D dA eA A0 H0 L T N I' J' R' H1 locs1 := fun H1 locs1 h1 h2 h3 =>
    hM.set hi' ha (by rw [cE_o hT hkd, he]) (fun b hb => by unfold cE; rw [(hne b hb).1, (hne b hb).2.1, (hne b hb).2.2]) h1 h2 h3 hw
  have hlen : k < (fl so (I a) (J a) (R a)).length := by rw [fl_len]; exact (List.getElem?_eq_some_iff.mp hs).1
  rcases hfin with hf | ⟨hf, hin, hdc⟩
  · exact va_put (D := D) (ci := ci) (v := v) (ty := ty0 k) (C := C) (T := Tt) (N := n) B.1 B.2.1 B.2.2.2.2.1 P.2.1 ty0 P.2.2.1 P.2.2.2 B.2.2.2.1 B.2.2.2.2.2.1 hM.1 hM.2.1 hM.2.2.1 i hi P.1 k hk (B.2.2.2.2.1 _ hl) (fun _ h => h) hf (P.2.2.1 k hk) hn hft hlen hdg (fun H1 locs1 h1 h2 h3 => kk H1 locs1 (fin H1 locs1 h1 h2 h3))
  · exact va_putF (D := D) (ci := ci) (v := v) (ty := ty0 k) (C := C) (T := Tt) (N := n) B.1 B.2.1 B.2.2.2.2.1 P.2.1 ty0 P.2.2.1 P.2.2.2 B.2.2.2.1 B.2.2.2.2.2.1 hM.1 hM.2.1 hM.2.2.1 i hi P.1 k hk (B.2.2.2.2.1 _ hl) (fun _ h => h) hf hin hdc (P.2.2.1 k hk) hn hft hlen hdg (fun H1 locs1 h1 h2 h3 => kk H1 locs1 (fin H1 locs1 h1 h2 h3))
theorem c_putiX (P : PK ci C Tt n ty0) (B : Cx D dA p s m args meth c cc own nL ret) (hM : CWd D dA eA A0 H0 L T N I J R H locs) (hT : T a = t) (hkd : kd t = (0, ci, so)) (hs : so[k]? = some 0) (hk : k < n) (hl : Cond.fieldLink own index (Tt k).1 (Tt k).2.1 (Tt k).2.2.1 ∈ lw_g) (hfin : (Tt k).2.2.2 = false ∨ ((Tt k).2.2.2 = true ∧ meth.name = "<init>" ∧ (Tt k).1 = own)) (hdg : decode cc pc = .ok (.putfield index, 3)) {v : Int} (hn : narrow (ty0 k) (.int (II v)) = .int (II v)) (hft : fits (ty0 k) (.int (II v)) = true) (h1 : (iR t k).1 ≤ v) (h2 : v ≤ (iR t k).2) (hx : ∀ I', I' = w2 I a k v → XI T N I' R)
    (kk : ∀ (I' : Nat → Nat → Int) (H : Heap) (locs : List Loc), I' = w2 I a k v → CWd D dA eA A0 H0 L T N I' J R H locs → W p l e Rm s m args below meth c H locs cells slots Q (F0 m (pc + 3) ls rest)) : W p l e Rm s m args below meth c H locs cells slots Q (F0 m pc ls (.int (II v) :: .ref a :: rest)) :=
  c_put0 (I' := w2 I a k v) (J' := J) (R' := R) P B hM hT hkd hs hk hl hfin hdg hn hft (by rw [fl_seti hs, w2_row rfl]) (fun b hb => ⟨w2_nb rfl hb, rfl, rfl⟩) (hM.2.2.2.wi (by rw [hT]; exact (kd_ok hkd (by omega)).1) rfl (fun _ => by rw [hT]; exact ⟨h1, h2⟩) (hx _ rfl)) (fun H locs h => kk _ H locs rfl h)
theorem c_puti (P : PK ci C Tt n ty0) (B : Cx D dA p s m args meth c cc own nL ret) (hM : CWd D dA eA A0 H0 L T N I J R H locs) (hT : T a = t) (hkd : kd t = (0, ci, so)) (hs : so[k]? = some 0) (hk : k < n) (hl : Cond.fieldLink own index (Tt k).1 (Tt k).2.1 (Tt k).2.2.1 ∈ lw_g) (hfin : (Tt k).2.2.2 = false ∨ ((Tt k).2.2.2 = true ∧ meth.name = "<init>" ∧ (Tt k).1 = own)) (hdg : decode cc pc = .ok (.putfield index, 3)) (hx : xI t k = false) {v : Int} (hn : narrow (ty0 k) (.int (II v)) = .int (II v)) (hft : fits (ty0 k) (.int (II v)) = true) (h1 : (iR t k).1 ≤ v) (h2 : v ≤ (iR t k).2)
    (kk : ∀ (I' : Nat → Nat → Int) (H : Heap) (locs : List Loc), I' = w2 I a k v → CWd D dA eA A0 H0 L T N I' J R H locs → W p l e Rm s m args below meth c H locs cells slots Q (F0 m (pc + 3) ls rest)) : W p l e Rm s m args below meth c H locs cells slots Q (F0 m pc ls (.int (II v) :: .ref a :: rest)) :=
  c_putiX P B hM hT hkd hs hk hl hfin hdg hn hft h1 h2 (fun I' hu => hM.2.2.2.2.2.2.2.wi hM.2.2.2.2.2.2.1 hu (by rw [hT]; exact hx)) kk
theorem c_putl (P : PK ci C Tt n ty0) (B : Cx D dA p s m args meth c cc own nL ret) (hM : CWd D dA eA A0 H0 L T N I J R H locs) (hT : T a = t) (hkd : kd t = (0, ci, so)) (hs : so[k]? = some 1) (hk : k < n) (hl : Cond.fieldLink own index (Tt k).1 (Tt k).2.1 (Tt k).2.2.1 ∈ lw_g) (hfin : (Tt k).2.2.2 = false ∨ ((Tt k).2.2.2 = true ∧ meth.name = "<init>" ∧ (Tt k).1 = own)) (hdg : decode cc pc = .ok (.putfield index, 3)) {v : Int64} (hn : narrow (ty0 k) (.long v) = .long v) (hft : fits (ty0 k) (.long v) = true)
    (kk : ∀ (J' : Nat → Nat → Int64) (H : Heap) (locs : List Loc), J' = w2 J a k v → CWd D dA eA A0 H0 L T N I J' R H locs → W p l e Rm s m args below meth c H locs cells slots Q (F0 m (pc + 3) ls rest)) : W p l e Rm s m args below meth c H locs cells slots Q (F0 m pc ls (.long v :: .ref a :: rest)) :=
  c_put0 (I' := I) (J' := w2 J a k v) (R' := R) P B hM hT hkd hs hk hl hfin hdg hn hft (by rw [fl_setl hs, w2_row rfl]) (fun b hb => ⟨rfl, w2_nb rfl hb, rfl⟩) (hM.2.2.2.wj (by rw [hT]; exact (kd_ok hkd (by omega)).1) rfl) (fun H locs h => kk _ H locs rfl h)
theorem c_putrX (P : PK ci C Tt n ty0) (B : Cx D dA p s m args meth c cc own nL ret) (hM : CWd D dA eA A0 H0 L T N I J R H locs) (hT : T a = t) (hkd : kd t = (0, ci, so)) (hs : so[k]? = some 2) (hk : k < n) (hl : Cond.fieldLink own index (Tt k).1 (Tt k).2.1 (Tt k).2.2.1 ∈ lw_g) (hfin : (Tt k).2.2.2 = false ∨ ((Tt k).2.2.2 = true ∧ meth.name = "<init>" ∧ (Tt k).1 = own)) (hdg : decode cc pc = .ok (.putfield index, 3)) {v : Nat} {v' : Value} (hv' : cv v = v') (hft : fits (ty0 k) .null = true ∧ (∀ b, fits (ty0 k) (.ref b) = true) ∧ narrow (ty0 k) .null = .null ∧ ∀ b, narrow (ty0 k) (.ref b) = .ref b) (hr : rOk T (rF t k) v) (hx : ∀ R', R' = w2 R a k v → XI T N I R')
    (kk : ∀ (R' : Nat → Nat → Nat) (H : Heap) (locs : List Loc), R' = w2 R a k v → CWd D dA eA A0 H0 L T N I J R' H locs → W p l e Rm s m args below meth c H locs cells slots Q (F0 m (pc + 3) ls rest)) : W p l e Rm s m args below meth c H locs cells slots Q (F0 m pc ls (v' :: .ref a :: rest)) := by
  subst hv'
  exact c_put0 (I' := I) (J' := J) (R' := w2 R a k v) P B hM hT hkd hs hk hl hfin hdg (nar_cv hft.2.2.1 hft.2.2.2) (fits_cv hft.1 hft.2.1) (by rw [fl_setr hs, w2_row rfl]) (fun b hb => ⟨rfl, rfl, w2_nb rfl hb⟩) (hM.2.2.2.wr (by rw [hT]; exact (kd_ok hkd (by omega)).1) rfl (fun _ => by rw [hT]; exact hr) (hx _ rfl)) (fun H locs h => kk _ H locs rfl h)
theorem c_putr (P : PK ci C Tt n ty0) (B : Cx D dA p s m args meth c cc own nL ret) (hM : CWd D dA eA A0 H0 L T N I J R H locs) (hT : T a = t) (hkd : kd t = (0, ci, so)) (hs : so[k]? = some 2) (hk : k < n) (hl : Cond.fieldLink own index (Tt k).1 (Tt k).2.1 (Tt k).2.2.1 ∈ lw_g) (hfin : (Tt k).2.2.2 = false ∨ ((Tt k).2.2.2 = true ∧ meth.name = "<init>" ∧ (Tt k).1 = own)) (hdg : decode cc pc = .ok (.putfield index, 3)) (hx : xR t k = false) {v : Nat} {v' : Value} (hv' : cv v = v') (hft : fits (ty0 k) .null = true ∧ (∀ b, fits (ty0 k) (.ref b) = true) ∧ narrow (ty0 k) .null = .null ∧ ∀ b, narrow (ty0 k) (.ref b) = .ref b) (hr : rOk T (rF t k) v)
    (kk : ∀ (R' : Nat → Nat → Nat) (H : Heap) (locs : List Loc), R' = w2 R a k v → CWd D dA eA A0 H0 L T N I J R' H locs → W p l e Rm s m args below meth c H locs cells slots Q (F0 m (pc + 3) ls rest)) : W p l e Rm s m args below meth c H locs cells slots Q (F0 m pc ls (v' :: .ref a :: rest)) :=
  c_putrX P B hM hT hkd hs hk hl hfin hdg hv' hft hr (fun R' hu => hM.2.2.2.2.2.2.2.wr hM.2.2.2.2.2.2.1 hu (by rw [hT]; exact hx)) kk
end CG
