/-! contracts of the reference's methods -/
def mPc (D : va_G) (dA : Nat → ClassId) (h0 : Nat) (ad : Nat → Nat) (σ : MS) (as : List Value) (sz : Nat) : Array Value → State → Prop :=
  va_Pc (.ref h0 :: as) (fun U => U.heap.size = sz ∧ va_P D vwCl (mW dA h0 ad σ) U.heap ∧ va_K D vwCl (tyX dA) U ∧ va_D (fun _ => True) (mW dA h0 ad σ) ∧ GI σ)
def mAt (D : va_G) (dA : Nat → ClassId) (h0 : Nat) (ad : Nat → Nat) (A : Nat → Prop) (u : MS) (t : State) : Prop :=
  va_P D vwCl (mW dA h0 ad u) t.heap ∧ va_K D vwCl (tyX dA) t ∧ va_D A (mW dA h0 ad u) ∧ GI u
abbrev mF (dA : Nat → ClassId) (h0 : Nat) (ad : Nat → Nat) (σ : MS) (sz : Nat) : Nat → Prop := va_A (mW dA h0 ad σ) sz
def mQi (D : va_G) (dA : Nat → ClassId) (h0 : Nat) (ad : Nat → Nat) (σ : MS) (sz : Nat) (post : Int → MS → Prop) : Array Value → State → Outcome → State → Prop :=
  va_Qi (fun (r : Int32) (u : Int × MS) => r = II u.1 ∧ inr u.1 ∧ post u.1 u.2) (fun u t => mAt D dA h0 ad (mF dA h0 ad σ sz) u.2 t) (mF dA h0 ad σ sz)
def mQv (D : va_G) (dA : Nat → ClassId) (h0 : Nat) (ad : Nat → Nat) (σ : MS) (sz : Nat) (post : MS → Prop) : Array Value → State → Outcome → State → Prop :=
  va_Qv post (fun u t => mAt D dA h0 ad (mF dA h0 ad σ sz) u t) (mF dA h0 ad σ sz)
def cw0 (y : MethodName) (cc : ByteArray) (nL : Nat) (ret : Option FieldType) : List Cond := .code y cc nL ret :: lw_g
def MCi (l : Launch) (y : MethodName) (cc : ByteArray) (nL : Nat) (ret : Option FieldType) (rm : Room) (D : va_G) (dA : Nat → ClassId) (h0 : Nat) (ad : Nat → Nat) (σ : MS) (as : List Value) (post : Int → MS → Prop) : Prop :=
  ∀ sz, Met l y (cw0 y cc nL ret) rm (mPc D dA h0 ad σ as sz) (mQi D dA h0 ad σ sz post) 0 0 (mF dA h0 ad σ sz)
def MCv (l : Launch) (y : MethodName) (cc : ByteArray) (nL : Nat) (rm : Room) (D : va_G) (dA : Nat → ClassId) (h0 : Nat) (ad : Nat → Nat) (σ : MS) (as : List Value) (post : MS → Prop) : Prop :=
  ∀ sz, Met l y (cw0 y cc nL none) rm (mPc D dA h0 ad σ as sz) (mQv D dA h0 ad σ sz post) 0 0 (mF dA h0 ad σ sz)
/-- a method that is static and reads no heap -/
def sPc (D : va_G) (dA : Nat → ClassId) (as : List Value) : Array Value → State → Prop := fun a U => a = as.toArray ∧ va_K D vwCl (tyX dA) U
def SCi (l : Launch) (y : MethodName) (cc : ByteArray) (nL : Nat) (ret : Option FieldType) (rm : Room) (D : va_G) (dA : Nat → ClassId) (as : List Value) (post : Int → Prop) : Prop :=
  Met l y (cw0 y cc nL ret) rm (sPc D dA as) (fun _ st o t => ∃ r : Int, o = .returned (some (.int (II r))) ∧ inr r ∧ post r ∧ t.heap = st.heap) 0 0 (fun _ => False)
def SCl (l : Launch) (y : MethodName) (cc : ByteArray) (nL : Nat) (rm : Room) (D : va_G) (dA : Nat → ClassId) (as : List Value) (post : Int64 → Prop) : Prop :=
  Met l y (cw0 y cc nL (some .long)) rm (sPc D dA as) (fun _ st o t => ∃ r : Int64, o = .returned (some (.long r)) ∧ post r ∧ t.heap = st.heap) 0 0 (fun _ => False)
section MC
variable {p : Program} {l : Launch} {e : Env} {R : Room} {s : State} {m : MethodId} {args : Array Value} {below : List Frame} {meth : Method} {c : Code} {H : Heap} {locs : List Loc} {cells slots : Nat} {Q : State → Prop}
variable {cc : ByteArray} {pc : Nat} {ls : Array Slot} {rest : List Value}
variable {D : va_G} {dA : Nat → ClassId} {nL : Nat} {ret : Option FieldType} {h0 : Nat} {ad : Nat → Nat} {A0 : Nat → Prop} {H0 : Heap} {σ σ0 : MS} {own : String}
theorem m_start {y : MethodName} {rm : Room} {as : List Value} {sz : Nat} {Qc : Array Value → State → Outcome → State → Prop} (hy : plainName y.cls = true) (hcls : y.cls = RX12) (hlen : (lg_sl (.ref h0 :: as)).length ≤ nL)
    (body : ∀ p e s m args below meth c ls, s.heap.size = sz → Cx D dA p s m args meth c cc RX12 nL ret → MWd D dA h0 ad (mF dA h0 ad σ s.heap.size) s.heap σ s.heap [] → lv_has ls nL (lv_args 0 (.ref h0 :: as)) →
      W p l e rm s m args below meth c s.heap [] 0 0 (MQ below Qc args s 0 0 (mF dA h0 ad σ s.heap.size)) (F0 m 0 ls [])) :
    Met l y (cw0 y cc nL ret) rm (mPc D dA h0 ad σ as sz) Qc 0 0 (mF dA h0 ad σ sz) := by
  refine Met.ofW (cc := cc) (maxL := nL) (ret := ret) hy rfl ?_
  intro p e s m args below meth c s₁ B hml hv
  obtain ⟨rfl, hsz, hP, hK, hD0, hG⟩ := hv
  have hts := atoms_spec (ws := cw0 y cc nL ret) B.pre
  have hown : s.vm.findClass y.cls = some m.cls := findClass_of_methodNamed B.named
  rw [hcls] at hown
  have hl := lv_entry (.ref h0 :: as) (n := nL) hlen
  rw [lg_entry_eq]
  subst hsz
  exact body p e s m _ below meth c _ rfl ⟨B.exec, B.bytes, hml, hown, fun w h => hts w (List.mem_cons_of_mem _ h), hK, B.returns, B.notSynchronized⟩ ⟨hP, hD0.self, va_S.rf, hG⟩ hl
theorem m_enter {y : MethodName} {rm : Room} {as : List Value} {post : Int → MS → Prop} (hy : plainName y.cls = true) (hcls : y.cls = RX12) (hlen : (lg_sl (.ref h0 :: as)).length ≤ nL)
    (body : ∀ p e s m args below meth c ls, Cx D dA p s m args meth c cc RX12 nL ret → MWd D dA h0 ad (mF dA h0 ad σ s.heap.size) s.heap σ s.heap [] → lv_has ls nL (lv_args 0 (.ref h0 :: as)) →
      W p l e rm s m args below meth c s.heap [] 0 0 (MQ below (mQi D dA h0 ad σ s.heap.size post) args s 0 0 (mF dA h0 ad σ s.heap.size)) (F0 m 0 ls [])) :
    MCi l y cc nL ret rm D dA h0 ad σ as post := fun sz => m_start hy hcls hlen (fun p e s m args below meth c ls hsz B hM hl => by subst hsz; exact body p e s m args below meth c ls B hM hl)
theorem m_enterv {y : MethodName} {rm : Room} {as : List Value} {post : MS → Prop} (hy : plainName y.cls = true) (hcls : y.cls = RX12) (hlen : (lg_sl (.ref h0 :: as)).length ≤ nL)
    (body : ∀ p e s m args below meth c ls, Cx D dA p s m args meth c cc RX12 nL none → MWd D dA h0 ad (mF dA h0 ad σ s.heap.size) s.heap σ s.heap [] → lv_has ls nL (lv_args 0 (.ref h0 :: as)) →
      W p l e rm s m args below meth c s.heap [] 0 0 (MQ below (mQv D dA h0 ad σ s.heap.size post) args s 0 0 (mF dA h0 ad σ s.heap.size)) (F0 m 0 ls [])) :
    MCv l y cc nL rm D dA h0 ad σ as post := fun sz => m_start hy hcls hlen (fun p e s m args below meth c ls hsz B hM hl => by subst hsz; exact body p e s m args below meth c ls B hM hl)
theorem m_iret {post : Int → MS → Prop} {r : Int} (B : Cx D dA p s m args meth c cc RX12 nL (some .int)) (hM : MWd D dA h0 ad (mF dA h0 ad σ0 s.heap.size) s.heap σ H locs) (hdg : decode cc pc = .ok (.ireturn, 1)) (hi : inr r) (hp : post r σ) :
    W p l e R s m args below meth c H locs 0 0 (MQ below (mQi D dA h0 ad σ0 s.heap.size post) args s 0 0 (mF dA h0 ad σ0 s.heap.size)) (F0 m pc ls [.int (II r)]) :=
  W.iret (v := II r) B.1 B.2.1 B.2.2.2.2.2.2.1 (fun t ht hW => ⟨⟨II r, (r, σ), rfl, ⟨rfl, hi, hp⟩, by rw [ht]; exact hM.1, va_K.moved hW.alike B.2.2.2.2.2.1, hM.2.1, hM.2.2.2⟩, hM.2.2.1.F ht⟩) hM.2.2.1.2.2 hdg B.2.2.2.2.2.2.2
theorem m_zret {post : Int → MS → Prop} {r : Int} (B : Cx D dA p s m args meth c cc RX12 nL (some .boolean)) (hM : MWd D dA h0 ad (mF dA h0 ad σ0 s.heap.size) s.heap σ H locs) (hdg : decode cc pc = .ok (.ireturn, 1)) (hi : r = 0 ∨ r = 1) (hp : post r σ) :
    W p l e R s m args below meth c H locs 0 0 (MQ below (mQi D dA h0 ad σ0 s.heap.size post) args s 0 0 (mF dA h0 ad σ0 s.heap.size)) (F0 m pc ls [.int (II r)]) :=
  W.zret (v := II r) B.1 B.2.1 B.2.2.2.2.2.2.1 (narZ hi) (fun t ht hW => ⟨⟨II r, (r, σ), rfl, ⟨rfl, by unfold inr; omega, hp⟩, by rw [ht]; exact hM.1, va_K.moved hW.alike B.2.2.2.2.2.1, hM.2.1, hM.2.2.2⟩, hM.2.2.1.F ht⟩) hM.2.2.1.2.2 hdg B.2.2.2.2.2.2.2
theorem m_vret {post : MS → Prop} (B : Cx D dA p s m args meth c cc RX12 nL none) (hM : MWd D dA h0 ad (mF dA h0 ad σ0 s.heap.size) s.heap σ H locs) (hdg : decode cc pc = .ok (.return_, 1)) (hp : post σ) :
    W p l e R s m args below meth c H locs 0 0 (MQ below (mQv D dA h0 ad σ0 s.heap.size post) args s 0 0 (mF dA h0 ad σ0 s.heap.size)) (F0 m pc ls []) :=
  W.vret B.1 B.2.1 B.2.2.2.2.2.2.1 (fun t ht hW => ⟨⟨σ, rfl, hp, by rw [ht]; exact hM.1, va_K.moved hW.alike B.2.2.2.2.2.1, hM.2.1, hM.2.2.2⟩, hM.2.2.1.F ht⟩) hM.2.2.1.2.2 hdg B.2.2.2.2.2.2.2
theorem good_cw {y : MethodName} (h : Cond.code y cc nL ret ∈ lw_g) : GoodIn lw_g (cw0 y cc nL ret) := by
  intro w hw
  have hm : w ∈ lw_g := by
    rcases List.mem_cons.mp hw with h1 | h1
    · rw [h1]; exact h
    · exact h1
  exact ⟨hm, good_tbl w hm⟩
theorem good_V {index : Nat} {y : MethodName} (h : okC own index y cc nL ret) : GoodIn lw_g (wsV own index y.cls y (cw0 y cc nL ret)) := by
  intro w hw
  have hm : w ∈ lw_g := by
    unfold wsV at hw
    rcases List.mem_append.mp hw with h1 | h1
    · simp only [List.mem_cons, List.not_mem_nil, or_false] at h1
      rcases h1 with h1 | h1 | h1 | h1 <;> rw [h1]
      · exact h.1
      · exact h.2.1
      · exact h.2.2.1
      · exact h.2.2.2.1
    · exact (good_cw h.2.2.2.2 w h1).1
  exact ⟨hm, good_tbl w hm⟩
theorem good_S {index : Nat} {y : MethodName} (h : okS own index y cc nL ret) : GoodIn lw_g (wsS own index y (cw0 y cc nL ret)) := by
  intro w hw
  have hm : w ∈ lw_g := by
    unfold wsS at hw
    rcases List.mem_append.mp hw with h1 | h1
    · simp only [List.mem_cons, List.not_mem_nil, or_false] at h1
      rcases h1 with h1 | h1 | h1 <;> rw [h1]
      · exact h.1
      · exact h.2.1
      · exact h.2.2.1
    · exact (good_cw h.2.2.2 w h1).1
  exact ⟨hm, good_tbl w hm⟩
theorem mF_sub (hD : va_D A0 (mW dA h0 ad σ)) (hS : va_S A0 H0 H locs) (hA : ∀ q, H0.size ≤ q → A0 q) : ∀ q, mF dA h0 ad σ H.size q → A0 q := by
  intro q hq
  rcases hq with ⟨k, e, h⟩ | h
  · exact hD.2 k (q, e) h
  · exact hA q (Nat.le_trans hS.1 h)
theorem m_blind {as : List Value} {sz : Nat} : FrameBlind (mPc D dA h0 ad σ as sz) := fun a U g mk q => by
  obtain ⟨q0, q1, qP, qK, qD, qG⟩ := q
  exact ⟨q0, q1, qP, va_K.moved (u := U) (U := U.calling g mk a) (Vm.Alike.refl U.vm) qK, qD, qG⟩
theorem m_pre {y : MethodName} {as : List Value} (hcls : y.cls = RX12) (B : Cx D dA p s m args meth c cc own nL ret) (hM : MWd D dA h0 ad A0 H0 σ H locs) : PreV s H y.cls h0 (mPc D dA h0 ad σ as H.size) as :=
  ⟨m_blind, by rw [hcls]; exact va_recv B.2.2.2.2.2.1 hM.1 (ci := 14) (q0 := 0) rfl rfl, fun U hU hW => ⟨rfl, by rw [hU], by rw [hU]; exact hM.1, va_K.moved hW.alike B.2.2.2.2.2.1, hM.2.1.weaken (fun _ _ _ _ => trivial), hM.2.2.2⟩⟩
theorem m_calli {y : MethodName} {cc' : ByteArray} {nL' index n : Nat} {ret' : Option FieldType} {rm : Room} {as st : List Value} {post : Int → MS → Prop} (B : Cx D dA p s m args meth c cc own nL ret) (hM : MWd D dA h0 ad A0 H0 σ H locs) (hA : ∀ q, H0.size ≤ q → A0 q) (hl : ls.size = nL) (hC : MCi l y cc' nL' ret' rm D dA h0 ad σ as post) (hcls : y.cls = RX12) (hok : okC own index y cc' nL' ret') (hnm : nmC y n) (hrm : rm.cells = 0 ∧ rm.slots = 0) (hR : rm.frames + 1 ≤ R.frames ∧ 8 + (nL' + 11) + rm.locals ≤ R.locals)
    (hdg : decode cc pc = .ok (.invokevirtual index, 3)) (hn : as.length = n) (hst : st = as.reverse ++ .ref h0 :: rest) (hr : (rest.map fun v => v.category).sum ≤ 8) (hf : cells ≤ R.cells ∧ slots ≤ R.slots)
    (kk : ∀ (r : Int) (σ' : MS) (H : Heap) (locs : List Loc), inr r → post r σ' → MWd D dA h0 ad A0 H0 σ' H locs → W p l e R s m args below meth c H locs cells slots Q (F0 m (pc + 3) ls (.int (II r) :: rest))) : W p l e R s m args below meth c H locs cells slots Q (F0 m pc ls st) := by
  have hF := mF_sub hM.2.1 hM.2.2.1 hA
  refine va_calli (va_runV (C := y.cls) (As := as) (rest := rest) ⟨B.1, B.2.1, B.2.2.1, B.2.2.2.1, B.2.2.2.2.1⟩ (hC H.size) (cwV n B.2.2.2.2.1 (good_V hok) rfl hrm.1 hrm.2 ⟨rfl, hnm⟩ hR) (m_pre hcls B hM) rfl hn hl hst (lv_room hr) hdg hf) hM.2.2.1 (fun q _ h => hF q h) hF (fun r u t H1 locs1 ht hvm hw hB hz1 hk1 hS => ?_)
  obtain ⟨hr0, hr1, hr2⟩ := hw
  obtain ⟨hP1, hK1, hD1, hG1⟩ := hB
  rw [ht] at hP1
  rw [hr0]
  exact kk u.1 u.2 H1 locs1 hr1 hr2 ⟨hP1, hD1.weaken (fun k q _ h => hF q.1 h), hS, hG1⟩
theorem m_callv {y : MethodName} {cc' : ByteArray} {nL' index n : Nat} {rm : Room} {as st : List Value} {post : MS → Prop} (B : Cx D dA p s m args meth c cc own nL ret) (hM : MWd D dA h0 ad A0 H0 σ H locs) (hA : ∀ q, H0.size ≤ q → A0 q) (hl : ls.size = nL) (hC : MCv l y cc' nL' rm D dA h0 ad σ as post) (hcls : y.cls = RX12) (hok : okC own index y cc' nL' none) (hnm : nmC y n) (hrm : rm.cells = 0 ∧ rm.slots = 0) (hR : rm.frames + 1 ≤ R.frames ∧ 8 + (nL' + 11) + rm.locals ≤ R.locals)
    (hdg : decode cc pc = .ok (.invokevirtual index, 3)) (hn : as.length = n) (hst : st = as.reverse ++ .ref h0 :: rest) (hr : (rest.map fun v => v.category).sum ≤ 8) (hf : cells ≤ R.cells ∧ slots ≤ R.slots)
    (kk : ∀ (σ' : MS) (H : Heap) (locs : List Loc), post σ' → MWd D dA h0 ad A0 H0 σ' H locs → W p l e R s m args below meth c H locs cells slots Q (F0 m (pc + 3) ls rest)) : W p l e R s m args below meth c H locs cells slots Q (F0 m pc ls st) := by
  have hF := mF_sub hM.2.1 hM.2.2.1 hA
  refine va_callv (va_runV (C := y.cls) (As := as) (rest := rest) ⟨B.1, B.2.1, B.2.2.1, B.2.2.2.1, B.2.2.2.2.1⟩ (hC H.size) (cwV n B.2.2.2.2.1 (good_V hok) rfl hrm.1 hrm.2 ⟨rfl, hnm⟩ hR) (m_pre hcls B hM) rfl hn hl hst (lv_room hr) hdg hf) hM.2.2.1 (fun q _ h => hF q h) hF (fun u t H1 locs1 ht hvm hw hB hz1 hk1 hS => ?_)
  obtain ⟨hP1, hK1, hD1, hG1⟩ := hB
  rw [ht] at hP1
  exact kk u H1 locs1 hw ⟨hP1, hD1.weaken (fun k q _ h => hF q.1 h), hS, hG1⟩
/-! static methods -/
theorem s_start {y : MethodName} {rm : Room} {as : List Value} {Qc : Array Value → State → Outcome → State → Prop} (hy : plainName y.cls = true) (hcls : y.cls = own) (hlen : (lg_sl as).length ≤ nL)
    (body : ∀ p e s m args below meth c ls, Cx D dA p s m args meth c cc own nL ret → lv_has ls nL (lv_args 0 as) →
      W p l e rm s m args below meth c s.heap [] 0 0 (MQ below Qc args s 0 0 (fun _ => False)) (F0 m 0 ls [])) :
    Met l y (cw0 y cc nL ret) rm (sPc D dA as) Qc 0 0 (fun _ => False) := by
  refine Met.ofW (cc := cc) (maxL := nL) (ret := ret) hy rfl ?_
  intro p e s m args below meth c s₁ B hml hv
  obtain ⟨rfl, hK⟩ := hv
  have hts := atoms_spec (ws := cw0 y cc nL ret) B.pre
  have hown : s.vm.findClass y.cls = some m.cls := findClass_of_methodNamed B.named
  rw [hcls] at hown
  have hl := lv_entry as (n := nL) hlen
  rw [lg_entry_eq]
  exact body p e s m _ below meth c _ ⟨B.exec, B.bytes, hml, hown, fun w h => hts w (List.mem_cons_of_mem _ h), hK, B.returns, B.notSynchronized⟩ hl
theorem s_iret {post : Int → Prop} {r : Int} (B : Cx D dA p s m args meth c cc own nL (some .int)) (hdg : decode cc pc = .ok (.ireturn, 1)) (hi : inr r) (hp : post r) :
    W p l e R s m args below meth c s.heap [] 0 0 (MQ below (fun _ st o t => ∃ r : Int, o = .returned (some (.int (II r))) ∧ inr r ∧ post r ∧ t.heap = st.heap) args s 0 0 (fun _ => False)) (F0 m pc ls [.int (II r)]) :=
  W.iret (v := II r) B.1 B.2.1 B.2.2.2.2.2.2.1 (fun t ht hW => ⟨r, rfl, hi, hp, ht⟩) (fun _ h => by cases h) hdg B.2.2.2.2.2.2.2
theorem s_zret {post : Int → Prop} {r : Int} (B : Cx D dA p s m args meth c cc own nL (some .boolean)) (hdg : decode cc pc = .ok (.ireturn, 1)) (hi : r = 0 ∨ r = 1) (hp : post r) :
    W p l e R s m args below meth c s.heap [] 0 0 (MQ below (fun _ st o t => ∃ r : Int, o = .returned (some (.int (II r))) ∧ inr r ∧ post r ∧ t.heap = st.heap) args s 0 0 (fun _ => False)) (F0 m pc ls [.int (II r)]) :=
  W.zret (v := II r) B.1 B.2.1 B.2.2.2.2.2.2.1 (narZ hi) (fun t ht hW => ⟨r, rfl, by unfold inr; omega, hp, ht⟩) (fun _ h => by cases h) hdg B.2.2.2.2.2.2.2
theorem s_lret {post : Int64 → Prop} {r : Int64} (B : Cx D dA p s m args meth c cc own nL (some .long)) (hdg : decode cc pc = .ok (.lreturn, 1)) (hp : post r) :
    W p l e R s m args below meth c s.heap [] 0 0 (MQ below (fun _ st o t => ∃ r : Int64, o = .returned (some (.long r)) ∧ post r ∧ t.heap = st.heap) args s 0 0 (fun _ => False)) (F0 m pc ls [.long r]) :=
  W.lret (v := r) B.1 B.2.1 B.2.2.2.2.2.2.1 (fun t ht hW => ⟨r, rfl, hp, ht⟩) (fun _ h => by cases h) hdg B.2.2.2.2.2.2.2
theorem s_run {y : MethodName} {cc' : ByteArray} {nL' index n : Nat} {ret' : Option FieldType} {rm : Room} {as st : List Value} {Qc : Array Value → State → Outcome → State → Prop} (B : Cx D dA p s m args meth c cc own nL ret) (hl : ls.size = nL) (hC : Met l y (cw0 y cc' nL' ret') rm (sPc D dA as) Qc 0 0 (fun _ => False)) (hcls : y.cls = own) (hok : okS own index y cc' nL' ret') (hnm : nmC y n) (hrm : rm.cells = 0 ∧ rm.slots = 0) (hR : rm.frames + 1 ≤ R.frames ∧ 8 + (nL' + 11) + rm.locals ≤ R.locals)
    (hdg : decode cc pc = .ok (.invokestatic index, 3)) (hn : as.length = n) (hst : st = as.reverse ++ rest) (hr : (rest.map fun v => v.category).sum ≤ 8) (hf : cells ≤ R.cells ∧ slots ≤ R.slots) :
    va_Run p l e R s m args below meth c H locs cells slots 0 0 (F0 m pc ls st) rest (Qc as.toArray) (fun _ => False) :=
  va_runS (As := as) (rest := rest) ⟨B.1, B.2.1, B.2.2.1, B.2.2.2.1, B.2.2.2.2.1⟩ hC (cwS n B.2.2.2.2.1 (good_S hok) rfl hrm.1 hrm.2 ⟨hcls, hnm⟩ hR) ⟨fun a U g mk q => ⟨q.1, va_K.moved (u := U) (U := U.calling g mk a) (Vm.Alike.refl U.vm) q.2⟩, fun U _ hW => ⟨rfl, va_K.moved hW.alike B.2.2.2.2.2.1⟩⟩ rfl hn hl hst (lv_room hr) hdg hf
theorem s_calli {y : MethodName} {cc' : ByteArray} {nL' index n : Nat} {ret' : Option FieldType} {rm : Room} {as st : List Value} {post : Int → Prop} (B : Cx D dA p s m args meth c cc own nL ret) (hl : ls.size = nL) (hC : SCi l y cc' nL' ret' rm D dA as post) (hcls : y.cls = own) (hok : okS own index y cc' nL' ret') (hnm : nmC y n) (hrm : rm.cells = 0 ∧ rm.slots = 0) (hR : rm.frames + 1 ≤ R.frames ∧ 8 + (nL' + 11) + rm.locals ≤ R.locals)
    (hdg : decode cc pc = .ok (.invokestatic index, 3)) (hn : as.length = n) (hst : st = as.reverse ++ rest) (hr : (rest.map fun v => v.category).sum ≤ 8) (hf : cells ≤ R.cells ∧ slots ≤ R.slots)
    (kk : ∀ r : Int, inr r → post r → W p l e R s m args below meth c H locs cells slots Q (F0 m (pc + 3) ls (.int (II r) :: rest))) : W p l e R s m args below meth c H locs cells slots Q (F0 m pc ls st) := by
  intro T hT X
  obtain ⟨v, st₀, t, T', Lc, h0, X', hL, e1, e2, ⟨r, hv, hi, hp, hh⟩, go⟩ := s_run (H := H) (locs := locs) B hl hC hcls hok hnm hrm hR hdg hn hst hr hf T hT X
  have hLn : Lc = [] := by
    cases Lc with
    | nil => rfl
    | cons a b => exact (hL a List.mem_cons_self).elim
  subst hLn
  cases hv
  rw [List.append_nil] at X'
  obtain ⟨t2, a1, b1⟩ := kk r hi hp T' (by rw [e1, hh, h0]) X'
  exact ⟨t2, go t2 a1, b1⟩
theorem s_calll {y : MethodName} {cc' : ByteArray} {nL' index n : Nat} {rm : Room} {as st : List Value} {post : Int64 → Prop} (B : Cx D dA p s m args meth c cc own nL ret) (hl : ls.size = nL) (hC : SCl l y cc' nL' rm D dA as post) (hcls : y.cls = own) (hok : okS own index y cc' nL' (some .long)) (hnm : nmC y n) (hrm : rm.cells = 0 ∧ rm.slots = 0) (hR : rm.frames + 1 ≤ R.frames ∧ 8 + (nL' + 11) + rm.locals ≤ R.locals)
    (hdg : decode cc pc = .ok (.invokestatic index, 3)) (hn : as.length = n) (hst : st = as.reverse ++ rest) (hr : (rest.map fun v => v.category).sum ≤ 8) (hf : cells ≤ R.cells ∧ slots ≤ R.slots)
    (kk : ∀ r : Int64, post r → W p l e R s m args below meth c H locs cells slots Q (F0 m (pc + 3) ls (.long r :: rest))) : W p l e R s m args below meth c H locs cells slots Q (F0 m pc ls st) := by
  intro T hT X
  obtain ⟨v, st₀, t, T', Lc, h0, X', hL, e1, e2, ⟨r, hv, hp, hh⟩, go⟩ := s_run (H := H) (locs := locs) B hl hC hcls hok hnm hrm hR hdg hn hst hr hf T hT X
  have hLn : Lc = [] := by
    cases Lc with
    | nil => rfl
    | cons a b => exact (hL a List.mem_cons_self).elim
  subst hLn
  cases hv
  rw [List.append_nil] at X'
  obtain ⟨t2, a1, b1⟩ := kk r hp T' (by rw [e1, hh, h0]) X'
  exact ⟨t2, go t2 a1, b1⟩
end MC
