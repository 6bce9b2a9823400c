/-! contracts of the class's methods -/
abbrev cF (dA : Nat → ClassId) (L : List Nat) (T N : Nat → Nat) (I : Nat → Nat → Int) (J : Nat → Nat → Int64) (R : Nat → Nat → Nat) (sz : Nat) : Nat → Prop := va_A (cW dA L T N I J R) sz
def cPc (D : va_G) (dA : Nat → ClassId) (eA : Nat) (L : List Nat) (T N : Nat → Nat) (I : Nat → Nat → Int) (J : Nat → Nat → Int64) (R : Nat → Nat → Nat) (as : List Value) (sz sl : Nat) : Array Value → State → Prop :=
  va_Pc as (fun U => U.heap.size = sz ∧ hs U.heap = sl ∧ va_P D vwCl (cW dA L T N I J R) U.heap ∧ va_K D vwCl (tyX dA) U ∧ va_D (fun _ => True) (cW dA L T N I J R) ∧ WF eA L T N I J R ∧ SX eA (cF dA L T N I J R sz) U U.heap)
def pQ (post : Option Value → Prop) : Array Value → State → Outcome → State → Prop := fun _ st o t => ∃ v, o = .returned v ∧ post v ∧ t.heap = st.heap
def PC (l : Launch) (y : MethodName) (cc : ByteArray) (nL : Nat) (ret : Option FieldType) (rm : Room) (D : va_G) (dA : Nat → ClassId) (eA : Nat) (L : List Nat) (T N : Nat → Nat) (I : Nat → Nat → Int) (J : Nat → Nat → Int64) (R : Nat → Nat → Nat) (as : List Value) (post : Option Value → Prop) : Prop :=
  ∀ sz sl, Met l y (cw0 y cc nL ret) rm (cPc D dA eA L T N I J R as sz sl) (pQ post) 0 0 (fun _ => False)
abbrev gP : Type := Option Value → List Nat → (Nat → Nat) → (Nat → Nat) → (Nat → Nat → Int) → (Nat → Nat → Int64) → (Nat → Nat → Nat) → Nat → Nat → Prop
def gQ (D : va_G) (dA : Nat → ClassId) (eA : Nat) (A : Nat → Prop) (sz sl : Nat) (post : gP) : Array Value → State → Outcome → State → Prop := fun _ st o t =>
  (∃ (v : Option Value) (L : List Nat) (T N : Nat → Nat) (I : Nat → Nat → Int) (J : Nat → Nat → Int64) (R : Nat → Nat → Nat) (dz dl : Nat), o = .returned v ∧ post v L T N I J R dz dl ∧ (va_P D vwCl (cW dA L T N I J R) t.heap ∧ va_D A (cW dA L T N I J R) ∧ WF eA L T N I J R) ∧ t.heap.size ≤ sz + dz ∧ hs t.heap ≤ sl + dl) ∧ va_F A st t
def GC (l : Launch) (y : MethodName) (cc : ByteArray) (nL : Nat) (ret : Option FieldType) (rm : Room) (D : va_G) (dA : Nat → ClassId) (eA : Nat) (L : List Nat) (T N : Nat → Nat) (I : Nat → Nat → Int) (J : Nat → Nat → Int64) (R : Nat → Nat → Nat) (as : List Value) (mc ms : Nat) (post : gP) : Prop :=
  ∀ sz sl, Met l y (cw0 y cc nL ret) rm (cPc D dA eA L T N I J R as sz sl) (gQ D dA eA (cF dA L T N I J R sz) sz sl post) mc ms (cF dA L T N I J R sz)
def okT (own : String) (index : Nat) (y : MethodName) (cc : ByteArray) (nL : Nat) (ret : Option FieldType) : Prop :=
  Cond.methodLink own index y ∈ lw_g ∧ Cond.static y ∈ lw_g ∧ Cond.initialized y.cls ∈ lw_g ∧ Cond.code y cc nL ret ∈ lw_g
def okI (own : String) (index : Nat) (y : MethodName) (cc : ByteArray) (nL : Nat) : Prop :=
  Cond.methodLink own index y ∈ lw_g ∧ Cond.instanceMethod y ∈ lw_g ∧ Cond.initialized y.cls ∈ lw_g ∧ Cond.code y cc nL none ∈ lw_g ∧ y.name = "<init>"
section CC
variable {p : Program} {l : Launch} {e : Env} {Rm : Room} {s : State} {m : MethodId} {args : Array Value} {below : List Frame} {meth : Method} {c : Code} {H : Heap} {locs : List Loc} {cells slots : Nat} {Q : State → Prop}
variable {cc : ByteArray} {pc : Nat} {ls : Array Slot} {rest : List Value}
variable {D : va_G} {dA : Nat → ClassId} {nL : Nat} {ret : Option FieldType} {own : String} {eA : Nat} {A0 : Nat → Prop} {L L1 : List Nat} {T N T1 N1 : Nat → Nat} {I I1 : Nat → Nat → Int} {J J1 : Nat → Nat → Int64} {R R1 : Nat → Nat → Nat}
theorem c_start {y : MethodName} {rm : Room} {as : List Value} {sz sl mc ms : Nat} {free : Addr → Prop} {Qc : Array Value → State → Outcome → State → Prop} (hy : plainName y.cls = true) (hcls : y.cls = own) (hlen : (lg_sl as).length ≤ nL)
    (body : ∀ p e s m args below meth c ls, s.heap.size = sz → hs s.heap = sl → meth.name = y.name → Cx D dA p s m args meth c cc own nL ret → SX eA (cF dA L T N I J R s.heap.size) s s.heap → CWd D dA eA (cF dA L T N I J R s.heap.size) s.heap L T N I J R s.heap [] → lv_has ls nL (lv_args 0 as) →
      W p l e rm s m args below meth c s.heap [] 0 0 (MQ below Qc args s mc ms free) (F0 m 0 ls [])) :
    Met l y (cw0 y cc nL ret) rm (cPc D dA eA L T N I J R as sz sl) Qc mc ms free := by
  refine Met.ofW (cc := cc) (maxL := nL) (ret := ret) hy rfl ?_
  intro p e s m args below meth c s₁ B hml hv
  obtain ⟨rfl, hsz, hsl, hP, hK, hD0, hW, hX⟩ := hv
  have hts := atoms_spec (ws := cw0 y cc nL ret) B.pre
  have hown : s.vm.findClass y.cls = some m.cls := findClass_of_methodNamed B.named
  rw [hcls] at hown
  have hl := lv_entry as (n := nL) hlen
  rw [lg_entry_eq]
  subst hsz
  exact body p e s m _ below meth c _ rfl hsl (name_of_methodNamed B.named B.method).1 ⟨B.exec, B.bytes, hml, hown, fun w h => hts w (List.mem_cons_of_mem _ h), hK, B.returns, B.notSynchronized⟩ hX ⟨hP, hD0.self, va_S.rf, hW⟩ hl
theorem p_enter {y : MethodName} {rm : Room} {as : List Value} {post : Option Value → Prop} (hy : plainName y.cls = true) (hcls : y.cls = own) (hlen : (lg_sl as).length ≤ nL)
    (body : ∀ p e s m args below meth c ls, Cx D dA p s m args meth c cc own nL ret → SX eA (cF dA L T N I J R s.heap.size) s s.heap → CWd D dA eA (cF dA L T N I J R s.heap.size) s.heap L T N I J R s.heap [] → lv_has ls nL (lv_args 0 as) →
      W p l e rm s m args below meth c s.heap [] 0 0 (MQ below (pQ post) args s 0 0 (fun _ => False)) (F0 m 0 ls [])) :
    PC l y cc nL ret rm D dA eA L T N I J R as post := fun sz sl => c_start hy hcls hlen (fun p e s m args below meth c ls _ _ _ B hX hM hl => body p e s m args below meth c ls B hX hM hl)
theorem g_enter {y : MethodName} {rm : Room} {as : List Value} {mc ms : Nat} {post : gP} (hy : plainName y.cls = true) (hcls : y.cls = own) (hlen : (lg_sl as).length ≤ nL)
    (body : ∀ p e s m args below meth c ls, meth.name = y.name → Cx D dA p s m args meth c cc own nL ret → SX eA (cF dA L T N I J R s.heap.size) s s.heap → CWd D dA eA (cF dA L T N I J R s.heap.size) s.heap L T N I J R s.heap [] → lv_has ls nL (lv_args 0 as) →
      W p l e rm s m args below meth c s.heap [] 0 0 (MQ below (gQ D dA eA (cF dA L T N I J R s.heap.size) s.heap.size (hs s.heap) post) args s mc ms (cF dA L T N I J R s.heap.size)) (F0 m 0 ls [])) :
    GC l y cc nL ret rm D dA eA L T N I J R as mc ms post := fun sz sl => c_start hy hcls hlen (fun p e s m args below meth c ls h1 h2 hm B hX hM hl => by subst h1 h2; exact body p e s m args below meth c ls hm B hX hM hl)
/-! ends -/
theorem p_iret {post : Option Value → Prop} {r : Int} (B : Cx D dA p s m args meth c cc own nL (some .int)) (hdg : decode cc pc = .ok (.ireturn, 1)) (hp : post (some (.int (II r)))) :
    W p l e Rm s m args below meth c s.heap [] 0 0 (MQ below (pQ post) args s 0 0 (fun _ => False)) (F0 m pc ls [.int (II r)]) :=
  W.iret (v := II r) B.1 B.2.1 B.2.2.2.2.2.2.1 (fun t ht hW => ⟨_, rfl, hp, ht⟩) (fun _ h => by cases h) hdg B.2.2.2.2.2.2.2
theorem p_zret {post : Option Value → Prop} {r : Int} (B : Cx D dA p s m args meth c cc own nL (some .boolean)) (hdg : decode cc pc = .ok (.ireturn, 1)) (h1 : 0 ≤ r) (h2 : r ≤ 1) (hp : post (some (.int (II r)))) :
    W p l e Rm s m args below meth c s.heap [] 0 0 (MQ below (pQ post) args s 0 0 (fun _ => False)) (F0 m pc ls [.int (II r)]) :=
  W.zret (v := II r) B.1 B.2.1 B.2.2.2.2.2.2.1 (narZ (by omega)) (fun t ht hW => ⟨_, rfl, hp, ht⟩) (fun _ h => by cases h) hdg B.2.2.2.2.2.2.2
theorem p_lret {post : Option Value → Prop} {r : Int64} (B : Cx D dA p s m args meth c cc own nL (some .long)) (hdg : decode cc pc = .ok (.lreturn, 1)) (hp : post (some (.long r))) :
    W p l e Rm s m args below meth c s.heap [] 0 0 (MQ below (pQ post) args s 0 0 (fun _ => False)) (F0 m pc ls [.long r]) :=
  W.lret (v := r) B.1 B.2.1 B.2.2.2.2.2.2.1 (fun t ht hW => ⟨_, rfl, hp, ht⟩) (fun _ h => by cases h) hdg B.2.2.2.2.2.2.2
theorem p_vret {post : Option Value → Prop} (B : Cx D dA p s m args meth c cc own nL none) (hdg : decode cc pc = .ok (.return_, 1)) (hp : post none) :
    W p l e Rm s m args below meth c s.heap [] 0 0 (MQ below (pQ post) args s 0 0 (fun _ => False)) (F0 m pc ls []) :=
  W.vret B.1 B.2.1 B.2.2.2.2.2.2.1 (fun t ht hW => ⟨_, rfl, hp, ht⟩) (fun _ h => by cases h) hdg B.2.2.2.2.2.2.2
theorem cv_or {v : Nat} : cv v = .null ∨ ∃ a, cv v = .ref a := by
  cases v with
  | zero => exact Or.inl rfl
  | succ b => exact Or.inr ⟨b, rfl⟩
theorem p_aret {post : Option Value → Prop} {v : Nat} {v' : Value} {rt : FieldType} (B : Cx D dA p s m args meth c cc own nL (some rt)) (hrt : (∃ n, rt = .object n) ∨ ∃ t, rt = .array t) (hdg : decode cc pc = .ok (.areturn, 1)) (hv : cv v = v') (hp : post (some (cv v))) :
    W p l e Rm s m args below meth c s.heap [] 0 0 (MQ below (pQ post) args s 0 0 (fun _ => False)) (F0 m pc ls [v']) := by
  subst hv
  exact W.aret (v := cv v) B.1 B.2.1 B.2.2.2.2.2.2.1 hrt cv_or (fun t ht hW => ⟨_, rfl, hp, ht⟩) (fun _ h => by cases h) hdg B.2.2.2.2.2.2.2
theorem g_fin {post : gP} {v : Option Value} {t : State} (hM : CWd D dA eA A0 s.heap L1 T1 N1 I1 J1 R1 H locs) (h1 : H.size ≤ s.heap.size + cells) (h2 : hs H ≤ hs s.heap + slots) (hp : post v L1 T1 N1 I1 J1 R1 cells slots) (ht : t.heap = H) : gQ D dA eA A0 s.heap.size (hs s.heap) post args s (.returned v) t :=
  ⟨⟨v, L1, T1, N1, I1, J1, R1, cells, slots, rfl, hp, ⟨by rw [ht]; exact hM.1, hM.2.1, hM.2.2.2⟩, by rw [ht]; exact h1, by rw [ht]; exact h2⟩, hM.2.2.1.F ht⟩
theorem g_iret {post : gP} {r : Int} {mc ms : Nat} (B : Cx D dA p s m args meth c cc own nL (some .int)) (hM : CWd D dA eA A0 s.heap L1 T1 N1 I1 J1 R1 H locs) (hdg : decode cc pc = .ok (.ireturn, 1)) (hc : cells ≤ mc ∧ slots ≤ ms) (hp : post (some (.int (II r))) L1 T1 N1 I1 J1 R1 cells slots) :
    W p l e Rm s m args below meth c H locs cells slots (MQ below (gQ D dA eA A0 s.heap.size (hs s.heap) post) args s mc ms A0) (F0 m pc ls [.int (II r)]) :=
  W_know (fun h1 h2 => W.widen hc.1 hc.2 (W.iret (v := II r) B.1 B.2.1 B.2.2.2.2.2.2.1 (fun t ht hW => g_fin hM h1 h2 hp ht) hM.2.2.1.2.2 hdg B.2.2.2.2.2.2.2))
theorem g_zret {post : gP} {r : Int} {mc ms : Nat} (B : Cx D dA p s m args meth c cc own nL (some .boolean)) (hM : CWd D dA eA A0 s.heap L1 T1 N1 I1 J1 R1 H locs) (hdg : decode cc pc = .ok (.ireturn, 1)) (hc : cells ≤ mc ∧ slots ≤ ms) (q1 : 0 ≤ r) (q2 : r ≤ 1) (hp : post (some (.int (II r))) L1 T1 N1 I1 J1 R1 cells slots) :
    W p l e Rm s m args below meth c H locs cells slots (MQ below (gQ D dA eA A0 s.heap.size (hs s.heap) post) args s mc ms A0) (F0 m pc ls [.int (II r)]) :=
  W_know (fun h1 h2 => W.widen hc.1 hc.2 (W.zret (v := II r) B.1 B.2.1 B.2.2.2.2.2.2.1 (narZ (by omega)) (fun t ht hW => g_fin hM h1 h2 hp ht) hM.2.2.1.2.2 hdg B.2.2.2.2.2.2.2))
theorem g_lret {post : gP} {r : Int64} {mc ms : Nat} (B : Cx D dA p s m args meth c cc own nL (some .long)) (hM : CWd D dA eA A0 s.heap L1 T1 N1 I1 J1 R1 H locs) (hdg : decode cc pc = .ok (.lreturn, 1)) (hc : cells ≤ mc ∧ slots ≤ ms) (hp : post (some (.long r)) L1 T1 N1 I1 J1 R1 cells slots) :
    W p l e Rm s m args below meth c H locs cells slots (MQ below (gQ D dA eA A0 s.heap.size (hs s.heap) post) args s mc ms A0) (F0 m pc ls [.long r]) :=
  W_know (fun h1 h2 => W.widen hc.1 hc.2 (W.lret (v := r) B.1 B.2.1 B.2.2.2.2.2.2.1 (fun t ht hW => g_fin hM h1 h2 hp ht) hM.2.2.1.2.2 hdg B.2.2.2.2.2.2.2))
theorem g_vret {post : gP} {mc ms : Nat} (B : Cx D dA p s m args meth c cc own nL none) (hM : CWd D dA eA A0 s.heap L1 T1 N1 I1 J1 R1 H locs) (hdg : decode cc pc = .ok (.return_, 1)) (hc : cells ≤ mc ∧ slots ≤ ms) (hp : post none L1 T1 N1 I1 J1 R1 cells slots) :
    W p l e Rm s m args below meth c H locs cells slots (MQ below (gQ D dA eA A0 s.heap.size (hs s.heap) post) args s mc ms A0) (F0 m pc ls []) :=
  W_know (fun h1 h2 => W.widen hc.1 hc.2 (W.vret B.1 B.2.1 B.2.2.2.2.2.2.1 (fun t ht hW => g_fin hM h1 h2 hp ht) hM.2.2.1.2.2 hdg B.2.2.2.2.2.2.2))
theorem g_aret {post : gP} {v : Nat} {v' : Value} {rt : FieldType} {mc ms : Nat} (B : Cx D dA p s m args meth c cc own nL (some rt)) (hrt : (∃ n, rt = .object n) ∨ ∃ t, rt = .array t) (hM : CWd D dA eA A0 s.heap L1 T1 N1 I1 J1 R1 H locs) (hdg : decode cc pc = .ok (.areturn, 1)) (hc : cells ≤ mc ∧ slots ≤ ms) (hv : cv v = v') (hp : post (some (cv v)) L1 T1 N1 I1 J1 R1 cells slots) :
    W p l e Rm s m args below meth c H locs cells slots (MQ below (gQ D dA eA A0 s.heap.size (hs s.heap) post) args s mc ms A0) (F0 m pc ls [v']) := by
  subst hv
  exact W_know (fun h1 h2 => W.widen hc.1 hc.2 (W.aret (v := cv v) B.1 B.2.1 B.2.2.2.2.2.2.1 hrt cv_or (fun t ht hW => g_fin hM h1 h2 hp ht) hM.2.2.1.2.2 hdg B.2.2.2.2.2.2.2))
/-! calls -/
theorem cF_sub (hM : CWd D dA eA A0 s.heap L T N I J R H locs) (hA : ∀ q, s.heap.size ≤ q → A0 q) : ∀ q, cF dA L T N I J R H.size q → A0 q := by
  intro q hq
  rcases hq with ⟨k, e, h⟩ | h
  · exact hM.2.1.2 k (q, e) h
  · exact hA q (Nat.le_trans hM.2.2.1.1 h)
theorem c_blind {as : List Value} {sz sl : Nat} : FrameBlind (cPc D dA eA L T N I J R as sz sl) := fun a U g mk q => by
  obtain ⟨q0, q1, q2, qP, qK, qD, qW, qX⟩ := q
  exact ⟨q0, q1, q2, qP, va_K.moved (u := U) (U := U.calling g mk a) (Vm.Alike.refl U.vm) qK, qD, qW, SX.stb _ _ _ (U.calling g mk a) _ _ (fun _ h => h) (State.WarmedH.refl U) (fun _ _ _ => rfl) qX⟩
theorem c_preS {as : List Value} (B : Cx D dA p s m args meth c cc own nL ret) (hX : SX eA A0 s s.heap) (hA : ∀ q, s.heap.size ≤ q → A0 q) (hM : CWd D dA eA A0 s.heap L T N I J R H locs) : PreS s H (cPc D dA eA L T N I J R as H.size (hs H)) as :=
  ⟨c_blind, fun U hU hW => ⟨rfl, by rw [hU], by rw [hU], by rw [hU]; exact hM.1, va_K.moved hW.alike B.2.2.2.2.2.1, hM.2.1.weaken (fun _ _ _ _ => trivial), hM.2.2.2, by rw [hU]; exact SX.stb A0 _ s U s.heap H (cF_sub hM hA) hW hM.2.2.1.2.1 hX⟩⟩
theorem c_runV {y : MethodName} {cc' : ByteArray} {nL' index n mc ms b t ci : Nat} {so : List Nat} {ret' : Option FieldType} {rm : Room} {as st : List Value} {Qc : Array Value → State → Outcome → State → Prop} {free : Addr → Prop} (B : Cx D dA p s m args meth c cc own nL ret) (hX : SX eA A0 s s.heap) (hA : ∀ q, s.heap.size ≤ q → A0 q) (hM : CWd D dA eA A0 s.heap L T N I J R H locs) (hl : ls.size = nL) (hT : T b = t) (hkd : kd t = (0, ci, so)) (hrc : (vwCl[ci]?).map (fun q => q.1) = some y.cls)
    (hC : Met l y (cw0 y cc' nL' ret') rm (cPc D dA eA L T N I J R (.ref b :: as) H.size (hs H)) Qc mc ms free) (hok : okC own index y cc' nL' ret') (hnm : nmC y n) (hrm : rm.cells = mc ∧ rm.slots = ms) (hR : rm.frames + 1 ≤ Rm.frames ∧ 8 + (nL' + 11) + rm.locals ≤ Rm.locals) (hdg : decode cc pc = .ok (.invokevirtual index, 3)) (hn : as.length = n) (hst : st = as.reverse ++ .ref b :: rest) (hr : (rest.map fun v => v.category).sum ≤ 8) (hf : cells + mc ≤ Rm.cells ∧ slots + ms ≤ Rm.slots) :
    va_Run p l e Rm s m args below meth c H locs cells slots mc ms (F0 m pc ls st) rest (Qc (.ref b :: as).toArray) free := by
  obtain ⟨i, hi⟩ := hM.ix hT (kd_ok hkd (by omega))
  rw [cE_o hT hkd] at hi
  have hpre := c_preS (as := .ref b :: as) B hX hA hM
  obtain ⟨q, hq1, hq2⟩ := Option.map_eq_some_iff.mp hrc
  have hrec := va_recv B.2.2.2.2.2.1 hM.1 hq1 hi
  rw [hq2] at hrec
  exact va_runV (C := y.cls) (As := as) (rest := rest) ⟨B.1, B.2.1, B.2.2.1, B.2.2.2.1, B.2.2.2.2.1⟩ hC (cwV n B.2.2.2.2.1 (good_V hok) rfl hrm.1 hrm.2 ⟨rfl, hnm⟩ hR) ⟨hpre.1, hrec, hpre.2⟩ rfl hn hl hst (lv_room hr) hdg hf
theorem c_runS {y : MethodName} {cc' : ByteArray} {nL' index n mc ms : Nat} {ret' : Option FieldType} {rm : Room} {as st : List Value} {Qc : Array Value → State → Outcome → State → Prop} {free : Addr → Prop} (B : Cx D dA p s m args meth c cc own nL ret) (hX : SX eA A0 s s.heap) (hA : ∀ q, s.heap.size ≤ q → A0 q) (hM : CWd D dA eA A0 s.heap L T N I J R H locs) (hl : ls.size = nL)
    (hC : Met l y (cw0 y cc' nL' ret') rm (cPc D dA eA L T N I J R as H.size (hs H)) Qc mc ms free) (hok : okT own index y cc' nL' ret') (hnm : nmC y n) (hrm : rm.cells = mc ∧ rm.slots = ms) (hR : rm.frames + 1 ≤ Rm.frames ∧ 8 + (nL' + 11) + rm.locals ≤ Rm.locals) (hdg : decode cc pc = .ok (.invokestatic index, 3)) (hn : as.length = n) (hst : st = as.reverse ++ rest) (hr : (rest.map fun v => v.category).sum ≤ 8) (hf : cells + mc ≤ Rm.cells ∧ slots + ms ≤ Rm.slots) :
    va_Run p l e Rm s m args below meth c H locs cells slots mc ms (F0 m pc ls st) rest (Qc as.toArray) free :=
  va_runS (As := as) (rest := rest) ⟨B.1, B.2.1, B.2.2.1, B.2.2.2.1, B.2.2.2.2.1⟩ hC ⟨callB_of n B.2.2.2.2.1 (good_cw hok.2.2.2) rfl hrm.1 hrm.2 (B.2.2.2.2.1 _ hok.2.2.1) (B.2.2.2.2.1 _ hok.1) hnm hR, B.2.2.2.2.1 _ hok.2.1⟩ (c_preS B hX hA hM) rfl hn hl hst (lv_room hr) hdg hf
theorem c_runI {y : MethodName} {cc' : ByteArray} {nL' index n mc ms b : Nat} {rm : Room} {as st : List Value} {Qc : Array Value → State → Outcome → State → Prop} {free : Addr → Prop} (B : Cx D dA p s m args meth c cc own nL ret) (hX : SX eA A0 s s.heap) (hA : ∀ q, s.heap.size ≤ q → A0 q) (hM : CWd D dA eA A0 s.heap L T N I J R H locs) (hl : ls.size = nL)
    (hC : Met l y (cw0 y cc' nL' none) rm (cPc D dA eA L T N I J R (.ref b :: as) H.size (hs H)) Qc mc ms free) (hok : okI own index y cc' nL') (hnm : nmC y n) (hrm : rm.cells = mc ∧ rm.slots = ms) (hR : rm.frames + 1 ≤ Rm.frames ∧ 8 + (nL' + 11) + rm.locals ≤ Rm.locals) (hdg : decode cc pc = .ok (.invokespecial index, 3)) (hn : as.length = n) (hst : st = as.reverse ++ .ref b :: rest) (hr : (rest.map fun v => v.category).sum ≤ 8) (hf : cells + mc ≤ Rm.cells ∧ slots + ms ≤ Rm.slots) :
    va_Run p l e Rm s m args below meth c H locs cells slots mc ms (F0 m pc ls st) rest (Qc (.ref b :: as).toArray) free :=
  va_runI (As := as) (rest := rest) ⟨B.1, B.2.1, B.2.2.1, B.2.2.2.1, B.2.2.2.2.1⟩ hC ⟨callB_of n B.2.2.2.2.1 (good_cw hok.2.2.2.1) rfl hrm.1 hrm.2 (B.2.2.2.2.1 _ hok.2.2.1) (B.2.2.2.2.1 _ hok.1) hnm hR, hok.2.2.2.2, B.2.2.2.2.1 _ hok.2.1⟩ (c_preS B hX hA hM) rfl hn hl hst (lv_room hr) hdg hf
theorem p_call {post : Option Value → Prop} {st : List Value} {aa : Array Value} (hr : va_Run p l e Rm s m args below meth c H locs cells slots 0 0 (F0 m pc ls st) rest (pQ post aa) (fun _ => False))
    (kk : ∀ v, post v → W p l e Rm s m args below meth c H locs cells slots Q (F0 m (pc + 3) ls (v.toList ++ rest))) : W p l e Rm s m args below meth c H locs cells slots Q (F0 m pc ls st) := by
  intro X hT Xs
  obtain ⟨v, st₀, t, X', Lc, h0, Y, hL, e1, e2, ⟨w, hv, hp, hh⟩, go⟩ := hr X hT Xs
  have hLn : Lc = [] := by
    cases Lc with
    | nil => rfl
    | cons a b => exact (hL a List.mem_cons_self).elim
  subst hLn
  cases hv
  rw [List.append_nil] at Y
  obtain ⟨t2, a1, b1⟩ := kk v hp X' (by rw [e1, hh, h0]) Y
  exact ⟨t2, go t2 a1, b1⟩
theorem g_call {post : gP} {st : List Value} {aa : Array Value} {mc ms : Nat} (hM : CWd D dA eA A0 s.heap L T N I J R H locs) (hA : ∀ q, s.heap.size ≤ q → A0 q) (hr : va_Run p l e Rm s m args below meth c H locs cells slots mc ms (F0 m pc ls st) rest (gQ D dA eA (cF dA L T N I J R H.size) H.size (hs H) post aa) (cF dA L T N I J R H.size))
    (kk : ∀ (v : Option Value) (L' : List Nat) (T' N' : Nat → Nat) (I' : Nat → Nat → Int) (J' : Nat → Nat → Int64) (R' : Nat → Nat → Nat) (dz dl : Nat) (H : Heap) (locs : List Loc), post v L' T' N' I' J' R' dz dl → CWd D dA eA A0 s.heap L' T' N' I' J' R' H locs → W p l e Rm s m args below meth c H locs (cells + dz) (slots + dl) Q (F0 m (pc + 3) ls (v.toList ++ rest))) : W p l e Rm s m args below meth c H locs cells slots Q (F0 m pc ls st) := by
  refine W_know (fun k1 k2 => ?_)
  have hF := cF_sub hM hA
  intro X hT Xs
  obtain ⟨v, st₀, t, X', Lc, h0, Y, hL, e1, e2, ⟨⟨w, L', T', N', I', J', R', dz, dl, hv, hp, ⟨hP1, hD1, hW1⟩, hz, hl⟩, hsz, hk⟩, go⟩ := hr X hT Xs
  cases hv
  rw [h0] at hsz hk
  have hS := hM.2.2.1
  have hS1 : va_S A0 s.heap t.heap (locs ++ Lc) := ⟨Nat.le_trans hS.1 hsz, fun q h1 h2 => by rw [hk q (Nat.lt_of_lt_of_le h1 hS.1) (fun z => h2 (hF q z))]; exact hS.2.1 q h1 h2, fun q hq => by
      rcases List.mem_append.mp hq with h | h
      · exact hS.2.2 q h
      · exact hF _ (hL q h)⟩
  have hk2 := kk v L' T' N' I' J' R' dz dl t.heap (locs ++ Lc) hp ⟨hP1, hD1.weaken (fun k q _ h => hF q.1 h), hS1, hW1⟩
  have hk3 := W_tight (cells := cells + mc) (slots := slots + ms) (by omega) (by omega) hk2
  obtain ⟨t2, a1, b1⟩ := hk3 X' e1 Y
  exact ⟨t2, go t2 a1, b1⟩
theorem g_call0 {post : gP} {st : List Value} {aa : Array Value} (hM : CWd D dA eA A0 s.heap L T N I J R H locs) (hA : ∀ q, s.heap.size ≤ q → A0 q) (hr : va_Run p l e Rm s m args below meth c H locs cells slots 0 0 (F0 m pc ls st) rest (gQ D dA eA (cF dA L T N I J R H.size) H.size (hs H) post aa) (cF dA L T N I J R H.size))
    (kk : ∀ (v : Option Value) (L' : List Nat) (T' N' : Nat → Nat) (I' : Nat → Nat → Int) (J' : Nat → Nat → Int64) (R' : Nat → Nat → Nat) (dz dl : Nat) (H : Heap) (locs : List Loc), post v L' T' N' I' J' R' dz dl → CWd D dA eA A0 s.heap L' T' N' I' J' R' H locs → W p l e Rm s m args below meth c H locs cells slots Q (F0 m (pc + 3) ls (v.toList ++ rest))) : W p l e Rm s m args below meth c H locs cells slots Q (F0 m pc ls st) := by
  have hF := cF_sub hM hA
  intro X hT Xs
  obtain ⟨v, st₀, t, X', Lc, h0, Y, hL, e1, e2, ⟨⟨w, L', T', N', I', J', R', dz, dl, hv, hp, ⟨hP1, hD1, hW1⟩, hz, hl⟩, hsz, hk⟩, go⟩ := hr X hT Xs
  cases hv
  rw [h0] at hsz hk
  have hS := hM.2.2.1
  have hS1 : va_S A0 s.heap t.heap (locs ++ Lc) := ⟨Nat.le_trans hS.1 hsz, fun q h1 h2 => by rw [hk q (Nat.lt_of_lt_of_le h1 hS.1) (fun z => h2 (hF q z))]; exact hS.2.1 q h1 h2, fun q hq => by
      rcases List.mem_append.mp hq with h | h
      · exact hS.2.2 q h
      · exact hF _ (hL q h)⟩
  obtain ⟨t2, a1, b1⟩ := kk v L' T' N' I' J' R' dz dl t.heap (locs ++ Lc) hp ⟨hP1, hD1.weaken (fun k q _ h => hF q.1 h), hS1, hW1⟩ X' e1 Y
  exact ⟨t2, go t2 a1, b1⟩
end CC
