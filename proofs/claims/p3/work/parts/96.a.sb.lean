theorem sel_priv {C : String} {x y : MethodName} {s : State} {args : Array Value} (hsx : (Cond.selects C x x).before args s = true) (hxy : x.cls = y.cls) (hy : y.cls ≠ "java/lang/invoke/MethodHandle" ∧ y.cls ≠ "java/lang/invoke/VarHandle")
    (hpriv : (Cond.privateMethod y).before args s = true) (hinst : (Cond.instanceMethod y).before args s = true) : (Cond.selects C y y).before args s = true := by
  obtain ⟨c2, r2, m2, q1, q2, q3, q4, kP, hkP, hkPi⟩ := Cond.selects_spec hsx
  obtain ⟨mk, methM, hnamed, hmethM, -, -⟩ := Cond.instanceMethod_spec hinst
  have hfound : s.methodFound? y.cls y.name y.desc = some mk := State.methodFound?_of_named hnamed hy
  have e1 := findClass_of_methodNamed hnamed
  have e2 := findClass_of_methodNamed q3
  have hcls : mk.cls = m2.cls := by
    have e3 : s.vm.findClass y.cls = some m2.cls := by rw [← hxy]; exact e2
    exact Option.some.inj (e1.symm.trans e3)
  have hsel : selectMethod {} s.vm c2 mk = .method mk := selectMethod_private hmethM (Cond.privateMethod_at hpriv mk methM hnamed hmethM)
  simp only [Cond.before, Cond.holds, Cond.value, q1, hfound, hnamed, hsel, hcls, hkP]
  simp; exact hkPi
def okSS (own : String) (index : Nat) (y : MethodName) (cc : ByteArray) (nL : Nat) (ret : Option FieldType) : Prop := Cond.methodLink own index y ∈ lw_g ∧ Cond.instanceMethod y ∈ lw_g ∧ Cond.selects RJ4 y y ∈ lw_g ∧ Cond.initialized y.cls ∈ lw_g ∧ Cond.code y cc nL ret ∈ lw_g ∧ y.cls = RJ5
def okU (own : String) (index : Nat) (y : MethodName) (cc : ByteArray) (nL : Nat) (ret : Option FieldType) : Prop := Cond.methodLink own index y ∈ lw_g ∧ Cond.sameMethod y.cls y.cls y.name y.desc ∈ lw_g ∧ Cond.superclass own y.cls ∈ lw_g ∧ Cond.instanceMethod y ∈ lw_g ∧ Cond.initialized y.cls ∈ lw_g ∧ Cond.code y cc nL ret ∈ lw_g ∧ y.name ≠ "<init>"
theorem mu_J4_53 : okU RJ4 53 yJ5_append_c97b9 cJ5_append_c97b9 4 (some (.object "java/lang/AbstractStringBuilder")) := ⟨(mt6 (List.mem_of_getElem? (i := 174) (by decide +kernel)) rfl), (mt10 (List.mem_of_getElem? (i := 194) (by decide +kernel)) rfl), (mt1 (List.mem_of_getElem? (i := 227) (by decide +kernel)) rfl), (mt6 (List.mem_of_getElem? (i := 175) (by decide +kernel)) rfl), (mt1 (List.mem_of_getElem? (i := 8) (by decide +kernel)) rfl), (mt6 (List.mem_of_getElem? (i := 176) (by decide +kernel)) rfl), by decide⟩
theorem mu_J4_50 : okU RJ4 50 yJ5_append_3fe6f cJ5_append_3fe6f 2 (some (.object "java/lang/AbstractStringBuilder")) := ⟨(mt6 (List.mem_of_getElem? (i := 202) (by decide +kernel)) rfl), (mt10 (List.mem_of_getElem? (i := 195) (by decide +kernel)) rfl), (mt1 (List.mem_of_getElem? (i := 227) (by decide +kernel)) rfl), (mt6 (List.mem_of_getElem? (i := 203) (by decide +kernel)) rfl), (mt1 (List.mem_of_getElem? (i := 8) (by decide +kernel)) rfl), (mt6 (List.mem_of_getElem? (i := 204) (by decide +kernel)) rfl), by decide⟩
theorem mu_J4_333 : okU RJ4 333 yJ5_setLength_d00df cJ5_setLength_d00df 2 none := ⟨(mt6 (List.mem_of_getElem? (i := 132) (by decide +kernel)) rfl), (mt10 (List.mem_of_getElem? (i := 191) (by decide +kernel)) rfl), (mt1 (List.mem_of_getElem? (i := 227) (by decide +kernel)) rfl), (mt6 (List.mem_of_getElem? (i := 133) (by decide +kernel)) rfl), (mt1 (List.mem_of_getElem? (i := 8) (by decide +kernel)) rfl), (mt6 (List.mem_of_getElem? (i := 134) (by decide +kernel)) rfl), by decide⟩
theorem mu_J4_343 : okU RJ4 343 yJ5_length_8abf5 cJ5_length_8abf5 1 (some .int) := ⟨(mt7 (List.mem_of_getElem? (i := 1) (by decide +kernel)) rfl), (mt10 (List.mem_of_getElem? (i := 197) (by decide +kernel)) rfl), (mt1 (List.mem_of_getElem? (i := 227) (by decide +kernel)) rfl), (mt7 (List.mem_of_getElem? (i := 2) (by decide +kernel)) rfl), (mt1 (List.mem_of_getElem? (i := 8) (by decide +kernel)) rfl), (mt7 (List.mem_of_getElem? (i := 3) (by decide +kernel)) rfl), by decide⟩
theorem mu_J4_329 : okU RJ4 329 yJ5_charAt_5068e cJ5_charAt_5068e 5 (some .char) := ⟨(mt7 (List.mem_of_getElem? (i := 21) (by decide +kernel)) rfl), (mt10 (List.mem_of_getElem? (i := 198) (by decide +kernel)) rfl), (mt1 (List.mem_of_getElem? (i := 227) (by decide +kernel)) rfl), (mt7 (List.mem_of_getElem? (i := 22) (by decide +kernel)) rfl), (mt1 (List.mem_of_getElem? (i := 8) (by decide +kernel)) rfl), (mt7 (List.mem_of_getElem? (i := 23) (by decide +kernel)) rfl), by decide⟩
theorem mv_J5_100 : okSS RJ5 100 yJ5_ensureCapacityInternal_d00df cJ5_ensureCapacityInternal_d00df 3 none := ⟨(mt6 (List.mem_of_getElem? (i := 135) (by decide +kernel)) rfl), (mt6 (List.mem_of_getElem? (i := 137) (by decide +kernel)) rfl), (mem_b (List.mem_of_getElem? (i := 0) rfl) rfl), (mt1 (List.mem_of_getElem? (i := 8) (by decide +kernel)) rfl), (mt6 (List.mem_of_getElem? (i := 138) (by decide +kernel)) rfl), rfl⟩
theorem mv_J5_104 : okSS RJ5 104 yJ5_newCapacity_0f7a4 cJ5_newCapacity_0f7a4 6 (some .int) := ⟨(mt6 (List.mem_of_getElem? (i := 139) (by decide +kernel)) rfl), (mt6 (List.mem_of_getElem? (i := 141) (by decide +kernel)) rfl), (mem_b (List.mem_of_getElem? (i := 1) rfl) rfl), (mt1 (List.mem_of_getElem? (i := 8) (by decide +kernel)) rfl), (mt6 (List.mem_of_getElem? (i := 142) (by decide +kernel)) rfl), rfl⟩
theorem mv_J5_83 : okSS RJ5 83 yJ5_isLatin1_aae02 cJ5_isLatin1_aae02 1 (some .boolean) := ⟨(mt6 (List.mem_of_getElem? (i := 146) (by decide +kernel)) rfl), (mt6 (List.mem_of_getElem? (i := 147) (by decide +kernel)) rfl), (mt6 (List.mem_of_getElem? (i := 149) (by decide +kernel)) rfl), (mt1 (List.mem_of_getElem? (i := 8) (by decide +kernel)) rfl), (mt6 (List.mem_of_getElem? (i := 150) (by decide +kernel)) rfl), rfl⟩
section CSB
variable {p : Program} {l : Launch} {e : Env} {Rm : Room} {s : State} {m : MethodId} {args : Array Value} {below : List Frame} {meth : Method} {c : Code} {H : Heap} {locs : List Loc} {cells slots : Nat} {Q : State → Prop}
variable {cc : ByteArray} {pc : Nat} {ls : Array Slot} {rest : List Value}
variable {D : va_G} {dA : Nat → ClassId} {nL : Nat} {ret : Option FieldType} {own : String} {eA : Nat} {A0 : Nat → Prop} {L L1 : List Nat} {T N T1 N1 : Nat → Nat} {I I1 : Nat → Nat → Int} {J J1 : Nat → Nat → Int64} {R R1 : Nat → Nat → Nat}
theorem c_runVX {y : MethodName} {cc' : ByteArray} {nL' index n mc ms b t ci : Nat} {so : List Nat} {C : String} {ret' : Option FieldType} {rm : Room} {as st : List Value} {Qc : Array Value → State → Outcome → State → Prop} {free : Addr → Prop} (B : Cx D dA p s m args meth c cc own nL ret) (hX : SX eA A0 s s.heap) (hA : ∀ q, s.heap.size ≤ q → A0 q) (hM : CWd D dA eA A0 s.heap L T N I J R H locs) (hl : ls.size = nL) (hT : T b = t) (hkd : kd t = (0, ci, so)) (hrc : (vwCl[ci]?).map (fun q => q.1) = some C)
    (hC : Met l y (cw0 y cc' nL' ret') rm (cPc D dA eA L T N I J R (.ref b :: as) H.size (hs H)) Qc mc ms free) (hse : (Cond.selects C y y).before args s = true) (h1 : Cond.methodLink own index y ∈ lw_g) (h2 : Cond.instanceMethod y ∈ lw_g) (h3 : Cond.initialized y.cls ∈ lw_g) (h4 : Cond.code y cc' nL' ret' ∈ lw_g) (hnm : nmC y n) (hrm : rm.cells = mc ∧ rm.slots = ms) (hR : rm.frames + 1 ≤ Rm.frames ∧ 8 + (nL' + 11) + rm.locals ≤ Rm.locals) (hdg : decode cc pc = .ok (.invokevirtual index, 3)) (hn : as.length = n) (hst : st = as.reverse ++ .ref b :: rest) (hr : (rest.map fun v => v.category).sum ≤ 8) (hf : cells + mc ≤ Rm.cells ∧ slots + ms ≤ Rm.slots) :
    va_Run p l e Rm s m args below meth c H locs cells slots mc ms (F0 m pc ls st) rest (Qc (.ref b :: as).toArray) free := by
  obtain ⟨i, hi⟩ := hM.ix hT (kd_ok hkd (by omega))
  rw [cE_o hT hkd] at hi
  have hpre := c_preS (as := .ref b :: as) B hX hA hM
  obtain ⟨q, hq1, hq2⟩ := Option.map_eq_some_iff.mp hrc
  have hrec := va_recv B.2.2.2.2.2.1 hM.1 hq1 hi
  rw [hq2] at hrec
  exact va_runV (C := C) (As := as) (rest := rest) ⟨B.1, B.2.1, B.2.2.1, B.2.2.2.1, B.2.2.2.2.1⟩ hC ⟨callB_of n B.2.2.2.2.1 (good_cw h4) rfl hrm.1 hrm.2 (B.2.2.2.2.1 _ h3) (B.2.2.2.2.1 _ h1) hnm hR, B.2.2.2.2.1 _ h2, hse⟩ ⟨hpre.1, hrec, hpre.2⟩ rfl hn hl hst (lv_room hr) hdg hf
theorem c_runVS {y : MethodName} {cc' : ByteArray} {nL' index n mc ms b : Nat} {ret' : Option FieldType} {rm : Room} {as st : List Value} {Qc : Array Value → State → Outcome → State → Prop} {free : Addr → Prop} (B : Cx D dA p s m args meth c cc own nL ret) (hX : SX eA A0 s s.heap) (hA : ∀ q, s.heap.size ≤ q → A0 q) (hM : CWd D dA eA A0 s.heap L T N I J R H locs) (hl : ls.size = nL) (hT : T b = 14)
    (hC : Met l y (cw0 y cc' nL' ret') rm (cPc D dA eA L T N I J R (.ref b :: as) H.size (hs H)) Qc mc ms free) (hok : okSS own index y cc' nL' ret') (hnm : nmC y n) (hrm : rm.cells = mc ∧ rm.slots = ms) (hR : rm.frames + 1 ≤ Rm.frames ∧ 8 + (nL' + 11) + rm.locals ≤ Rm.locals) (hdg : decode cc pc = .ok (.invokevirtual index, 3)) (hn : as.length = n) (hst : st = as.reverse ++ .ref b :: rest) (hr : (rest.map fun v => v.category).sum ≤ 8) (hf : cells + mc ≤ Rm.cells ∧ slots + ms ≤ Rm.slots) :
    va_Run p l e Rm s m args below meth c H locs cells slots mc ms (F0 m pc ls st) rest (Qc (.ref b :: as).toArray) free :=
  c_runVX (C := RJ4) B hX hA hM hl hT kd14 rfl hC (B.2.2.2.2.1 _ hok.2.2.1) hok.1 hok.2.1 hok.2.2.2.1 hok.2.2.2.2.1 hnm hrm hR hdg hn hst hr hf
theorem c_runSU {y : MethodName} {cc' : ByteArray} {nL' index n mc ms b t ci : Nat} {so : List Nat} {ret' : Option FieldType} {rm : Room} {as st : List Value} {Qc : Array Value → State → Outcome → State → Prop} {free : Addr → Prop} (B : Cx D dA p s m args meth c cc own nL ret) (hX : SX eA A0 s s.heap) (hA : ∀ q, s.heap.size ≤ q → A0 q) (hM : CWd D dA eA A0 s.heap L T N I J R H locs) (hl : ls.size = nL) (hT : T b = t) (hkd : kd t = (0, ci, so))
    (hC : Met l y (cw0 y cc' nL' ret') rm (cPc D dA eA L T N I J R (.ref b :: as) H.size (hs H)) Qc mc ms free) (hok : okU own index y cc' nL' ret') (hnm : nmC y n) (hrm : rm.cells = mc ∧ rm.slots = ms) (hR : rm.frames + 1 ≤ Rm.frames ∧ 8 + (nL' + 11) + rm.locals ≤ Rm.locals) (hdg : decode cc pc = .ok (.invokespecial index, 3)) (hn : as.length = n) (hst : st = as.reverse ++ .ref b :: rest) (hr : (rest.map fun v => v.category).sum ≤ 8) (hf : cells + mc ≤ Rm.cells ∧ slots + ms ≤ Rm.slots) (hci : ci < 14) :
    va_Run p l e Rm s m args below meth c H locs cells slots mc ms (F0 m pc ls st) rest (Qc (.ref b :: as).toArray) free := by
  obtain ⟨i, hi⟩ := hM.ix hT (kd_ok hkd (by omega))
  rw [cE_o hT hkd] at hi
  have hpre := c_preS (as := .ref b :: as) B hX hA hM
  have hlen : vwCl.length = 15 := rfl
  obtain ⟨q, hq1⟩ : ∃ q, vwCl[ci]? = some q := ⟨vwCl[ci]'(by omega), List.getElem?_eq_getElem (by omega)⟩
  have hrec := va_recv B.2.2.2.2.2.1 hM.1 hq1 hi
  exact va_runSU (As := as) (rest := rest) (n := n) (B.2.2.2.2.2.1.1 ci q hq1).2 ⟨B.1, B.2.1, B.2.2.1, B.2.2.2.1, B.2.2.2.2.1⟩ hC ⟨⟨hrm.1, hrm.2, hR.1, hR.2, pay_in B.2.2.2.2.1 (good_cw hok.2.2.2.2.2.1), List.mem_cons_self⟩, B.2.2.2.2.1 _ hok.1, B.2.2.2.2.1 _ hok.2.1, B.2.2.2.2.1 _ hok.2.2.1, B.2.2.2.2.1 _ hok.2.2.2.1, B.2.2.2.2.1 _ hok.2.2.2.2.1, B.2.2.2.2.1 _ hok.2.2.2.2.2.1, hok.2.2.2.2.2.2, fun sig h => by
    have h2 := hnm.2.2
    rw [h] at h2
    exact (Option.some.inj h2).symm⟩ ⟨hpre.1, hrec, hpre.2⟩ rfl hn hl hst (lv_room hr) hdg hf
theorem c_sbld {A : Nat → Prop} {a n : Nat} {z : Int} {f : Nat → Int} (hf : ∀ j, -128 ≤ f j ∧ f j ≤ 127) (B : Cx D dA p s m args meth c cc own nL ret) (h : va_T .byte a n (fun j => .int (II (f j))) A s s.heap) (hS : va_S A s.heap H locs) (h1 : 0 ≤ z) (h2 : z < n) (hn : n ≤ 1000) (hdg : decode cc pc = .ok (.baload, 1)) (kk : ∀ v : Int, -128 ≤ v → v ≤ 127 → W p l e Rm s m args below meth c H locs cells slots Q (F0 m (pc + 1) ls (.int (II v) :: rest))) : W p l e Rm s m args below meth c H locs cells slots Q (F0 m pc ls (.int (II z) :: .ref a :: rest)) :=
  va_tb B.1 B.2.1 h hS (II_in h1 h2 (by omega)) rfl hdg (kk _ (hf _).1 (hf _).2)
end CSB
theorem fitB {x : Int} (h : -128 ≤ x ∧ x ≤ 127) : fits .byte (.int (II x)) = true := by
  have hr : inr x := by unfold inr; omega
  have h1 : (-128 : Int32) ≤ II x := by
    have := Int32.le_iff_toInt_le (x := -128) (y := II x)
    rw [II_toInt hr] at this
    exact this.mpr (by have e : (-128 : Int32).toInt = -128 := by decide
                       omega)
  have h2 : II x ≤ (127 : Int32) := by
    have := Int32.le_iff_toInt_le (x := II x) (y := 127)
    rw [II_toInt hr] at this
    exact this.mpr (by have e : (127 : Int32).toInt = 127 := by decide
                       omega)
  simp [fits, h1, h2]
