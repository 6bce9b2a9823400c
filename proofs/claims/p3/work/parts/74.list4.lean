section LF
variable {m ex : List Nat} {T N T1 N1 : Nat → Nat} {I I1 I2 : Nat → Nat → Int} {J J1 : Nat → Nat → Int64} {R R1 R2 : Nat → Nat → Nat} {q : Nat}
theorem Fr.row {f : Nat → Nat} (h : Fr m ex T N I J R T1 N1 I1 J1 R1) (hu : R2 = va_up R1 q f) (hz : T q = 0) : Fr m ex T N I J R T1 N1 I1 J1 R2 := by
  intro b hb he
  obtain ⟨h1, h2, h3⟩ := h b hb he
  have hne : b ≠ q := fun e => hb (by rw [e]; exact hz)
  exact ⟨h1, h2, fun k hk => ⟨(h3 k hk).1, (h3 k hk).2.1, by rw [hu, va_up_ne _ _ hne]; exact (h3 k hk).2.2⟩⟩
theorem Fr.wide {m2 : List Nat} (h : Fr m ex T N I J R T1 N1 I1 J1 R1) (hs : m.all (fun x => m2.contains x) = true) : Fr m2 ex T N I J R T1 N1 I1 J1 R1 := by
  intro b hb he
  obtain ⟨h1, h2, h3⟩ := h b hb he
  refine ⟨h1, h2, fun k hk => h3 k ?_⟩
  cases hc : m.contains (cd (T b) k) with
  | false => rfl
  | true =>
    have := List.all_eq_true.mp hs _ (List.contains_iff_mem.mp hc)
    rw [hk] at this
    cases this
end LF
section LM
variable {l : Launch} {D : va_G} {dA : Nat → ClassId} {nL : Nat} {ret : Option FieldType} {own : String} {eA : Nat} {cc : ByteArray} {L : List Nat} {T N : Nat → Nat} {I : Nat → Nat → Int} {J : Nat → Nat → Int64} {R : Nat → Nat → Nat}
theorem c_startE {E : State → Prop} {y : MethodName} {rm : Room} {as : List Value} {sz sl mc ms : Nat} {free : Addr → Prop} {Qc : Array Value → State → Outcome → State → Prop} (hy : plainName y.cls = true) (hcls : y.cls = own) (hlen : (lg_sl as).length ≤ nL)
    (body : ∀ p e s m args below meth c ls, s.heap.size = sz → hs s.heap = sl → E s → Cx D dA p s m args meth c cc own nL ret → SX eA (cF dA L T N I J R s.heap.size) s s.heap → CWd D dA eA (cF dA L T N I J R s.heap.size) s.heap L T N I J R s.heap [] → lv_has ls nL (lv_args 0 as) →
      W p l e rm s m args below meth c s.heap [] 0 0 (MQ below Qc args s mc ms free) (F0 m 0 ls [])) :
    Met l y (cw0 y cc nL ret) rm (fun v U => cPc D dA eA L T N I J R as sz sl v U ∧ E U) Qc mc ms free := by
  refine Met.ofW (cc := cc) (maxL := nL) (ret := ret) hy rfl ?_
  intro p e s m args below meth c s₁ B hml hv
  obtain ⟨⟨rfl, hsz, hsl, hP, hK, hD0, hW, hX⟩, hE⟩ := hv
  have hts := atoms_spec (ws := cw0 y cc nL ret) B.pre
  have hown : s.vm.findClass y.cls = some m.cls := findClass_of_methodNamed B.named
  rw [hcls] at hown
  have hl := lv_entry as (n := nL) hlen
  rw [lg_entry_eq]
  subst hsz
  exact body p e s m _ below meth c _ rfl hsl hE ⟨B.exec, B.bytes, hml, hown, fun w h => hts w (List.mem_cons_of_mem _ h), hK, B.returns, B.notSynchronized⟩ hX ⟨hP, hD0.self, va_S.rf, hW⟩ hl
end LM
set_option maxRecDepth 20000 in
theorem k_Jx4a65c_get_915e3 (l : Launch) (D : va_G) (dA : Nat → ClassId) (eA : Nat) (L : List Nat) (T N : Nat → Nat) (I : Nat → Nat → Int) (J : Nat → Nat → Int64) (R : Nat → Nat → Nat) (a_this : Nat) {lt : Nat} (t_this : T a_this = lt) (a_i : Int) (i_i : (-2147483648 : Int) ≤ a_i ∧ a_i ≤ 2147483647) (h1 : 15 ≤ lt) (h2 : lt ≤ 23) (p_0 : 0 ≤ a_i) (p_1 : a_i < I a_this 2) : PC l yJx4a65c_get_915e3 cJx4a65c_get_915e3 2 (some (.object "java/lang/Object")) ({ frames := 2, cells := 0, slots := 0, locals := 60 }) D dA eA L T N I J R [.ref a_this, .int (II a_i)] (rR (fun r => T r = el lt ∧ R (R a_this 1 - 1) a_i.toNat = r + 1)) := by
  refine p_enter (own := RJx4a65c) (by decide) rfl (Nat.le_of_ble_eq_true rfl) (fun p e s m args below meth c ls B hX hM hl => ?_)
  have hA : ∀ q, s.heap.size ≤ q → cF dA L T N I J R s.heap.size q := fun q h => Or.inr h
  have hl : lv_has ls 2 [(0, .ref a_this), (1, .int (II a_i))] := hl
  have hr := gls_2 hM.2.2.2.2.2.2.1 t_this h1 h2
  have hm := mx_le h1 h2
  refine lv_iload_n B.1 B.2.1 dJx4a65c_get_915e3_0 rfl (lv_at hl 1 rfl) ?_
  refine lv_aload_n B.1 B.2.1 dJx4a65c_get_915e3_1 rfl (lv_at hl 0 rfl) ?_
  refine c_geti (k := 2) pk_Jx4a65c B hM t_this (kdLs h1 h2) rfl (by decide) fl_Jx4a65c_48 dJx4a65c_get_915e3_2 rfl ?_
  refine p_calli (c_runS (n := 2) (as := [.int (II a_i), .int (II (I a_this 2))]) (rest := []) B hX hA hM hl.1 (k_J15_checkIndex_7cf53 l D dA eA L T N I J R a_i i_i (I a_this 2) (by omega) p_0 p_1 _ _) ml_Jx4a65c_118 nm_J15_checkIndex_7cf53 ⟨rfl, rfl⟩ ⟨Nat.le_of_ble_eq_true rfl, Nat.le_of_ble_eq_true rfl⟩ dJx4a65c_get_915e3_5 rfl rfl (Nat.le_of_ble_eq_true rfl) ⟨Nat.zero_le _, Nat.zero_le _⟩) (fun r ir hp => ?_)
  refine lv_pop B.1 B.2.1 dJx4a65c_get_915e3_8 rfl ?_
  refine lv_aload_n B.1 B.2.1 dJx4a65c_get_915e3_9 rfl (lv_at hl 0 rfl) ?_
  refine lv_iload_n B.1 B.2.1 dJx4a65c_get_915e3_10 rfl (lv_at hl 1 rfl) ?_
  refine p_callr (c_runV (n := 1) (as := [.int (II a_i)]) (rest := []) B hX hA hM hl.1 t_this (kdLs h1 h2) rfl (k_Jx4a65c_elementData_915e3 l D dA eA L T N I J R a_this t_this a_i i_i h1 h2 p_0 p_1 _ _) ml_Jx4a65c_123 nm_Jx4a65c_elementData_915e3 ⟨rfl, rfl⟩ ⟨Nat.le_of_ble_eq_true rfl, Nat.le_of_ble_eq_true rfl⟩ dJx4a65c_get_915e3_11 rfl rfl (Nat.le_of_ble_eq_true rfl) ⟨Nat.zero_le _, Nat.zero_le _⟩) (fun b hb => ?_)
  exact p_aret (v := b + 1) B (Or.inl ⟨_, rfl⟩) dJx4a65c_get_915e3_14 rfl ⟨b, rfl, hb.1, hb.2⟩
def cpyP (lt : Nat) (T N : Nat → Nat) (I : Nat → Nat → Int) (J : Nat → Nat → Int64) (R : Nat → Nat → Nat) (a_o : Nat) (a_n : Int) : gP := gR (fun r _ T' N' I' J' R' dz dl => I' = I ∧ J' = J ∧ Fr [] [] T N I J R T' N' I' J' R' ∧ T' r = lt + 35 ∧ T r = 0 ∧ N' r = a_n.toNat ∧ NoL T' R' r ∧ (∀ i : Nat, i < N a_o → R' r i = R a_o i) ∧ dz ≤ 1 ∧ dl ≤ a_n.toNat)
set_option maxRecDepth 20000 in
theorem k_cpy6 (l : Launch) (D : va_G) (dA : Nat → ClassId) (eA : Nat) (L : List Nat) (T N : Nat → Nat) (I : Nat → Nat → Int) (J : Nat → Nat → Int64) (R : Nat → Nat → Nat) (a_o : Nat) {lt : Nat} (h1 : 15 ≤ lt) (h2 : lt ≤ 23) (t_o : T a_o = lt + 35) (a_n : Int) (p_1 : (N a_o : Int) ≤ a_n) (p_2 : a_n ≤ ecap lt) (mi sz sl : Nat) : Met l yJ7_copyOf_6403c (cw0 yJ7_copyOf_6403c cJ7_copyOf_6403c 4 (some (.array (.object "java/lang/Object")))) ({ frames := 1, cells := 1, slots := a_n.toNat, locals := 60 }) (fun v U => cPc D dA eA L T N I J R [.ref a_o, .int (II a_n), .ref mi] sz sl v U ∧ va_Mi "[Ljava/lang/Object;" mi U) (gQ D dA eA (cF dA L T N I J R sz) sz sl (cpyP lt T N I J R a_o a_n)) 1 a_n.toNat (cF dA L T N I J R sz) := by
  refine c_startE (own := RJ7) (by decide) rfl (Nat.le_of_ble_eq_true rfl) (fun p e s m args below meth c ls hsz hsl hmi B hX hM hl => ?_)
  subst hsz hsl
  have hA : ∀ q, s.heap.size ≤ q → cF dA L T N I J R s.heap.size q := fun q h => Or.inr h
  have hl : lv_has ls 4 [(0, .ref a_o), (1, .int (II a_n)), (2, .ref mi)] := hl
  have hm := mx_le h1 h2
  have hno : 10 ≤ N a_o := by have := (hM.2.2.2.2.2.2.1.n t_o (by omega)).1; rw [nREs h1 h2] at this; exact this
  refine lv_aload_n B.1 B.2.1 dJ7_copyOf_6403c_0 rfl (lv_at hl 2 rfl) ?_
  refine va_ldcM B.1 B.2.1 B.2.2.2.1 (B.2.2.2.2.1 _ cl_J7_110) hmi dJ7_copyOf_6403c_1 ?_
  refine lv_acmp_ne (rx := some mi) (ry := some mi) (tgt := 13) B.1 B.2.1 dJ7_copyOf_6403c_3 (by decide) (fun h => absurd rfl h) (fun _ => ?_)
  refine lv_iload_n B.1 B.2.1 dJ7_copyOf_6403c_6 rfl (lv_at hl 1 rfl) ?_
  refine c_newO (t := lt + 35) (n' := a_n.toNat) B hX hA hM (kdEs h1 h2) ⟨by omega, ls_dec (P := fun t => xT (t + 35) = false) h1 h2 (by decide), ls_dec (P := fun t => (iR (t + 35) 0).1 ≤ 0 ∧ 0 ≤ (iR (t + 35) 0).2) h1 h2 (by decide), by rw [rFEs h1 h2]; exact Nat.le_refl 1⟩ cl_J7_2 (by omega) (by omega) (by rw [nREs h1 h2]; show 10 ≤ a_n.toNat ∧ a_n.toNat ≤ ecap lt; omega) (by show 0 + 1 ≤ 1; omega) (by show 0 + a_n.toNat ≤ a_n.toNat; omega) dJ7_copyOf_6403c_7 (fun q L1 T1 N1 H hq hT1 hN1 hM1 => ?_)
  have hC0 := hM.2.2.2.2.2.2.1
  have tq : T1 q = lt + 35 := by rw [hT1, va_up_self]
  have nq : N1 q = a_n.toNat := by rw [hN1, va_up_self]
  have hF : Fr [] [] T N I J R T1 N1 I J R := Fr.new Fr.rf hq hT1 hN1
  have to1 : T1 a_o = lt + 35 := hF.tt t_o (by omega) nm0
  have no1 : N1 a_o = N a_o := hF.n t_o (by omega) nm0
  have hnol : NoL T1 R q := by
    intro a q1 q2 e
    have hne : a ≠ q := fun z => by rw [z, tq] at q1 q2; omega
    rw [hT1, va_up_ne _ _ hne] at q1 q2
    exact NoL.fresh hC0 hq a q1 q2 e
  refine lv_goto (tgt := 24) B.1 B.2.1 dJ7_copyOf_6403c_10 (by decide) ?_
  refine lv_astore_n (lv' := [(3, .ref q), (0, .ref a_o), (1, .int (II a_n)), (2, .ref mi)]) B.1 B.2.1 dJ7_copyOf_6403c_24 rfl hl (by decide) rfl (fun ls hl => ?_)
  refine lv_aload_n B.1 B.2.1 dJ7_copyOf_6403c_25 rfl (lv_at hl 1 rfl) ?_
  refine q_con B dJ7_copyOf_6403c_26 ?_
  refine lv_aload_n B.1 B.2.1 dJ7_copyOf_6403c_27 rfl (lv_at hl 0 rfl) ?_
  refine q_con B dJ7_copyOf_6403c_28 ?_
  refine lv_aload_n B.1 B.2.1 dJ7_copyOf_6403c_29 rfl (lv_at hl 1 rfl) ?_
  refine c_len B hM1 to1 (kdEs h1 h2) (by decide) dJ7_copyOf_6403c_30 rfl ?_
  refine lv_iload_n B.1 B.2.1 dJ7_copyOf_6403c_31 rfl (lv_at hl 2 rfl) ?_
  refine c_mmin B ml_J7_304 hl.1 (by unfold inr; omega) (by unfold inr; omega) (Nat.le_of_ble_eq_true rfl) (Nat.le_of_ble_eq_true rfl) (by show 0 + 1 ≤ 1; omega) (by show 0 + a_n.toNat ≤ a_n.toNat; omega) dJ7_copyOf_6403c_32 (fun z oz lz uz => ?_)
  refine c_cpyO B hX hM1 h1 h2 to1 tq hl.1 al_J7_150 anat astt aini (by omega) (by omega) (by omega) (Nat.le_of_ble_eq_true rfl) (Nat.le_of_ble_eq_true rfl) dJ7_copyOf_6403c_35 (fun R' hu => XI.out hM1.2.2.2.2.2.2.1 hM1.2.2.2.2.2.2.2 h1 h2 tq hnol (fun _ _ => rfl) (fun b hb => by rw [hu, va_up_ne _ _ hb])) (fun R2 H locs hu hM2 => ?_)
  refine lv_aload_n B.1 B.2.1 dJ7_copyOf_6403c_38 rfl (lv_at hl 0 rfl) ?_
  refine g_aret (v := q + 1) B (Or.inr ⟨_, rfl⟩) hM2 dJ7_copyOf_6403c_39 ⟨by show 0 + 1 ≤ 1; omega, by show 0 + a_n.toNat ≤ a_n.toNat; omega⟩ rfl ?_
  refine ⟨q, rfl, rfl, rfl, hF.row hu hq, tq, hq, nq, fun a q1 q2 => ?_, fun i hi => ?_, by omega, by omega⟩
  · have hne : a ≠ q := fun z => by rw [z, tq] at q1 q2; omega
    rw [hu, va_up_ne _ _ hne]
    exact hnol a q1 q2
  · rw [hu, va_up_self, if_pos (by omega)]
set_option maxRecDepth 20000 in
theorem k_J7_copyOf_1904c (l : Launch) (D : va_G) (dA : Nat → ClassId) (eA : Nat) (L : List Nat) (T N : Nat → Nat) (I : Nat → Nat → Int) (J : Nat → Nat → Int64) (R : Nat → Nat → Nat) (a_o : Nat) {lt : Nat} (h1 : 15 ≤ lt) (h2 : lt ≤ 23) (t_o : T a_o = lt + 35) (a_n : Int) (p_1 : (N a_o : Int) ≤ a_n) (p_2 : a_n ≤ ecap lt) : GC l yJ7_copyOf_1904c cJ7_copyOf_1904c 2 (some (.array (.object "java/lang/Object"))) ({ frames := 2, cells := 1, slots := a_n.toNat, locals := 90 }) D dA eA L T N I J R [.ref a_o, .int (II a_n)] 1 a_n.toNat (cpyP lt T N I J R a_o a_n) := by
  refine g_enter (own := RJ7) (by decide) rfl (Nat.le_of_ble_eq_true rfl) (fun p e s m args below meth c ls hmn B hX hM hl => ?_)
  have hA : ∀ q, s.heap.size ≤ q → cF dA L T N I J R s.heap.size q := fun q h => Or.inr h
  have hl : lv_has ls 2 [(0, .ref a_o), (1, .int (II a_n))] := hl
  obtain ⟨-, -, -, -, -, -, -, -, ⟨-, -, -, hdc, -, -, mi, hmi⟩, -⟩ := id hX
  obtain ⟨i, hi⟩ := hM.ix t_o (kd_ok (kdEs h1 h2) (by omega))
  rw [cE_a t_o (kdEs h1 h2)] at hi
  refine lv_aload_n B.1 B.2.1 dJ7_copyOf_1904c_0 rfl (lv_at hl 0 rfl) ?_
  refine lv_iload_n B.1 B.2.1 dJ7_copyOf_1904c_1 rfl (lv_at hl 1 rfl) ?_
  refine lv_aload_n B.1 B.2.1 dJ7_copyOf_1904c_2 rfl (lv_at hl 0 rfl) ?_
  refine va_getC B.1 B.2.1 (by rw [B.2.2.1, hl.1]) B.2.2.2.1 (B.2.2.2.2.1 _ gcl_J7_86) (va_Dc.use hdc) (B.2.2.2.2.1 _ gsel) (B.2.2.2.2.1 _ gins) (B.2.2.2.2.1 _ gnat) hmi ⟨_, hM.1 i _ hi, rfl, va_nmO (B.2.2.2.2.2.1.2 5 _ rfl).2 rfl⟩ (Nat.le_of_ble_eq_true rfl) (Nat.le_of_ble_eq_true rfl) dJ7_copyOf_1904c_3 ?_
  have hpre := c_preS (as := [.ref a_o, .int (II a_n), .ref mi]) B hX hA hM
  refine g_call (pc := 6) (rest := []) hM hA (va_runS (As := [.ref a_o, .int (II a_n), .ref mi]) (rest := []) ⟨B.1, B.2.1, B.2.2.1, B.2.2.2.1, B.2.2.2.2.1⟩ (k_cpy6 l D dA eA L T N I J R a_o h1 h2 t_o a_n p_1 p_2 mi _ _) ⟨callB_of 3 B.2.2.2.2.1 (good_cw ml_J7_300.2.2.2) rfl rfl rfl (B.2.2.2.2.1 _ ml_J7_300.2.2.1) (B.2.2.2.2.1 _ ml_J7_300.1) nm_J7_copyOf_6403c ⟨Nat.le_of_ble_eq_true rfl, Nat.le_of_ble_eq_true rfl⟩, B.2.2.2.2.1 _ ml_J7_300.2.1⟩ ⟨fun a U g mk q => ⟨hpre.1 a U g mk q.1, q.2⟩, fun U hU hW => ⟨hpre.2 U hU hW, hmi.moved hW.alike⟩⟩ rfl rfl hl.1 rfl (lv_room (Nat.le_of_ble_eq_true rfl)) dJ7_copyOf_1904c_6 ⟨by show 0 + 1 ≤ 1; omega, by show 0 + a_n.toNat ≤ a_n.toNat; omega⟩) (fun v L1 T1 N1 I1 J1 R1 dz dl H locs hp hM1 => ?_)
  obtain ⟨r, rfl, hp⟩ := hp
  have hd1 := hp.2.2.2.2.2.2.2.2.1
  have hd2 := hp.2.2.2.2.2.2.2.2.2
  refine g_aret (v := r + 1) B (Or.inr ⟨_, rfl⟩) hM1 dJ7_copyOf_1904c_9 ⟨by show 0 + dz ≤ 1; omega, by show 0 + dl ≤ a_n.toNat; omega⟩ rfl ?_
  rw [Nat.zero_add, Nat.zero_add]
  exact ⟨r, rfl, hp⟩
