section CM
variable {p : Program} {l : Launch} {e : Env} {Rm : Room} {s : State} {m : MethodId} {args : Array Value} {below : List Frame} {meth : Method} {c : Code} {H : Heap} {locs : List Loc} {cells slots : Nat} {Q : State → Prop}
variable {cc : ByteArray} {pc : Nat} {ls : Array Slot} {rest : List Value}
variable {D : va_G} {dA : Nat → ClassId} {nL : Nat} {ret : Option FieldType} {own : String} {eA : Nat} {A0 : Nat → Prop} {H0 : Heap} {L : List Nat} {T N : Nat → Nat} {I : Nat → Nat → Int} {J : Nat → Nat → Int64} {R : Nat → Nat → Nat} {a b t k ci n index : Nat} {so : List Nat} {C ref : String} {Tt : u_T} {ty0 : Nat → FieldType} {z : Int}
theorem cv_cat {v : Nat} : (cv v).category = 1 := by cases v <;> rfl
theorem c_getn (P : PK ci C Tt n ty0) (B : Cx D dA p s m args meth c cc own nL ret) (hM : CWd D dA eA A0 H0 L T N I J R H locs) (hT : T a = t) (hkd : kd t = (0, ci, so)) (hs : so[k]? = some 2) (hk : k < n) (hl : Cond.fieldLink own index (Tt k).1 (Tt k).2.1 (Tt k).2.2.1 ∈ lw_g) (hdg : decode cc pc = .ok (.getfield index, 3)) (hv : R a k = b + 1)
    (kk : W p l e Rm s m args below meth c H locs cells slots Q (F0 m (pc + 3) ls (.ref b :: rest))) : W p l e Rm s m args below meth c H locs cells slots Q (F0 m pc ls (.ref a :: rest)) :=
  c_getr P B hM hT hkd hs hk hl hdg hv kk
theorem c_aldn (B : Cx D dA p s m args meth c cc own nL ret) (hM : CWd D dA eA A0 H0 L T N I J R H locs) (hT : T a = t) (hkd : kd t = (1, 4, [2])) (hnn : (nR t).2 ≤ 2147483647) (hdg : decode cc pc = .ok (.aaload, 1)) (h1 : 0 ≤ z) (h2 : z < N a) (hv : R a z.toNat = b + 1)
    (kk : W p l e Rm s m args below meth c H locs cells slots Q (F0 m (pc + 1) ls (.ref b :: rest))) : W p l e Rm s m args below meth c H locs cells slots Q (F0 m pc ls (.int (II z) :: .ref a :: rest)) := c_ald B hM hT hkd hnn hdg h1 h2 hv kk
theorem c_aload_n {k : Fin 4} {i v : Nat} (B : Cx D dA p s m args meth c cc own nL ret) (hdg : decode cc pc = .ok (.aload_n k, 1)) (hi : (k : Nat) = i) (hl : ls[i]? = some (.val (cv v))) (kk : W p l e Rm s m args below meth c H locs cells slots Q (F0 m (pc + 1) ls (cv v :: rest))) : W p l e Rm s m args below meth c H locs cells slots Q (F0 m pc ls rest) := by
  cases v with
  | zero => exact lv_aload_nN B.1 B.2.1 hdg hi hl kk
  | succ b => exact lv_aload_n B.1 B.2.1 hdg hi hl kk
theorem c_aload {i v : Nat} (B : Cx D dA p s m args meth c cc own nL ret) (hdg : decode cc pc = .ok (.aload i, 2)) (hl : ls[i]? = some (.val (cv v))) (kk : W p l e Rm s m args below meth c H locs cells slots Q (F0 m (pc + 2) ls (cv v :: rest))) : W p l e Rm s m args below meth c H locs cells slots Q (F0 m pc ls rest) := by
  cases v with
  | zero => exact lv_aloadN B.1 B.2.1 hdg hl kk
  | succ b => exact lv_aload B.1 B.2.1 hdg hl kk
theorem c_astore_n {k : Fin 4} {i v : Nat} {lv lv' : List (Nat × Value)} (B : Cx D dA p s m args meth c cc own nL ret) (hdg : decode cc pc = .ok (.astore_n k, 1)) (hi : (k : Nat) = i) (h : lv_has ls nL lv) (hn : i < nL) (hl : (i, cv v) :: lv.filter (fun q => !(q.1 == i) && !(q.1 + 1 == i && q.2.category == 2)) = lv') (kk : ∀ ls' : Array Slot, lv_has ls' nL lv' → W p l e Rm s m args below meth c H locs cells slots Q (F0 m (pc + 1) ls' rest)) : W p l e Rm s m args below meth c H locs cells slots Q (F0 m pc ls (cv v :: rest)) := by
  cases v with
  | zero => exact lv_astore_nN B.1 B.2.1 hdg hi h hn hl kk
  | succ b => exact lv_astore_n B.1 B.2.1 hdg hi h hn hl kk
theorem c_astore {i v : Nat} {lv lv' : List (Nat × Value)} (B : Cx D dA p s m args meth c cc own nL ret) (hdg : decode cc pc = .ok (.astore i, 2)) (h : lv_has ls nL lv) (hn : i < nL) (hl : (i, cv v) :: lv.filter (fun q => !(q.1 == i) && !(q.1 + 1 == i && q.2.category == 2)) = lv') (kk : ∀ ls' : Array Slot, lv_has ls' nL lv' → W p l e Rm s m args below meth c H locs cells slots Q (F0 m (pc + 2) ls' rest)) : W p l e Rm s m args below meth c H locs cells slots Q (F0 m pc ls (cv v :: rest)) := by
  cases v with
  | zero => exact lv_astoreN B.1 B.2.1 hdg h hn hl kk
  | succ b => exact lv_astore B.1 B.2.1 hdg h hn hl kk
theorem c_cast {nm : String} (B : Cx D dA p s m args meth c cc own nL ret) (hM : CWd D dA eA A0 H0 L T N I J R H locs) (hT : T a = t) (hkd : kd t = (0, ci, so)) (hrc : (vwCl[ci]?).map (fun q => q.1) = some nm) (hl : Cond.classLink own index nm ∈ lw_g) (hdg : decode cc pc = .ok (.checkcast index, 3))
    (kk : W p l e Rm s m args below meth c H locs cells slots Q (F0 m (pc + 3) ls (.ref a :: rest))) : W p l e Rm s m args below meth c H locs cells slots Q (F0 m pc ls (.ref a :: rest)) := by
  obtain ⟨i, hi⟩ := hM.ix hT (kd_ok hkd (by omega))
  rw [cE_o hT hkd] at hi
  obtain ⟨q, hq1, hq2⟩ := Option.map_eq_some_iff.mp hrc
  have hrec := va_recv B.2.2.2.2.2.1 hM.1 hq1 hi
  rw [hq2] at hrec
  exact va_castE B.1 B.2.1 B.2.2.2.1 (B.2.2.2.2.1 _ hl) hrec hdg kk
theorem q_i2c (B : Cx D dA p s m args meth c cc own nL ret) {x : Int} (hx : inr x) (hdg : decode cc pc = .ok (.i2c, 1)) (kk : ∀ z : Int, 0 ≤ z → z ≤ 65535 → (0 ≤ x → x ≤ 65535 → z = x) → W p l e Rm s m args below meth c H locs cells slots Q (F0 m (pc + 1) ls (.int (II z) :: rest))) : W p l e Rm s m args below meth c H locs cells slots Q (F0 m pc ls (.int (II x) :: rest)) := by
  have hb : ((II x).toUInt32 % 65536).toNat = ((II x).toUInt32).toNat % 65536 := by rw [UInt32.toNat_mod]; rfl
  have hlt : ((II x).toUInt32 % 65536).toNat < 65536 := by rw [hb]; omega
  have ht : (((II x).toUInt32 % 65536).toInt32).toInt = (((II x).toUInt32 % 65536).toNat : Int) := by
    have e : (((II x).toUInt32 % 65536).toInt32).toInt = ((II x).toUInt32 % 65536).toBitVec.toInt := rfl
    rw [e, BitVec.toInt_eq_toNat_cond]
    have e2 : ((II x).toUInt32 % 65536).toBitVec.toNat = ((II x).toUInt32 % 65536).toNat := rfl
    rw [e2]
    split <;> omega
  refine lv_i2c B.1 B.2.1 hdg rfl ?_
  rw [II_of ((II x).toUInt32 % 65536).toInt32, ht]
  refine kk _ (by omega) (by omega) (fun h1 h2 => ?_)
  rw [hb]
  have h3 : ((II x).toUInt32).toNat = x.toNat := by
    have e3 : ((II x).toUInt32).toNat = (II x).toBitVec.toNat := rfl
    rw [e3]
    have h4 : (II x).toBitVec.toInt = x := II_toInt hx
    rw [BitVec.toInt_eq_toNat_cond] at h4
    have h5 := (II x).toBitVec.isLt
    unfold inr at hx
    split at h4 <;> omega
  rw [h3]
  omega
theorem q_ldc (B : Cx D dA p s m args meth c cc own nL ret) {v : Int32} {z : Int} (hz : v = II z) (hl : Cond.constant own index v ∈ lw_g) (hdg : decode cc pc = .ok (.ldc index, 2)) (kk : W p l e Rm s m args below meth c H locs cells slots Q (F0 m (pc + 2) ls (.int (II z) :: rest))) : W p l e Rm s m args below meth c H locs cells slots Q (F0 m pc ls rest) := by
  subst hz
  exact lv_ldc B.1 B.2.1 B.2.2.2.1 (B.2.2.2.2.1 _ hl) hdg kk
theorem c_obj (B : Cx D dA p s m args meth c cc own nL ret) (hl : Cond.methodLink own index Lib.objectInit ∈ lw_g) (hs : ls.size = nL) (hr : (rest.map fun v => v.category).sum + 12 ≤ Rm.locals) (hf : 1 ≤ Rm.frames) (hdg : decode cc pc = .ok (.invokespecial index, 3)) (kk : W p l e Rm s m args below meth c H locs cells slots Q (F0 m (pc + 3) ls rest)) : W p l e Rm s m args below meth c H locs cells slots Q (F0 m pc ls (.ref a :: rest)) :=
  W.objInit B.1 B.2.1 B.2.2.2.1 (B.2.2.2.2.1 _ hl) (B.2.2.2.2.1 _ oli) (B.2.2.2.2.1 _ olc) rfl (by rw [B.2.2.1]; exact hs) rfl hdg hf (by show 2 * 0 + _ + 12 ≤ _; omega) kk
theorem SX.out {A : Nat → Prop} {U : State} {H : Heap} (h : SX eA A U H) : ¬ A eA := h.1.2.out
end CM
