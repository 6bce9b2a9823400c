/-! the law: the class's world and the reference's in one heap -/
def LW (D : va_G) (dA : Nat → ClassId) (eA h0 : Nat) (ad : Nat → Nat) (A0 : Nat → Prop) (s : State) (σ : MS) (L : List Nat) (T N : Nat → Nat) (I : Nat → Nat → Int) (J : Nat → Nat → Int64) (R : Nat → Nat → Nat) (H : Heap) (locs : List Loc) : Prop :=
  MWd D dA h0 ad A0 s.heap σ H locs ∧ CWd D dA eA A0 s.heap L T N I J R H locs ∧ ∀ (k q : Nat) (e : va_E), (mW dA h0 ad σ)[k]? = some (q, e) → q ∉ L
section LWS
variable {p : Program} {l : Launch} {e : Env} {Rm : Room} {s : State} {m : MethodId} {args : Array Value} {below : List Frame} {meth : Method} {c : Code} {H : Heap} {locs : List Loc} {cells slots : Nat} {Q : State → Prop}
variable {cc : ByteArray} {pc : Nat} {ls : Array Slot} {rest : List Value}
variable {D : va_G} {dA : Nat → ClassId} {nL : Nat} {ret : Option FieldType} {own : String} {eA h0 : Nat} {ad : Nat → Nat} {A0 : Nat → Prop} {σ : MS} {L L1 : List Nat} {T N T1 N1 : Nat → Nat} {I I1 : Nat → Nat → Int} {J J1 : Nat → Nat → Int64} {R R1 : Nat → Nat → Nat}
theorem cW_mem {k q : Nat} {e : va_E} (h : (cW dA L T N I J R)[k]? = some (q, e)) : q ∈ L := by
  unfold cW va_pl at h
  rw [List.getElem?_map] at h
  obtain ⟨a, ha, hb⟩ := Option.map_eq_some_iff.mp h
  have hq : a = q := congrArg Prod.fst hb
  rw [← hq]
  exact List.mem_of_getElem? ha
theorem LW.cF (h : LW D dA eA h0 ad A0 s σ L T N I J R H locs) {k q : Nat} {e : va_E} (hk : (mW dA h0 ad σ)[k]? = some (q, e)) : q < H.size ∧ ¬ va_A (cW dA L T N I J R) H.size q := by
  have h1 : q < H.size := (h.1.1 k (q, e) hk).lt
  refine ⟨h1, fun hc => ?_⟩
  rcases hc with ⟨j, e', hj⟩ | h2
  · exact h.2.2 k q e hk (cW_mem hj)
  · omega
theorem LW.mF (h : LW D dA eA h0 ad A0 s σ L T N I J R H locs) {k q : Nat} {e : va_E} (hk : (cW dA L T N I J R)[k]? = some (q, e)) : q < H.size ∧ ¬ va_A (mW dA h0 ad σ) H.size q := by
  have h1 : q < H.size := (h.2.1.1 k (q, e) hk).lt
  refine ⟨h1, fun hc => ?_⟩
  rcases hc with ⟨j, e', hj⟩ | h2
  · exact h.2.2 j q e' hj (cW_mem hk)
  · omega
/-- what a call of the class leaves of both worlds -/
theorem LW.afterC {t : Heap} {lc : List Loc} (hW : LW D dA eA h0 ad A0 s σ L T N I J R H locs) (hk : ∀ q : Nat, q < H.size → ¬ va_A (cW dA L T N I J R) H.size q → t[q]? = H[q]?) (hS1 : va_S A0 s.heap t lc) (hP1 : va_P D vwCl (cW dA L1 T1 N1 I1 J1 R1) t) (hD1 : va_D (va_A (cW dA L T N I J R) H.size) (cW dA L1 T1 N1 I1 J1 R1)) (hF : ∀ q, va_A (cW dA L T N I J R) H.size q → A0 q) (hW1 : WF eA L1 T1 N1 I1 J1 R1) : LW D dA eA h0 ad A0 s σ L1 T1 N1 I1 J1 R1 t lc := by
  refine ⟨⟨hW.1.1.kept (fun k q hq => ?_), hW.1.2.1, hS1, hW.1.2.2.2⟩, ⟨hP1, hD1.weaken (fun k q _ h => hF q.1 h), hS1, hW1⟩, fun k q e hq hL => ?_⟩
  · have h9 := hW.cF (k := k) (q := q.1) (e := q.2) hq
    exact hk q.1 h9.1 h9.2
  · obtain ⟨j, hj⟩ := va_pl_get (X := []) (f := cE dA T1 N1 I1 J1 R1) hL
    rw [List.nil_append] at hj
    exact (hW.cF hq).2 (hD1.2 j _ hj)
theorem L_callg {post : gP} {st : List Value} {aa : Array Value} {mc ms : Nat} (hW : LW D dA eA h0 ad A0 s σ L T N I J R H locs) (hA : ∀ q, s.heap.size ≤ q → A0 q) (hr : va_Run p l e Rm s m args below meth c H locs cells slots mc ms (F0 m pc ls st) rest (gQ D dA eA (cF dA L T N I J R H.size) H.size (hs H) post aa) (cF dA L T N I J R H.size))
    (kk : ∀ (v : Option Value) (L' : List Nat) (T' N' : Nat → Nat) (I' : Nat → Nat → Int) (J' : Nat → Nat → Int64) (R' : Nat → Nat → Nat) (dz dl : Nat) (H : Heap) (locs : List Loc), post v L' T' N' I' J' R' dz dl → LW D dA eA h0 ad A0 s σ L' T' N' I' J' R' H locs → W p l e Rm s m args below meth c H locs (cells + dz) (slots + dl) Q (F0 m (pc + 3) ls (v.toList ++ rest))) : W p l e Rm s m args below meth c H locs cells slots Q (F0 m pc ls st) := by
  have hM := hW.2.1
  refine W_know (fun k1 k2 => ?_)
  have hF := cF_sub hM hA
  intro X hT Xs
  obtain ⟨v, st₀, t, X', Lc, h0', Y, hL, e1, e2, ⟨⟨w, L', T', N', I', J', R', dz, dl, hv, hp, ⟨hP1, hD1, hW1⟩, hz, hl⟩, hsz, hk⟩, go⟩ := hr X hT Xs
  cases hv
  rw [h0'] at hsz hk
  have hS := hM.2.2.1
  have hS1 : va_S A0 s.heap t.heap (locs ++ Lc) := ⟨Nat.le_trans hS.1 hsz, fun q h1 h2 => by rw [hk q (Nat.lt_of_lt_of_le h1 hS.1) (fun z => h2 (hF q z))]; exact hS.2.1 q h1 h2, fun q hq => by
      rcases List.mem_append.mp hq with h | h
      · exact hS.2.2 q h
      · exact hF _ (hL q h)⟩
  have hk2 := kk v L' T' N' I' J' R' dz dl t.heap (locs ++ Lc) hp (hW.afterC hk hS1 hP1 hD1 hF hW1)
  have hk3 := W_tight (cells := cells + mc) (slots := slots + ms) (by omega) (by omega) hk2
  obtain ⟨t2, a1, b1⟩ := hk3 X' e1 Y
  exact ⟨t2, go t2 a1, b1⟩
theorem L_callz {post : gP} {st : List Value} {aa : Array Value} (hW : LW D dA eA h0 ad A0 s σ L T N I J R H locs) (hA : ∀ q, s.heap.size ≤ q → A0 q) (hr : va_Run p l e Rm s m args below meth c H locs cells slots 0 0 (F0 m pc ls st) rest (gQ D dA eA (cF dA L T N I J R H.size) H.size (hs H) post aa) (cF dA L T N I J R H.size))
    (kk : ∀ (v : Option Value) (L' : List Nat) (T' N' : Nat → Nat) (I' : Nat → Nat → Int) (J' : Nat → Nat → Int64) (R' : Nat → Nat → Nat) (dz dl : Nat) (H : Heap) (locs : List Loc), post v L' T' N' I' J' R' dz dl → LW D dA eA h0 ad A0 s σ L' T' N' I' J' R' H locs → W p l e Rm s m args below meth c H locs cells slots Q (F0 m (pc + 3) ls (v.toList ++ rest))) : W p l e Rm s m args below meth c H locs cells slots Q (F0 m pc ls st) := by
  have hM := hW.2.1
  have hF := cF_sub hM hA
  intro X hT Xs
  obtain ⟨v, st₀, t, X', Lc, h0', Y, hL, e1, e2, ⟨⟨w, L', T', N', I', J', R', dz, dl, hv, hp, ⟨hP1, hD1, hW1⟩, hz, hl⟩, hsz, hk⟩, go⟩ := hr X hT Xs
  cases hv
  rw [h0'] at hsz hk
  have hS := hM.2.2.1
  have hS1 : va_S A0 s.heap t.heap (locs ++ Lc) := ⟨Nat.le_trans hS.1 hsz, fun q h1 h2 => by rw [hk q (Nat.lt_of_lt_of_le h1 hS.1) (fun z => h2 (hF q z))]; exact hS.2.1 q h1 h2, fun q hq => by
      rcases List.mem_append.mp hq with h | h
      · exact hS.2.2 q h
      · exact hF _ (hL q h)⟩
  obtain ⟨t2, a1, b1⟩ := kk v L' T' N' I' J' R' dz dl t.heap (locs ++ Lc) hp (hW.afterC hk hS1 hP1 hD1 hF hW1) X' e1 Y
  exact ⟨t2, go t2 a1, b1⟩
theorem L_callgi {P : Int → gS} {st : List Value} {aa : Array Value} {mc ms : Nat} (hW : LW D dA eA h0 ad A0 s σ L T N I J R H locs) (hA : ∀ q, s.heap.size ≤ q → A0 q) (hr : va_Run p l e Rm s m args below meth c H locs cells slots mc ms (F0 m pc ls st) rest (gQ D dA eA (cF dA L T N I J R H.size) H.size (hs H) (gI P) aa) (cF dA L T N I J R H.size))
    (kk : ∀ (r : Int) (L' : List Nat) (T' N' : Nat → Nat) (I' : Nat → Nat → Int) (J' : Nat → Nat → Int64) (R' : Nat → Nat → Nat) (dz dl : Nat) (H : Heap) (locs : List Loc), inr r → P r L' T' N' I' J' R' dz dl → LW D dA eA h0 ad A0 s σ L' T' N' I' J' R' H locs → W p l e Rm s m args below meth c H locs (cells + dz) (slots + dl) Q (F0 m (pc + 3) ls (.int (II r) :: rest))) : W p l e Rm s m args below meth c H locs cells slots Q (F0 m pc ls st) :=
  L_callg hW hA hr (fun v L' T' N' I' J' R' dz dl H locs h hM => by obtain ⟨r, rfl, h1, h2⟩ := h; exact kk r L' T' N' I' J' R' dz dl H locs h1 h2 hM)
theorem L_callzi {P : Int → gS} {st : List Value} {aa : Array Value} (hW : LW D dA eA h0 ad A0 s σ L T N I J R H locs) (hA : ∀ q, s.heap.size ≤ q → A0 q) (hr : va_Run p l e Rm s m args below meth c H locs cells slots 0 0 (F0 m pc ls st) rest (gQ D dA eA (cF dA L T N I J R H.size) H.size (hs H) (gI P) aa) (cF dA L T N I J R H.size))
    (kk : ∀ (r : Int) (L' : List Nat) (T' N' : Nat → Nat) (I' : Nat → Nat → Int) (J' : Nat → Nat → Int64) (R' : Nat → Nat → Nat) (dz dl : Nat) (H : Heap) (locs : List Loc), inr r → P r L' T' N' I' J' R' dz dl → LW D dA eA h0 ad A0 s σ L' T' N' I' J' R' H locs → W p l e Rm s m args below meth c H locs cells slots Q (F0 m (pc + 3) ls (.int (II r) :: rest))) : W p l e Rm s m args below meth c H locs cells slots Q (F0 m pc ls st) :=
  L_callz hW hA hr (fun v L' T' N' I' J' R' dz dl H locs h hM => by obtain ⟨r, rfl, h1, h2⟩ := h; exact kk r L' T' N' I' J' R' dz dl H locs h1 h2 hM)
/-- a call of the reference leaves the class's world -/
theorem L_callm {y : MethodName} {cc' : ByteArray} {nL' index n : Nat} {ret' : Option FieldType} {rm : Room} {as st : List Value} {post : Int → MS → Prop} (B : Cx D dA p s m args meth c cc own nL ret) (hW : LW D dA eA h0 ad A0 s σ L T N I J R H locs) (hA : ∀ q, s.heap.size ≤ q → A0 q) (hl : ls.size = nL) (hC : MCi l y cc' nL' ret' rm D dA h0 ad σ as post) (hcls : y.cls = RX12) (hok : okC own index y cc' nL' ret') (hnm : nmC y n) (hrm : rm.cells = 0 ∧ rm.slots = 0) (hR : rm.frames + 1 ≤ Rm.frames ∧ 8 + (nL' + 11) + rm.locals ≤ Rm.locals)
    (hdg : decode cc pc = .ok (.invokevirtual index, 3)) (hn : as.length = n) (hst : st = as.reverse ++ .ref h0 :: rest) (hr : (rest.map fun v => v.category).sum ≤ 8) (hf : cells ≤ Rm.cells ∧ slots ≤ Rm.slots)
    (kk : ∀ (r : Int) (σ' : MS) (H : Heap) (locs : List Loc), inr r → post r σ' → LW D dA eA h0 ad A0 s σ' L T N I J R H locs → W p l e Rm s m args below meth c H locs cells slots Q (F0 m (pc + 3) ls (.int (II r) :: rest))) : W p l e Rm s m args below meth c H locs cells slots Q (F0 m pc ls st) := by
  have hM := hW.1
  have hF := mF_sub hM.2.1 hM.2.2.1 hA
  refine va_calli (va_runV (C := y.cls) (As := as) (rest := rest) ⟨B.1, B.2.1, B.2.2.1, B.2.2.2.1, B.2.2.2.2.1⟩ (hC H.size) (cwV n B.2.2.2.2.1 (good_V hok) rfl hrm.1 hrm.2 ⟨rfl, hnm⟩ hR) (m_pre hcls B hM) rfl hn hl hst (lv_room hr) hdg hf) hM.2.2.1 (fun q _ h => hF q h) hF (fun r u t H1 locs1 ht hvm hw hB hz1 hk1 hS => ?_)
  obtain ⟨hr0, hr1, hr2⟩ := hw
  obtain ⟨hP1, hK1, hD1, hG1⟩ := hB
  rw [ht] at hP1
  rw [hr0]
  refine kk u.1 u.2 H1 locs1 hr1 hr2 ⟨⟨hP1, hD1.weaken (fun k q _ h => hF q.1 h), hS, hG1⟩, ⟨hW.2.1.1.kept (fun k q hq => ?_), hW.2.1.2.1, hS, hW.2.1.2.2.2⟩, fun k q e hq hL => ?_⟩
  · have h9 := hW.mF (k := k) (q := q.1) (e := q.2) hq
    exact hk1 q.1 h9.1 h9.2
  · obtain ⟨e', he⟩ := mW_addr (σ' := σ) hq
    exact hW.2.2 k q e' he hL
end LWS
