/-! what a method leaves as it was -/
def Fr (m ex : List Nat) (T N : Nat → Nat) (I : Nat → Nat → Int) (J : Nat → Nat → Int64) (R : Nat → Nat → Nat) (T' N' : Nat → Nat) (I' : Nat → Nat → Int) (J' : Nat → Nat → Int64) (R' : Nat → Nat → Nat) : Prop :=
  ∀ b, T b ≠ 0 → b ∉ ex → T' b = T b ∧ N' b = N b ∧ ∀ k, m.contains (cd (T b) k) = false → I' b k = I b k ∧ J' b k = J b k ∧ R' b k = R b k
section FR
variable {m ex m2 ex2 : List Nat} {T N T1 N1 T2 N2 : Nat → Nat} {I I1 I2 : Nat → Nat → Int} {J J1 J2 : Nat → Nat → Int64} {R R1 R2 : Nat → Nat → Nat} {a b k t q : Nat}
theorem nm1 (h : b ≠ q) : b ∉ [q] := by simp [h]
theorem nm0 : b ∉ ([] : List Nat) := by simp
theorem Fr.rf : Fr m ex T N I J R T N I J R := fun _ _ _ => ⟨rfl, rfl, fun _ _ => ⟨rfl, rfl, rfl⟩⟩
theorem Fr.tt (h : Fr m ex T N I J R T1 N1 I1 J1 R1) (hT : T b = t) (ht : t ≠ 0) (hb : b ∉ ex) : T1 b = t := (h b (by rw [hT]; exact ht) hb).1.trans hT
theorem Fr.n (h : Fr m ex T N I J R T1 N1 I1 J1 R1) (hT : T b = t) (ht : t ≠ 0) (hb : b ∉ ex) : N1 b = N b := (h b (by rw [hT]; exact ht) hb).2.1
theorem Fr.i (h : Fr m ex T N I J R T1 N1 I1 J1 R1) (hT : T b = t) (ht : t ≠ 0) (hb : b ∉ ex) (hm : m.contains (cd t k) = false) : I1 b k = I b k := ((h b (by rw [hT]; exact ht) hb).2.2 k (by rw [hT]; exact hm)).1
theorem Fr.j (h : Fr m ex T N I J R T1 N1 I1 J1 R1) (hT : T b = t) (ht : t ≠ 0) (hb : b ∉ ex) (hm : m.contains (cd t k) = false) : J1 b k = J b k := ((h b (by rw [hT]; exact ht) hb).2.2 k (by rw [hT]; exact hm)).2.1
theorem Fr.r (h : Fr m ex T N I J R T1 N1 I1 J1 R1) (hT : T b = t) (ht : t ≠ 0) (hb : b ∉ ex) (hm : m.contains (cd t k) = false) : R1 b k = R b k := ((h b (by rw [hT]; exact ht) hb).2.2 k (by rw [hT]; exact hm)).2.2
theorem w2_or {b a j k : Nat} (h : ¬ (b = a ∧ j = k)) : b ≠ a ∨ j ≠ k := by
  by_cases e : b = a
  · exact Or.inr (fun e2 => h ⟨e, e2⟩)
  · exact Or.inl e
theorem Fr.wi {v : Int} (h : Fr m ex T N I J R T1 N1 I1 J1 R1) (hu : I2 = w2 I1 a k v) (hc : T a ≠ 0 → a ∉ ex → m.contains (cd (T a) k) = true) : Fr m ex T N I J R T1 N1 I2 J1 R1 := by
  intro b hb he
  obtain ⟨h1, h2, h3⟩ := h b hb he
  refine ⟨h1, h2, fun j hj => ?_⟩
  obtain ⟨g1, g2, g3⟩ := h3 j hj
  refine ⟨(w2_ne hu (w2_or ?_)).trans g1, g2, g3⟩
  rintro ⟨rfl, rfl⟩
  rw [hc hb he] at hj
  cases hj
theorem Fr.wj {v : Int64} (h : Fr m ex T N I J R T1 N1 I1 J1 R1) (hu : J2 = w2 J1 a k v) (hc : T a ≠ 0 → a ∉ ex → m.contains (cd (T a) k) = true) : Fr m ex T N I J R T1 N1 I1 J2 R1 := by
  intro b hb he
  obtain ⟨h1, h2, h3⟩ := h b hb he
  refine ⟨h1, h2, fun j hj => ?_⟩
  obtain ⟨g1, g2, g3⟩ := h3 j hj
  refine ⟨g1, (w2_ne hu (w2_or ?_)).trans g2, g3⟩
  rintro ⟨rfl, rfl⟩
  rw [hc hb he] at hj
  cases hj
theorem Fr.wr {v : Nat} (h : Fr m ex T N I J R T1 N1 I1 J1 R1) (hu : R2 = w2 R1 a k v) (hc : T a ≠ 0 → a ∉ ex → m.contains (cd (T a) k) = true) : Fr m ex T N I J R T1 N1 I1 J1 R2 := by
  intro b hb he
  obtain ⟨h1, h2, h3⟩ := h b hb he
  refine ⟨h1, h2, fun j hj => ?_⟩
  obtain ⟨g1, g2, g3⟩ := h3 j hj
  refine ⟨g1, g2, (w2_ne hu (w2_or ?_)).trans g3⟩
  rintro ⟨rfl, rfl⟩
  rw [hc hb he] at hj
  cases hj
theorem Fr.new {n : Nat} (h : Fr m ex T N I J R T1 N1 I1 J1 R1) (hq : T1 q = 0) (hT : T2 = va_up T1 q t) (hN : N2 = va_up N1 q n) : Fr m ex T N I J R T2 N2 I1 J1 R1 := by
  subst hT; subst hN
  intro b hb he
  obtain ⟨h1, h2, h3⟩ := h b hb he
  have hne : b ≠ q := fun e => hb (by rw [← h1, e, hq])
  exact ⟨(va_up_ne _ _ hne).trans h1, (va_up_ne _ _ hne).trans h2, h3⟩
theorem Fr.tag (h : Fr m ex T N I J R T1 N1 I1 J1 R1) (hT : T2 = va_up T1 a t) (ha : T a ≠ 0 → a ∈ ex) : Fr m ex T N I J R T2 N1 I1 J1 R1 := by
  subst hT
  intro b hb he
  obtain ⟨h1, h2, h3⟩ := h b hb he
  have hne : b ≠ a := fun e => he (e ▸ ha (e ▸ hb))
  exact ⟨(va_up_ne _ _ hne).trans h1, h2, h3⟩
theorem Fr.trans (h : Fr m ex T N I J R T1 N1 I1 J1 R1) (h2 : Fr m2 ex2 T1 N1 I1 J1 R1 T2 N2 I2 J2 R2) (hs : m2.all (fun x => m.contains x) = true) (he : ∀ b ∈ ex2, T b ≠ 0 → b ∈ ex) : Fr m ex T N I J R T2 N2 I2 J2 R2 := by
  intro b hb hbe
  obtain ⟨p1, p2, p3⟩ := h b hb hbe
  obtain ⟨r1, r2, r3⟩ := h2 b (by rw [p1]; exact hb) (fun z => hbe (he b z hb))
  refine ⟨r1.trans p1, r2.trans p2, fun k hk => ?_⟩
  obtain ⟨u1, u2, u3⟩ := p3 k hk
  obtain ⟨v1, v2, v3⟩ := r3 k (by
    rw [p1]
    cases hc : m2.contains (cd (T b) k) with
    | false => rfl
    | true =>
      have := List.all_eq_true.mp hs _ (List.contains_iff_mem.mp hc)
      rw [hk] at this
      cases this)
  exact ⟨v1.trans u1, v2.trans u2, v3.trans u3⟩
theorem e20 : ∀ b ∈ ([] : List Nat), T b ≠ 0 → b ∈ ex := fun b h => by cases h
theorem e21 (h : T q = 0) : ∀ b ∈ [q], T b ≠ 0 → b ∈ ex := fun b h1 h2 => by
  rw [List.mem_singleton] at h1
  subst h1
  exact absurd h h2
end FR
/-! the slots of a heap -/
def hs (H : Heap) : Nat := (H.toList.map (fun c => c.slots.size)).sum
theorem hs_same {s t : State} {locs : List Loc} {cells slots : Nat} (h : s.sameButNew t locs cells slots) : hs t.heap = hs s.heap + ((t.heap.toList.drop s.heap.size).map (·.slots.size)).sum := by
  obtain ⟨-, h1, -, -, -, h2⟩ := h
  have e : (t.heap.toList.take s.heap.size).map (fun c => c.slots.size) = s.heap.toList.map (fun c => c.slots.size) := by
    apply List.ext_getElem?
    intro i
    rw [List.getElem?_map, List.getElem?_map, List.getElem?_take]
    by_cases hi : i < s.heap.size
    · rw [if_pos hi]
      have hc : s.heap[i]? = some s.heap[i] := Array.getElem?_eq_getElem hi
      obtain ⟨c', q1, -, q3, -⟩ := h2 i _ hc
      rw [Array.getElem?_toList, Array.getElem?_toList, q1, hc]
      simp [q3]
    · rw [if_neg hi, Array.getElem?_toList, Array.getElem?_eq_none (by omega)]
  unfold hs
  rw [← e, ← List.sum_append, ← List.map_append, List.take_append_drop]
section WK
variable {p : Program} {l : Launch} {e : Env} {R : Room} {s : State} {m : MethodId} {args : Array Value} {below : List Frame} {meth : Method} {c : Code} {H : Heap} {locs : List Loc} {cells slots : Nat} {Q : State → Prop} {g : JFrame}
theorem W_know (k : H.size ≤ s.heap.size + cells → hs H ≤ hs s.heap + slots → W p l e R s m args below meth c H locs cells slots Q g) : W p l e R s m args below meth c H locs cells slots Q g := by
  intro T hT X
  have h1 := X.same
  have h2 := hs_same h1
  have hTh : (T.setVm s.vm).heap = H := hT
  rw [hTh] at h2
  refine k ?_ ?_ T hT X
  · have := h1.2.2.1
    rw [hTh] at this
    exact this
  · have := h1.2.2.2.2.1
    rw [hTh] at this
    omega
theorem W_tight {k n : Nat} (h1 : H.size ≤ s.heap.size + k) (h2 : hs H ≤ hs s.heap + n) (kk : W p l e R s m args below meth c H locs k n Q g) : W p l e R s m args below meth c H locs cells slots Q g := by
  intro T hT X
  refine kk T hT { X with same := ?_ }
  have h3 := hs_same X.same
  have hTh : (T.setVm s.vm).heap = H := hT
  rw [hTh] at h3
  obtain ⟨a1, a2, a3, a4, a5, a6⟩ := X.same
  refine ⟨a1, a2, by rw [hTh]; exact h1, a4, ?_, a6⟩
  rw [hTh]
  omega
end WK
/-! what stands outside of all that is written -/
def Stb (P : (Nat → Prop) → State → Heap → Prop) : Prop := ∀ (A A' : Nat → Prop) (U U' : State) (H H' : Heap), (∀ q, A' q → A q) → U.WarmedH U'.vm → (∀ a : Nat, a < H.size → ¬ A a → H'[a]? = H[a]?) → P A U H → P A' U' H'
theorem Stb.and {P Q : (Nat → Prop) → State → Heap → Prop} (h1 : Stb P) (h2 : Stb Q) : Stb (fun A U H => P A U H ∧ Q A U H) := fun A A' U U' H H' a b c d => ⟨h1 A A' U U' H H' a b c d.1, h2 A A' U U' H H' a b c d.2⟩
theorem Stb.ex {α : Type} {P : α → (Nat → Prop) → State → Heap → Prop} (h : ∀ w, Stb (P w)) : Stb (fun A U H => ∃ w, P w A U H) := fun A A' U U' H H' a b c ⟨w, d⟩ => ⟨w, h w A A' U U' H H' a b c d⟩
theorem stb_Z {C n d : String} {v : Value} : Stb (va_Z C n d v) := fun _ _ _ _ _ _ a b c h => ((h.moved b.alike).kept c).narrow a
theorem stb_Zq {C n d : String} : Stb (va_Zq C n d) := fun _ _ _ _ _ _ a b c h => ((h.moved b.alike).kept c).narrow a
theorem stb_T {ty : FieldType} {t n : Nat} {f : Nat → Value} : Stb (va_T ty t n f) := fun _ _ _ _ _ _ a b c h => ((h.moved b.alike).kept c).narrow a
theorem stb_S {N : Nat} {len : List Nat} {byt : List (List Int32)} {adK adV : Nat → Nat} : Stb (vk_S N len byt adK adV) := fun _ _ _ _ _ _ a b c h => ((h.moved b.alike).kept c).narrow a
theorem stb_R {own tx : String} {k a : Nat} : Stb (fun _ U _ => vk_R own k tx a U) := fun _ _ _ _ _ _ _ b _ h => h.warm b
theorem stb_C {C D : String} : Stb (fun _ U _ => va_Nw (.castable C D) U) := fun _ _ _ _ _ _ _ b _ h => h.warmC b
theorem stb_F {a b n d h : String} {i : Nat} : Stb (fun _ U _ => va_Nw (.fieldLinkNest a i b n d h) U) := fun _ _ _ _ _ _ _ b _ h => h.warmF b
theorem stb_M {a h : String} {x : MethodName} {i : Nat} : Stb (fun _ U _ => va_Nw (.methodLinkNest a i x h) U) := fun _ _ _ _ _ _ _ b _ h => h.warmM b
theorem stb_Dc : Stb (fun _ U _ => va_Dc U) := fun _ _ _ _ _ _ _ b _ h => h.moved b.alike
theorem stb_Mi {C : String} {mi : Nat} : Stb (fun _ U _ => va_Mi C mi U) := fun _ _ _ _ _ _ _ b _ h => h.moved b.alike
theorem stb_AO {C : String} : Stb (fun _ U _ => va_AO C U) := fun _ _ _ _ _ _ _ b _ h => h.moved b.alike
def cAOA (ty : FieldType) (U : State) : Prop := (Cond.arrayOver (.array ty)).before #[] U = true
theorem stb_AOA {ty : FieldType} : Stb (fun _ U _ => cAOA ty U) := fun _ _ _ _ _ _ _ b _ h => over_moved b.alike h
def sxLen : List Nat := [22, 10]
def sxByt : List (List Int32) := [[59, 58, 44, 40, 41, 123, 125, 61, 33, 63, 64, 35, 43, 45, 42, 47, 37, 60, 62, 38, 124, 126], [43, 45, 42, 47, 37, 60, 62, 38, 124, 126]]
def SXs (A : Nat → Prop) (U : State) (H : Heap) : Prop := ∃ adK adV : Nat → Nat, vk_S 2 sxLen sxByt adK adV A U H ∧ vk_R "CustomsDesk$Tokens" 39 ";:,(){}=!?@#+-*/%<>&|~" (adK 0) U ∧ vk_R "CustomsDesk$Reader" 195 "+-*/%<>&|~" (adK 1) U
def SXa (C n d : String) (ty : FieldType) (N : Nat) (mk : Nat → Value) (A : Nat → Prop) (U : State) (H : Heap) : Prop := ∃ w, va_Z C n d (.ref w) A U H ∧ va_T ty w N mk A U H
def SXl (C n d : String) (N : Nat) (A : Nat → Prop) (U : State) (H : Heap) : Prop := ∃ f : Nat → Int64, SXa C n d .long N (fun j => .long (f j)) A U H
def SXb (C n d : String) (N : Nat) (A : Nat → Prop) (U : State) (H : Heap) : Prop := ∃ f : Nat → Int, (∀ j, -128 ≤ f j ∧ f j ≤ 127) ∧ SXa C n d .byte N (fun j => .int (II (f j))) A U H
def SXn (_ : Nat → Prop) (U : State) (_ : Heap) : Prop := va_Nw (.fieldLinkNest "CustomsDesk$Tokens" 50 "CustomsDesk" "WORDS" "[J" "CustomsDesk") U ∧ va_Nw (.fieldLinkNest "CustomsDesk$Book" 54 "CustomsDesk" "BUILT_IN" "[J" "CustomsDesk") U ∧ va_Nw (.methodLinkNest "CustomsDesk$Check" 228 ⟨"CustomsDesk$Found", "<init>", "()V"⟩ "CustomsDesk") U ∧ va_Dc U ∧ va_AO "java/lang/Object" U ∧ cAOA .int U ∧ ∃ mi, va_Mi "[Ljava/lang/Object;" mi U
def SXc (_ : Nat → Prop) (U : State) (_ : Heap) : Prop := va_Nw (.castable "CustomsDesk$Paper" "java/lang/Object") U ∧ va_Nw (.castable "CustomsDesk$Rule" "java/lang/Object") U ∧ va_Nw (.castable "CustomsDesk$Spot" "java/lang/Object") U ∧ va_Nw (.castable "CustomsDesk$Use" "java/lang/Object") U ∧ va_Nw (.castable "CustomsDesk$Kind" "java/lang/Object") U ∧ va_Nw (.castable "CustomsDesk$Found" "java/lang/Object") U ∧ va_Nw (.castable "[I" "java/lang/Cloneable") U ∧ va_Nw (.castable "[B" "java/lang/Cloneable") U
def SX (eA : Nat) (A : Nat → Prop) (U : State) (H : Heap) : Prop :=
  (va_Z "java/util/ArrayList" "DEFAULTCAPACITY_EMPTY_ELEMENTDATA" "[Ljava/lang/Object;" (.ref eA) A U H ∧ va_T (.object "java/lang/Object") eA 0 (fun _ => .null) A U H) ∧
  va_Z "java/lang/String" "COMPACT_STRINGS" "Z" (.int 1) A U H ∧ va_Zq "jdk/internal/util/Preconditions" "SIOOBE_FORMATTER" "Ljava/util/function/BiFunction;" A U H ∧
  SXl "CustomsDesk" "WORDS" "[J" 10 A U H ∧ SXl "CustomsDesk" "BUILT_IN" "[J" 8 A U H ∧ SXb "java/lang/Integer" "DigitTens" "[B" 100 A U H ∧ SXb "java/lang/Integer" "DigitOnes" "[B" 100 A U H ∧ SXs A U H ∧ SXn A U H ∧ SXc A U H
theorem stb_a {C n d : String} {ty : FieldType} {N : Nat} {mk : Nat → Value} : Stb (SXa C n d ty N mk) := Stb.ex (fun _ => stb_Z.and stb_T)
theorem stb_l {C n d : String} {N : Nat} : Stb (SXl C n d N) := Stb.ex (fun _ => stb_a)
theorem stb_b {C n d : String} {N : Nat} : Stb (SXb C n d N) := fun A A' U U' H H' a b c ⟨f, h1, h2⟩ => ⟨f, h1, stb_a A A' U U' H H' a b c h2⟩
theorem stb_s : Stb SXs := Stb.ex (fun _ => Stb.ex (fun _ => stb_S.and (stb_R.and stb_R)))
theorem stb_n : Stb SXn := stb_F.and (stb_F.and (stb_M.and (stb_Dc.and (stb_AO.and (stb_AOA.and (Stb.ex (fun _ => stb_Mi)))))))
theorem stb_c : Stb SXc := stb_C.and (stb_C.and (stb_C.and (stb_C.and (stb_C.and (stb_C.and (stb_C.and stb_C))))))
theorem SX.stb {eA : Nat} : Stb (SX eA) := (stb_Z.and stb_T).and (stb_Z.and (stb_Zq.and (stb_l.and (stb_l.and (stb_b.and (stb_b.and (stb_s.and (stb_n.and stb_c))))))))
