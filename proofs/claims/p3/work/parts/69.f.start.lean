/-! the law's start: what the tables and the given words say -/
def lwF : List Cond := flatC (Jvm.Cond.and given_1 narrow_1)
theorem nw {args : Array Value} {s : State} {w : Cond} (h : (Jvm.Cond.and given_1 narrow_1).before args s = true) (i : Nat) (hw : lwF[i]? = some w) : w.before args s = true := flat_of_before _ h w (List.mem_of_getElem? hw)
theorem tw {args : Array Value} {s : State} {w : Cond} (h : ∀ w ∈ tables_1, w.before args s = true) (i : Nat) (hw : tables_1[i]? = some w) : w.before args s = true := h w (List.mem_of_getElem? hw)
def lwW : List Int64 := [444301538672, 426952976750, 1920298085, 126943688291443, 1835102827, 1802071652, 28518, 6909556, 1952807028, 1818850164]
def lwB : List Int64 := [1852138852, 26479, 465557353332, 1836020596, 1936292453, 478593511270, 422608400247, 500086104428]
theorem nwW : ∀ j, j < 10 → lwF[12 + j]? = some (Cond.eq (.elem (.static "CustomsDesk" "WORDS" "[J") (.int (Int32.ofNat j))) (.long (lwW.getD j 0))) := by decide +kernel
theorem nwB : ∀ j, j < 8 → lwF[29 + j]? = some (Cond.eq (.elem (.static "CustomsDesk" "BUILT_IN" "[J") (.int (Int32.ofNat j))) (.long (lwB.getD j 0))) := by decide +kernel
theorem nwO : ∀ j, j < 100 → lwF[40 + j]? = some (Cond.eq (.elem (.static "java/lang/Integer" "DigitOnes" "[B") (.int (Int32.ofNat j))) (.int (II (48 + ((j % 10 : Nat) : Int))))) := by decide +kernel
theorem nwT : ∀ j, j < 100 → lwF[143 + j]? = some (Cond.eq (.elem (.static "java/lang/Integer" "DigitTens" "[B") (.int (Int32.ofNat j))) (.int (II (48 + ((j / 10 % 10 : Nat) : Int))))) := by decide +kernel
theorem nwS0 : ∀ j, j < 22 → lwF[248 + j]? = some (Cond.eq (.elem (.field (.string "CustomsDesk$Tokens" 39) "java/lang/String" "value" "[B") (.int (Int32.ofNat j))) (.int ((sxByt.getD 0 []).getD j 0))) := by decide +kernel
theorem nwS1 : ∀ j, j < 10 → lwF[274 + j]? = some (Cond.eq (.elem (.field (.string "CustomsDesk$Reader" 195) "java/lang/String" "value" "[B") (.int (Int32.ofNat j))) (.int ((sxByt.getD 1 []).getD j 0))) := by decide +kernel
section LST
variable {args : Array Value} {s : State}
theorem sz_A : ∀ a : Nat, a < s.heap.size → ¬ (fun q : Nat => s.heap.size ≤ q) a := fun _ h1 h2 => absurd h1 (Nat.not_lt.mpr h2)
theorem sxa_of {C n d : String} {ty : FieldType} {N : Nat} {mk : Nat → Value} (hN : N < 2 ^ 31) (hl : (Cond.laysStatic C n d).before args s = true) (hini : (Cond.initialized C).before args s = true) (harr : (Cond.arrayOf (.static C n d) ty).before args s = true) (hlen : (Cond.eq (.length (.static C n d)) (.int (Int32.ofNat N))).before args s = true) (hel : ∀ j : Nat, j < N → (Term.elem (.static C n d) (.int (Int32.ofNat j))).eval args s none [] s = some (mk j)) : SXa C n d ty N mk (fun q : Nat => s.heap.size ≤ q) s s.heap := by
  obtain ⟨t, ht, hT⟩ := va_Tof (A := fun q : Nat => s.heap.size ≤ q) hN harr (va_eqt hlen) hel sz_A
  exact ⟨t, va_Zref hl hini ht sz_A, hT⟩
def lwTm : Nat → Term := fun i => if i = 0 then .string "CustomsDesk$Tokens" 39 else .string "CustomsDesk$Reader" 195
theorem law_S (ht : ∀ w ∈ tables_1, w.before args s = true) (hg : (Jvm.Cond.and given_1 narrow_1).before args s = true) : SXs (fun q : Nat => s.heap.size ≤ q) s s.heap := by
  have h2 : ∀ {P : Nat → Prop}, P 0 → P 1 → ∀ i : Nat, i < 2 → P i := fun h0 h1 i hi => by rcases (show i = 0 ∨ i = 1 by omega) with rfl | rfl; exact h0; exact h1
  obtain ⟨adK, adV, hS, hv⟩ := vk_Sof (args := args) (s := s) (N := 2) (tm := lwTm) (len := sxLen) (byt := sxByt) (A := fun q : Nat => s.heap.size ≤ q) (by decide) (h2 (nw hg 244 (by decide +kernel)) (nw hg 270 (by decide +kernel))) (h2 (nw hg 245 (by decide +kernel)) (nw hg 271 (by decide +kernel))) (h2 (nw hg 246 (by decide +kernel)) (nw hg 272 (by decide +kernel))) (h2 (nw hg 247 (by decide +kernel)) (nw hg 273 (by decide +kernel))) (h2 (fun j hj => nw hg _ (nwS0 j hj)) (fun j hj => nw hg _ (nwS1 j hj))) (fun i j hi hj hij => by rcases (show (i = 0 ∧ j = 1) ∨ (i = 1 ∧ j = 0) by omega) with ⟨rfl, rfl⟩ | ⟨rfl, rfl⟩; exact Or.inl (show (Cond.not (Cond.eq (.string "CustomsDesk$Tokens" 39) (.string "CustomsDesk$Reader" 195))).before args s = true from nw hg 284 (by decide +kernel)); exact Or.inr (show (Cond.not (Cond.eq (.string "CustomsDesk$Tokens" 39) (.string "CustomsDesk$Reader" 195))).before args s = true from nw hg 284 (by decide +kernel))) sz_A
  exact ⟨adK, adV, hS, vk_R.of (tw ht 370 (by decide +kernel)) (hv 0 (by decide)), vk_R.of (tw ht 717 (by decide +kernel)) (hv 1 (by decide))⟩
theorem law_SX (ht : ∀ w ∈ tables_1, w.before args s = true) (hg : (Jvm.Cond.and given_1 narrow_1).before args s = true) : ∃ eA, SX eA (fun q : Nat => s.heap.size ≤ q) s s.heap := by
  obtain ⟨eA, hz, hT⟩ := sxa_of (C := "java/util/ArrayList") (n := "DEFAULTCAPACITY_EMPTY_ELEMENTDATA") (d := "[Ljava/lang/Object;") (ty := .object "java/lang/Object") (N := 0) (mk := fun _ => .null) (by decide) (tw ht 111 (by decide +kernel)) (tw ht 6 (by decide +kernel)) (nw hg 5 (by decide +kernel)) (nw hg 7 (by decide +kernel)) (fun j hj => absurd hj (Nat.not_lt_zero j))
  refine ⟨eA, ⟨hz, hT⟩, va_Zof (tw ht 207 (by decide +kernel)) (tw ht 10 (by decide +kernel)) (va_eqi (nw hg 8 (by decide +kernel))) sz_A, va_Zqof (tw ht 426 (by decide +kernel)) (tw ht 16 (by decide +kernel)) (nw hg 22 (by decide +kernel)) sz_A, ⟨fun j => lwW.getD j 0, sxa_of (by decide) (tw ht 361 (by decide +kernel)) (tw ht 1 (by decide +kernel)) (nw hg 10 (by decide +kernel)) (nw hg 11 (by decide +kernel)) (fun j hj => va_eqtl (nw hg _ (nwW j hj)))⟩, ⟨fun j => lwB.getD j 0, sxa_of (by decide) (tw ht 535 (by decide +kernel)) (tw ht 1 (by decide +kernel)) (nw hg 27 (by decide +kernel)) (nw hg 28 (by decide +kernel)) (fun j hj => va_eqtl (nw hg _ (nwB j hj)))⟩, ⟨fun j => 48 + ((j / 10 % 10 : Nat) : Int), fun j => by show (-128 : Int) ≤ 48 + ((j / 10 % 10 : Nat) : Int) ∧ 48 + ((j / 10 % 10 : Nat) : Int) ≤ 127; omega, sxa_of (by decide) (tw ht 1386 (by decide +kernel)) (tw ht 29 (by decide +kernel)) (nw hg 141 (by decide +kernel)) (nw hg 142 (by decide +kernel)) (fun j hj => va_eqt (nw hg _ (nwT j hj)))⟩, ⟨fun j => 48 + ((j % 10 : Nat) : Int), fun j => by show (-128 : Int) ≤ 48 + ((j % 10 : Nat) : Int) ∧ 48 + ((j % 10 : Nat) : Int) ≤ 127; omega, sxa_of (by decide) (tw ht 1384 (by decide +kernel)) (tw ht 29 (by decide +kernel)) (nw hg 38 (by decide +kernel)) (nw hg 39 (by decide +kernel)) (fun j hj => va_eqt (nw hg _ (nwO j hj)))⟩, law_S ht hg, ?_, ?_⟩
  · exact ⟨va_Nw.of rfl (tw ht 360 (by decide +kernel)), va_Nw.of rfl (tw ht 534 (by decide +kernel)), va_Nw.of rfl (tw ht 1216 (by decide +kernel)), va_Dc.of (tw ht 2377 (by decide +kernel)), va_AO.of (tw ht 694 (by decide +kernel)), (show (Cond.arrayOver (.array .int)).before args s = true from (tw ht 67 (by decide +kernel))), va_Mi.of (nw hg 243 (by decide +kernel))⟩
  · exact ⟨va_Nw.of rfl (tw ht 2372 (by decide +kernel)), va_Nw.of rfl (tw ht 2368 (by decide +kernel)), va_Nw.of rfl (tw ht 2369 (by decide +kernel)), va_Nw.of rfl (tw ht 2370 (by decide +kernel)), va_Nw.of rfl (tw ht 2371 (by decide +kernel)), va_Nw.of rfl (tw ht 2373 (by decide +kernel)), va_Nw.of rfl (tw ht 580 (by decide +kernel)), va_Nw.of rfl (tw ht 944 (by decide +kernel))⟩
theorem law_K (hts : ∀ w ∈ lw_g, w.before args s = true) (ht : ∀ w ∈ tables_1, w.before args s = true) : ∃ (D : va_G) (dA : Nat → ClassId), va_K D vwCl (tyX dA) s := by
  obtain ⟨c0, i0, k0⟩ := u_known (C := RJ4) (T := TJ4) (N := 4) (n := 4) hts pk_J4.2.1 (hts _ in_J4)
  obtain ⟨c1, i1, k1⟩ := u_known (C := RJx4a65c) (T := TJx4a65c) (N := 3) (n := 3) hts pk_Jx4a65c.2.1 (hts _ in_Jx4a65c)
  obtain ⟨c2, i2, k2⟩ := u_known (C := RX0) (T := TX0) (N := 12) (n := 12) hts pk_X0.2.1 (hts _ in_X0)
  obtain ⟨c3, i3, k3⟩ := u_known (C := RX1) (T := TX1) (N := 20) (n := 20) hts pk_X1.2.1 (hts _ in_X1)
  obtain ⟨c4, i4, k4⟩ := u_known (C := RX2) (T := TX2) (N := 9) (n := 9) hts pk_X2.2.1 (hts _ in_X2)
  obtain ⟨c5, i5, k5⟩ := u_known (C := RX3) (T := TX3) (N := 6) (n := 6) hts pk_X3.2.1 (hts _ in_X3)
  obtain ⟨c6, i6, k6⟩ := u_known (C := RX4) (T := TX4) (N := 9) (n := 9) hts pk_X4.2.1 (hts _ in_X4)
  obtain ⟨c7, i7, k7⟩ := u_known (C := RX5) (T := TX5) (N := 6) (n := 6) hts pk_X5.2.1 (hts _ in_X5)
  obtain ⟨c8, i8, k8⟩ := u_known (C := RX6) (T := TX6) (N := 13) (n := 13) hts pk_X6.2.1 (hts _ in_X6)
  obtain ⟨c9, i9, k9⟩ := u_known (C := RX7) (T := TX7) (N := 11) (n := 11) hts pk_X7.2.1 (hts _ in_X7)
  obtain ⟨c10, i10, k10⟩ := u_known (C := RX8) (T := TX8) (N := 6) (n := 6) hts pk_X8.2.1 (hts _ in_X8)
  obtain ⟨c11, i11, k11⟩ := u_known (C := RX9) (T := TX9) (N := 3) (n := 3) hts pk_X9.2.1 (hts _ in_X9)
  obtain ⟨c12, i12, k12⟩ := u_known (C := RX10) (T := TX10) (N := 11) (n := 11) hts pk_X10.2.1 (hts _ in_X10)
  obtain ⟨c13, i13, k13⟩ := u_known (C := RX11) (T := TX11) (N := 10) (n := 10) hts pk_X11.2.1 (hts _ in_X11)
  obtain ⟨c14, i14, k14⟩ := u_known (C := RX12) (T := TX12) (N := 129) (n := 129) hts i_X12 (tw ht 1527 (by decide +kernel))
  obtain ⟨a0, q0, m0, f0, g0, e0⟩ := Cond.arrayClass_spec (hts _ acc_int)
  obtain ⟨a1, q1, m1, f1, g1, e1⟩ := Cond.arrayClass_spec (hts _ acc_byte)
  obtain ⟨a2, q2, m2, f2, g2, e2⟩ := Cond.arrayClass_spec (hts _ acc_boolean)
  obtain ⟨a3, q3, m3, f3, g3, e3⟩ := Cond.arrayClass_spec (hts _ acc_long)
  obtain ⟨m4, a4, q4, -, g4, e4, f4⟩ := Cond.arrayOver_specA (tw ht 67 (by decide +kernel) : (Cond.arrayOver (.array .int)).before args s = true)
  obtain ⟨m5, a5, q5, f6, -, g5, e5, f5⟩ := Cond.arrayOver_spec (tw ht 694 (by decide +kernel) : (Cond.arrayOver (.object "java/lang/Object")).before args s = true)
  refine ⟨(fun k => [c0, c1, c2, c3, c4, c5, c6, c7, c8, c9, c10, c11, c12, c13, c14].getD k c0, fun k => [i0, i1, i2, i3, i4, i5, i6, i7, i8, i9, i10, i11, i12, i13, i14].getD k i0), fun k => [a0, a1, a2, a3, a4].getD k a5, fun k q hq => ?_, fun k q hq => ?_⟩
  · match k, hq with
    | 0, hq => cases hq; exact k0
    | 1, hq => cases hq; exact k1
    | 2, hq => cases hq; exact k2
    | 3, hq => cases hq; exact k3
    | 4, hq => cases hq; exact k4
    | 5, hq => cases hq; exact k5
    | 6, hq => cases hq; exact k6
    | 7, hq => cases hq; exact k7
    | 8, hq => cases hq; exact k8
    | 9, hq => cases hq; exact k9
    | 10, hq => cases hq; exact k10
    | 11, hq => cases hq; exact k11
    | 12, hq => cases hq; exact k12
    | 13, hq => cases hq; exact k13
    | 14, hq => cases hq; exact k14
    | k + 15, hq => simp [vwCl] at hq
  · match k, hq with
    | 0, hq => cases hq; exact ⟨fun n z => ⟨fun k h => (by cases h), q0, g0, m0, e0⟩, f0⟩
    | 1, hq => cases hq; exact ⟨fun n z => ⟨fun k h => (by cases h), q1, g1, m1, e1⟩, f1⟩
    | 2, hq => cases hq; exact ⟨fun n z => ⟨fun k h => (by cases h), q2, g2, m2, e2⟩, f2⟩
    | 3, hq => cases hq; exact ⟨fun n z => ⟨fun k h => (by cases h), q3, g3, m3, e3⟩, f3⟩
    | 4, hq => cases hq; exact ⟨fun n z => ⟨fun k h => (by cases h), q4, g4, m4, e4⟩, f4⟩
    | 5, hq => cases hq; exact ⟨fun n z => ⟨fun k h => (by cases h), q5, g5, m5, e5⟩, q5, m5, g5, e5, f6, f5⟩
    | k + 6, hq => simp [tyX] at hq
/-- nothing of the class is made -/
theorem law_C0 {D : va_G} {dA : Nat → ClassId} {eA : Nat} {A : Nat → Prop} {H : Heap} {T : Nat → Nat} (t1 : ∀ a, T a = 1 ↔ a = eA) (tt : ∀ a, T a = 0 ∨ T a = 1) : CWd D dA eA A H [] T (fun _ => 0) (fun _ _ => 0) (fun _ _ => 0) (fun _ _ => 0) H [] := by
  refine ⟨fun k q h => absurd h (by simp [va_pl]), ⟨fun i j p q h => absurd h (by simp [va_pl]), fun k q h => absurd h (by simp [va_pl])⟩, va_S.rf, ⟨fun a => ?_, t1, fun a _ k => ⟨rfl, rfl, rfl⟩, fun a ha => ?_, ?_⟩⟩
  · constructor
    · intro h; cases h
    · intro h; rcases tt a with h1 | h1
      · exact absurd h1 h.1
      · exact absurd h1 h.2
  · rcases tt a with h1 | h1
    · exact absurd h1 ha
    · unfold TY
      rw [h1]
      exact ⟨show (nR 1).1 ≤ 0 by decide, show 0 ≤ (nR 1).2 by decide, fun k hk => absurd hk (Nat.not_lt_zero k)⟩
  · exact ⟨fun a h1 h2 => by have h3 := tt a; omega, fun a h1 => by have h3 := tt a; omega, fun a h1 => by have h3 := tt a; omega, fun a h1 => by have h3 := tt a; omega, fun a h1 => by have h3 := tt a; omega⟩
def t0T (eA : Nat) : Nat → Nat := fun a => if a = eA then 1 else 0
theorem t0T_1 {eA : Nat} : ∀ a, t0T eA a = 1 ↔ a = eA := fun a => by unfold t0T; by_cases h : a = eA <;> simp [h]
theorem t0T_2 {eA : Nat} : ∀ a, t0T eA a = 0 ∨ t0T eA a = 1 := fun a => by unfold t0T; by_cases h : a = eA <;> simp [h]
end LST
