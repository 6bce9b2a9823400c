def growPR (lt : Nat) (T N : Nat → Nat) (I : Nat → Nat → Int) (J : Nat → Nat → Int64) (R : Nat → Nat → Nat) (a : Nat) : gP := gR (fun r _ T' N' I' J' R' dz dl => J' = J ∧ Fr [lt * 32 + 1] [] T N I J R T' N' I' J' R' ∧ T' r = lt + 35 ∧ R' a 1 = r + 1 ∧ I' r 1000000 = a ∧ (∀ i : Nat, (i : Int) < I a 2 → R' r i = R (R a 1 - 1) i) ∧ I a 2 + 1 ≤ N' r ∧ dz ≤ 1 ∧ dl ≤ ecap lt ∧ dl + 3 * N (R a 1 - 1) ≤ 3 * N' r + 2 ∧ (∀ b, T b = lt → b ≠ a → R' b 1 = R b 1) ∧ T r = 0)
set_option maxRecDepth 20000 in
theorem k_growR1 (l : Launch) (D : va_G) (dA : Nat → ClassId) (eA : Nat) (L : List Nat) (T N : Nat → Nat) (I : Nat → Nat → Int) (J : Nat → Nat → Int64) (R : Nat → Nat → Nat) (a : Nat) {lt : Nat} (h1 : 15 ≤ lt) (h2 : lt ≤ 23) (t_a : T a = lt) (p_1 : I a 2 < mx lt) (p_2 : I a 2 = N (R a 1 - 1)) : GC l yJx4a65c_grow_92f84 cJx4a65c_grow_92f84 4 (some (.array (.object "java/lang/Object"))) ({ frames := 3, cells := 1, slots := ecap lt, locals := 130 }) D dA eA L T N I J R [.ref a, .int (II (I a 2 + 1))] 1 (ecap lt) (growPR lt T N I J R a) := by
  refine g_enter (own := RJx4a65c) (by decide) rfl (Nat.le_of_ble_eq_true rfl) (fun p e s m args below meth c ls hmn B hX hM hl => ?_)
  have hA : ∀ q, s.heap.size ≤ q → cF dA L T N I J R s.heap.size q := fun q h => Or.inr h
  have hl : lv_has ls 4 [(0, .ref a), (1, .int (II (I a 2 + 1)))] := hl
  have hm := mx_le h1 h2
  have hC0 := hM.2.2.2.2.2.2.1
  have hr := gls_2 hC0 t_a h1 h2
  obtain ⟨b, e1, tb⟩ := gls_1 hC0 t_a h1 h2
  rw [e1, Nat.add_sub_cancel] at p_2
  refine lv_aload_n B.1 B.2.1 dJx4a65c_grow_92f84_0 rfl (lv_at hl 0 rfl) ?_
  refine c_getn (k := 1) pk_Jx4a65c B hM t_a (kdLs h1 h2) rfl (by decide) fl_Jx4a65c_9 dJx4a65c_grow_92f84_1 e1 ?_
  rcases tb with tb | tb
  · -- the row is full
    have hnb : 10 ≤ N b ∧ N b ≤ ecap lt := by have := hC0.n tb (by omega); rw [nREs h1 h2] at this; exact this
    refine c_len B hM tb (kdEs h1 h2) (by decide) dJx4a65c_grow_92f84_4 rfl ?_
    refine lv_istore_n (lv' := [(2, .int (II (N b))), (0, .ref a), (1, .int (II (I a 2 + 1)))]) B.1 B.2.1 dJx4a65c_grow_92f84_5 rfl hl (by decide) rfl (fun ls hl => ?_)
    refine lv_iload_n B.1 B.2.1 dJx4a65c_grow_92f84_6 rfl (lv_at hl 0 rfl) ?_
    refine q_igt (tgt := 20) B dJx4a65c_grow_92f84_7 (by decide) (by unfold inr; omega) (fun _ => ?_) (fun h => absurd h (by omega))
    refine lv_iload_n B.1 B.2.1 dJx4a65c_grow_92f84_20 rfl (lv_at hl 0 rfl) ?_
    refine lv_iload_n B.1 B.2.1 dJx4a65c_grow_92f84_21 rfl (lv_at hl 2 rfl) ?_
    refine lv_iload_n B.1 B.2.1 dJx4a65c_grow_92f84_22 rfl (lv_at hl 0 rfl) ?_
    refine q_sub B dJx4a65c_grow_92f84_23 ?_
    refine lv_iload_n B.1 B.2.1 dJx4a65c_grow_92f84_24 rfl (lv_at hl 0 rfl) ?_
    refine q_con B dJx4a65c_grow_92f84_25 ?_
    refine lv_ishr B.1 B.2.1 dJx4a65c_grow_92f84_26 ?_
    rw [shr1 (by omega) (by omega)]
    refine p_calli (c_runS (n := 3) (as := [.int (II (N b)), .int (II (I a 2 + 1 - N b)), .int (II ((N b : Int) / 2))]) (rest := []) B hX hA hM hl.1 (k_J8_newLength_cabcc l D dA eA L T N I J R (N b) (by omega) (I a 2 + 1 - N b) (by omega) ((N b : Int) / 2) (by omega) (by omega) (by omega) (by omega) (by omega) (by omega) (by omega) _ _) ml_Jx4a65c_73 nm_J8_newLength_cabcc ⟨rfl, rfl⟩ ⟨Nat.le_of_ble_eq_true rfl, Nat.le_of_ble_eq_true rfl⟩ dJx4a65c_grow_92f84_27 rfl rfl (Nat.le_of_ble_eq_true rfl) ⟨Nat.zero_le _, Nat.zero_le _⟩) (fun nc inc hp => ?_)
    refine lv_istore_n (lv' := [(3, .int (II nc)), (2, .int (II (N b))), (0, .ref a), (1, .int (II (I a 2 + 1)))]) B.1 B.2.1 dJx4a65c_grow_92f84_30 rfl hl (by decide) rfl (fun ls hl => ?_)
    refine lv_aload_n B.1 B.2.1 dJx4a65c_grow_92f84_31 rfl (lv_at hl 2 rfl) ?_
    refine lv_aload_n B.1 B.2.1 dJx4a65c_grow_92f84_32 rfl (lv_at hl 2 rfl) ?_
    refine c_getn (k := 1) pk_Jx4a65c B hM t_a (kdLs h1 h2) rfl (by decide) fl_Jx4a65c_9 dJx4a65c_grow_92f84_33 e1 ?_
    refine lv_iload_n B.1 B.2.1 dJx4a65c_grow_92f84_36 rfl (lv_at hl 0 rfl) ?_
    refine g_call (rest := [.ref a]) hM hA (c_runS (n := 2) (as := [.ref b, .int (II nc)]) (rest := [.ref a]) B hX hA hM hl.1 (k_J7_copyOf_1904c l D dA eA L T N I J R b h1 h2 tb nc (by omega) (by omega) _ _) ml_Jx4a65c_66 nm_J7_copyOf_1904c ⟨rfl, rfl⟩ ⟨Nat.le_of_ble_eq_true rfl, Nat.le_of_ble_eq_true rfl⟩ dJx4a65c_grow_92f84_37 rfl rfl (Nat.le_of_ble_eq_true rfl) ⟨by show 0 + 1 ≤ 1; omega, by show 0 + nc.toNat ≤ ecap lt; omega⟩) (fun v L1 T1 N1 I1 J1 R1 dz dl H locs hq hM1 => ?_)
    obtain ⟨r, rfl, rfl, rfl, hF, tr, zr, nr, hno, hel, hz1, hz2⟩ := hq
    have ta1 : T1 a = lt := hF.tt t_a (by omega) nm0
    obtain ⟨I2, hI2⟩ : ∃ I2, I2 = w2 I1 r 1000000 (a : Int) := ⟨_, rfl⟩
    have nra : r ≠ a := tne tr ta1 (by omega)
    have hM2 : CWd D dA eA (cF dA L T N I1 J1 R s.heap.size) s.heap L1 T1 N1 I2 J1 R1 H locs := hM1.ghost tr (kdEs h1 h2) (by omega) hI2 (XI.out hM1.2.2.2.2.2.2.1 hM1.2.2.2.2.2.2.2 h1 h2 tr hno (fun b hb => w2_nb hI2 hb) (fun _ _ => rfl))
    have hF2 : Fr [lt * 32 + 1] [] T N I1 J1 R T1 N1 I2 J1 R1 := (hF.wide rfl).wi hI2 (fun h _ => absurd zr h)
    have ea1 : R1 a 1 = b + 1 := (hF.r t_a (by omega) nm0 rfl).trans e1
    refine lv_dup_x1 B.1 B.2.1 dJx4a65c_grow_92f84_40 rfl rfl ?_
    refine c_putrX (k := 1) (v := r + 1) pk_Jx4a65c B hM2 ta1 (kdLs h1 h2) rfl (by decide) fl_Jx4a65c_9 (Or.inl rfl) dJx4a65c_grow_92f84_41 rfl ⟨rfl, fun _ => rfl, rfl, fun _ => rfl⟩ ?_ (fun R' hu => XI.rowset hM2.2.2.2.2.2.2.1 hM2.2.2.2.2.2.2.2 h1 h2 ta1 tr hno ?_ ?_ (w2_at hI2) hu) (fun R2 H locs hu hM3 => ?_)
    · rw [(iRLs h1 h2).2.2.2.1]; exact Or.inr (Or.inr ⟨r, rfl, Or.inl tr⟩)
    · rw [w2_nb hI2 (Ne.symm nra)]; omega
    · intro i hi
      rw [w2_nb hI2 (Ne.symm nra)] at hi
      rw [ea1, Nat.add_sub_cancel, hel i (by omega), hF.r tb (by omega) nm0 rfl]
    refine g_aret (v := r + 1) B (Or.inr ⟨_, rfl⟩) hM3 dJx4a65c_grow_92f84_44 ⟨by show 0 + dz ≤ 1; omega, by show 0 + dl ≤ ecap lt; omega⟩ rfl ?_
    refine ⟨r, rfl, rfl, hF2.wr hu (fun _ _ => ?_), tr, w2_at hu, w2_at hI2, fun i hi => ?_, by omega, by omega, by omega, ?_, fun b2 tb2 nb2 => (congrFun (w2_nb hu nb2) 1).trans (hF.r tb2 (by omega) nm0 rfl), zr⟩
    · rw [t_a, cdL (by omega)]; simp
    · rw [w2_nb hu nra, hel i (by omega), e1, Nat.add_sub_cancel]
    · rw [e1, Nat.add_sub_cancel]; omega
  · -- there is no row yet
    have hb : b = eA := (hM.2.2.2.2.1 b).mp tb
    subst hb
    have hnb := n_one hC0 tb
    refine c_tlen B hX hM dJx4a65c_grow_92f84_4 ?_
    refine lv_istore_n (lv' := [(2, .int (II 0)), (0, .ref a), (1, .int (II (I a 2 + 1)))]) B.1 B.2.1 dJx4a65c_grow_92f84_5 rfl hl (by decide) rfl (fun ls hl => ?_)
    refine lv_iload_n B.1 B.2.1 dJx4a65c_grow_92f84_6 rfl (lv_at hl 0 rfl) ?_
    refine q_igt (tgt := 20) B dJx4a65c_grow_92f84_7 (by decide) (by unfold inr; omega) (fun h => absurd h (by omega)) (fun _ => ?_)
    refine lv_aload_n B.1 B.2.1 dJx4a65c_grow_92f84_10 rfl (lv_at hl 1 rfl) ?_
    refine c_getn (k := 1) pk_Jx4a65c B hM t_a (kdLs h1 h2) rfl (by decide) fl_Jx4a65c_9 dJx4a65c_grow_92f84_11 e1 ?_
    refine c_gsE B hX hM fl_Jx4a65c_39 dJx4a65c_grow_92f84_14 ?_
    refine lv_acmp_eq (rx := some b) (ry := some b) (tgt := 45) B.1 B.2.1 dJx4a65c_grow_92f84_17 (by decide) (fun _ => ?_) (fun h => absurd rfl h)
    refine lv_aload_n B.1 B.2.1 dJx4a65c_grow_92f84_45 rfl (lv_at hl 1 rfl) ?_
    refine q_bip B dJx4a65c_grow_92f84_46 (by decide) ?_
    refine lv_iload_n B.1 B.2.1 dJx4a65c_grow_92f84_48 rfl (lv_at hl 2 rfl) ?_
    refine c_mmax B ml_Jx4a65c_79 hl.1 (by unfold inr; omega) (by unfold inr; omega) (Nat.le_of_ble_eq_true rfl) (Nat.le_of_ble_eq_true rfl) (Nat.zero_le _) (Nat.zero_le _) dJx4a65c_grow_92f84_49 (fun z oz lz uz => ?_)
    have hz10 : z = ((10 : Nat) : Int) := by omega
    refine c_newO (t := lt + 35) (n' := 10) B hX hA hM (kdEs h1 h2) ⟨by omega, ls_dec (P := fun t => xT (t + 35) = false) h1 h2 (by decide), ls_dec (P := fun t => (iR (t + 35) 0).1 ≤ 0 ∧ 0 ≤ (iR (t + 35) 0).2) h1 h2 (by decide), by rw [rFEs h1 h2]; exact Nat.le_refl 1⟩ cl_Jx4a65c_7 hz10 (by omega) (by rw [nREs h1 h2]; show 10 ≤ 10 ∧ 10 ≤ ecap lt; omega) (by show 0 + 1 ≤ 1; omega) (by show 0 + 10 ≤ ecap lt; omega) dJx4a65c_grow_92f84_52 (fun r L1 T1 N1 H hq hT1 hN1 hM1 => ?_)
    have tr : T1 r = lt + 35 := by rw [hT1, va_up_self]
    have nr : N1 r = 10 := by rw [hN1, va_up_self]
    have hF : Fr [lt * 32 + 1] [] T N I J R T1 N1 I J R := Fr.new Fr.rf hq hT1 hN1
    have ta1 : T1 a = lt := hF.tt t_a (by omega) nm0
    have hnol : NoL T1 R r := by
      intro a q1 q2 e
      have hne : a ≠ r := fun z => by rw [z, tr] at q1 q2; omega
      rw [hT1, va_up_ne _ _ hne] at q1 q2
      exact NoL.fresh hC0 hq a q1 q2 e
    have nra : r ≠ a := tne tr ta1 (by omega)
    obtain ⟨I2, hI2⟩ : ∃ I2, I2 = w2 I r 1000000 (a : Int) := ⟨_, rfl⟩
    have hM2 : CWd D dA b (cF dA L T N I J R s.heap.size) s.heap L1 T1 N1 I2 J R H [] := hM1.ghost tr (kdEs h1 h2) (by omega) hI2 (XI.out hM1.2.2.2.2.2.2.1 hM1.2.2.2.2.2.2.2 h1 h2 tr hnol (fun b hb => w2_nb hI2 hb) (fun _ _ => rfl))
    have hF2 : Fr [lt * 32 + 1] [] T N I J R T1 N1 I2 J R := hF.wi hI2 (fun h _ => absurd hq h)
    refine lv_dup_x1 B.1 B.2.1 dJx4a65c_grow_92f84_55 rfl rfl ?_
    refine c_putrX (k := 1) (v := r + 1) pk_Jx4a65c B hM2 ta1 (kdLs h1 h2) rfl (by decide) fl_Jx4a65c_9 (Or.inl rfl) dJx4a65c_grow_92f84_56 rfl ⟨rfl, fun _ => rfl, rfl, fun _ => rfl⟩ ?_ (fun R' hu => XI.rowset hM2.2.2.2.2.2.2.1 hM2.2.2.2.2.2.2.2 h1 h2 ta1 tr hnol ?_ ?_ (w2_at hI2) hu) (fun R2 H locs hu hM3 => ?_)
    · rw [(iRLs h1 h2).2.2.2.1]; exact Or.inr (Or.inr ⟨r, rfl, Or.inl tr⟩)
    · rw [w2_nb hI2 (Ne.symm nra)]; omega
    · intro i hi
      rw [w2_nb hI2 (Ne.symm nra)] at hi
      omega
    refine g_aret (v := r + 1) B (Or.inr ⟨_, rfl⟩) hM3 dJx4a65c_grow_92f84_59 ⟨by show 0 + 1 ≤ 1; omega, by show 0 + 10 ≤ ecap lt; omega⟩ rfl ?_
    refine ⟨r, rfl, rfl, hF2.wr hu (fun _ _ => ?_), tr, w2_at hu, w2_at hI2, fun i hi => ?_, by omega, by omega, by omega, ?_, fun b2 tb2 nb2 => congrFun (w2_nb hu nb2) 1, hq⟩
    · rw [t_a, cdL (by omega)]; simp
    · omega
    · rw [e1, Nat.add_sub_cancel]; omega

set_option maxRecDepth 20000 in
theorem k_growR2 (l : Launch) (D : va_G) (dA : Nat → ClassId) (eA : Nat) (L : List Nat) (T N : Nat → Nat) (I : Nat → Nat → Int) (J : Nat → Nat → Int64) (R : Nat → Nat → Nat) (a : Nat) {lt : Nat} (h1 : 15 ≤ lt) (h2 : lt ≤ 23) (t_a : T a = lt) (p_1 : I a 2 < mx lt) (p_2 : I a 2 = N (R a 1 - 1)) : GC l yJx4a65c_grow_d5877 cJx4a65c_grow_d5877 1 (some (.array (.object "java/lang/Object"))) ({ frames := 4, cells := 1, slots := ecap lt, locals := 160 }) D dA eA L T N I J R [.ref a] 1 (ecap lt) (growPR lt T N I J R a) := by
  refine g_enter (own := RJx4a65c) (by decide) rfl (Nat.le_of_ble_eq_true rfl) (fun p e s m args below meth c ls hmn B hX hM hl => ?_)
  have hA : ∀ q, s.heap.size ≤ q → cF dA L T N I J R s.heap.size q := fun q h => Or.inr h
  have hl : lv_has ls 1 [(0, .ref a)] := hl
  refine lv_aload_n B.1 B.2.1 dJx4a65c_grow_d5877_0 rfl (lv_at hl 0 rfl) ?_
  refine lv_aload_n B.1 B.2.1 dJx4a65c_grow_d5877_1 rfl (lv_at hl 0 rfl) ?_
  refine c_geti (k := 2) pk_Jx4a65c B hM t_a (kdLs h1 h2) rfl (by decide) fl_Jx4a65c_48 dJx4a65c_grow_d5877_2 rfl ?_
  refine q_con B dJx4a65c_grow_d5877_5 ?_
  refine q_add B dJx4a65c_grow_d5877_6 ?_
  refine g_call (rest := []) hM hA (c_runV (n := 1) (as := [.int (II (I a 2 + 1))]) (rest := []) B hX hA hM hl.1 t_a (kdLs h1 h2) rfl (k_growR1 l D dA eA L T N I J R a h1 h2 t_a p_1 p_2 _ _) ml_Jx4a65c_69 nm_Jx4a65c_grow_92f84 ⟨rfl, rfl⟩ ⟨Nat.le_of_ble_eq_true rfl, Nat.le_of_ble_eq_true rfl⟩ dJx4a65c_grow_d5877_7 rfl rfl (Nat.le_of_ble_eq_true rfl) ⟨by show 0 + 1 ≤ 1; omega, by show 0 + ecap lt ≤ ecap lt; omega⟩) (fun v L1 T1 N1 I1 J1 R1 dz dl H locs hq hM1 => ?_)
  obtain ⟨r, rfl, hq⟩ := hq
  have hd1 := hq.2.2.2.2.2.2.2.1
  have hd2 := hq.2.2.2.2.2.2.2.2.1
  refine g_aret (v := r + 1) B (Or.inr ⟨_, rfl⟩) hM1 dJx4a65c_grow_d5877_10 ⟨by show 0 + dz ≤ 1; omega, by show 0 + dl ≤ ecap lt; omega⟩ rfl ?_
  rw [Nat.zero_add, Nat.zero_add]
  exact ⟨r, rfl, hq⟩

section ROW
variable {T N : Nat → Nat} {I : Nat → Nat → Int} {R : Nat → Nat → Nat} {a b b2 lt : Nat}
theorem rowT (hC : CT T N I R) (h1 : 15 ≤ lt) (h2 : lt ≤ 23) (t2 : T b2 = lt) : T (R b2 1 - 1) = lt + 35 ∨ T (R b2 1 - 1) = 1 := by
  obtain ⟨q, eq, tq⟩ := gls_1 hC t2 h1 h2
  rw [eq, Nat.add_sub_cancel]; exact tq
theorem rowNe (hC : CT T N I R) (hX : XI T N I R) (h1 : 15 ≤ lt) (h2 : lt ≤ 23) (ta : T a = lt) (t2 : T b2 = lt) (hne : b2 ≠ a) (e1 : R a 1 = b + 1) (tb : T b = lt + 35) : R b2 1 - 1 ≠ b := by
  intro e
  have x1 := (hX.1 a (by omega) (by omega)).2.2
  have x2 := (hX.1 b2 (by omega) (by omega)).2.2
  rw [e1, Nat.add_sub_cancel] at x1
  rw [e] at x2
  have y1 := x1 (by omega)
  have y2 := x2 (by omega)
  omega
end ROW
def ROT (lt : Nat) (T : Nat → Nat) (I : Nat → Nat → Int) (R R' : Nat → Nat → Nat) (a : Nat) : Prop := ∀ b, T b = lt → b ≠ a → R' b 1 = R b 1 ∧ ∀ i : Nat, (i : Int) < I b 2 → R' (R b 1 - 1) i = R (R b 1 - 1) i
def addPR (lt : Nat) (T N : Nat → Nat) (I : Nat → Nat → Int) (J : Nat → Nat → Int64) (R : Nat → Nat → Nat) (a x : Nat) (T' N' : Nat → Nat) (I' : Nat → Nat → Int) (J' : Nat → Nat → Int64) (R' : Nat → Nat → Nat) (dz dl : Nat) : Prop := J' = J ∧ Fr (moL lt) [] T N I J R T' N' I' J' R' ∧ I' a 2 = I a 2 + 1 ∧ R' (R' a 1 - 1) (I a 2).toNat = x + 1 ∧ (∀ i : Nat, (i : Int) < I a 2 → R' (R' a 1 - 1) i = R (R a 1 - 1) i) ∧ (∀ b, T b = lt → b ≠ a → I' b 2 = I b 2) ∧ dz ≤ 1 ∧ dl ≤ ecap lt ∧ dl + 3 * N (R a 1 - 1) ≤ 3 * N' (R' a 1 - 1) + 2 ∧ ROT lt T I R R' a

set_option maxRecDepth 20000 in
theorem k_addR1 (l : Launch) (D : va_G) (dA : Nat → ClassId) (eA : Nat) (L : List Nat) (T N : Nat → Nat) (I : Nat → Nat → Int) (J : Nat → Nat → Int64) (R : Nat → Nat → Nat) (a : Nat) {lt : Nat} (h1 : 15 ≤ lt) (h2 : lt ≤ 23) (t_a : T a = lt) (x : Nat) (t_x : T x = el lt) (b : Nat) (e1 : R a 1 = b + 1) (p_1 : I a 2 < mx lt) (p_3 : lt = 18 → I x 0 ≤ I a 2) : GC l yJx4a65c_add_72be8 cJx4a65c_add_72be8 4 none ({ frames := 5, cells := 1, slots := ecap lt, locals := 190 }) D dA eA L T N I J R [.ref a, .ref x, .ref b, .int (II (I a 2))] 1 (ecap lt) (gV (fun _ T' N' I' J' R' dz dl => addPR lt T N I J R a x T' N' I' J' R' dz dl)) := by
  refine g_enter (own := RJx4a65c) (by decide) rfl (Nat.le_of_ble_eq_true rfl) (fun p e s m args below meth c ls hmn B hX hM hl => ?_)
  have hA : ∀ q, s.heap.size ≤ q → cF dA L T N I J R s.heap.size q := fun q h => Or.inr h
  have hl : lv_has ls 4 [(0, .ref a), (1, .ref x), (2, .ref b), (3, .int (II (I a 2)))] := hl
  have hm := mx_le h1 h2
  have hC0 := hM.2.2.2.2.2.2.1
  have hr := gls_2 hC0 t_a h1 h2
  have hx1 := hM.2.2.2.2.2.2.2.1 a (by omega) (by omega)
  rw [e1, Nat.add_sub_cancel] at hx1
  have hele : 2 ≤ el lt ∧ el lt ≤ 14 := ls_dec (P := fun t => 2 ≤ el t ∧ el t ≤ 14) h1 h2 (by decide)
  -- the rest, with a row that has a place
  have fin : ∀ (L1 : List Nat) (T1 N1 : Nat → Nat) (I1 : Nat → Nat → Int) (R1 : Nat → Nat → Nat) (d : Nat) (zc zs : Nat) (H : Heap) (locs : List Loc) (ls : Array Slot), CWd D dA eA (cF dA L T N I J R s.heap.size) s.heap L1 T1 N1 I1 J R1 H locs → Fr [lt * 32 + 1] [] T N I J R T1 N1 I1 J R1 → T1 d = lt + 35 → R1 a 1 = d + 1 → I a 2 + 1 ≤ N1 d → (∀ i : Nat, (i : Int) < I a 2 → R1 d i = R b i) → (∀ b2, T b2 = lt → b2 ≠ a → R1 b2 1 = R b2 1 ∧ R b2 1 - 1 ≠ d ∧ ∀ i : Nat, (i : Int) < I b2 2 → R1 (R b2 1 - 1) i = R (R b2 1 - 1) i) → lv_has ls 4 [(2, .ref d), (0, .ref a), (1, .ref x), (3, .int (II (I a 2)))] → zc ≤ 1 → zs ≤ ecap lt → zs + 3 * N b ≤ 3 * N1 d + 2 → W p l e ({ frames := 5, cells := 1, slots := ecap lt, locals := 190 }) s m args below meth c H locs zc zs (MQ below (gQ D dA eA (cF dA L T N I J R s.heap.size) s.heap.size (hs s.heap) (gV (fun _ T' N' I' J' R' dz dl => addPR lt T N I J R a x T' N' I' J' R' dz dl))) args s 1 (ecap lt) (cF dA L T N I J R s.heap.size)) (F0 m 11 ls []) := by
    intro L1 T1 N1 I1 R1 d zc zs H locs ls hM1 hF td ed hn hel hRo hl hzc hzs hz3
    have ta1 : T1 a = lt := hF.tt t_a (by omega) nm0
    have tx1 : T1 x = el lt := hF.tt t_x (by omega) nm0
    have ia1 : I1 a 2 = I a 2 := hF.i t_a (by omega) nm0 (by rw [cdL (by omega)]; simp)
    refine lv_aload_n B.1 B.2.1 dJx4a65c_add_72be8_11 rfl (lv_at hl 0 rfl) ?_
    refine lv_iload_n B.1 B.2.1 dJx4a65c_add_72be8_12 rfl (lv_at hl 3 rfl) ?_
    refine lv_aload_n B.1 B.2.1 dJx4a65c_add_72be8_13 rfl (lv_at hl 2 rfl) ?_
    refine c_astO B hX hM1 h1 h2 td tx1 dJx4a65c_add_72be8_14 hr.1 (by omega) (fun R' hu => XI.elem hM1.2.2.2.2.2.2.1 hM1.2.2.2.2.2.2.2 h1 h2 ta1 ed td (by rw [ia1]; omega) hu) (fun R2 H locs hu hM2 => ?_)
    have nda : d ≠ a := tne td ta1 (by omega)
    have ed2 : R2 a 1 = d + 1 := by rw [w2_nb hu (Ne.symm nda)]; exact ed
    refine lv_aload_n B.1 B.2.1 dJx4a65c_add_72be8_15 rfl (lv_at hl 1 rfl) ?_
    refine lv_iload_n B.1 B.2.1 dJx4a65c_add_72be8_16 rfl (lv_at hl 3 rfl) ?_
    refine q_con B dJx4a65c_add_72be8_17 ?_
    refine q_add B dJx4a65c_add_72be8_18 ?_
    have hx2 := hM2.2.2.2.2.2.2.2.1 a (by omega) (by omega)
    rw [ed2, Nat.add_sub_cancel, ia1] at hx2
    have elst : R2 d (I a 2).toNat = x + 1 := w2_at hu
    refine c_putiX (k := 2) pk_Jx4a65c B hM2 ta1 (kdLs h1 h2) rfl (by decide) fl_Jx4a65c_48 (Or.inl rfl) dJx4a65c_add_72be8_19 rfl rfl (by rw [(iRLs h1 h2).1]; show (0 : Int) ≤ _; omega) (by rw [(iRLs h1 h2).1]; show _ ≤ mx lt; omega) (fun I' hI => XI.size hM2.2.2.2.2.2.2.1 hM2.2.2.2.2.2.2.2 h1 h2 ta1 ed2 (by omega) ?_ (fun _ => by rw [ia1]; omega) ?_ hI) (fun I2 H locs hI hM3 => ?_)
    · intro i hi
      by_cases e : (i : Int) < I a 2
      · exact hx2.2.1 i e
      · have : i = (I a 2).toNat := by omega
        rw [this, elst]; omega
    · intro h18 i hi
      by_cases e : (i : Int) < I a 2
      · have h4 := hM2.2.2.2.2.2.2.2.2.2.2.1 a (by omega) i (by rw [ia1]; exact e)
        rw [ed2, Nat.add_sub_cancel] at h4
        exact h4
      · have hi2 : i = (I a 2).toNat := by omega
        rw [hi2, elst, Nat.add_sub_cancel]
        have h3 := p_3 h18
        have ix : I1 x 0 = I x 0 := hF.i t_x (by omega) nm0 (by rw [cdL (by omega)]; subst h18; decide)
        rw [ix]; omega
    refine g_vret B hM3 dJx4a65c_add_72be8_22 ⟨hzc, hzs⟩ ⟨rfl, rfl, ?_, w2_at hI, ?_, ?_, ?_, hzc, hzs, ?_, ?_⟩
    · have hFw : Fr (moL lt) [] T N I J R T1 N1 I1 J R1 := hF.wide (by simp [moL])
      refine (hFw.wr hu (Fr_c hFw td ?_)).wi hI (fun _ _ => ?_)
      · unfold moL; rw [cd_arr (j := 0) (by omega)]; unfold cd; rw [Nat.ble_eq_true_of_le (by omega)]; simp
      · rw [t_a, cdL (by omega)]; simp [moL]
    · rw [ed2, Nat.add_sub_cancel]; exact elst
    · intro i hi
      rw [ed2, Nat.add_sub_cancel, w2_ne hu (Or.inr (by omega)), e1, Nat.add_sub_cancel]
      exact hel i hi
    · intro b2 tb2 nb2
      rw [w2_nb hI nb2]
      exact hF.i tb2 (by omega) nm0 (by rw [cdL (by omega)]; simp)
    · rw [ed2, Nat.add_sub_cancel, e1, Nat.add_sub_cancel]; omega
    · intro b2 tb2 nb2
      obtain ⟨r1, r2, r3⟩ := hRo b2 tb2 nb2
      refine ⟨?_, fun i hi => ?_⟩
      · rw [w2_ne hu (Or.inl (tne (hF.tt tb2 (by omega) nm0) td (by omega)))]; exact r1
      · rw [w2_ne hu (Or.inl r2)]; exact r3 i hi
  obtain ⟨b', e1', tb⟩ := gls_1 hC0 t_a h1 h2
  have hbb : b' = b := by omega
  subst hbb
  refine lv_iload_n B.1 B.2.1 dJx4a65c_add_72be8_0 rfl (lv_at hl 3 rfl) ?_
  refine lv_aload_n B.1 B.2.1 dJx4a65c_add_72be8_1 rfl (lv_at hl 2 rfl) ?_
  have grow : I a 2 = N b' → W p l e ({ frames := 5, cells := 1, slots := ecap lt, locals := 190 }) s m args below meth c s.heap [] 0 0 (MQ below (gQ D dA eA (cF dA L T N I J R s.heap.size) s.heap.size (hs s.heap) (gV (fun _ T' N' I' J' R' dz dl => addPR lt T N I J R a x T' N' I' J' R' dz dl))) args s 1 (ecap lt) (cF dA L T N I J R s.heap.size)) (F0 m 6 ls []) := by
    intro hfull
    refine lv_aload_n B.1 B.2.1 dJx4a65c_add_72be8_6 rfl (lv_at hl 0 rfl) ?_
    refine g_call (rest := []) hM hA (c_runV (n := 0) (as := []) (rest := []) B hX hA hM hl.1 t_a (kdLs h1 h2) rfl (k_growR2 l D dA eA L T N I J R a h1 h2 t_a p_1 (by rw [e1, Nat.add_sub_cancel]; exact hfull) _ _) ml_Jx4a65c_129 nm_Jx4a65c_grow_d5877 ⟨rfl, rfl⟩ ⟨Nat.le_of_ble_eq_true rfl, Nat.le_of_ble_eq_true rfl⟩ dJx4a65c_add_72be8_7 rfl rfl (Nat.le_of_ble_eq_true rfl) ⟨by show 0 + 1 ≤ 1; omega, by show 0 + ecap lt ≤ ecap lt; omega⟩) (fun v L1 T1 N1 I1 J1 R1 dz dl H locs hq hM1 => ?_)
    obtain ⟨r, rfl, rfl, hF, tr, er, -, hel, hn, hd1, hd2, hd3, hro, zr⟩ := hq
    rw [e1, Nat.add_sub_cancel] at hel hd3
    refine lv_astore_n (lv' := [(2, .ref r), (0, .ref a), (1, .ref x), (3, .int (II (I a 2)))]) B.1 B.2.1 dJx4a65c_add_72be8_10 rfl hl (by decide) rfl (fun ls hl => ?_)
    exact fin L1 T1 N1 I1 R1 r (0 + dz) (0 + dl) H locs ls hM1 hF tr er hn hel (fun b2 tb2 nb2 => ⟨hro b2 tb2 nb2, (fun e => by
      rcases rowT hC0 h1 h2 tb2 with q | q <;> rw [e] at q <;> omega), fun i hi => (by
      rcases rowT hC0 h1 h2 tb2 with q | q
      · exact hF.r q (by omega) nm0 (by rw [cd_arr (j := 0) (by omega)]; unfold cd; rw [Nat.ble_eq_true_of_le (by omega)]; simp; omega)
      · exfalso
        have x2 := (hM.2.2.2.2.2.2.2.1 b2 (by omega) (by omega)).1
        have := n_one hC0 q
        omega)⟩) hl (by omega) (by omega) (by omega)
  rcases tb with tb | tb
  · have hnb : 10 ≤ N b' ∧ N b' ≤ ecap lt := by have := hC0.n tb (by omega); rw [nREs h1 h2] at this; exact this
    refine c_len B hM tb (kdEs h1 h2) (by decide) dJx4a65c_add_72be8_2 rfl ?_
    refine q_cne (tgt := 11) B dJx4a65c_add_72be8_3 (by decide) (by unfold inr; omega) (by unfold inr; omega) (fun hne => ?_) (fun he => grow he)
    exact fin L T N I R b' 0 0 s.heap [] ls hM Fr.rf tb e1 (by omega) (fun i hi => rfl) (fun b2 tb2 nb2 => ⟨rfl, rowNe hC0 hM.2.2.2.2.2.2.2 h1 h2 t_a tb2 nb2 e1 tb, fun _ _ => rfl⟩) (lv_sub hl [2, 0, 1, 3] rfl) (by omega) (by omega) (by omega)
  · have hb : b' = eA := (hM.2.2.2.2.1 b').mp tb
    have hnb := n_one hC0 tb
    rw [hb]
    refine c_tlen B hX hM dJx4a65c_add_72be8_2 ?_
    refine q_cne (tgt := 11) B dJx4a65c_add_72be8_3 (by decide) (by unfold inr; omega) (by unfold inr; omega) (fun hne => absurd hne (by omega)) (fun he => grow (by omega))

set_option maxRecDepth 20000 in
theorem k_Jx4a65c_add_9ea2dR (l : Launch) (D : va_G) (dA : Nat → ClassId) (eA : Nat) (L : List Nat) (T N : Nat → Nat) (I : Nat → Nat → Int) (J : Nat → Nat → Int64) (R : Nat → Nat → Nat) (a : Nat) {lt : Nat} (t_a : T a = lt) (x : Nat) (t_x : T x = el lt) (h1 : 15 ≤ lt) (h2 : lt ≤ 23) (p_1 : I a 2 < mx lt) (p_3 : lt = 18 → I x 0 ≤ I a 2) : GC l yJx4a65c_add_9ea2d cJx4a65c_add_9ea2d 2 (some .boolean) ({ frames := 6, cells := 1, slots := ecap lt, locals := 220 }) D dA eA L T N I J R [.ref a, .ref x] 1 (ecap lt) (gI (fun r _ T' N' I' J' R' dz dl => J' = J ∧ Fr (moL lt) [] T N I J R T' N' I' J' R' ∧ (0 : Int) ≤ r ∧ r ≤ 1 ∧ (I' a 2 = I a 2 + 1 ∧ R' (R' a 1 - 1) (I a 2).toNat = x + 1 ∧ (∀ i : Nat, (i : Int) < I a 2 → R' (R' a 1 - 1) i = R (R a 1 - 1) i) ∧ (∀ b, T b = lt → b ≠ a → I' b 2 = I b 2) ∧ dz ≤ 1 ∧ dl ≤ ecap lt ∧ dl + 3 * N (R a 1 - 1) ≤ 3 * N' (R' a 1 - 1) + 2 ∧ ROT lt T I R R' a))) := by
  refine g_enter (own := RJx4a65c) (by decide) rfl (Nat.le_of_ble_eq_true rfl) (fun p e s m args below meth c ls hmn B hX hM hl => ?_)
  have hA : ∀ q, s.heap.size ≤ q → cF dA L T N I J R s.heap.size q := fun q h => Or.inr h
  have hl : lv_has ls 2 [(0, .ref a), (1, .ref x)] := hl
  obtain ⟨b, e1, tb⟩ := gls_1 hM.2.2.2.2.2.2.1 t_a h1 h2
  refine lv_aload_n B.1 B.2.1 dJx4a65c_add_9ea2d_0 rfl (lv_at hl 0 rfl) ?_
  refine lv_dup B.1 B.2.1 dJx4a65c_add_9ea2d_1 rfl ?_
  refine c_getM B hM h1 h2 t_a dJx4a65c_add_9ea2d_2 ?_
  refine q_con B dJx4a65c_add_9ea2d_5 ?_
  refine q_add B dJx4a65c_add_9ea2d_6 ?_
  refine c_putM B hM h1 h2 t_a dJx4a65c_add_9ea2d_7 (fun v I1 H locs hI hM1 => ?_)
  have i2 : ∀ b, I1 b 2 = I b 2 := fun b => w2_ne hI (Or.inr (by decide))
  have hF : Fr (moL lt) [] T N I J R T N I1 J R := Fr.rf.wi hI (fun _ _ => by rw [t_a, cdL (by omega)]; simp [moL])
  have hele : el lt ≠ lt := ls_dec (P := fun t => el t ≠ t) h1 h2 (by decide)
  refine lv_aload_n B.1 B.2.1 dJx4a65c_add_9ea2d_10 rfl (lv_at hl 0 rfl) ?_
  refine lv_aload_n B.1 B.2.1 dJx4a65c_add_9ea2d_11 rfl (lv_at hl 1 rfl) ?_
  refine lv_aload_n B.1 B.2.1 dJx4a65c_add_9ea2d_12 rfl (lv_at hl 0 rfl) ?_
  refine c_getn (k := 1) pk_Jx4a65c B hM1 t_a (kdLs h1 h2) rfl (by decide) fl_Jx4a65c_9 dJx4a65c_add_9ea2d_13 e1 ?_
  refine lv_aload_n B.1 B.2.1 dJx4a65c_add_9ea2d_16 rfl (lv_at hl 0 rfl) ?_
  refine c_geti (k := 2) pk_Jx4a65c B hM1 t_a (kdLs h1 h2) rfl (by decide) fl_Jx4a65c_48 dJx4a65c_add_9ea2d_17 rfl ?_
  refine g_callv (rest := []) hM1 hA (c_runV (n := 3) (as := [.ref x, .ref b, .int (II (I1 a 2))]) (rest := []) B hX hA hM1 hl.1 t_a (kdLs h1 h2) rfl (k_addR1 l D dA eA L T N I1 J R a h1 h2 t_a x t_x b e1 (by rw [i2]; exact p_1) (fun h => by rw [i2, w2_nb hI (tne t_x t_a hele)]; exact p_3 h) _ _) ml_Jx4a65c_131 nm_Jx4a65c_add_72be8 ⟨rfl, rfl⟩ ⟨Nat.le_of_ble_eq_true rfl, Nat.le_of_ble_eq_true rfl⟩ dJx4a65c_add_9ea2d_20 rfl rfl (Nat.le_of_ble_eq_true rfl) ⟨by show 0 + 1 ≤ 1; omega, by show 0 + ecap lt ≤ ecap lt; omega⟩) (fun L2 T2 N2 I2 J2 R2 dz dl H locs hq hM2 => ?_)
  obtain ⟨rfl, hF2, q1, q2, q3, q4, q5, q6, q7, q8⟩ := hq
  rw [i2] at q1 q2 q3
  refine q_con B dJx4a65c_add_9ea2d_23 ?_
  refine g_zret B hM2 dJx4a65c_add_9ea2d_24 ⟨by show 0 + dz ≤ 1; omega, by show 0 + dl ≤ ecap lt; omega⟩ (by omega) (by omega) ⟨1, rfl, by omega, rfl, hF.trans hF2 (by simp) e20, by omega, by omega, q1, q2, q3, fun b tb nb => (q4 b tb nb).trans (i2 b), by omega, by omega, by omega, fun b tb nb => ⟨(q8 b tb nb).1, fun i hi => (q8 b tb nb).2 i (by rw [i2]; exact hi)⟩⟩
