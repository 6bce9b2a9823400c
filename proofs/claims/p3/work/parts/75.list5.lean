theorem cdL {t k : Nat} (h : t < 50) : cd t k = t * 32 + k := by
  unfold cd
  cases e : Nat.ble 50 t with
  | true => have := Nat.le_of_ble_eq_true e; omega
  | false => rfl
theorem shr1 {x : Int} (h0 : 0 ≤ x) (h1 : x ≤ 1000000) : (II x) >>> (II 1 &&& 31) = II (x / 2) := by
  have hx : inr x := by unfold inr; omega
  have hy : inr (x / 2) := by unfold inr; omega
  rw [← Int32.toInt_inj, II_toInt hy]
  have e : (II 1 &&& 31 : Int32) = 1 := by decide
  rw [e]
  have h2 : ((II x) >>> (1 : Int32)).toInt = (II x).toInt >>> 1 := by
    show (BitVec.sshiftRight' (II x).toBitVec ((1 : Int32).toBitVec.smod 32)).toInt = (II x).toBitVec.toInt >>> 1
    have e2 : ((1 : Int32).toBitVec.smod 32) = 1#32 := by decide
    rw [e2]
    show ((II x).toBitVec.sshiftRight 1).toInt = _
    rw [BitVec.toInt_sshiftRight]
  rw [h2, II_toInt hx, Int.shiftRight_eq_div_pow]
  rfl
def mxN (lt : Nat) (N : Nat) : Prop := (N : Int) ≤ mx lt - 1
def growP (lt : Nat) (T N : Nat → Nat) (I : Nat → Nat → Int) (J : Nat → Nat → Int64) (R : Nat → Nat → Nat) (a : Nat) : gP := gR (fun r _ T' N' I' J' R' dz dl => J' = J ∧ Fr [lt * 32 + 1] [] T N I J R T' N' I' J' R' ∧ T' r = lt + 35 ∧ R' a 1 = r + 1 ∧ I' r 1000000 = a ∧ (∀ i : Nat, (i : Int) < I a 2 → R' r i = R (R a 1 - 1) i) ∧ I a 2 + 1 ≤ N' r ∧ dz ≤ 1 ∧ dl ≤ ecap lt ∧ dl + 3 * N (R a 1 - 1) ≤ 3 * N' r + 2)
set_option maxRecDepth 20000 in
theorem k_Jx4a65c_grow_92f84 (l : Launch) (D : va_G) (dA : Nat → ClassId) (eA : Nat) (L : List Nat) (T N : Nat → Nat) (I : Nat → Nat → Int) (J : Nat → Nat → Int64) (R : Nat → Nat → Nat) (a : Nat) {lt : Nat} (h1 : 15 ≤ lt) (h2 : lt ≤ 23) (t_a : T a = lt) (p_1 : I a 2 < mx lt) (p_2 : I a 2 = N (R a 1 - 1)) : GC l yJx4a65c_grow_92f84 cJx4a65c_grow_92f84 4 (some (.array (.object "java/lang/Object"))) ({ frames := 3, cells := 1, slots := ecap lt, locals := 130 }) D dA eA L T N I J R [.ref a, .int (II (I a 2 + 1))] 1 (ecap lt) (growP lt T N I J R a) := by
  refine g_enter (own := RJx4a65c) (by decide) rfl (Nat.le_of_ble_eq_true rfl) (fun p e s m args below meth c ls hmn B hX hM hl => ?_)
  have hA : ∀ q, s.heap.size ≤ q → cF dA L T N I J R s.heap.size q := fun q h => Or.inr h
  have hl : lv_has ls 4 [(0, .ref a), (1, .int (II (I a 2 + 1)))] := hl
  have hm := mx_le h1 h2
  have hC0 := hM.2.2.2.2.2.2.1
  have hr := gls_2 hC0 t_a h1 h2
  obtain ⟨b, e1, tb⟩ := gls_1 hC0 t_a h1 h2
  rw [e1, Nat.add_sub_cancel] at p_2
  refine lv_aload_n B.1 B.2.1 dJx4a65c_grow_92f84_0 rfl (lv_at hl 0 rfl) ?_
  refine c_getn (k := 1) pk_Jx4a65c B hM t_a (kdLs h1 h2) rfl (by decide) fl_Jx4a65c_9 dJx4a65c_grow_92f84_1 e1 ?_
  rcases tb with tb | tb
  · -- the row is full
    have hnb : 10 ≤ N b ∧ N b ≤ ecap lt := by have := hC0.n tb (by omega); rw [nREs h1 h2] at this; exact this
    refine c_len B hM tb (kdEs h1 h2) (by decide) dJx4a65c_grow_92f84_4 rfl ?_
    refine lv_istore_n (lv' := [(2, .int (II (N b))), (0, .ref a), (1, .int (II (I a 2 + 1)))]) B.1 B.2.1 dJx4a65c_grow_92f84_5 rfl hl (by decide) rfl (fun ls hl => ?_)
    refine lv_iload_n B.1 B.2.1 dJx4a65c_grow_92f84_6 rfl (lv_at hl 0 rfl) ?_
    refine q_igt (tgt := 20) B dJx4a65c_grow_92f84_7 (by decide) (by unfold inr; omega) (fun _ => ?_) (fun h => absurd h (by omega))
    refine lv_iload_n B.1 B.2.1 dJx4a65c_grow_92f84_20 rfl (lv_at hl 0 rfl) ?_
    refine lv_iload_n B.1 B.2.1 dJx4a65c_grow_92f84_21 rfl (lv_at hl 2 rfl) ?_
    refine lv_iload_n B.1 B.2.1 dJx4a65c_grow_92f84_22 rfl (lv_at hl 0 rfl) ?_
    refine q_sub B dJx4a65c_grow_92f84_23 ?_
    refine lv_iload_n B.1 B.2.1 dJx4a65c_grow_92f84_24 rfl (lv_at hl 0 rfl) ?_
    refine q_con B dJx4a65c_grow_92f84_25 ?_
    refine lv_ishr B.1 B.2.1 dJx4a65c_grow_92f84_26 ?_
    rw [shr1 (by omega) (by omega)]
    refine p_calli (c_runS (n := 3) (as := [.int (II (N b)), .int (II (I a 2 + 1 - N b)), .int (II ((N b : Int) / 2))]) (rest := []) B hX hA hM hl.1 (k_J8_newLength_cabcc l D dA eA L T N I J R (N b) (by omega) (I a 2 + 1 - N b) (by omega) ((N b : Int) / 2) (by omega) (by omega) (by omega) (by omega) (by omega) (by omega) (by omega) _ _) ml_Jx4a65c_73 nm_J8_newLength_cabcc ⟨rfl, rfl⟩ ⟨Nat.le_of_ble_eq_true rfl, Nat.le_of_ble_eq_true rfl⟩ dJx4a65c_grow_92f84_27 rfl rfl (Nat.le_of_ble_eq_true rfl) ⟨Nat.zero_le _, Nat.zero_le _⟩) (fun nc inc hp => ?_)
    refine lv_istore_n (lv' := [(3, .int (II nc)), (2, .int (II (N b))), (0, .ref a), (1, .int (II (I a 2 + 1)))]) B.1 B.2.1 dJx4a65c_grow_92f84_30 rfl hl (by decide) rfl (fun ls hl => ?_)
    refine lv_aload_n B.1 B.2.1 dJx4a65c_grow_92f84_31 rfl (lv_at hl 2 rfl) ?_
    refine lv_aload_n B.1 B.2.1 dJx4a65c_grow_92f84_32 rfl (lv_at hl 2 rfl) ?_
    refine c_getn (k := 1) pk_Jx4a65c B hM t_a (kdLs h1 h2) rfl (by decide) fl_Jx4a65c_9 dJx4a65c_grow_92f84_33 e1 ?_
    refine lv_iload_n B.1 B.2.1 dJx4a65c_grow_92f84_36 rfl (lv_at hl 0 rfl) ?_
    refine g_call (rest := [.ref a]) hM hA (c_runS (n := 2) (as := [.ref b, .int (II nc)]) (rest := [.ref a]) B hX hA hM hl.1 (k_J7_copyOf_1904c l D dA eA L T N I J R b h1 h2 tb nc (by omega) (by omega) _ _) ml_Jx4a65c_66 nm_J7_copyOf_1904c ⟨rfl, rfl⟩ ⟨Nat.le_of_ble_eq_true rfl, Nat.le_of_ble_eq_true rfl⟩ dJx4a65c_grow_92f84_37 rfl rfl (Nat.le_of_ble_eq_true rfl) ⟨by show 0 + 1 ≤ 1; omega, by show 0 + nc.toNat ≤ ecap lt; omega⟩) (fun v L1 T1 N1 I1 J1 R1 dz dl H locs hq hM1 => ?_)
    obtain ⟨r, rfl, rfl, rfl, hF, tr, zr, nr, hno, hel, hz1, hz2⟩ := hq
    have ta1 : T1 a = lt := hF.tt t_a (by omega) nm0
    obtain ⟨I2, hI2⟩ : ∃ I2, I2 = w2 I1 r 1000000 (a : Int) := ⟨_, rfl⟩
    have nra : r ≠ a := tne tr ta1 (by omega)
    have hM2 : CWd D dA eA (cF dA L T N I1 J1 R s.heap.size) s.heap L1 T1 N1 I2 J1 R1 H locs := hM1.ghost tr (kdEs h1 h2) (by omega) hI2 (XI.out hM1.2.2.2.2.2.2.1 hM1.2.2.2.2.2.2.2 h1 h2 tr hno (fun b hb => w2_nb hI2 hb) (fun _ _ => rfl))
    have hF2 : Fr [lt * 32 + 1] [] T N I1 J1 R T1 N1 I2 J1 R1 := (hF.wide rfl).wi hI2 (fun h _ => absurd zr h)
    have ea1 : R1 a 1 = b + 1 := (hF.r t_a (by omega) nm0 rfl).trans e1
    refine lv_dup_x1 B.1 B.2.1 dJx4a65c_grow_92f84_40 rfl rfl ?_
    refine c_putrX (k := 1) (v := r + 1) pk_Jx4a65c B hM2 ta1 (kdLs h1 h2) rfl (by decide) fl_Jx4a65c_9 (Or.inl rfl) dJx4a65c_grow_92f84_41 rfl ⟨rfl, fun _ => rfl, rfl, fun _ => rfl⟩ ?_ (fun R' hu => XI.rowset hM2.2.2.2.2.2.2.1 hM2.2.2.2.2.2.2.2 h1 h2 ta1 tr hno ?_ ?_ (w2_at hI2) hu) (fun R2 H locs hu hM3 => ?_)
    · rw [(iRLs h1 h2).2.2.2.1]; exact Or.inr (Or.inr ⟨r, rfl, Or.inl tr⟩)
    · rw [w2_nb hI2 (Ne.symm nra)]; omega
    · intro i hi
      rw [w2_nb hI2 (Ne.symm nra)] at hi
      rw [ea1, Nat.add_sub_cancel, hel i (by omega), hF.r tb (by omega) nm0 rfl]
    refine g_aret (v := r + 1) B (Or.inr ⟨_, rfl⟩) hM3 dJx4a65c_grow_92f84_44 ⟨by show 0 + dz ≤ 1; omega, by show 0 + dl ≤ ecap lt; omega⟩ rfl ?_
    refine ⟨r, rfl, rfl, hF2.wr hu (fun _ _ => ?_), tr, w2_at hu, w2_at hI2, fun i hi => ?_, by omega, by omega, by omega, ?_⟩
    · rw [t_a, cdL (by omega)]; simp
    · rw [w2_nb hu nra, hel i (by omega), e1, Nat.add_sub_cancel]
    · rw [e1, Nat.add_sub_cancel]; omega
  · -- there is no row yet
    have hb : b = eA := (hM.2.2.2.2.1 b).mp tb
    subst hb
    have hnb := n_one hC0 tb
    refine c_tlen B hX hM dJx4a65c_grow_92f84_4 ?_
    refine lv_istore_n (lv' := [(2, .int (II 0)), (0, .ref a), (1, .int (II (I a 2 + 1)))]) B.1 B.2.1 dJx4a65c_grow_92f84_5 rfl hl (by decide) rfl (fun ls hl => ?_)
    refine lv_iload_n B.1 B.2.1 dJx4a65c_grow_92f84_6 rfl (lv_at hl 0 rfl) ?_
    refine q_igt (tgt := 20) B dJx4a65c_grow_92f84_7 (by decide) (by unfold inr; omega) (fun h => absurd h (by omega)) (fun _ => ?_)
    refine lv_aload_n B.1 B.2.1 dJx4a65c_grow_92f84_10 rfl (lv_at hl 1 rfl) ?_
    refine c_getn (k := 1) pk_Jx4a65c B hM t_a (kdLs h1 h2) rfl (by decide) fl_Jx4a65c_9 dJx4a65c_grow_92f84_11 e1 ?_
    refine c_gsE B hX hM fl_Jx4a65c_39 dJx4a65c_grow_92f84_14 ?_
    refine lv_acmp_eq (rx := some b) (ry := some b) (tgt := 45) B.1 B.2.1 dJx4a65c_grow_92f84_17 (by decide) (fun _ => ?_) (fun h => absurd rfl h)
    refine lv_aload_n B.1 B.2.1 dJx4a65c_grow_92f84_45 rfl (lv_at hl 1 rfl) ?_
    refine q_bip B dJx4a65c_grow_92f84_46 (by decide) ?_
    refine lv_iload_n B.1 B.2.1 dJx4a65c_grow_92f84_48 rfl (lv_at hl 2 rfl) ?_
    refine c_mmax B ml_Jx4a65c_79 hl.1 (by unfold inr; omega) (by unfold inr; omega) (Nat.le_of_ble_eq_true rfl) (Nat.le_of_ble_eq_true rfl) (Nat.zero_le _) (Nat.zero_le _) dJx4a65c_grow_92f84_49 (fun z oz lz uz => ?_)
    have hz10 : z = ((10 : Nat) : Int) := by omega
    refine c_newO (t := lt + 35) (n' := 10) B hX hA hM (kdEs h1 h2) ⟨by omega, ls_dec (P := fun t => xT (t + 35) = false) h1 h2 (by decide), ls_dec (P := fun t => (iR (t + 35) 0).1 ≤ 0 ∧ 0 ≤ (iR (t + 35) 0).2) h1 h2 (by decide), by rw [rFEs h1 h2]; exact Nat.le_refl 1⟩ cl_Jx4a65c_7 hz10 (by omega) (by rw [nREs h1 h2]; show 10 ≤ 10 ∧ 10 ≤ ecap lt; omega) (by show 0 + 1 ≤ 1; omega) (by show 0 + 10 ≤ ecap lt; omega) dJx4a65c_grow_92f84_52 (fun r L1 T1 N1 H hq hT1 hN1 hM1 => ?_)
    have tr : T1 r = lt + 35 := by rw [hT1, va_up_self]
    have nr : N1 r = 10 := by rw [hN1, va_up_self]
    have hF : Fr [lt * 32 + 1] [] T N I J R T1 N1 I J R := Fr.new Fr.rf hq hT1 hN1
    have ta1 : T1 a = lt := hF.tt t_a (by omega) nm0
    have hnol : NoL T1 R r := by
      intro a q1 q2 e
      have hne : a ≠ r := fun z => by rw [z, tr] at q1 q2; omega
      rw [hT1, va_up_ne _ _ hne] at q1 q2
      exact NoL.fresh hC0 hq a q1 q2 e
    have nra : r ≠ a := tne tr ta1 (by omega)
    obtain ⟨I2, hI2⟩ : ∃ I2, I2 = w2 I r 1000000 (a : Int) := ⟨_, rfl⟩
    have hM2 : CWd D dA b (cF dA L T N I J R s.heap.size) s.heap L1 T1 N1 I2 J R H [] := hM1.ghost tr (kdEs h1 h2) (by omega) hI2 (XI.out hM1.2.2.2.2.2.2.1 hM1.2.2.2.2.2.2.2 h1 h2 tr hnol (fun b hb => w2_nb hI2 hb) (fun _ _ => rfl))
    have hF2 : Fr [lt * 32 + 1] [] T N I J R T1 N1 I2 J R := hF.wi hI2 (fun h _ => absurd hq h)
    refine lv_dup_x1 B.1 B.2.1 dJx4a65c_grow_92f84_55 rfl rfl ?_
    refine c_putrX (k := 1) (v := r + 1) pk_Jx4a65c B hM2 ta1 (kdLs h1 h2) rfl (by decide) fl_Jx4a65c_9 (Or.inl rfl) dJx4a65c_grow_92f84_56 rfl ⟨rfl, fun _ => rfl, rfl, fun _ => rfl⟩ ?_ (fun R' hu => XI.rowset hM2.2.2.2.2.2.2.1 hM2.2.2.2.2.2.2.2 h1 h2 ta1 tr hnol ?_ ?_ (w2_at hI2) hu) (fun R2 H locs hu hM3 => ?_)
    · rw [(iRLs h1 h2).2.2.2.1]; exact Or.inr (Or.inr ⟨r, rfl, Or.inl tr⟩)
    · rw [w2_nb hI2 (Ne.symm nra)]; omega
    · intro i hi
      rw [w2_nb hI2 (Ne.symm nra)] at hi
      omega
    refine g_aret (v := r + 1) B (Or.inr ⟨_, rfl⟩) hM3 dJx4a65c_grow_92f84_59 ⟨by show 0 + 1 ≤ 1; omega, by show 0 + 10 ≤ ecap lt; omega⟩ rfl ?_
    refine ⟨r, rfl, rfl, hF2.wr hu (fun _ _ => ?_), tr, w2_at hu, w2_at hI2, fun i hi => ?_, by omega, by omega, by omega, ?_⟩
    · rw [t_a, cdL (by omega)]; simp
    · omega
    · rw [e1, Nat.add_sub_cancel]; omega
