set_option maxRecDepth 20000 in
theorem k_Jx4a65c_grow_d5877 (l : Launch) (D : va_G) (dA : Nat → ClassId) (eA : Nat) (L : List Nat) (T N : Nat → Nat) (I : Nat → Nat → Int) (J : Nat → Nat → Int64) (R : Nat → Nat → Nat) (a : Nat) {lt : Nat} (h1 : 15 ≤ lt) (h2 : lt ≤ 23) (t_a : T a = lt) (p_1 : I a 2 < mx lt) (p_2 : I a 2 = N (R a 1 - 1)) : GC l yJx4a65c_grow_d5877 cJx4a65c_grow_d5877 1 (some (.array (.object "java/lang/Object"))) ({ frames := 4, cells := 1, slots := ecap lt, locals := 160 }) D dA eA L T N I J R [.ref a] 1 (ecap lt) (growP lt T N I J R a) := by
  refine g_enter (own := RJx4a65c) (by decide) rfl (Nat.le_of_ble_eq_true rfl) (fun p e s m args below meth c ls hmn B hX hM hl => ?_)
  have hA : ∀ q, s.heap.size ≤ q → cF dA L T N I J R s.heap.size q := fun q h => Or.inr h
  have hl : lv_has ls 1 [(0, .ref a)] := hl
  refine lv_aload_n B.1 B.2.1 dJx4a65c_grow_d5877_0 rfl (lv_at hl 0 rfl) ?_
  refine lv_aload_n B.1 B.2.1 dJx4a65c_grow_d5877_1 rfl (lv_at hl 0 rfl) ?_
  refine c_geti (k := 2) pk_Jx4a65c B hM t_a (kdLs h1 h2) rfl (by decide) fl_Jx4a65c_48 dJx4a65c_grow_d5877_2 rfl ?_
  refine q_con B dJx4a65c_grow_d5877_5 ?_
  refine q_add B dJx4a65c_grow_d5877_6 ?_
  refine g_call (rest := []) hM hA (c_runV (n := 1) (as := [.int (II (I a 2 + 1))]) (rest := []) B hX hA hM hl.1 t_a (kdLs h1 h2) rfl (k_Jx4a65c_grow_92f84 l D dA eA L T N I J R a h1 h2 t_a p_1 p_2 _ _) ml_Jx4a65c_69 nm_Jx4a65c_grow_92f84 ⟨rfl, rfl⟩ ⟨Nat.le_of_ble_eq_true rfl, Nat.le_of_ble_eq_true rfl⟩ dJx4a65c_grow_d5877_7 rfl rfl (Nat.le_of_ble_eq_true rfl) ⟨by show 0 + 1 ≤ 1; omega, by show 0 + ecap lt ≤ ecap lt; omega⟩) (fun v L1 T1 N1 I1 J1 R1 dz dl H locs hq hM1 => ?_)
  obtain ⟨r, rfl, hq⟩ := hq
  have hd1 := hq.2.2.2.2.2.2.2.1
  have hd2 := hq.2.2.2.2.2.2.2.2.1
  refine g_aret (v := r + 1) B (Or.inr ⟨_, rfl⟩) hM1 dJx4a65c_grow_d5877_10 ⟨by show 0 + dz ≤ 1; omega, by show 0 + dl ≤ ecap lt; omega⟩ rfl ?_
  rw [Nat.zero_add, Nat.zero_add]
  exact ⟨r, rfl, hq⟩
/-- what an add leaves -/
def addP (lt : Nat) (T N : Nat → Nat) (I : Nat → Nat → Int) (J : Nat → Nat → Int64) (R : Nat → Nat → Nat) (a x : Nat) (T' N' : Nat → Nat) (I' : Nat → Nat → Int) (J' : Nat → Nat → Int64) (R' : Nat → Nat → Nat) (dz dl : Nat) : Prop := J' = J ∧ Fr (moL lt) [] T N I J R T' N' I' J' R' ∧ I' a 2 = I a 2 + 1 ∧ R' (R' a 1 - 1) (I a 2).toNat = x + 1 ∧ (∀ i : Nat, (i : Int) < I a 2 → R' (R' a 1 - 1) i = R (R a 1 - 1) i) ∧ (∀ b, T b = lt → b ≠ a → I' b 2 = I b 2) ∧ dz ≤ 1 ∧ dl ≤ ecap lt ∧ dl + 3 * N (R a 1 - 1) ≤ 3 * N' (R' a 1 - 1) + 2
theorem Fr.self {m ex : List Nat} {T N : Nat → Nat} {I I2 : Nat → Nat → Int} {J : Nat → Nat → Int64} {R : Nat → Nat → Nat} (h : I2 = I) : Fr m ex T N I J R T N I2 J R := by rw [h]; exact Fr.rf
set_option maxRecDepth 20000 in
theorem k_Jx4a65c_add_72be8 (l : Launch) (D : va_G) (dA : Nat → ClassId) (eA : Nat) (L : List Nat) (T N : Nat → Nat) (I : Nat → Nat → Int) (J : Nat → Nat → Int64) (R : Nat → Nat → Nat) (a : Nat) {lt : Nat} (h1 : 15 ≤ lt) (h2 : lt ≤ 23) (t_a : T a = lt) (x : Nat) (t_x : T x = el lt) (b : Nat) (e1 : R a 1 = b + 1) (p_1 : I a 2 < mx lt) (p_3 : lt = 18 → I x 0 ≤ I a 2) : GC l yJx4a65c_add_72be8 cJx4a65c_add_72be8 4 none ({ frames := 5, cells := 1, slots := ecap lt, locals := 190 }) D dA eA L T N I J R [.ref a, .ref x, .ref b, .int (II (I a 2))] 1 (ecap lt) (gV (fun _ T' N' I' J' R' dz dl => addP lt T N I J R a x T' N' I' J' R' dz dl)) := by
  refine g_enter (own := RJx4a65c) (by decide) rfl (Nat.le_of_ble_eq_true rfl) (fun p e s m args below meth c ls hmn B hX hM hl => ?_)
  have hA : ∀ q, s.heap.size ≤ q → cF dA L T N I J R s.heap.size q := fun q h => Or.inr h
  have hl : lv_has ls 4 [(0, .ref a), (1, .ref x), (2, .ref b), (3, .int (II (I a 2)))] := hl
  have hm := mx_le h1 h2
  have hC0 := hM.2.2.2.2.2.2.1
  have hr := gls_2 hC0 t_a h1 h2
  have hx1 := hM.2.2.2.2.2.2.2.1 a (by omega) (by omega)
  rw [e1, Nat.add_sub_cancel] at hx1
  have hele : 2 ≤ el lt ∧ el lt ≤ 14 := ls_dec (P := fun t => 2 ≤ el t ∧ el t ≤ 14) h1 h2 (by decide)
  -- the rest, with a row that has a place
  have fin : ∀ (L1 : List Nat) (T1 N1 : Nat → Nat) (I1 : Nat → Nat → Int) (R1 : Nat → Nat → Nat) (d : Nat) (zc zs : Nat) (H : Heap) (locs : List Loc) (ls : Array Slot), CWd D dA eA (cF dA L T N I J R s.heap.size) s.heap L1 T1 N1 I1 J R1 H locs → Fr [lt * 32 + 1] [] T N I J R T1 N1 I1 J R1 → T1 d = lt + 35 → R1 a 1 = d + 1 → I a 2 + 1 ≤ N1 d → (∀ i : Nat, (i : Int) < I a 2 → R1 d i = R b i) → lv_has ls 4 [(2, .ref d), (0, .ref a), (1, .ref x), (3, .int (II (I a 2)))] → zc ≤ 1 → zs ≤ ecap lt → zs + 3 * N b ≤ 3 * N1 d + 2 → W p l e ({ frames := 5, cells := 1, slots := ecap lt, locals := 190 }) s m args below meth c H locs zc zs (MQ below (gQ D dA eA (cF dA L T N I J R s.heap.size) s.heap.size (hs s.heap) (gV (fun _ T' N' I' J' R' dz dl => addP lt T N I J R a x T' N' I' J' R' dz dl))) args s 1 (ecap lt) (cF dA L T N I J R s.heap.size)) (F0 m 11 ls []) := by
    intro L1 T1 N1 I1 R1 d zc zs H locs ls hM1 hF td ed hn hel hl hzc hzs hz3
    have ta1 : T1 a = lt := hF.tt t_a (by omega) nm0
    have tx1 : T1 x = el lt := hF.tt t_x (by omega) nm0
    have ia1 : I1 a 2 = I a 2 := hF.i t_a (by omega) nm0 (by rw [cdL (by omega)]; simp)
    refine lv_aload_n B.1 B.2.1 dJx4a65c_add_72be8_11 rfl (lv_at hl 0 rfl) ?_
    refine lv_iload_n B.1 B.2.1 dJx4a65c_add_72be8_12 rfl (lv_at hl 3 rfl) ?_
    refine lv_aload_n B.1 B.2.1 dJx4a65c_add_72be8_13 rfl (lv_at hl 2 rfl) ?_
    refine c_astO B hX hM1 h1 h2 td tx1 dJx4a65c_add_72be8_14 hr.1 (by omega) (fun R' hu => XI.elem hM1.2.2.2.2.2.2.1 hM1.2.2.2.2.2.2.2 h1 h2 ta1 ed td (by rw [ia1]; omega) hu) (fun R2 H locs hu hM2 => ?_)
    have nda : d ≠ a := tne td ta1 (by omega)
    have ed2 : R2 a 1 = d + 1 := by rw [w2_nb hu (Ne.symm nda)]; exact ed
    refine lv_aload_n B.1 B.2.1 dJx4a65c_add_72be8_15 rfl (lv_at hl 1 rfl) ?_
    refine lv_iload_n B.1 B.2.1 dJx4a65c_add_72be8_16 rfl (lv_at hl 3 rfl) ?_
    refine q_con B dJx4a65c_add_72be8_17 ?_
    refine q_add B dJx4a65c_add_72be8_18 ?_
    have hx2 := hM2.2.2.2.2.2.2.2.1 a (by omega) (by omega)
    rw [ed2, Nat.add_sub_cancel, ia1] at hx2
    have elst : R2 d (I a 2).toNat = x + 1 := w2_at hu
    refine c_putiX (k := 2) pk_Jx4a65c B hM2 ta1 (kdLs h1 h2) rfl (by decide) fl_Jx4a65c_48 (Or.inl rfl) dJx4a65c_add_72be8_19 rfl rfl (by rw [(iRLs h1 h2).1]; show (0 : Int) ≤ _; omega) (by rw [(iRLs h1 h2).1]; show _ ≤ mx lt; omega) (fun I' hI => XI.size hM2.2.2.2.2.2.2.1 hM2.2.2.2.2.2.2.2 h1 h2 ta1 ed2 (by omega) ?_ (fun _ => by rw [ia1]; omega) ?_ hI) (fun I2 H locs hI hM3 => ?_)
    · intro i hi
      by_cases e : (i : Int) < I a 2
      · exact hx2.2.1 i e
      · have : i = (I a 2).toNat := by omega
        rw [this, elst]; omega
    · intro h18 i hi
      by_cases e : (i : Int) < I a 2
      · have h4 := hM2.2.2.2.2.2.2.2.2.2.2.1 a (by omega) i (by rw [ia1]; exact e)
        rw [ed2, Nat.add_sub_cancel] at h4
        exact h4
      · have hi2 : i = (I a 2).toNat := by omega
        rw [hi2, elst, Nat.add_sub_cancel]
        have h3 := p_3 h18
        have ix : I1 x 0 = I x 0 := hF.i t_x (by omega) nm0 (by rw [cdL (by omega)]; subst h18; decide)
        rw [ix]; omega
    refine g_vret B hM3 dJx4a65c_add_72be8_22 ⟨hzc, hzs⟩ ⟨rfl, rfl, ?_, w2_at hI, ?_, ?_, ?_, hzc, hzs, ?_⟩
    · have hFw : Fr (moL lt) [] T N I J R T1 N1 I1 J R1 := hF.wide (by simp [moL])
      refine (hFw.wr hu (Fr_c hFw td ?_)).wi hI (fun _ _ => ?_)
      · unfold moL; rw [cd_arr (j := 0) (by omega)]; unfold cd; rw [Nat.ble_eq_true_of_le (by omega)]; simp
      · rw [t_a, cdL (by omega)]; simp [moL]
    · rw [ed2, Nat.add_sub_cancel]; exact elst
    · intro i hi
      rw [ed2, Nat.add_sub_cancel, w2_ne hu (Or.inr (by omega)), e1, Nat.add_sub_cancel]
      exact hel i hi
    · intro b2 tb2 nb2
      rw [w2_nb hI nb2]
      exact hF.i tb2 (by omega) nm0 (by rw [cdL (by omega)]; simp)
    · rw [ed2, Nat.add_sub_cancel, e1, Nat.add_sub_cancel]; omega
  obtain ⟨b', e1', tb⟩ := gls_1 hC0 t_a h1 h2
  have hbb : b' = b := by omega
  subst hbb
  refine lv_iload_n B.1 B.2.1 dJx4a65c_add_72be8_0 rfl (lv_at hl 3 rfl) ?_
  refine lv_aload_n B.1 B.2.1 dJx4a65c_add_72be8_1 rfl (lv_at hl 2 rfl) ?_
  have grow : I a 2 = N b' → W p l e ({ frames := 5, cells := 1, slots := ecap lt, locals := 190 }) s m args below meth c s.heap [] 0 0 (MQ below (gQ D dA eA (cF dA L T N I J R s.heap.size) s.heap.size (hs s.heap) (gV (fun _ T' N' I' J' R' dz dl => addP lt T N I J R a x T' N' I' J' R' dz dl))) args s 1 (ecap lt) (cF dA L T N I J R s.heap.size)) (F0 m 6 ls []) := by
    intro hfull
    refine lv_aload_n B.1 B.2.1 dJx4a65c_add_72be8_6 rfl (lv_at hl 0 rfl) ?_
    refine g_call (rest := []) hM hA (c_runV (n := 0) (as := []) (rest := []) B hX hA hM hl.1 t_a (kdLs h1 h2) rfl (k_Jx4a65c_grow_d5877 l D dA eA L T N I J R a h1 h2 t_a p_1 (by rw [e1, Nat.add_sub_cancel]; exact hfull) _ _) ml_Jx4a65c_129 nm_Jx4a65c_grow_d5877 ⟨rfl, rfl⟩ ⟨Nat.le_of_ble_eq_true rfl, Nat.le_of_ble_eq_true rfl⟩ dJx4a65c_add_72be8_7 rfl rfl (Nat.le_of_ble_eq_true rfl) ⟨by show 0 + 1 ≤ 1; omega, by show 0 + ecap lt ≤ ecap lt; omega⟩) (fun v L1 T1 N1 I1 J1 R1 dz dl H locs hq hM1 => ?_)
    obtain ⟨r, rfl, rfl, hF, tr, er, -, hel, hn, hd1, hd2, hd3⟩ := hq
    rw [e1, Nat.add_sub_cancel] at hel hd3
    refine lv_astore_n (lv' := [(2, .ref r), (0, .ref a), (1, .ref x), (3, .int (II (I a 2)))]) B.1 B.2.1 dJx4a65c_add_72be8_10 rfl hl (by decide) rfl (fun ls hl => ?_)
    exact fin L1 T1 N1 I1 R1 r (0 + dz) (0 + dl) H locs ls hM1 hF tr er hn hel hl (by omega) (by omega) (by omega)
  rcases tb with tb | tb
  · have hnb : 10 ≤ N b' ∧ N b' ≤ ecap lt := by have := hC0.n tb (by omega); rw [nREs h1 h2] at this; exact this
    refine c_len B hM tb (kdEs h1 h2) (by decide) dJx4a65c_add_72be8_2 rfl ?_
    refine q_cne (tgt := 11) B dJx4a65c_add_72be8_3 (by decide) (by unfold inr; omega) (by unfold inr; omega) (fun hne => ?_) (fun he => grow he)
    exact fin L T N I R b' 0 0 s.heap [] ls hM Fr.rf tb e1 (by omega) (fun i hi => rfl) (lv_sub hl [2, 0, 1, 3] rfl) (by omega) (by omega) (by omega)
  · have hb : b' = eA := (hM.2.2.2.2.1 b').mp tb
    have hnb := n_one hC0 tb
    rw [hb]
    refine c_tlen B hX hM dJx4a65c_add_72be8_2 ?_
    refine q_cne (tgt := 11) B dJx4a65c_add_72be8_3 (by decide) (by unfold inr; omega) (by unfold inr; omega) (fun hne => absurd hne (by omega)) (fun he => grow (by omega))
