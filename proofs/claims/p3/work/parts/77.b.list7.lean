section CMC
variable {p : Program} {l : Launch} {e : Env} {Rm : Room} {s : State} {m : MethodId} {args : Array Value} {below : List Frame} {meth : Method} {c : Code} {H : Heap} {locs : List Loc} {cells slots : Nat} {Q : State → Prop}
variable {cc : ByteArray} {pc : Nat} {ls : Array Slot} {rest : List Value}
variable {D : va_G} {dA : Nat → ClassId} {nL : Nat} {ret : Option FieldType} {eA : Nat} {A0 : Nat → Prop} {H0 : Heap} {L : List Nat} {T N : Nat → Nat} {I : Nat → Nat → Int} {J : Nat → Nat → Int64} {R : Nat → Nat → Nat} {a lt : Nat}
theorem c_getM (B : Cx D dA p s m args meth c cc RJx4a65c nL ret) (hM : CWd D dA eA A0 H0 L T N I J R H locs) (h1 : 15 ≤ lt) (h2 : lt ≤ 23) (hT : T a = lt) (hdg : decode cc pc = .ok (.getfield 63, 3)) (kk : W p l e Rm s m args below meth c H locs cells slots Q (F0 m (pc + 3) ls (.int (II (I a 0)) :: rest))) : W p l e Rm s m args below meth c H locs cells slots Q (F0 m pc ls (.ref a :: rest)) := by
  obtain ⟨i, hi⟩ := hM.ix hT (kd_ok (kdLs h1 h2) (by omega))
  rw [cE_o hT (kdLs h1 h2)] at hi
  exact va_get (D := D) (ci := 1) (C := RJx4a65c) (T := TJx4a65c) (N := 3) B.1 B.2.1 B.2.2.2.2.1 pk_Jx4a65c.2.1 B.2.2.2.1 B.2.2.2.2.2.1 hM.1 i hi rfl 0 (by decide) (B.2.2.2.2.1 _ fl_Jx4a65c_63) (fun x h => u_same (B.2.2.2.2.1 _ smf) x h) (fl_get rfl) hdg kk
theorem c_putM (B : Cx D dA p s m args meth c cc RJx4a65c nL ret) (hM : CWd D dA eA A0 H0 L T N I J R H locs) (h1 : 15 ≤ lt) (h2 : lt ≤ 23) (hT : T a = lt) (hdg : decode cc pc = .ok (.putfield 63, 3)) {x : Int32} (kk : ∀ (v : Int) (I' : Nat → Nat → Int) (H : Heap) (locs : List Loc), I' = w2 I a 0 v → CWd D dA eA A0 H0 L T N I' J R H locs → W p l e Rm s m args below meth c H locs cells slots Q (F0 m (pc + 3) ls rest)) : W p l e Rm s m args below meth c H locs cells slots Q (F0 m pc ls (.int x :: .ref a :: rest)) := by
  refine q_any (fun v hv _ => ?_)
  have hk := kdLs h1 h2
  obtain ⟨i, hi⟩ := hM.ix hT (kd_ok hk (by omega))
  have hi' := hi
  rw [cE_o hT hk] at hi
  have ha : a ∈ L := (hM.2.2.2.1 a).mpr (by rw [hT]; exact kd_ok hk (by omega))
  have hq := iRLs h1 h2
  have hw : WF eA L T N (w2 I a 0 v) J R := hM.2.2.2.wi (by rw [hT]; omega) rfl (fun _ => by rw [hT, hq.2.1]; exact hv) (hM.2.2.2.2.2.2.2.wi hM.2.2.2.2.2.2.1 rfl (by rw [hT]; exact hq.2.2.2.2))
  exact va_put (D := D) (ci := 1) (v := .int (II v)) (ty := .int) (C := RJx4a65c) (T := TJx4a65c) (N := 3) B.1 B.2.1 B.2.2.2.2.1 pk_Jx4a65c.2.1 tyJx4a65c tyJx4a65c_ok nmJx4a65c B.2.2.2.1 B.2.2.2.2.2.1 hM.1 hM.2.1 hM.2.2.1 i hi rfl 0 (by decide) (B.2.2.2.2.1 _ fl_Jx4a65c_63) (fun x h => u_same (B.2.2.2.2.1 _ smf) x h) rfl (tyJx4a65c_ok 0 (by decide)) rfl rfl (by rw [fl_len]; decide) hdg (fun H1 locs1 g1 g2 g3 => kk v _ H1 locs1 rfl (hM.set hi' ha (by rw [cE_o hT hk, fl_seti rfl, w2_row rfl]) (fun b hb => by unfold cE; rw [w2_nb rfl hb]) g1 g2 g3 hw))
end CMC
set_option maxRecDepth 20000 in
theorem k_Jx4a65c_add_9ea2d (l : Launch) (D : va_G) (dA : Nat → ClassId) (eA : Nat) (L : List Nat) (T N : Nat → Nat) (I : Nat → Nat → Int) (J : Nat → Nat → Int64) (R : Nat → Nat → Nat) (a : Nat) {lt : Nat} (t_a : T a = lt) (x : Nat) (t_x : T x = el lt) (h1 : 15 ≤ lt) (h2 : lt ≤ 23) (p_1 : I a 2 < mx lt) (p_3 : lt = 18 → I x 0 ≤ I a 2) : GC l yJx4a65c_add_9ea2d cJx4a65c_add_9ea2d 2 (some .boolean) ({ frames := 6, cells := 1, slots := ecap lt, locals := 220 }) D dA eA L T N I J R [.ref a, .ref x] 1 (ecap lt) (gI (fun r _ T' N' I' J' R' dz dl => J' = J ∧ Fr (moL lt) [] T N I J R T' N' I' J' R' ∧ (0 : Int) ≤ r ∧ r ≤ 1 ∧ (I' a 2 = I a 2 + 1 ∧ R' (R' a 1 - 1) (I a 2).toNat = x + 1 ∧ (∀ i : Nat, (i : Int) < I a 2 → R' (R' a 1 - 1) i = R (R a 1 - 1) i) ∧ (∀ b, T b = lt → b ≠ a → I' b 2 = I b 2) ∧ dz ≤ 1 ∧ dl ≤ ecap lt ∧ dl + 3 * N (R a 1 - 1) ≤ 3 * N' (R' a 1 - 1) + 2))) := by
  refine g_enter (own := RJx4a65c) (by decide) rfl (Nat.le_of_ble_eq_true rfl) (fun p e s m args below meth c ls hmn B hX hM hl => ?_)
  have hA : ∀ q, s.heap.size ≤ q → cF dA L T N I J R s.heap.size q := fun q h => Or.inr h
  have hl : lv_has ls 2 [(0, .ref a), (1, .ref x)] := hl
  obtain ⟨b, e1, tb⟩ := gls_1 hM.2.2.2.2.2.2.1 t_a h1 h2
  refine lv_aload_n B.1 B.2.1 dJx4a65c_add_9ea2d_0 rfl (lv_at hl 0 rfl) ?_
  refine lv_dup B.1 B.2.1 dJx4a65c_add_9ea2d_1 rfl ?_
  refine c_getM B hM h1 h2 t_a dJx4a65c_add_9ea2d_2 ?_
  refine q_con B dJx4a65c_add_9ea2d_5 ?_
  refine q_add B dJx4a65c_add_9ea2d_6 ?_
  refine c_putM B hM h1 h2 t_a dJx4a65c_add_9ea2d_7 (fun v I1 H locs hI hM1 => ?_)
  have i2 : ∀ b, I1 b 2 = I b 2 := fun b => w2_ne hI (Or.inr (by decide))
  have hF : Fr (moL lt) [] T N I J R T N I1 J R := Fr.rf.wi hI (fun _ _ => by rw [t_a, cdL (by omega)]; simp [moL])
  have hele : el lt ≠ lt := ls_dec (P := fun t => el t ≠ t) h1 h2 (by decide)
  refine lv_aload_n B.1 B.2.1 dJx4a65c_add_9ea2d_10 rfl (lv_at hl 0 rfl) ?_
  refine lv_aload_n B.1 B.2.1 dJx4a65c_add_9ea2d_11 rfl (lv_at hl 1 rfl) ?_
  refine lv_aload_n B.1 B.2.1 dJx4a65c_add_9ea2d_12 rfl (lv_at hl 0 rfl) ?_
  refine c_getn (k := 1) pk_Jx4a65c B hM1 t_a (kdLs h1 h2) rfl (by decide) fl_Jx4a65c_9 dJx4a65c_add_9ea2d_13 e1 ?_
  refine lv_aload_n B.1 B.2.1 dJx4a65c_add_9ea2d_16 rfl (lv_at hl 0 rfl) ?_
  refine c_geti (k := 2) pk_Jx4a65c B hM1 t_a (kdLs h1 h2) rfl (by decide) fl_Jx4a65c_48 dJx4a65c_add_9ea2d_17 rfl ?_
  refine g_callv (rest := []) hM1 hA (c_runV (n := 3) (as := [.ref x, .ref b, .int (II (I1 a 2))]) (rest := []) B hX hA hM1 hl.1 t_a (kdLs h1 h2) rfl (k_Jx4a65c_add_72be8 l D dA eA L T N I1 J R a h1 h2 t_a x t_x b e1 (by rw [i2]; exact p_1) (fun h => by rw [i2, w2_nb hI (tne t_x t_a hele)]; exact p_3 h) _ _) ml_Jx4a65c_131 nm_Jx4a65c_add_72be8 ⟨rfl, rfl⟩ ⟨Nat.le_of_ble_eq_true rfl, Nat.le_of_ble_eq_true rfl⟩ dJx4a65c_add_9ea2d_20 rfl rfl (Nat.le_of_ble_eq_true rfl) ⟨by show 0 + 1 ≤ 1; omega, by show 0 + ecap lt ≤ ecap lt; omega⟩) (fun L2 T2 N2 I2 J2 R2 dz dl H locs hq hM2 => ?_)
  obtain ⟨rfl, hF2, q1, q2, q3, q4, q5, q6, q7⟩ := hq
  rw [i2] at q1 q2 q3
  refine q_con B dJx4a65c_add_9ea2d_23 ?_
  refine g_zret B hM2 dJx4a65c_add_9ea2d_24 ⟨by show 0 + dz ≤ 1; omega, by show 0 + dl ≤ ecap lt; omega⟩ (by omega) (by omega) ⟨1, rfl, by omega, rfl, hF.trans hF2 (by simp) e20, by omega, by omega, q1, q2, q3, fun b tb nb => (q4 b tb nb).trans (i2 b), by omega, by omega, by omega⟩
set_option maxRecDepth 20000 in
theorem k_Jxa1e45_init_da8c8 (l : Launch) (D : va_G) (dA : Nat → ClassId) (eA : Nat) (L : List Nat) (T N : Nat → Nat) (I : Nat → Nat → Int) (J : Nat → Nat → Int64) (R : Nat → Nat → Nat) (a : Nat) : PC l yJxa1e45_init_da8c8 cJxa1e45_init_da8c8 1 none ({ frames := 1, cells := 0, slots := 0, locals := 30 }) D dA eA L T N I J R [.ref a] (rV True) := by
  refine p_enter (own := RJxa1e45) (by decide) rfl (Nat.le_of_ble_eq_true rfl) (fun p e s m args below meth c ls B hX hM hl => ?_)
  have hl : lv_has ls 1 [(0, .ref a)] := hl
  refine lv_aload_n B.1 B.2.1 dJxa1e45_init_da8c8_0 rfl (lv_at hl 0 rfl) ?_
  refine c_obj B ol_Jxa1e45_1 hl.1 (Nat.le_of_ble_eq_true rfl) (Nat.le_of_ble_eq_true rfl) dJxa1e45_init_da8c8_1 ?_
  exact p_vret B dJxa1e45_init_da8c8_4 ⟨rfl, trivial⟩
set_option maxRecDepth 20000 in
theorem k_Jxc12de_init_da8c8 (l : Launch) (D : va_G) (dA : Nat → ClassId) (eA : Nat) (L : List Nat) (T N : Nat → Nat) (I : Nat → Nat → Int) (J : Nat → Nat → Int64) (R : Nat → Nat → Nat) (a : Nat) (t_a : T a = 43) : GC l yJxc12de_init_da8c8 cJxc12de_init_da8c8 1 none ({ frames := 2, cells := 0, slots := 0, locals := 60 }) D dA eA L T N I J R [.ref a] 0 0 (gV (fun L' T' N' I' J' R' _ _ => L' = L ∧ T' = T ∧ N' = N ∧ J' = J ∧ R' = R ∧ I' = w2 I a 0 0)) := by
  refine g_enter (own := RJxc12de) (by decide) rfl (Nat.le_of_ble_eq_true rfl) (fun p e s m args below meth c ls hmn B hX hM hl => ?_)
  have hA : ∀ q, s.heap.size ≤ q → cF dA L T N I J R s.heap.size q := fun q h => Or.inr h
  have hl : lv_has ls 1 [(0, .ref a)] := hl
  refine lv_aload_n B.1 B.2.1 dJxc12de_init_da8c8_0 rfl (lv_at hl 0 rfl) ?_
  refine p_callv (c_runI (n := 0) (as := []) (rest := []) B hX hA hM hl.1 (k_Jxa1e45_init_da8c8 l D dA eA L T N I J R a _ _) ml_Jxc12de_1 nm_Jxa1e45_init_da8c8 ⟨rfl, rfl⟩ ⟨Nat.le_of_ble_eq_true rfl, Nat.le_of_ble_eq_true rfl⟩ dJxc12de_init_da8c8_1 rfl rfl (Nat.le_of_ble_eq_true rfl) ⟨Nat.zero_le _, Nat.zero_le _⟩) (fun _ => ?_)
  refine lv_aload_n B.1 B.2.1 dJxc12de_init_da8c8_4 rfl (lv_at hl 0 rfl) ?_
  refine q_con B dJxc12de_init_da8c8_5 ?_
  refine c_puti (k := 0) pk_Jx4a65c B hM t_a kd43 rfl (by decide) fl_Jxc12de_7 (Or.inl rfl) dJxc12de_init_da8c8_6 rfl rfl rfl (by decide) (by decide) (fun I1 H locs hI hM1 => ?_)
  exact g_vret B hM1 dJxc12de_init_da8c8_9 ⟨Nat.le_refl _, Nat.le_refl _⟩ ⟨rfl, rfl, rfl, rfl, rfl, rfl, hI⟩
section LT
variable {T N T' : Nat → Nat} {I : Nat → Nat → Int} {J : Nat → Nat → Int64} {R : Nat → Nat → Nat} {a lt : Nat}
/-- a raw cell's tag counts nowhere -/
theorem XI.tag0 {t t0 : Nat} (hC : CT T N I R) (h : XI T N I R) (hq : T a = t0) (h0 : 30 ≤ t0 ∧ t0 ≤ 43) (hT : T' = va_up T a t) (x1' : 15 ≤ t → t ≤ 23 → I a 2 ≤ N (R a 1 - 1) ∧ (∀ i : Nat, (i : Int) < I a 2 → R (R a 1 - 1) i ≠ 0) ∧ (T' (R a 1 - 1) ≠ 1 → I (R a 1 - 1) 1000000 = a))
    (x2' : t = 12 → N (R a 3 - 1) = N (R a 2 - 1) ∧ N (R a 4 - 1) = N (R a 2 - 1) ∧ N (R a 5 - 1) = N (R a 2 - 1) ∧ (N (R a 2 - 1) : Int) ≤ I (R (R a 0 - 1) 3 - 1) 2) (x3' : t = 11 → (N (R a 2 - 1) : Int) ≤ I a 0 + 1) (x4' : t = 18 → ∀ i : Nat, (i : Int) < I a 2 → I (R (R a 1 - 1) i - 1) 0 ≤ i) (x5' : t = 6 → ∀ i : Nat, (i : Int) < I a 5 → R (R a 4 - 1) i ≠ 0) : XI T' N I R := by
  obtain ⟨x1, x2, x3, x4, x5⟩ := h
  have hself : T' a = t := by rw [hT, va_up_self]
  have hne : ∀ c, c ≠ a → T' c = T c := fun c hc => by rw [hT, va_up_ne _ _ hc]
  refine ⟨fun c q1 q2 => ?_, fun c q1 => ?_, fun c q1 => ?_, fun c q1 i hi => ?_, fun c q1 i hi => ?_⟩
  · by_cases e : c = a
    · subst e; rw [hself] at q1 q2; exact x1' q1 q2
    · rw [hne c e] at q1 q2
      have g := x1 c q1 q2
      obtain ⟨b, e1, tb⟩ := hC.ed q1 q2
      rw [e1, Nat.add_sub_cancel] at g ⊢
      have nb : b ≠ a := fun z => by rw [z, hq] at tb; rcases tb with tb | tb <;> omega
      rw [hne b nb]
      exact g
  · by_cases e : c = a
    · subst e; rw [hself] at q1; exact x2' q1
    · rw [hne c e] at q1; exact x2 c q1
  · by_cases e : c = a
    · subst e; rw [hself] at q1; exact x3' q1
    · rw [hne c e] at q1; exact x3 c q1
  · by_cases e : c = a
    · subst e; rw [hself] at q1; exact x4' q1 i hi
    · rw [hne c e] at q1; exact x4 c q1 i hi
  · by_cases e : c = a
    · subst e; rw [hself] at q1; exact x5' q1 i hi
    · rw [hne c e] at q1; exact x5 c q1 i hi
end LT
set_option maxRecDepth 20000 in
theorem k_Jx4a65c_init_da8c8 (l : Launch) (D : va_G) (dA : Nat → ClassId) (eA : Nat) (L : List Nat) (T N : Nat → Nat) (I : Nat → Nat → Int) (J : Nat → Nat → Int64) (R : Nat → Nat → Nat) (a : Nat) (t_a : T a = 43) (z_a : ∀ k, I a k = 0 ∧ J a k = 0 ∧ R a k = 0) (lt : Nat) (h1 : 15 ≤ lt) (h2 : lt ≤ 23) : GC l yJx4a65c_init_da8c8 cJx4a65c_init_da8c8 1 none ({ frames := 3, cells := 0, slots := 0, locals := 90 }) D dA eA L T N I J R [.ref a] 0 0 (gV (fun _ T' N' I' J' R' _ _ => J' = J ∧ Fr [] [a] T N I J R T' N' I' J' R' ∧ T' a = lt ∧ (I' a 2 = 0 ∧ N' (R' a 1 - 1) = 0))) := by
  refine g_enter (own := RJx4a65c) (by decide) rfl (Nat.le_of_ble_eq_true rfl) (fun p e s m args below meth c ls hmn B hX hM hl => ?_)
  have hA : ∀ q, s.heap.size ≤ q → cF dA L T N I J R s.heap.size q := fun q h => Or.inr h
  have hl : lv_has ls 1 [(0, .ref a)] := hl
  have hC0 := hM.2.2.2.2.2.2.1
  have te : T eA = 1 := (hM.2.2.2.2.1 eA).mpr rfl
  have ne0 := n_one hC0 te
  have nea : eA ≠ a := tne te t_a (by decide)
  refine lv_aload_n B.1 B.2.1 dJx4a65c_init_da8c8_0 rfl (lv_at hl 0 rfl) ?_
  refine z_callv (rest := []) hM hA (c_runI (n := 0) (as := []) (rest := []) B hX hA hM hl.1 (k_Jxc12de_init_da8c8 l D dA eA L T N I J R a t_a _ _) ml_Jx4a65c_1 nm_Jxc12de_init_da8c8 ⟨rfl, rfl⟩ ⟨Nat.le_of_ble_eq_true rfl, Nat.le_of_ble_eq_true rfl⟩ dJx4a65c_init_da8c8_1 rfl rfl (Nat.le_of_ble_eq_true rfl) ⟨Nat.zero_le _, Nat.zero_le _⟩) (fun L1 T1 N1 I1 J1 R1 dz dl H locs hq hM1 => ?_)
  obtain ⟨rfl, rfl, rfl, rfl, rfl, hI⟩ := hq
  refine lv_aload_n B.1 B.2.1 dJx4a65c_init_da8c8_4 rfl (lv_at hl 0 rfl) ?_
  refine c_gsE B hX hM1 fl_Jx4a65c_39 dJx4a65c_init_da8c8_5 ?_
  refine c_putr (k := 1) (v := eA + 1) pk_Jx4a65c B hM1 t_a kd43 rfl (by decide) fl_Jx4a65c_9 (Or.inl rfl) dJx4a65c_init_da8c8_8 rfl rfl ⟨rfl, fun _ => rfl, rfl, fun _ => rfl⟩ (Or.inl rfl) (fun R2 H locs hR hM2 => ?_)
  have i2 : I1 a 2 = 0 := by rw [w2_ne hI (Or.inr (by decide))]; exact (z_a 2).1
  have i0 : I1 a 0 = 0 := w2_at hI
  have i1 : I1 a 1 = 0 := by rw [w2_ne hI (Or.inr (by decide))]; exact (z_a 1).1
  have r1 : R2 a 1 = eA + 1 := w2_at hR
  have n3 : N1 a = 3 := by
    have := hM2.2.2.2.2.2.2.1.n t_a (by decide)
    have h3 : 3 ≤ N1 a ∧ N1 a ≤ 3 := this
    omega
  obtain ⟨T2, hT2⟩ : ∃ T2, T2 = va_up T1 a lt := ⟨_, rfl⟩
  have te2 : T2 eA = 1 := by rw [hT2, va_up_ne _ _ nea]; exact te
  have ta2 : T2 a = lt := by rw [hT2, va_up_self]
  have hq := iRLs h1 h2
  have hm := mx_le h1 h2
  have hM3 : CWd D dA eA (cF dA L1 T1 N1 I J1 R1 s.heap.size) s.heap L1 T2 N1 I1 J1 R2 H locs := by
    refine hM2.tag t_a (by decide) ⟨by omega, by omega⟩ ((kdLs h1 h2).trans kd43.symm) (by decide) hT2 ?_ (XI.tag0 hM2.2.2.2.2.2.2.1 hM2.2.2.2.2.2.2.2 t_a (by decide) hT2 (fun _ _ => ?_) (fun h => by omega) (fun h => by omega) (fun h i hi => by rw [i2] at hi; omega) (fun h => by omega))
    · unfold TY
      rw [ta2, hq.2.2.1, n3]
      refine ⟨Nat.le_refl _, Nat.le_refl _, fun k hk => ?_⟩
      have : k = 0 ∨ k = 1 ∨ k = 2 := by omega
      have r0 : R2 a 0 = 0 := by rw [w2_ne hR (Or.inr (by decide))]; exact (z_a 0).2.2
      have r2 : R2 a 2 = 0 := by rw [w2_ne hR (Or.inr (by decide))]; exact (z_a 2).2.2
      have hx : rF lt 0 = (0, 0, 0) ∧ rF lt 2 = (0, 0, 0) ∧ iR lt 1 = iRng := ls_dec (P := fun t => rF t 0 = (0, 0, 0) ∧ rF t 2 = (0, 0, 0) ∧ iR t 1 = iRng) h1 h2 (by decide)
      rcases this with rfl | rfl | rfl
      · rw [hq.2.1, i0, hx.1]; exact ⟨by decide, Or.inl rfl⟩
      · rw [hx.2.2, i1, hq.2.2.2.1, r1]; exact ⟨by decide, Or.inr (Or.inr ⟨eA, rfl, Or.inr te2⟩)⟩
      · rw [hq.1, i2, hx.2.1]; exact ⟨⟨by show (0 : Int) ≤ 0; omega, by show (0 : Int) ≤ mx lt; omega⟩, Or.inl rfl⟩
    · rw [r1, Nat.add_sub_cancel, i2, ne0]
      exact ⟨by omega, fun i hi => by omega, fun h => absurd te2 h⟩
  refine g_vret B hM3 dJx4a65c_init_da8c8_11 ⟨Nat.le_refl _, Nat.le_refl _⟩ ⟨rfl, rfl, ?_, ta2, i2, by rw [r1, Nat.add_sub_cancel]; exact ne0⟩
  refine ((Fr.rf.wi hI (fun _ h => absurd (List.mem_singleton.mpr rfl) h)).wr hR (fun _ h => absurd (List.mem_singleton.mpr rfl) h)).tag hT2 (fun _ => List.mem_singleton.mpr rfl)
