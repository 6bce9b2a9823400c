def mo_X4_init : List Nat := []
set_option maxHeartbeats 1000000 in
set_option maxRecDepth 20000 in
theorem k_X4_init (l : Launch) (D : va_G) (dA : Nat → ClassId) (eA : Nat) (L : List Nat) (T N : Nat → Nat) (I : Nat → Nat → Int) (J : Nat → Nat → Int64) (R : Nat → Nat → Nat) (a_this : Nat) (t_this : T a_this = 32) (z_this : ∀ k, I a_this k = 0 ∧ J a_this k = 0 ∧ R a_this k = 0) : GC l yX4_init cX4_init 1 none ({ frames := 1, cells := 221, slots := 1142, locals := 30 }) D dA eA L T N I J R [.ref a_this] 221 1142 (gV (fun L' T' N' I' J' R' dz dl => J' = J ∧ Fr mo_X4_init [a_this] T N I J R T' N' I' J' R' ∧ T' a_this = 4 ∧ (dz ≤ 221 ∧ dl ≤ 1142))) := by
  generalize hPST : (gV (fun L' T' N' I' J' R' dz dl => J' = J ∧ Fr mo_X4_init [a_this] T N I J R T' N' I' J' R' ∧ T' a_this = 4 ∧ (dz ≤ 221 ∧ dl ≤ 1142))) = PST
  refine g_enter (own := RX4) (by decide) rfl (Nat.le_of_ble_eq_true rfl) (fun p e s m args below meth c ls hm B hX hM hl => ?_)
  have hC0 := hM.2.2.2.2.2.2.1
  have hW0 := hM.2.2.2
  have hF : Fr mo_X4_init [a_this] T N I J R T N I J R := Fr.rf
  have hA : ∀ q, s.heap.size ≤ q → cF dA L T N I J R s.heap.size q := fun q h => Or.inr h
  have hl : lv_has ls 1 [(0, .ref a_this)] := hl
  have e1 : R a_this 0 = 0 := (z_this 0).2.2
  have e2 : I a_this 1 = 0 := (z_this 1).1
  have e3 : R a_this 2 = 0 := (z_this 2).2.2
  have e4 : R a_this 3 = 0 := (z_this 3).2.2
  have e5 : R a_this 4 = 0 := (z_this 4).2.2
  have e6 : I a_this 5 = 0 := (z_this 5).1
  have e7 : I a_this 6 = 0 := (z_this 6).1
  have e8 : R a_this 7 = 0 := (z_this 7).2.2
  have e9 : R a_this 8 = 0 := (z_this 8).2.2
  refine lv_aload_n B.1 B.2.1 dX4_init_0 rfl (lv_at hl 0 rfl) ?_
  refine c_obj B ol_X4_3 hl.1 (Nat.le_of_ble_eq_true rfl) (Nat.le_of_ble_eq_true rfl) dX4_init_1 ?_
  refine lv_aload_n B.1 B.2.1 dX4_init_4 rfl (lv_at hl 0 rfl) ?_
  refine q_sip B dX4_init_5 (by decide) ?_
  refine q_con B dX4_init_8 ?_
  refine c_mna (t := 79) (tr := 80) (n := 200) (k := 4) B hX hA hM kd79 kd80 (by decide +kernel) (by decide +kernel) cl_X4_9 (by decide) (by decide) (by decide) (by show 0 + (1 + 200) ≤ 221; omega) (by show 0 + (200 + 200 * 4) ≤ 1142; omega) dX4_init_9 (fun b10 rw11 L12 T13 N14 R15 H t16 hr17 hq18 hT19 hN20 hR21 hM => ?_)
  have hFc22 : Fr [] [] T N I J R T13 N14 I J R15 := Fr.many Fr.rf t16 hr17 hT19 hN20 hR21
  replace hF : Fr mo_X4_init [a_this] T N I J R T13 N14 I J R15 := hF.many t16 hr17 hT19 hN20 hR21
  have t23 : T13 b10 = 79 := by rw [hT19, va_up_self]
  have n24 : N14 b10 = 200 := by rw [hN20, va_up_self]
  have t25 : T13 a_this = 32 := hFc22.tt t_this (by decide) nm0
  refine c_putr (k := 0) (v := b10 + 1) pk_X4 B hM t25 kd32 rfl (by decide) fl_X4_11 (Or.inr ⟨rfl, hm, rfl⟩) dX4_init_13 rfl rfl ⟨rfl, fun _ => rfl, rfl, fun _ => rfl⟩ (Or.inl rfl) (fun R26 H locs hu27 hM => ?_)
  have e28 : R26 a_this 0 = b10 + 1 := w2_at hu27
  replace hF : Fr mo_X4_init [a_this] T N I J R T13 N14 I J R26 := hF.wr hu27 (fun _ h => absurd (List.mem_singleton.mpr rfl) h)
  refine lv_aload_n B.1 B.2.1 dX4_init_16 rfl (lv_at hl 0 rfl) ?_
  refine q_bip B dX4_init_17 (by decide) ?_
  have hMo := hM
  refine c_newa (t := 81) (atype := .int) (n' := 16) B hX.out hA hM kd81 aw81 rfl rfl (fun _ => va_RA_i) acc_int hav_int (by decide) (by omega) (show 16 ≤ 16 ∧ 16 ≤ 16 from by omega) (by show 0 + 1 + 200 + 1 ≤ 221; omega) (by show 0 + 200 + 200 * 4 + 16 ≤ 1142; omega) dX4_init_19 (fun b29 L30 T31 N32 H t33 hT34 hN35 hM => ?_)
  have z36 : T b29 = 0 := T0_x hF t33 (nm1 (tne t33 t25 (by decide)))
  have t37 : T31 b29 = 81 := by rw [hT34, va_up_self]
  have n38 : N32 b29 = 16 := by rw [hN35, va_up_self]
  replace hF : Fr mo_X4_init [a_this] T N I J R T31 N32 I J R26 := hF.new t33 hT34 hN35
  have zz39 := hMo.2.2.2.2.2.1 b29 t33
  clear hMo
  have t40 : T31 a_this = 32 := upT hT34 t33 t25 (by decide)
  refine c_putr (k := 7) (v := b29 + 1) pk_X4 B hM t40 kd32 rfl (by decide) fl_X4_16 (Or.inr ⟨rfl, hm, rfl⟩) dX4_init_21 rfl rfl ⟨rfl, fun _ => rfl, rfl, fun _ => rfl⟩ (Or.inl rfl) (fun R41 H locs hu42 hM => ?_)
  have e43 : R41 a_this 7 = b29 + 1 := w2_at hu42
  replace hF : Fr mo_X4_init [a_this] T N I J R T31 N32 I J R41 := hF.wr hu42 (fun _ h => absurd (List.mem_singleton.mpr rfl) h)
  refine lv_aload_n B.1 B.2.1 dX4_init_24 rfl (lv_at hl 0 rfl) ?_
  refine q_bip B dX4_init_25 (by decide) ?_
  refine q_bip B dX4_init_27 (by decide) ?_
  have t56 : T31 b10 = 79 := upT hT34 t33 t23 (by decide)
  refine c_mna (t := 82) (tr := 83) (n := 18) (k := 6) B hX hA hM kd82 kd83 (by decide +kernel) (by decide +kernel) cl_X4_9 (by decide) (by decide) (by decide) (by show 0 + 1 + 200 + 1 + (1 + 18) ≤ 221; omega) (by show 0 + 200 + 200 * 4 + 16 + (18 + 18 * 6) ≤ 1142; omega) dX4_init_29 (fun b44 rw45 L46 T47 N48 R49 H t50 hr51 hq52 hT53 hN54 hR55 hM => ?_)
  have z57 : T b44 = 0 := T0_x hF t50 (nm1 (tne t50 t40 (by decide)))
  have hFc58 : Fr [] [] T31 N32 I J R41 T47 N48 I J R49 := Fr.many Fr.rf t50 hr51 hT53 hN54 hR55
  replace hF : Fr mo_X4_init [a_this] T N I J R T47 N48 I J R49 := hF.many t50 hr51 hT53 hN54 hR55
  have t59 : T47 b44 = 82 := by rw [hT53, va_up_self]
  have n60 : N48 b44 = 18 := by rw [hN54, va_up_self]
  have t61 : T47 a_this = 32 := hFc58.tt t40 (by decide) nm0
  refine c_putr (k := 8) (v := b44 + 1) pk_X4 B hM t61 kd32 rfl (by decide) fl_X4_20 (Or.inr ⟨rfl, hm, rfl⟩) dX4_init_33 rfl rfl ⟨rfl, fun _ => rfl, rfl, fun _ => rfl⟩ (Or.inl rfl) (fun R62 H locs hu63 hM => ?_)
  have e64 : R62 a_this 8 = b44 + 1 := w2_at hu63
  replace hF : Fr mo_X4_init [a_this] T N I J R T47 N48 I J R62 := hF.wr hu63 (fun _ h => absurd (List.mem_singleton.mpr rfl) h)
  have e65 : R41 a_this 0 = b10 + 1 := (w2_ne hu42 (Or.inr (by decide))).trans e28
  have e66 : R49 a_this 0 = b10 + 1 := (hFc58.r t40 (by decide) nm0 rfl).trans e65
  have e67 : R62 a_this 0 = b10 + 1 := (w2_ne hu63 (Or.inr (by decide))).trans e66
  have e68 : R15 a_this 2 = 0 := (hFc22.r t_this (by decide) nm0 rfl).trans e3
  have e69 : R26 a_this 2 = 0 := (w2_ne hu27 (Or.inr (by decide))).trans e68
  have e70 : R41 a_this 2 = 0 := (w2_ne hu42 (Or.inr (by decide))).trans e69
  have e71 : R49 a_this 2 = 0 := (hFc58.r t40 (by decide) nm0 rfl).trans e70
  have e72 : R62 a_this 2 = 0 := (w2_ne hu63 (Or.inr (by decide))).trans e71
  have e73 : R15 a_this 3 = 0 := (hFc22.r t_this (by decide) nm0 rfl).trans e4
  have e74 : R26 a_this 3 = 0 := (w2_ne hu27 (Or.inr (by decide))).trans e73
  have e75 : R41 a_this 3 = 0 := (w2_ne hu42 (Or.inr (by decide))).trans e74
  have e76 : R49 a_this 3 = 0 := (hFc58.r t40 (by decide) nm0 rfl).trans e75
  have e77 : R62 a_this 3 = 0 := (w2_ne hu63 (Or.inr (by decide))).trans e76
  have e78 : R15 a_this 4 = 0 := (hFc22.r t_this (by decide) nm0 rfl).trans e5
  have e79 : R26 a_this 4 = 0 := (w2_ne hu27 (Or.inr (by decide))).trans e78
  have e80 : R41 a_this 4 = 0 := (w2_ne hu42 (Or.inr (by decide))).trans e79
  have e81 : R49 a_this 4 = 0 := (hFc58.r t40 (by decide) nm0 rfl).trans e80
  have e82 : R62 a_this 4 = 0 := (w2_ne hu63 (Or.inr (by decide))).trans e81
  have e83 : R49 a_this 7 = b29 + 1 := (hFc58.r t40 (by decide) nm0 rfl).trans e43
  have e84 : R62 a_this 7 = b29 + 1 := (w2_ne hu63 (Or.inr (by decide))).trans e83
  have t87 : T47 b10 = 79 := hFc58.tt t56 (by decide) nm0
  have t88 : T47 b29 = 81 := hFc58.tt t37 (by decide) nm0
  obtain ⟨T85, hT86⟩ : ∃ X, X = va_up T47 a_this 4 := ⟨_, rfl⟩
  have hn9 : 9 ≤ N48 a_this ∧ N48 a_this ≤ 9 := hM.2.2.2.2.2.2.1.n t61 (by decide)
  have hty89 : TY T85 N48 I R62 a_this := by
    have h9 : T85 a_this = 4 := by rw [hT86, va_up_self]
    unfold TY; rw [h9]
    refine ⟨hn9.1, hn9.2, fun k hk => ?_⟩
    have hk9 : k = 0 ∨ k = 1 ∨ k = 2 ∨ k = 3 ∨ k = 4 ∨ k = 5 ∨ k = 6 ∨ k = 7 ∨ k = 8 := by omega
    rcases hk9 with rfl | rfl | rfl | rfl | rfl | rfl | rfl | rfl | rfl
    · exact ⟨hM.2.2.2.2.2.2.1.io (t := 32) t61 (by decide) (by decide), (by rw [e67]; exact rokR (t := 79) (by rw [hT86, va_up_ne _ _ (tne t87 t61 (by decide))]; exact t87) rfl)⟩
    · exact ⟨(by rw [e2]; exact (show (0 : Int) ≤ 0 ∧ (0 : Int) ≤ 200 from by omega)), Or.inl rfl⟩
    · exact ⟨hM.2.2.2.2.2.2.1.io (t := 32) t61 (by decide) (by decide), (by rw [e72]; exact Or.inr (Or.inl ⟨rfl, rfl⟩))⟩
    · exact ⟨hM.2.2.2.2.2.2.1.io (t := 32) t61 (by decide) (by decide), (by rw [e77]; exact Or.inr (Or.inl ⟨rfl, rfl⟩))⟩
    · exact ⟨hM.2.2.2.2.2.2.1.io (t := 32) t61 (by decide) (by decide), (by rw [e82]; exact Or.inr (Or.inl ⟨rfl, rfl⟩))⟩
    · exact ⟨hM.2.2.2.2.2.2.1.io (t := 32) t61 (by decide) (by decide), Or.inl rfl⟩
    · exact ⟨hM.2.2.2.2.2.2.1.io (t := 32) t61 (by decide) (by decide), Or.inl rfl⟩
    · exact ⟨hM.2.2.2.2.2.2.1.io (t := 32) t61 (by decide) (by decide), (by rw [e84]; exact rokR (t := 81) (by rw [hT86, va_up_ne _ _ (tne t88 t61 (by decide))]; exact t88) rfl)⟩
    · exact ⟨hM.2.2.2.2.2.2.1.io (t := 32) t61 (by decide) (by decide), (by rw [e64]; exact rokR (t := 82) (by rw [hT86, va_up_ne _ _ (tne t59 t61 (by decide))]; exact t59) rfl)⟩
  have hM := hM.tag (t := 4) t61 (by decide) (by decide) rfl (by decide) hT86 hty89 (XI.tag0 hM.2.2.2.2.2.2.1 hM.2.2.2.2.2.2.2 t61 (by decide) hT86 (fun h h2 => by omega) (fun h => by omega) (fun h => by omega) (fun h => by omega) (fun h => by omega))
  replace hF : Fr mo_X4_init [a_this] T N I J R T85 N48 I J R62 := hF.tag hT86 (fun _ => List.mem_singleton.mpr rfl)
  have t90 : T85 a_this = 4 := by rw [hT86, va_up_self]
  refine g_vret B hM dX4_init_36 ⟨by show 0 + 1 + 200 + 1 + 1 + 18 ≤ 221; omega, by show 0 + 200 + 200 * 4 + 16 + 18 + 18 * 6 ≤ 1142; omega⟩ ?_
  rw [← hPST]
  exact ⟨rfl, rfl, hF, t90, by first | omega | assumption | exact trivial, by first | omega | assumption | exact trivial⟩
