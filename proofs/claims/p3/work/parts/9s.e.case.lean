section LCS
variable {p : Program} {l : Launch} {e : Env} {s : State} {m : MethodId} {below : List Frame} {meth : Method} {c : Code} {H : Heap} {locs : List Loc} {z y : Nat} {Q : State → Prop} {ls : Array Slot}
variable {D : va_G} {dA : Nat → ClassId} {eA h0 hd b Ln n : Nat} {xs : Nat → Int32} {ad : Nat → Nat} {σ : MS} {L : List Nat} {T N : Nat → Nat} {I : Nat → Nat → Int} {J : Nat → Nat → Int64} {R : Nat → Nat → Nat}
set_option maxHeartbeats 1000000 in
set_option maxRecDepth 20000 in
theorem law_c14 (C0 : LC p s m meth c b Ln xs D dA eA) (hS : LSt D dA eA h0 hd ad s n σ L T N I J R H locs z y) (hn : 6 * n + 6 ≤ Ln) (hl : lv_has ls 4 [(3, .int (II (6 * (n : Int)))), (2, .ref h0), (1, .ref hd), (0, .ref b)]) (KK : ∀ (σ : MS) (L : List Nat) (T N : Nat → Nat) (I : Nat → Nat → Int) (J : Nat → Nat → Int64) (R : Nat → Nat → Nat) (H : Heap) (locs : List Loc) (z y : Nat), LSt D dA eA h0 hd ad s (n + 1) σ L T N I J R H locs z y → W p l e room_1 s m #[Value.ref b] below meth c H locs z y Q (F0 m 1058 ls [])) : W p l e room_1 s m #[Value.ref b] below meth c H locs z y Q (F0 m 768 ls []) := by
  obtain ⟨B, hX, hxs, hbl, hL⟩ := C0
  obtain ⟨f, g, A, La⟩ := σ
  obtain ⟨hW, ⟨q0, q1, q2, q3, q4, q5, q6, q7, q8, q9, q10, q11⟩, td, hDI, hlen, hz, hy⟩ := hS
  have hA : ∀ q, s.heap.size ≤ q → lwA s q := fun _ h => h
  have hC := hW.2.1.2.2.2.2.2.2.1
  have hXI := hW.2.1.2.2.2.2.2.2.2
  have h7 := g2_7 hC td
  have hns := lNS_le hC td
  refine lv_aload_n B.1 B.2.1 dL_768 rfl (lv_at hl 2 rfl) ?_
  refine L_ld (k := 1) (kz := 1) B hxs hbl hL hW.1.2.2.1 hn hl (by decide) rfl dL_769 dL_770 dL_771 dL_772 dL_773 ?_
  refine L_ld (k := 2) (kz := 2) B hxs hbl hL hW.1.2.2.1 hn hl (by decide) rfl dL_774 dL_775 dL_776 dL_777 dL_778 ?_
  obtain ⟨gc, gb, gp, gr, ga, gl, ⟨e3, t5⟩, ⟨e6, t6⟩, ⟨e4, t22⟩, e5, e7, ⟨e8, t15⟩, ⟨e9, t16⟩, ⟨e10, t23⟩, hfl, hfu⟩ := id hDI
  obtain ⟨gv, ev, t90⟩ := g5_13 hC t5
  obtain ⟨gf, ef, t91⟩ := g5_14 hC t5
  have h16 := g16_2 hC t16
  have h23 := g23_2 hC t23
  refine L_callgi hW hA (c_runV (n := 2) (as := [.int (II (xs (6 * n + 1)).toInt), .int (II (xs (6 * n + 2)).toInt)]) (rest := []) B hX hA hW.2.1 hl.1 td kd2 rfl (k_X11_check l D dA eA L T N I J R hd td ((xs (6 * n + 1)).toInt) (toInt_inr _) ((xs (6 * n + 2)).toInt) (toInt_inr _) gc gb gr ga gl gv gf gp e3 t5 e6 e4 e7 t6 e8 t15 e9 t16 e10 t23 ev t90 ef t91 e5 t22 hfl hfu _ _) ml_L_81 nm_X11_check ⟨rfl, rfl⟩ ⟨Nat.le_of_ble_eq_true rfl, Nat.le_of_ble_eq_true rfl⟩ dL_779 rfl rfl (Nat.le_of_ble_eq_true rfl) ⟨by show z + ((16 - I ga 2).toNat + 2 * (500 - I gl 2).toNat + 4) ≤ 600000; omega, by show y + (24 * (16 - I ga 2).toNat + 11 * (500 - I gl 2).toNat + 3 * (750 - N (R gl 1 - 1)) + 807) ≤ 7302250; omega⟩) (fun r1 L1 T1 N1 I1 J1 R1 dz dl H locs i1 hp1 hW => ?_)
  obtain ⟨eJ, hF, hp1⟩ := hp1
  obtain rfl := eJ.symm
  have td1 := hF.tt td (by decide) nm0
  have hnf := lNS_fr hC td hF (by decide) (by decide)
  obtain ⟨f1, f2, hq1, hq2, hpz, hpl⟩ := hp1
  have hDI1 := DI.up td e3 t5 e6 t6 e4 t22 e5 e7 e8 t15 e9 t16 e10 t23 hF (by decide) f1 f2
  have hC1 := hW.2.1.2.2.2.2.2.2.1
  have h16b := g16_2 hC1 (hF.tt t16 (by decide) nm0)
  have h23b := g23_2 hC1 (hF.tt t23 (by decide) nm0)
  have hnb := edBF hC1 (hF.tt t23 (by decide) nm0)
  have h71 : I1 hd 7 = I hd 7 := hF.i td (by decide) nm0 rfl
  refine lv_pop B.1 B.2.1 dL_782 rfl ?_
  refine lv_aload_n B.1 B.2.1 dL_783 rfl (lv_at hl 1 rfl) ?_
  refine L_ld (k := 1) (kz := 1) B hxs hbl hL hW.1.2.2.1 hn hl (by decide) rfl dL_784 dL_785 dL_786 dL_787 dL_788 ?_
  refine L_ld (k := 2) (kz := 2) B hxs hbl hL hW.1.2.2.1 hn hl (by decide) rfl dL_789 dL_790 dL_791 dL_792 dL_793 ?_
  refine L_callm (n := 2) (as := [.int (II (xs (6 * n + 1)).toInt), .int (II (xs (6 * n + 2)).toInt)]) (rest := []) B hW hA hl.1 (k_check l D dA h0 ad f g A La ((xs (6 * n + 1)).toInt) ((xs (6 * n + 2)).toInt) (toInt_inr _) (toInt_inr _) q3 q7 q9 q2 q6 q4 q5 q8 q11 q1) rfl ml_L_84 nm_check ⟨rfl, rfl⟩ ⟨Nat.le_of_ble_eq_true rfl, Nat.le_of_ble_eq_true rfl⟩ dL_794 rfl rfl (Nat.le_of_ble_eq_true rfl) ⟨by show (z + dz) ≤ 600000; omega, by show (y + dl) ≤ 7302250; omega⟩ (fun r2 σ1 H locs i2 hp2 hW => ?_)
  obtain ⟨n127, n105, n104, n101, n128, n98, n97, n124, n103, n99, n100, n102, n125, b92, b96, b91, b94, b95, b93, b106, b107, b108, b109, b110, b111, b112, b115, b116, b114, b117, b113, b119, b120, b121, b122, b123, b126, b118, rfl, hp2⟩ := hp2
  obtain ⟨r8, r11, r10⟩ := hp2
  refine lv_pop B.1 B.2.1 dL_797 rfl ?_
  refine lv_goto (tgt := 1058) B.1 B.2.1 dL_798 (by decide) ?_
  exact KK _ _ _ _ _ _ _ _ _ _ _ ⟨hW, ⟨q0, q1, q2, q3, q4, q5, q6, q7, r8, q9, fun h => (r10 h).elim q10 id, r11⟩, td1, hDI1, (h71.trans hlen), by omega, by omega⟩
set_option maxHeartbeats 1000000 in
set_option maxRecDepth 20000 in
theorem law_c22 (C0 : LC p s m meth c b Ln xs D dA eA) (hS : LSt D dA eA h0 hd ad s n σ L T N I J R H locs z y) (hn : 6 * n + 6 ≤ Ln) (hl : lv_has ls 4 [(3, .int (II (6 * (n : Int)))), (2, .ref h0), (1, .ref hd), (0, .ref b)]) (KK : ∀ (σ : MS) (L : List Nat) (T N : Nat → Nat) (I : Nat → Nat → Int) (J : Nat → Nat → Int64) (R : Nat → Nat → Nat) (H : Heap) (locs : List Loc) (z y : Nat), LSt D dA eA h0 hd ad s (n + 1) σ L T N I J R H locs z y → W p l e room_1 s m #[Value.ref b] below meth c H locs z y Q (F0 m 1058 ls [])) : W p l e room_1 s m #[Value.ref b] below meth c H locs z y Q (F0 m 1002 ls []) := by
  obtain ⟨B, hX, hxs, hbl, hL⟩ := C0
  obtain ⟨f, g, A, La⟩ := σ
  obtain ⟨hW, ⟨q0, q1, q2, q3, q4, q5, q6, q7, q8, q9, q10, q11⟩, td, hDI, hlen, hz, hy⟩ := hS
  have hA : ∀ q, s.heap.size ≤ q → lwA s q := fun _ h => h
  have hC := hW.2.1.2.2.2.2.2.2.1
  have hXI := hW.2.1.2.2.2.2.2.2.2
  have h7 := g2_7 hC td
  have hns := lNS_le hC td
  refine lv_aload_n B.1 B.2.1 dL_1002 rfl (lv_at hl 2 rfl) ?_
  refine L_ld (k := 1) (kz := 1) B hxs hbl hL hW.1.2.2.1 hn hl (by decide) rfl dL_1003 dL_1004 dL_1005 dL_1006 dL_1007 ?_
  refine L_ld (k := 2) (kz := 2) B hxs hbl hL hW.1.2.2.1 hn hl (by decide) rfl dL_1008 dL_1009 dL_1010 dL_1011 dL_1012 ?_
  refine L_ld (k := 3) (kz := 3) B hxs hbl hL hW.1.2.2.1 hn hl (by decide) rfl dL_1013 dL_1014 dL_1015 dL_1016 dL_1017 ?_
  obtain ⟨gc, gb, gp, gr, ga, gl, ⟨e3, t5⟩, ⟨e6, t6⟩, ⟨e4, t22⟩, e5, e7, ⟨e8, t15⟩, ⟨e9, t16⟩, ⟨e10, t23⟩, hfl, hfu⟩ := id hDI
  have h16 := g16_2 hC t16
  refine L_callgi hW hA (c_runV (n := 3) (as := [.int (II (xs (6 * n + 1)).toInt), .int (II (xs (6 * n + 2)).toInt), .int (II (xs (6 * n + 3)).toInt)]) (rest := []) B hX hA hW.2.1 hl.1 td kd2 rfl (k_X11_wouldBe l D dA eA L T N I J R hd td ((xs (6 * n + 1)).toInt) (toInt_inr _) ((xs (6 * n + 2)).toInt) (toInt_inr _) ((xs (6 * n + 3)).toInt) (toInt_inr _) gb gr ga e6 t6 e8 t15 e9 t16 hfl _ _) ml_L_113 nm_X11_wouldBe ⟨rfl, rfl⟩ ⟨Nat.le_of_ble_eq_true rfl, Nat.le_of_ble_eq_true rfl⟩ dL_1018 rfl rfl (Nat.le_of_ble_eq_true rfl) ⟨by show z + ((16 - I ga 2).toNat + 1) ≤ 600000; omega, by show y + (24 * (16 - I ga 2).toNat + 24) ≤ 7302250; omega⟩) (fun r1 L1 T1 N1 I1 J1 R1 dz dl H locs i1 hp1 hW => ?_)
  obtain ⟨eJ, hF, hp1⟩ := hp1
  obtain rfl := eJ.symm
  have td1 := hF.tt td (by decide) nm0
  have hnf := lNS_fr hC td hF (by decide) (by decide)
  obtain ⟨f1, hq1, hpz, hpl⟩ := hp1
  have hDI1 := DI.up td e3 t5 e6 t6 e4 t22 e5 e7 e8 t15 e9 t16 e10 t23 hF (by decide) f1 (FUg.fr hfu hC hXI t5 t23 hF (fun _ _ => nm0) (by decide))
  have hC1 := hW.2.1.2.2.2.2.2.2.1
  have h16b := g16_2 hC1 (hF.tt t16 (by decide) nm0)
  have h71 : I1 hd 7 = I hd 7 := hF.i td (by decide) nm0 rfl
  refine lv_pop B.1 B.2.1 dL_1021 rfl ?_
  refine lv_aload_n B.1 B.2.1 dL_1022 rfl (lv_at hl 1 rfl) ?_
  refine L_ld (k := 1) (kz := 1) B hxs hbl hL hW.1.2.2.1 hn hl (by decide) rfl dL_1023 dL_1024 dL_1025 dL_1026 dL_1027 ?_
  refine L_ld (k := 2) (kz := 2) B hxs hbl hL hW.1.2.2.1 hn hl (by decide) rfl dL_1028 dL_1029 dL_1030 dL_1031 dL_1032 ?_
  refine L_ld (k := 3) (kz := 3) B hxs hbl hL hW.1.2.2.1 hn hl (by decide) rfl dL_1033 dL_1034 dL_1035 dL_1036 dL_1037 ?_
  refine L_callm (n := 3) (as := [.int (II (xs (6 * n + 1)).toInt), .int (II (xs (6 * n + 2)).toInt), .int (II (xs (6 * n + 3)).toInt)]) (rest := []) B hW hA hl.1 (k_wouldBe l D dA h0 ad f g A La ((xs (6 * n + 1)).toInt) ((xs (6 * n + 2)).toInt) ((xs (6 * n + 3)).toInt) (toInt_inr _) (toInt_inr _) (toInt_inr _) q2 q6 q4 q8) rfl ml_L_116 nm_wouldBe ⟨rfl, rfl⟩ ⟨Nat.le_of_ble_eq_true rfl, Nat.le_of_ble_eq_true rfl⟩ dL_1038 rfl rfl (Nat.le_of_ble_eq_true rfl) ⟨by show (z + dz) ≤ 600000; omega, by show (y + dl) ≤ 7302250; omega⟩ (fun r2 σ1 H locs i2 hp2 hW => ?_)
  obtain ⟨n127, n98, n97, b96, b93, b91, b94, b95, rfl, hp2⟩ := hp2
  refine lv_pop B.1 B.2.1 dL_1041 rfl ?_
  refine lv_goto (tgt := 1058) B.1 B.2.1 dL_1042 (by decide) ?_
  exact KK _ _ _ _ _ _ _ _ _ _ _ ⟨hW, ⟨q0, q1, q2, q3, q4, q5, q6, q7, hp2, q9, q10, q11⟩, td1, hDI1, (h71.trans hlen), by omega, by omega⟩
set_option maxHeartbeats 1000000 in
set_option maxRecDepth 20000 in
theorem law_c23 (C0 : LC p s m meth c b Ln xs D dA eA) (hS : LSt D dA eA h0 hd ad s n σ L T N I J R H locs z y) (hn : 6 * n + 6 ≤ Ln) (hl : lv_has ls 4 [(3, .int (II (6 * (n : Int)))), (2, .ref h0), (1, .ref hd), (0, .ref b)]) (KK : ∀ (σ : MS) (L : List Nat) (T N : Nat → Nat) (I : Nat → Nat → Int) (J : Nat → Nat → Int64) (R : Nat → Nat → Nat) (H : Heap) (locs : List Loc) (z y : Nat), LSt D dA eA h0 hd ad s (n + 1) σ L T N I J R H locs z y → W p l e room_1 s m #[Value.ref b] below meth c H locs z y Q (F0 m 1058 ls [])) : W p l e room_1 s m #[Value.ref b] below meth c H locs z y Q (F0 m 1045 ls []) := by
  obtain ⟨B, hX, hxs, hbl, hL⟩ := C0
  obtain ⟨f, g, A, La⟩ := σ
  obtain ⟨hW, ⟨q0, q1, q2, q3, q4, q5, q6, q7, q8, q9, q10, q11⟩, td, hDI, hlen, hz, hy⟩ := hS
  have hA : ∀ q, s.heap.size ≤ q → lwA s q := fun _ h => h
  have hC := hW.2.1.2.2.2.2.2.2.1
  have hXI := hW.2.1.2.2.2.2.2.2.2
  have h7 := g2_7 hC td
  have hns := lNS_le hC td
  refine lv_aload_n B.1 B.2.1 dL_1045 rfl (lv_at hl 2 rfl) ?_
  obtain ⟨gc, gb, gp, gr, ga, gl, ⟨e3, t5⟩, ⟨e6, t6⟩, ⟨e4, t22⟩, e5, e7, ⟨e8, t15⟩, ⟨e9, t16⟩, ⟨e10, t23⟩, hfl, hfu⟩ := id hDI
  refine L_callzi hW hA (c_runV (n := 0) (as := []) (rest := []) B hX hA hW.2.1 hl.1 td kd2 rfl (k_X11_correct l D dA eA L T N I J R hd td gc gb e3 t5 e7 t6 _ _) ml_L_117 nm_X11_correct ⟨rfl, rfl⟩ ⟨Nat.le_of_ble_eq_true rfl, Nat.le_of_ble_eq_true rfl⟩ dL_1046 rfl rfl (Nat.le_of_ble_eq_true rfl) ⟨by show z + (0) ≤ 600000; omega, by show y + (0) ≤ 7302250; omega⟩) (fun r1 L1 T1 N1 I1 J1 R1 dz dl H locs i1 hp1 hW => ?_)
  obtain ⟨eL, eT, eN, eJ, eR, hF, hp1⟩ := hp1
  obtain rfl := eL.symm; obtain rfl := eT.symm; obtain rfl := eN.symm; obtain rfl := eJ.symm; obtain rfl := eR.symm
  have hDI1 := DI.fr hDI hC hXI td hF (by decide) (by decide) (by decide)
  have h71 : I1 hd 7 = I hd 7 := hF.i td (by decide) nm0 rfl
  refine lv_pop B.1 B.2.1 dL_1049 rfl ?_
  refine lv_aload_n B.1 B.2.1 dL_1050 rfl (lv_at hl 1 rfl) ?_
  refine L_callm (n := 0) (as := []) (rest := []) B hW hA hl.1 (k_correct l D dA h0 ad f g A La q3 q7 q10 q6 q11) rfl ml_L_120 nm_correct ⟨rfl, rfl⟩ ⟨Nat.le_of_ble_eq_true rfl, Nat.le_of_ble_eq_true rfl⟩ dL_1051 rfl rfl (Nat.le_of_ble_eq_true rfl) ⟨by show z ≤ 600000; omega, by show y ≤ 7302250; omega⟩ (fun r2 σ1 H locs i2 hp2 hW => ?_)
  obtain ⟨n100, b84, b89, rfl, hp2⟩ := hp2
  refine lv_pop B.1 B.2.1 dL_1054 rfl ?_
  refine lv_goto (tgt := 1058) B.1 B.2.1 dL_1055 (by decide) ?_
  exact KK _ _ _ _ _ _ _ _ _ _ _ ⟨hW, ⟨q0, q1, q2, q3, q4, q5, q6, q7, q8, q9, q10, q11⟩, td, hDI1, (h71.trans hlen), by omega, by omega⟩
end LCS
