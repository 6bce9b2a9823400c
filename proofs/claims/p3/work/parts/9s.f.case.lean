section LCS
variable {p : Program} {l : Launch} {e : Env} {s : State} {m : MethodId} {below : List Frame} {meth : Method} {c : Code} {H : Heap} {locs : List Loc} {z y : Nat} {Q : State → Prop} {ls : Array Slot}
variable {D : va_G} {dA : Nat → ClassId} {eA h0 hd b Ln n : Nat} {xs : Nat → Int32} {ad : Nat → Nat} {σ : MS} {L : List Nat} {T N : Nat → Nat} {I : Nat → Nat → Int} {J : Nat → Nat → Int64} {R : Nat → Nat → Nat}
set_option maxHeartbeats 1000000 in
set_option maxRecDepth 20000 in
theorem law_c15 (C0 : LC p s m meth c b Ln xs D dA eA) (hS : LSt D dA eA h0 hd ad s n σ L T N I J R H locs z y) (hn : 6 * n + 6 ≤ Ln) (hl : lv_has ls 4 [(3, .int (II (6 * (n : Int)))), (2, .ref h0), (1, .ref hd), (0, .ref b)]) (KK : ∀ (σ : MS) (L : List Nat) (T N : Nat → Nat) (I : Nat → Nat → Int) (J : Nat → Nat → Int64) (R : Nat → Nat → Nat) (H : Heap) (locs : List Loc) (z y : Nat), LSt D dA eA h0 hd ad s (n + 1) σ L T N I J R H locs z y → W p l e room_1 s m #[Value.ref b] below meth c H locs z y Q (F0 m 1058 ls [])) : W p l e room_1 s m #[Value.ref b] below meth c H locs z y Q (F0 m 801 ls []) := by
  obtain ⟨B, hX, hxs, hbl, hL⟩ := C0
  obtain ⟨f, g, A, La⟩ := σ
  obtain ⟨hW, ⟨q0, q1, q2, q3, q4, q5, q6, q7, q8, q9, q10, q11⟩, td, hDI, hlen, hz, hy⟩ := hS
  have hA : ∀ q, s.heap.size ≤ q → lwA s q := fun _ h => h
  have hC := hW.2.1.2.2.2.2.2.2.1
  have hXI := hW.2.1.2.2.2.2.2.2.2
  have h7 := g2_7 hC td
  have hns := lNS_le hC td
  refine lv_aload_n B.1 B.2.1 dL_801 rfl (lv_at hl 2 rfl) ?_
  refine L_ld (k := 1) (kz := 1) B hxs hbl hL hW.1.2.2.1 hn hl (by decide) rfl dL_802 dL_803 dL_804 dL_805 dL_806 ?_
  refine L_ld (k := 2) (kz := 2) B hxs hbl hL hW.1.2.2.1 hn hl (by decide) rfl dL_807 dL_808 dL_809 dL_810 dL_811 ?_
  obtain ⟨gc, gb, gp, gr, ga, gl, ⟨e3, t5⟩, ⟨e6, t6⟩, ⟨e4, t22⟩, e5, e7, ⟨e8, t15⟩, ⟨e9, t16⟩, ⟨e10, t23⟩, hfl, hfu⟩ := id hDI
  obtain ⟨gw, ew, t14⟩ := g2_5 hC td
  have hlw := lNS_w (N := N) ew
  refine L_callgi hW hA (c_runV (n := 2) (as := [.int (II (xs (6 * n + 1)).toInt), .int (II (xs (6 * n + 2)).toInt)]) (rest := []) B hX hA hW.2.1 hl.1 td kd2 rfl (k_X11_found l D dA eA L T N I J R hd td ((xs (6 * n + 1)).toInt) (toInt_inr _) ((xs (6 * n + 2)).toInt) (toInt_inr _) gw gc ew t14 e3 t5 (FUp.of hfu e10) _ _) ml_L_85 nm_X11_found ⟨rfl, rfl⟩ ⟨Nat.le_of_ble_eq_true rfl, Nat.le_of_ble_eq_true rfl⟩ dL_812 rfl rfl (Nat.le_of_ble_eq_true rfl) ⟨by show z + ((70000 - N (R gw 0 - 1)) / 18 + 1) ≤ 600000; omega, by show y + (2 * (70000 - N (R gw 0 - 1))) ≤ 7302250; omega⟩) (fun r1 L1 T1 N1 I1 J1 R1 dz dl H locs i1 hp1 hW => ?_)
  obtain ⟨eJ, hF, hp1⟩ := hp1
  obtain rfl := eJ.symm
  have td1 := hF.tt td (by decide) nm0
  have hDI1 := DI.fr hDI hC hXI td hF (by decide) (by decide) (by decide)
  have hlw1 := lNS_w (N := N1) ((hF.r td (by decide) nm0 rfl).trans ew : R1 hd 5 = gw + 1)
  have h71 : I1 hd 7 = I hd 7 := hF.i td (by decide) nm0 rfl
  have hns1 := lNS_le hW.2.1.2.2.2.2.2.2.1 td1
  refine lv_pop B.1 B.2.1 dL_815 rfl ?_
  refine lv_aload_n B.1 B.2.1 dL_816 rfl (lv_at hl 1 rfl) ?_
  refine L_ld (k := 1) (kz := 1) B hxs hbl hL hW.1.2.2.1 hn hl (by decide) rfl dL_817 dL_818 dL_819 dL_820 dL_821 ?_
  refine L_ld (k := 2) (kz := 2) B hxs hbl hL hW.1.2.2.1 hn hl (by decide) rfl dL_822 dL_823 dL_824 dL_825 dL_826 ?_
  refine L_callm (n := 2) (as := [.int (II (xs (6 * n + 1)).toInt), .int (II (xs (6 * n + 2)).toInt)]) (rest := []) B hW hA hl.1 (k_found l D dA h0 ad f g A La ((xs (6 * n + 1)).toInt) ((xs (6 * n + 2)).toInt) (toInt_inr _) (toInt_inr _)) rfl ml_L_88 nm_found ⟨rfl, rfl⟩ ⟨Nat.le_of_ble_eq_true rfl, Nat.le_of_ble_eq_true rfl⟩ dL_827 rfl rfl (Nat.le_of_ble_eq_true rfl) ⟨by show (z + dz) ≤ 600000; omega, by show (y + dl) ≤ 7302250; omega⟩ (fun r2 σ1 H locs i2 hp2 hW => ?_)
  obtain ⟨rfl, hp2⟩ := hp2
  refine lv_pop B.1 B.2.1 dL_830 rfl ?_
  refine lv_goto (tgt := 1058) B.1 B.2.1 dL_831 (by decide) ?_
  exact KK _ _ _ _ _ _ _ _ _ _ _ ⟨hW, ⟨q0, q1, q2, q3, q4, q5, q6, q7, q8, q9, q10, q11⟩, td1, hDI1, (h71.trans hlen), by omega, by omega⟩
set_option maxHeartbeats 1000000 in
set_option maxRecDepth 20000 in
theorem law_c17 (C0 : LC p s m meth c b Ln xs D dA eA) (hS : LSt D dA eA h0 hd ad s n σ L T N I J R H locs z y) (hn : 6 * n + 6 ≤ Ln) (hl : lv_has ls 4 [(3, .int (II (6 * (n : Int)))), (2, .ref h0), (1, .ref hd), (0, .ref b)]) (KK : ∀ (σ : MS) (L : List Nat) (T N : Nat → Nat) (I : Nat → Nat → Int) (J : Nat → Nat → Int64) (R : Nat → Nat → Nat) (H : Heap) (locs : List Loc) (z y : Nat), LSt D dA eA h0 hd ad s (n + 1) σ L T N I J R H locs z y → W p l e room_1 s m #[Value.ref b] below meth c H locs z y Q (F0 m 1058 ls [])) : W p l e room_1 s m #[Value.ref b] below meth c H locs z y Q (F0 m 867 ls []) := by
  obtain ⟨B, hX, hxs, hbl, hL⟩ := C0
  obtain ⟨f, g, A, La⟩ := σ
  obtain ⟨hW, ⟨q0, q1, q2, q3, q4, q5, q6, q7, q8, q9, q10, q11⟩, td, hDI, hlen, hz, hy⟩ := hS
  have hA : ∀ q, s.heap.size ≤ q → lwA s q := fun _ h => h
  have hC := hW.2.1.2.2.2.2.2.2.1
  have hXI := hW.2.1.2.2.2.2.2.2.2
  have h7 := g2_7 hC td
  have hns := lNS_le hC td
  refine lv_aload_n B.1 B.2.1 dL_867 rfl (lv_at hl 2 rfl) ?_
  refine L_ld (k := 1) (kz := 1) B hxs hbl hL hW.1.2.2.1 hn hl (by decide) rfl dL_868 dL_869 dL_870 dL_871 dL_872 ?_
  refine L_ld (k := 2) (kz := 2) B hxs hbl hL hW.1.2.2.1 hn hl (by decide) rfl dL_873 dL_874 dL_875 dL_876 dL_877 ?_
  obtain ⟨gc, gb, gp, gr, ga, gl, ⟨e3, t5⟩, ⟨e6, t6⟩, ⟨e4, t22⟩, e5, e7, ⟨e8, t15⟩, ⟨e9, t16⟩, ⟨e10, t23⟩, hfl, hfu⟩ := id hDI
  obtain ⟨gw, ew, t14⟩ := g2_5 hC td
  have hlw := lNS_w (N := N) ew
  refine L_callgi hW hA (c_runV (n := 2) (as := [.int (II (xs (6 * n + 1)).toInt), .int (II (xs (6 * n + 2)).toInt)]) (rest := []) B hX hA hW.2.1 hl.1 td kd2 rfl (k_X11_text l D dA eA L T N I J R hd td ((xs (6 * n + 1)).toInt) (toInt_inr _) ((xs (6 * n + 2)).toInt) (toInt_inr _) gw gc ew t14 e3 t5 (FUp.of hfu e10) _ _) ml_L_93 nm_X11_text ⟨rfl, rfl⟩ ⟨Nat.le_of_ble_eq_true rfl, Nat.le_of_ble_eq_true rfl⟩ dL_878 rfl rfl (Nat.le_of_ble_eq_true rfl) ⟨by show z + ((70000 - N (R gw 0 - 1)) / 18 + 1) ≤ 600000; omega, by show y + (2 * (70000 - N (R gw 0 - 1))) ≤ 7302250; omega⟩) (fun r1 L1 T1 N1 I1 J1 R1 dz dl H locs i1 hp1 hW => ?_)
  obtain ⟨eJ, hF, hp1⟩ := hp1
  obtain rfl := eJ.symm
  have td1 := hF.tt td (by decide) nm0
  have hDI1 := DI.fr hDI hC hXI td hF (by decide) (by decide) (by decide)
  have hlw1 := lNS_w (N := N1) ((hF.r td (by decide) nm0 rfl).trans ew : R1 hd 5 = gw + 1)
  have h71 : I1 hd 7 = I hd 7 := hF.i td (by decide) nm0 rfl
  have hns1 := lNS_le hW.2.1.2.2.2.2.2.2.1 td1
  refine lv_pop B.1 B.2.1 dL_881 rfl ?_
  refine lv_aload_n B.1 B.2.1 dL_882 rfl (lv_at hl 1 rfl) ?_
  refine L_ld (k := 1) (kz := 1) B hxs hbl hL hW.1.2.2.1 hn hl (by decide) rfl dL_883 dL_884 dL_885 dL_886 dL_887 ?_
  refine L_ld (k := 2) (kz := 2) B hxs hbl hL hW.1.2.2.1 hn hl (by decide) rfl dL_888 dL_889 dL_890 dL_891 dL_892 ?_
  refine L_callm (n := 2) (as := [.int (II (xs (6 * n + 1)).toInt), .int (II (xs (6 * n + 2)).toInt)]) (rest := []) B hW hA hl.1 (k_text l D dA h0 ad f g A La ((xs (6 * n + 1)).toInt) ((xs (6 * n + 2)).toInt) (toInt_inr _) (toInt_inr _)) rfl ml_L_96 nm_text ⟨rfl, rfl⟩ ⟨Nat.le_of_ble_eq_true rfl, Nat.le_of_ble_eq_true rfl⟩ dL_893 rfl rfl (Nat.le_of_ble_eq_true rfl) ⟨by show (z + dz) ≤ 600000; omega, by show (y + dl) ≤ 7302250; omega⟩ (fun r2 σ1 H locs i2 hp2 hW => ?_)
  obtain ⟨rfl, hp2⟩ := hp2
  refine lv_pop B.1 B.2.1 dL_896 rfl ?_
  refine lv_goto (tgt := 1058) B.1 B.2.1 dL_897 (by decide) ?_
  exact KK _ _ _ _ _ _ _ _ _ _ _ ⟨hW, ⟨q0, q1, q2, q3, q4, q5, q6, q7, q8, q9, q10, q11⟩, td1, hDI1, (h71.trans hlen), by omega, by omega⟩
end LCS
