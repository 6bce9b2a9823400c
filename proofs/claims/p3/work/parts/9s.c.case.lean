section LCS
variable {p : Program} {l : Launch} {e : Env} {s : State} {m : MethodId} {below : List Frame} {meth : Method} {c : Code} {H : Heap} {locs : List Loc} {z y : Nat} {Q : State → Prop} {ls : Array Slot}
variable {D : va_G} {dA : Nat → ClassId} {eA h0 hd b Ln n : Nat} {xs : Nat → Int32} {ad : Nat → Nat} {σ : MS} {L : List Nat} {T N : Nat → Nat} {I : Nat → Nat → Int} {J : Nat → Nat → Int64} {R : Nat → Nat → Nat}
set_option maxHeartbeats 1000000 in
set_option maxRecDepth 20000 in
theorem law_c0 (C0 : LC p s m meth c b Ln xs D dA eA) (hS : LSt D dA eA h0 hd ad s n σ L T N I J R H locs z y) (hn : 6 * n + 6 ≤ Ln) (hl : lv_has ls 4 [(3, .int (II (6 * (n : Int)))), (2, .ref h0), (1, .ref hd), (0, .ref b)]) (KK : ∀ (σ : MS) (L : List Nat) (T N : Nat → Nat) (I : Nat → Nat → Int) (J : Nat → Nat → Int64) (R : Nat → Nat → Nat) (H : Heap) (locs : List Loc) (z y : Nat), LSt D dA eA h0 hd ad s (n + 1) σ L T N I J R H locs z y → W p l e room_1 s m #[Value.ref b] below meth c H locs z y Q (F0 m 1058 ls [])) : W p l e room_1 s m #[Value.ref b] below meth c H locs z y Q (F0 m 144 ls []) := by
  obtain ⟨B, hX, hxs, hbl, hL⟩ := C0
  obtain ⟨f, g, A, La⟩ := σ
  obtain ⟨hW, ⟨q0, q1, q2, q3, q4, q5, q6, q7, q8, q9, q10, q11⟩, td, hDI, hlen, hz, hy⟩ := hS
  have hA : ∀ q, s.heap.size ≤ q → lwA s q := fun _ h => h
  have hC := hW.2.1.2.2.2.2.2.2.1
  have hXI := hW.2.1.2.2.2.2.2.2.2
  have h7 := g2_7 hC td
  have hns := lNS_le hC td
  refine lv_aload_n B.1 B.2.1 dL_144 rfl (lv_at hl 2 rfl) ?_
  refine L_ld (k := 1) (kz := 1) B hxs hbl hL hW.1.2.2.1 hn hl (by decide) rfl dL_145 dL_146 dL_147 dL_148 dL_149 ?_
  refine L_ld (k := 2) (kz := 2) B hxs hbl hL hW.1.2.2.1 hn hl (by decide) rfl dL_150 dL_151 dL_152 dL_153 dL_154 ?_
  refine L_ld (k := 3) (kz := 3) B hxs hbl hL hW.1.2.2.1 hn hl (by decide) rfl dL_155 dL_156 dL_157 dL_158 dL_159 ?_
  refine L_ld (k := 4) (kz := 4) B hxs hbl hL hW.1.2.2.1 hn hl (by decide) rfl dL_160 dL_161 dL_162 dL_163 dL_164 ?_
  refine L_ld (k := 5) (kz := 5) B hxs hbl hL hW.1.2.2.1 hn hl (by decide) rfl dL_165 dL_166 dL_167 dL_168 dL_169 ?_
  refine L_callzi hW hA (c_runV (n := 5) (as := [.int (II (xs (6 * n + 1)).toInt), .int (II (xs (6 * n + 2)).toInt), .int (II (xs (6 * n + 3)).toInt), .int (II (xs (6 * n + 4)).toInt), .int (II (xs (6 * n + 5)).toInt)]) (rest := []) B hX hA hW.2.1 hl.1 td kd2 rfl (k_X11_feed l D dA eA L T N I J R hd td ((xs (6 * n + 1)).toInt) (toInt_inr _) ((xs (6 * n + 2)).toInt) (toInt_inr _) ((xs (6 * n + 3)).toInt) (toInt_inr _) ((xs (6 * n + 4)).toInt) (toInt_inr _) ((xs (6 * n + 5)).toInt) (toInt_inr _) _ _) ml_L_13 nm_X11_feed ⟨rfl, rfl⟩ ⟨Nat.le_of_ble_eq_true rfl, Nat.le_of_ble_eq_true rfl⟩ dL_170 rfl rfl (Nat.le_of_ble_eq_true rfl) ⟨by show z + (0) ≤ 600000; omega, by show y + (0) ≤ 7302250; omega⟩) (fun r1 L1 T1 N1 I1 J1 R1 dz dl H locs i1 hp1 hW => ?_)
  obtain ⟨eL, eT, eN, eJ, eR, hF, hp1⟩ := hp1
  obtain rfl := eL.symm; obtain rfl := eT.symm; obtain rfl := eN.symm; obtain rfl := eJ.symm; obtain rfl := eR.symm
  have hDI1 := DI.fr hDI hC hXI td hF (by decide) (by decide) (by decide)
  refine lv_pop B.1 B.2.1 dL_173 rfl ?_
  refine lv_aload_n B.1 B.2.1 dL_174 rfl (lv_at hl 1 rfl) ?_
  refine L_ld (k := 1) (kz := 1) B hxs hbl hL hW.1.2.2.1 hn hl (by decide) rfl dL_175 dL_176 dL_177 dL_178 dL_179 ?_
  refine L_ld (k := 2) (kz := 2) B hxs hbl hL hW.1.2.2.1 hn hl (by decide) rfl dL_180 dL_181 dL_182 dL_183 dL_184 ?_
  refine L_ld (k := 3) (kz := 3) B hxs hbl hL hW.1.2.2.1 hn hl (by decide) rfl dL_185 dL_186 dL_187 dL_188 dL_189 ?_
  refine L_ld (k := 4) (kz := 4) B hxs hbl hL hW.1.2.2.1 hn hl (by decide) rfl dL_190 dL_191 dL_192 dL_193 dL_194 ?_
  refine L_ld (k := 5) (kz := 5) B hxs hbl hL hW.1.2.2.1 hn hl (by decide) rfl dL_195 dL_196 dL_197 dL_198 dL_199 ?_
  refine L_callm (n := 5) (as := [.int (II (xs (6 * n + 1)).toInt), .int (II (xs (6 * n + 2)).toInt), .int (II (xs (6 * n + 3)).toInt), .int (II (xs (6 * n + 4)).toInt), .int (II (xs (6 * n + 5)).toInt)]) (rest := []) B hW hA hl.1 (k_feed l D dA h0 ad f g A La ((xs (6 * n + 1)).toInt) ((xs (6 * n + 2)).toInt) ((xs (6 * n + 3)).toInt) ((xs (6 * n + 4)).toInt) ((xs (6 * n + 5)).toInt) (toInt_inr _) (toInt_inr _) (toInt_inr _) (toInt_inr _) (toInt_inr _)) rfl ml_L_17 nm_feed ⟨rfl, rfl⟩ ⟨Nat.le_of_ble_eq_true rfl, Nat.le_of_ble_eq_true rfl⟩ dL_200 rfl rfl (Nat.le_of_ble_eq_true rfl) ⟨by show z ≤ 600000; omega, by show y ≤ 7302250; omega⟩ (fun r2 σ1 H locs i2 hp2 hW => ?_)
  obtain ⟨n1, b0, rfl, hp2⟩ := hp2
  have hlen : I hd 7 = f 1 := hlen
  have h12 : r1 = r2 ∧ I1 hd 7 = n1 := by
    rcases hp1 with ⟨h1, h2, h3⟩ | ⟨h1, h2, h3⟩
    · have h4 := hp2.1 (by omega); omega
    · have h4 := hp2.2 (by omega); omega
  refine lv_pop B.1 B.2.1 dL_203 rfl ?_
  refine lv_goto (tgt := 1058) B.1 B.2.1 dL_204 (by decide) ?_
  have hb7 : I1 hd 7 ≤ I hd 7 + 20 := by rcases hp1 with h | h <;> omega
  exact KK _ _ _ _ _ _ _ _ _ _ _ ⟨hW, ⟨q0, q1, q2, q3, q4, q5, q6, q7, q8, q9, q10, q11⟩, td, hDI1, h12.2, by omega, by omega⟩
set_option maxHeartbeats 1000000 in
set_option maxRecDepth 20000 in
theorem law_c1 (C0 : LC p s m meth c b Ln xs D dA eA) (hS : LSt D dA eA h0 hd ad s n σ L T N I J R H locs z y) (hn : 6 * n + 6 ≤ Ln) (hl : lv_has ls 4 [(3, .int (II (6 * (n : Int)))), (2, .ref h0), (1, .ref hd), (0, .ref b)]) (KK : ∀ (σ : MS) (L : List Nat) (T N : Nat → Nat) (I : Nat → Nat → Int) (J : Nat → Nat → Int64) (R : Nat → Nat → Nat) (H : Heap) (locs : List Loc) (z y : Nat), LSt D dA eA h0 hd ad s (n + 1) σ L T N I J R H locs z y → W p l e room_1 s m #[Value.ref b] below meth c H locs z y Q (F0 m 1058 ls [])) : W p l e room_1 s m #[Value.ref b] below meth c H locs z y Q (F0 m 207 ls []) := by
  obtain ⟨B, hX, hxs, hbl, hL⟩ := C0
  obtain ⟨f, g, A, La⟩ := σ
  obtain ⟨hW, ⟨q0, q1, q2, q3, q4, q5, q6, q7, q8, q9, q10, q11⟩, td, hDI, hlen, hz, hy⟩ := hS
  have hA : ∀ q, s.heap.size ≤ q → lwA s q := fun _ h => h
  have hC := hW.2.1.2.2.2.2.2.2.1
  have hXI := hW.2.1.2.2.2.2.2.2.2
  have h7 := g2_7 hC td
  have hns := lNS_le hC td
  refine lv_aload_n B.1 B.2.1 dL_207 rfl (lv_at hl 2 rfl) ?_
  refine L_ld (k := 1) (kz := 1) B hxs hbl hL hW.1.2.2.1 hn hl (by decide) rfl dL_208 dL_209 dL_210 dL_211 dL_212 ?_
  refine L_callzi hW hA (c_runV (n := 1) (as := [.int (II (xs (6 * n + 1)).toInt)]) (rest := []) B hX hA hW.2.1 hl.1 td kd2 rfl (k_X11_end l D dA eA L T N I J R hd td ((xs (6 * n + 1)).toInt) (toInt_inr _) _ _) ml_L_18 nm_X11_end ⟨rfl, rfl⟩ ⟨Nat.le_of_ble_eq_true rfl, Nat.le_of_ble_eq_true rfl⟩ dL_213 rfl rfl (Nat.le_of_ble_eq_true rfl) ⟨by show z + (0) ≤ 600000; omega, by show y + (0) ≤ 7302250; omega⟩) (fun r1 L1 T1 N1 I1 J1 R1 dz dl H locs i1 hp1 hW => ?_)
  obtain ⟨eL, eT, eN, eJ, eR, hF, hp1⟩ := hp1
  obtain rfl := eL.symm; obtain rfl := eT.symm; obtain rfl := eN.symm; obtain rfl := eJ.symm; obtain rfl := eR.symm
  have hDI1 := DI.fr hDI hC hXI td hF (by decide) (by decide) (by decide)
  refine lv_aload_n B.1 B.2.1 dL_216 rfl (lv_at hl 1 rfl) ?_
  refine L_ld (k := 1) (kz := 1) B hxs hbl hL hW.1.2.2.1 hn hl (by decide) rfl dL_217 dL_218 dL_219 dL_220 dL_221 ?_
  refine L_callm (n := 1) (as := [.int (II (xs (6 * n + 1)).toInt)]) (rest := [.int (II r1)]) B hW hA hl.1 (k_end l D dA h0 ad f g A La ((xs (6 * n + 1)).toInt) (toInt_inr _)) rfl ml_L_22 nm_end ⟨rfl, rfl⟩ ⟨Nat.le_of_ble_eq_true rfl, Nat.le_of_ble_eq_true rfl⟩ dL_222 rfl rfl (Nat.le_of_ble_eq_true rfl) ⟨by show z ≤ 600000; omega, by show y ≤ 7302250; omega⟩ (fun r2 σ1 H locs i2 hp2 hW => ?_)
  obtain ⟨n1, rfl, hp2⟩ := hp2
  have hlen : I hd 7 = f 1 := hlen
  have h12 : r1 = r2 ∧ I1 hd 7 = n1 := by
    rcases hp1 with ⟨h1, h2, h3, h4⟩ | ⟨h1, h3, h4⟩
    · have h5 := hp2.1 (by omega) (by omega); omega
    · have h5 := hp2.2 (by omega); omega
  refine q_ceq (tgt := 1058) B dL_225 (by decide) i1 i2 (fun _ => ?_) (fun hne => absurd h12.1 hne)
  have hb7 : I1 hd 7 ≤ I hd 7 := by rcases hp1 with h | h <;> omega
  exact KK _ _ _ _ _ _ _ _ _ _ _ ⟨hW, ⟨q0, q1, q2, q3, q4, q5, q6, q7, q8, q9, q10, q11⟩, td, hDI1, h12.2, by omega, by omega⟩
set_option maxHeartbeats 1000000 in
set_option maxRecDepth 20000 in
theorem law_c2 (C0 : LC p s m meth c b Ln xs D dA eA) (hS : LSt D dA eA h0 hd ad s n σ L T N I J R H locs z y) (hn : 6 * n + 6 ≤ Ln) (hl : lv_has ls 4 [(3, .int (II (6 * (n : Int)))), (2, .ref h0), (1, .ref hd), (0, .ref b)]) (KK : ∀ (σ : MS) (L : List Nat) (T N : Nat → Nat) (I : Nat → Nat → Int) (J : Nat → Nat → Int64) (R : Nat → Nat → Nat) (H : Heap) (locs : List Loc) (z y : Nat), LSt D dA eA h0 hd ad s (n + 1) σ L T N I J R H locs z y → W p l e room_1 s m #[Value.ref b] below meth c H locs z y Q (F0 m 1058 ls [])) : W p l e room_1 s m #[Value.ref b] below meth c H locs z y Q (F0 m 230 ls []) := by
  obtain ⟨B, hX, hxs, hbl, hL⟩ := C0
  obtain ⟨f, g, A, La⟩ := σ
  obtain ⟨hW, ⟨q0, q1, q2, q3, q4, q5, q6, q7, q8, q9, q10, q11⟩, td, hDI, hlen, hz, hy⟩ := hS
  have hA : ∀ q, s.heap.size ≤ q → lwA s q := fun _ h => h
  have hC := hW.2.1.2.2.2.2.2.2.1
  have hXI := hW.2.1.2.2.2.2.2.2.2
  have h7 := g2_7 hC td
  have hns := lNS_le hC td
  refine lv_aload_n B.1 B.2.1 dL_230 rfl (lv_at hl 2 rfl) ?_
  obtain ⟨gc, gb, gp, gr, ga, gl, ⟨e3, t5⟩, ⟨e6, t6⟩, ⟨e4, t22⟩, e5, e7, ⟨e8, t15⟩, ⟨e9, t16⟩, ⟨e10, t23⟩, hfl, hfu⟩ := id hDI
  obtain ⟨gt, et, t3⟩ := g2_1 hC td
  obtain ⟨gs, es, t62⟩ := g3_0 hC t3
  obtain ⟨gq, eq, t60⟩ := g2_0 hC td
  refine L_callgi hW hA (c_runV (n := 0) (as := []) (rest := []) B hX hA hW.2.1 hl.1 td kd2 rfl (k_X11_take l D dA eA L T N I J R hd td gt gs gq gc gb gp gr ga gl et t3 es t62 eq t60 e3 t5 e6 t6 e4 t22 e5 e7 e8 t15 e9 t16 e10 t23 hfl hfu _ _) ml_L_23 nm_X11_take ⟨rfl, rfl⟩ ⟨Nat.le_of_ble_eq_true rfl, Nat.le_of_ble_eq_true rfl⟩ dL_231 rfl rfl (Nat.le_of_ble_eq_true rfl) ⟨by show z + (55 * (I hd 7).toNat + 400) ≤ 600000; omega, by show y + (401 * (I hd 7).toNat + 3000) ≤ 7302250; omega⟩) (fun r1 L1 T1 N1 I1 J1 R1 dz dl H locs i1 hp1 hW => ?_)
  obtain ⟨hF, hDI1, hp7, hpz, hpl⟩ := hp1
  have td1 := hF.tt td (by decide) nm0
  have hnf := lNS_fr hC td hF (by decide) (by decide)
  refine lv_pop B.1 B.2.1 dL_234 rfl ?_
  refine lv_aload_n B.1 B.2.1 dL_235 rfl (lv_at hl 1 rfl) ?_
  refine L_callm (n := 0) (as := []) (rest := []) B hW hA hl.1 (k_take l D dA h0 ad f g A La q0 q1 q2 q3 q4 q5 q6 q7 q8 q9 q10 q11) rfl ml_L_27 nm_take ⟨rfl, rfl⟩ ⟨Nat.le_of_ble_eq_true rfl, Nat.le_of_ble_eq_true rfl⟩ dL_236 rfl rfl (Nat.le_of_ble_eq_true rfl) ⟨by show (z + dz) ≤ 600000; omega, by show (y + dl) ≤ 7302250; omega⟩ (fun r2 σ1 H locs i2 hp2 hW => ?_)
  obtain ⟨n8, n9, n7, n10, n5, n6, n15, n22, n56, n57, n58, n59, n60, n61, n62, n63, n3, n4, n1, n90, n97, n99, n101, n103, n77, n78, n11, b13, b14, b17, b18, b19, b20, b21, b23, b25, b26, b27, b28, b29, b30, b31, b32, b33, b34, b35, b36, b37, b38, b39, b40, b42, b43, b44, b45, b47, b48, b49, b50, b51, b52, b53, b54, b2, b46, b24, b91, b92, b93, b73, b74, b75, b76, b64, b65, b66, b67, b68, b69, b70, b71, b72, b81, b82, b80, b79, b12, b16, b41, b55, rfl, hp2⟩ := hp2
  obtain ⟨q0, q1, q2, q3, q4, q5, q6, q7, q8, q9, q10, q11, hp2⟩ := hp2
  refine lv_pop B.1 B.2.1 dL_239 rfl ?_
  refine lv_goto (tgt := 1058) B.1 B.2.1 dL_240 (by decide) ?_
  exact KK _ _ _ _ _ _ _ _ _ _ _ ⟨hW, ⟨q0, q1, q2, q3, q4, q5, q6, q7, q8, q9, q10, q11⟩, td1, hDI1, (hp7.trans hp2.symm), by omega, by omega⟩
end LCS
