set_option maxHeartbeats 200000000 in
set_option maxRecDepth 20000 in
theorem k_init (l : Launch) (D : va_G) (dA : Nat → ClassId) (h0 sz : Nat) : Met l yX12_init (cw0 yX12_init cX12_init 1 none) { frames := 1, cells := 93, slots := 349590, locals := 24 } (iPc D dA h0 sz) (iQ D dA h0 sz (fun σ => RIv σ ∧ σ.1 1 = 0)) 93 349590 (va_A (pW dA h0 (fun _ => 0) (fun _ => 0) 0) sz) := by
  refine i_start (fun p e s m args below meth c ls hsz hin B hM hl => ?_)
  subst hsz
  have hA : ∀ q, s.heap.size ≤ q → va_A (pW dA h0 (fun _ => 0) (fun _ => 0) 0) s.heap.size q := fun q h => Or.inr h
  refine lv_aload_n B.1 B.2.1 dX12_init_0 rfl (lv_at hl 0 rfl) ?_
  refine W.objInit B.1 B.2.1 B.2.2.2.1 (B.2.2.2.2.1 _ ol_link) (B.2.2.2.2.1 _ ol_inst) (B.2.2.2.2.1 _ ol_code) rfl (by rw [B.2.2.1]; exact hl.1) rfl dX12_init_1 (Nat.le_of_ble_eq_true rfl) (Nat.le_of_ble_eq_true rfl) ?_
  refine lv_aload_n B.1 B.2.1 dX12_init_4 rfl (lv_at hl 0 rfl) ?_
  refine q_sip B dX12_init_5 (by decide) ?_
  refine mk_row (k := 0) (t := 1) (n := 3020) (z := 3020) (x := (3020, .inl (fun _ => II 0))) (cells' := 1) (slots' := 3020) (fty := .array .byte) (atype := .byte) B hin hM hA rfl rfl (by decide) rfl (by decide) rfl (mE_i rfl rfl rfl) rfl (fun _ h => h) (fun cA => ha_byte 3020 cA) (by decide) ac_byte fl135 rfl rfl (fun _ => rfl) (fun _ => rfl) rfl (Nat.le_of_ble_eq_true rfl) rfl (Nat.le_of_ble_eq_true rfl) dX12_init_8 dX12_init_10 (fun ad H locs hM => ?_)
  refine lv_aload_n B.1 B.2.1 dX12_init_13 rfl (lv_at hl 0 rfl) ?_
  refine q_sip B dX12_init_14 (by decide) ?_
  refine mk_row (k := 2) (t := 1) (n := 6000) (z := 6000) (x := (6000, .inl (fun _ => II 0))) (cells' := 2) (slots' := 9020) (fty := .array .byte) (atype := .byte) B hin hM hA rfl rfl (by decide) rfl (by decide) rfl (mE_i rfl rfl rfl) rfl (fun _ h => h) (fun cA => ha_byte 6000 cA) (by decide) ac_byte fl7 rfl rfl (fun _ => rfl) (fun _ => rfl) rfl (Nat.le_of_ble_eq_true rfl) rfl (Nat.le_of_ble_eq_true rfl) dX12_init_17 dX12_init_19 (fun ad H locs hM => ?_)
  refine lv_aload_n B.1 B.2.1 dX12_init_22 rfl (lv_at hl 0 rfl) ?_
  refine q_con B dX12_init_23 ?_
  refine mk_put (k := 6) (v := -1) B hM (by decide) rfl fl17 rfl rfl rfl dX12_init_24 (fun H locs hM => ?_)
  refine lv_aload_n B.1 B.2.1 dX12_init_27 rfl (lv_at hl 0 rfl) ?_
  refine q_sip B dX12_init_28 (by decide) ?_
  refine mk_row (k := 12) (t := 3) (n := 128) (z := 128) (x := (128, .inr (.inl (fun _ => 0)))) (cells' := 3) (slots' := 9148) (fty := .array .long) (atype := .long) B hin hM hA rfl rfl (by decide) rfl (by decide) rfl (mE_l rfl rfl) rfl (fun _ h => h) (fun cA => ha_long 128 cA) (by decide) ac_long fl111 rfl rfl (fun _ => rfl) (fun _ => rfl) rfl (Nat.le_of_ble_eq_true rfl) rfl (Nat.le_of_ble_eq_true rfl) dX12_init_31 dX12_init_33 (fun ad H locs hM => ?_)
  refine lv_aload_n B.1 B.2.1 dX12_init_36 rfl (lv_at hl 0 rfl) ?_
  refine q_sip B dX12_init_37 (by decide) ?_
  refine mk_row (k := 13) (t := 0) (n := 128) (z := 128) (x := (128, .inl (fun _ => II 0))) (cells' := 4) (slots' := 9276) (fty := .array .int) (atype := .int) B hin hM hA rfl rfl (by decide) rfl (by decide) rfl (mE_i rfl rfl rfl) rfl (fun _ h => h) (fun cA => ha_int 128 cA) (by decide) ac_int fl138 rfl rfl (fun _ => rfl) (fun _ => rfl) rfl (Nat.le_of_ble_eq_true rfl) rfl (Nat.le_of_ble_eq_true rfl) dX12_init_40 dX12_init_42 (fun ad H locs hM => ?_)
  refine lv_aload_n B.1 B.2.1 dX12_init_45 rfl (lv_at hl 0 rfl) ?_
  refine q_sip B dX12_init_46 (by decide) ?_
  refine mk_row (k := 14) (t := 0) (n := 128) (z := 128) (x := (128, .inl (fun _ => II 0))) (cells' := 5) (slots' := 9404) (fty := .array .int) (atype := .int) B hin hM hA rfl rfl (by decide) rfl (by decide) rfl (mE_i rfl rfl rfl) rfl (fun _ h => h) (fun cA => ha_int 128 cA) (by decide) ac_int fl142 rfl rfl (fun _ => rfl) (fun _ => rfl) rfl (Nat.le_of_ble_eq_true rfl) rfl (Nat.le_of_ble_eq_true rfl) dX12_init_49 dX12_init_51 (fun ad H locs hM => ?_)
  refine lv_aload_n B.1 B.2.1 dX12_init_54 rfl (lv_at hl 0 rfl) ?_
  refine q_sip B dX12_init_55 (by decide) ?_
  refine mk_row (k := 16) (t := 3) (n := 1600) (z := 1600) (x := (1600, .inr (.inl (fun _ => 0)))) (cells' := 6) (slots' := 11004) (fty := .array .long) (atype := .long) B hin hM hA rfl rfl (by decide) rfl (by decide) rfl (mE_l rfl rfl) rfl (fun _ h => h) (fun cA => ha_long 1600 cA) (by decide) ac_long fl145 rfl rfl (fun _ => rfl) (fun _ => rfl) rfl (Nat.le_of_ble_eq_true rfl) rfl (Nat.le_of_ble_eq_true rfl) dX12_init_58 dX12_init_60 (fun ad H locs hM => ?_)
  refine lv_aload_n B.1 B.2.1 dX12_init_63 rfl (lv_at hl 0 rfl) ?_
  refine q_sip B dX12_init_64 (by decide) ?_
  refine mk_row (k := 17) (t := 0) (n := 1600) (z := 1600) (x := (1600, .inl (fun _ => II 0))) (cells' := 7) (slots' := 12604) (fty := .array .int) (atype := .int) B hin hM hA rfl rfl (by decide) rfl (by decide) rfl (mE_i rfl rfl rfl) rfl (fun _ h => h) (fun cA => ha_int 1600 cA) (by decide) ac_int fl148 rfl rfl (fun _ => rfl) (fun _ => rfl) rfl (Nat.le_of_ble_eq_true rfl) rfl (Nat.le_of_ble_eq_true rfl) dX12_init_67 dX12_init_69 (fun ad H locs hM => ?_)
  refine lv_aload_n B.1 B.2.1 dX12_init_72 rfl (lv_at hl 0 rfl) ?_
  refine q_sip B dX12_init_73 (by decide) ?_
  refine mk_row (k := 18) (t := 0) (n := 1600) (z := 1600) (x := (1600, .inl (fun _ => II 0))) (cells' := 8) (slots' := 14204) (fty := .array .int) (atype := .int) B hin hM hA rfl rfl (by decide) rfl (by decide) rfl (mE_i rfl rfl rfl) rfl (fun _ h => h) (fun cA => ha_int 1600 cA) (by decide) ac_int fl151 rfl rfl (fun _ => rfl) (fun _ => rfl) rfl (Nat.le_of_ble_eq_true rfl) rfl (Nat.le_of_ble_eq_true rfl) dX12_init_76 dX12_init_78 (fun ad H locs hM => ?_)
  refine lv_aload_n B.1 B.2.1 dX12_init_81 rfl (lv_at hl 0 rfl) ?_
  refine q_sip B dX12_init_82 (by decide) ?_
  refine mk_row (k := 19) (t := 0) (n := 1600) (z := 1600) (x := (1600, .inl (fun _ => II 0))) (cells' := 9) (slots' := 15804) (fty := .array .int) (atype := .int) B hin hM hA rfl rfl (by decide) rfl (by decide) rfl (mE_i rfl rfl rfl) rfl (fun _ h => h) (fun cA => ha_int 1600 cA) (by decide) ac_int fl154 rfl rfl (fun _ => rfl) (fun _ => rfl) rfl (Nat.le_of_ble_eq_true rfl) rfl (Nat.le_of_ble_eq_true rfl) dX12_init_85 dX12_init_87 (fun ad H locs hM => ?_)
  refine lv_aload_n B.1 B.2.1 dX12_init_90 rfl (lv_at hl 0 rfl) ?_
  refine q_sip B dX12_init_91 (by decide) ?_
  refine mk_row (k := 20) (t := 0) (n := 1600) (z := 1600) (x := (1600, .inl (fun _ => II 0))) (cells' := 10) (slots' := 17404) (fty := .array .int) (atype := .int) B hin hM hA rfl rfl (by decide) rfl (by decide) rfl (mE_i rfl rfl rfl) rfl (fun _ h => h) (fun cA => ha_int 1600 cA) (by decide) ac_int fl157 rfl rfl (fun _ => rfl) (fun _ => rfl) rfl (Nat.le_of_ble_eq_true rfl) rfl (Nat.le_of_ble_eq_true rfl) dX12_init_94 dX12_init_96 (fun ad H locs hM => ?_)
  refine lv_aload_n B.1 B.2.1 dX12_init_99 rfl (lv_at hl 0 rfl) ?_
  refine q_sip B dX12_init_100 (by decide) ?_
  refine mk_row (k := 21) (t := 0) (n := 1600) (z := 1600) (x := (1600, .inl (fun _ => II 0))) (cells' := 11) (slots' := 19004) (fty := .array .int) (atype := .int) B hin hM hA rfl rfl (by decide) rfl (by decide) rfl (mE_i rfl rfl rfl) rfl (fun _ h => h) (fun cA => ha_int 1600 cA) (by decide) ac_int fl160 rfl rfl (fun _ => rfl) (fun _ => rfl) rfl (Nat.le_of_ble_eq_true rfl) rfl (Nat.le_of_ble_eq_true rfl) dX12_init_103 dX12_init_105 (fun ad H locs hM => ?_)
  refine lv_aload_n B.1 B.2.1 dX12_init_108 rfl (lv_at hl 0 rfl) ?_
  refine q_bip B dX12_init_109 (by decide) ?_
  refine mk_row (k := 23) (t := 0) (n := 18) (z := 18) (x := (18, .inl (fun _ => II 0))) (cells' := 12) (slots' := 19022) (fty := .array .int) (atype := .int) B hin hM hA rfl rfl (by decide) rfl (by decide) rfl (mE_i rfl rfl rfl) rfl (fun _ h => h) (fun cA => ha_int 18 cA) (by decide) ac_int fl163 rfl rfl (fun _ => rfl) (fun _ => rfl) rfl (Nat.le_of_ble_eq_true rfl) rfl (Nat.le_of_ble_eq_true rfl) dX12_init_111 dX12_init_113 (fun ad H locs hM => ?_)
  refine lv_aload_n B.1 B.2.1 dX12_init_116 rfl (lv_at hl 0 rfl) ?_
  refine q_bip B dX12_init_117 (by decide) ?_
  refine mk_row (k := 24) (t := 0) (n := 96) (z := 96) (x := (96, .inl (fun _ => II 0))) (cells' := 13) (slots' := 19118) (fty := .array .int) (atype := .int) B hin hM hA rfl rfl (by decide) rfl (by decide) rfl (mE_i rfl rfl rfl) rfl (fun _ h => h) (fun cA => ha_int 96 cA) (by decide) ac_int fl166 rfl rfl (fun _ => rfl) (fun _ => rfl) rfl (Nat.le_of_ble_eq_true rfl) rfl (Nat.le_of_ble_eq_true rfl) dX12_init_119 dX12_init_121 (fun ad H locs hM => ?_)
  refine lv_aload_n B.1 B.2.1 dX12_init_124 rfl (lv_at hl 0 rfl) ?_
  refine q_bip B dX12_init_125 (by decide) ?_
  refine mk_row (k := 25) (t := 0) (n := 12) (z := 12) (x := (12, .inl (fun _ => II 0))) (cells' := 14) (slots' := 19130) (fty := .array .int) (atype := .int) B hin hM hA rfl rfl (by decide) rfl (by decide) rfl (mE_i rfl rfl rfl) rfl (fun _ h => h) (fun cA => ha_int 12 cA) (by decide) ac_int fl169 rfl rfl (fun _ => rfl) (fun _ => rfl) rfl (Nat.le_of_ble_eq_true rfl) rfl (Nat.le_of_ble_eq_true rfl) dX12_init_127 dX12_init_129 (fun ad H locs hM => ?_)
  refine lv_aload_n B.1 B.2.1 dX12_init_132 rfl (lv_at hl 0 rfl) ?_
  refine q_bip B dX12_init_133 (by decide) ?_
  refine mk_row (k := 26) (t := 0) (n := 32) (z := 32) (x := (32, .inl (fun _ => II 0))) (cells' := 15) (slots' := 19162) (fty := .array .int) (atype := .int) B hin hM hA rfl rfl (by decide) rfl (by decide) rfl (mE_i rfl rfl rfl) rfl (fun _ h => h) (fun cA => ha_int 32 cA) (by decide) ac_int fl172 rfl rfl (fun _ => rfl) (fun _ => rfl) rfl (Nat.le_of_ble_eq_true rfl) rfl (Nat.le_of_ble_eq_true rfl) dX12_init_135 dX12_init_137 (fun ad H locs hM => ?_)
  refine lv_aload_n B.1 B.2.1 dX12_init_140 rfl (lv_at hl 0 rfl) ?_
  refine q_bip B dX12_init_141 (by decide) ?_
  refine mk_row (k := 27) (t := 0) (n := 32) (z := 32) (x := (32, .inl (fun _ => II 0))) (cells' := 16) (slots' := 19194) (fty := .array .int) (atype := .int) B hin hM hA rfl rfl (by decide) rfl (by decide) rfl (mE_i rfl rfl rfl) rfl (fun _ h => h) (fun cA => ha_int 32 cA) (by decide) ac_int fl175 rfl rfl (fun _ => rfl) (fun _ => rfl) rfl (Nat.le_of_ble_eq_true rfl) rfl (Nat.le_of_ble_eq_true rfl) dX12_init_143 dX12_init_145 (fun ad H locs hM => ?_)
  refine lv_aload_n B.1 B.2.1 dX12_init_148 rfl (lv_at hl 0 rfl) ?_
  refine q_bip B dX12_init_149 (by decide) ?_
  refine mk_row (k := 28) (t := 0) (n := 32) (z := 32) (x := (32, .inl (fun _ => II 0))) (cells' := 17) (slots' := 19226) (fty := .array .int) (atype := .int) B hin hM hA rfl rfl (by decide) rfl (by decide) rfl (mE_i rfl rfl rfl) rfl (fun _ h => h) (fun cA => ha_int 32 cA) (by decide) ac_int fl178 rfl rfl (fun _ => rfl) (fun _ => rfl) rfl (Nat.le_of_ble_eq_true rfl) rfl (Nat.le_of_ble_eq_true rfl) dX12_init_151 dX12_init_153 (fun ad H locs hM => ?_)
  refine lv_aload_n B.1 B.2.1 dX12_init_156 rfl (lv_at hl 0 rfl) ?_
  refine q_bip B dX12_init_157 (by decide) ?_
  refine mk_row (k := 29) (t := 0) (n := 32) (z := 32) (x := (32, .inl (fun _ => II 0))) (cells' := 18) (slots' := 19258) (fty := .array .int) (atype := .int) B hin hM hA rfl rfl (by decide) rfl (by decide) rfl (mE_i rfl rfl rfl) rfl (fun _ h => h) (fun cA => ha_int 32 cA) (by decide) ac_int fl181 rfl rfl (fun _ => rfl) (fun _ => rfl) rfl (Nat.le_of_ble_eq_true rfl) rfl (Nat.le_of_ble_eq_true rfl) dX12_init_159 dX12_init_161 (fun ad H locs hM => ?_)
  refine lv_aload_n B.1 B.2.1 dX12_init_164 rfl (lv_at hl 0 rfl) ?_
  refine q_sip B dX12_init_165 (by decide) ?_
  refine mk_row (k := 30) (t := 0) (n := 3000) (z := 3000) (x := (3000, .inl (fun _ => II 0))) (cells' := 19) (slots' := 22258) (fty := .array .int) (atype := .int) B hin hM hA rfl rfl (by decide) rfl (by decide) rfl (mE_i rfl rfl rfl) rfl (fun _ h => h) (fun cA => ha_int 3000 cA) (by decide) ac_int fl184 rfl rfl (fun _ => rfl) (fun _ => rfl) rfl (Nat.le_of_ble_eq_true rfl) rfl (Nat.le_of_ble_eq_true rfl) dX12_init_168 dX12_init_170 (fun ad H locs hM => ?_)
  refine lv_aload_n B.1 B.2.1 dX12_init_173 rfl (lv_at hl 0 rfl) ?_
  refine q_sip B dX12_init_174 (by decide) ?_
  refine mk_row (k := 31) (t := 0) (n := 3000) (z := 3000) (x := (3000, .inl (fun _ => II 0))) (cells' := 20) (slots' := 25258) (fty := .array .int) (atype := .int) B hin hM hA rfl rfl (by decide) rfl (by decide) rfl (mE_i rfl rfl rfl) rfl (fun _ h => h) (fun cA => ha_int 3000 cA) (by decide) ac_int fl187 rfl rfl (fun _ => rfl) (fun _ => rfl) rfl (Nat.le_of_ble_eq_true rfl) rfl (Nat.le_of_ble_eq_true rfl) dX12_init_177 dX12_init_179 (fun ad H locs hM => ?_)
  refine lv_aload_n B.1 B.2.1 dX12_init_182 rfl (lv_at hl 0 rfl) ?_
  refine q_bip B dX12_init_183 (by decide) ?_
  refine mk_row (k := 32) (t := 0) (n := 32) (z := 32) (x := (32, .inl (fun _ => II 0))) (cells' := 21) (slots' := 25290) (fty := .array .int) (atype := .int) B hin hM hA rfl rfl (by decide) rfl (by decide) rfl (mE_i rfl rfl rfl) rfl (fun _ h => h) (fun cA => ha_int 32 cA) (by decide) ac_int fl190 rfl rfl (fun _ => rfl) (fun _ => rfl) rfl (Nat.le_of_ble_eq_true rfl) rfl (Nat.le_of_ble_eq_true rfl) dX12_init_185 dX12_init_187 (fun ad H locs hM => ?_)
  refine lv_aload_n B.1 B.2.1 dX12_init_190 rfl (lv_at hl 0 rfl) ?_
  refine q_bip B dX12_init_191 (by decide) ?_
  refine mk_row (k := 33) (t := 0) (n := 32) (z := 32) (x := (32, .inl (fun _ => II 0))) (cells' := 22) (slots' := 25322) (fty := .array .int) (atype := .int) B hin hM hA rfl rfl (by decide) rfl (by decide) rfl (mE_i rfl rfl rfl) rfl (fun _ h => h) (fun cA => ha_int 32 cA) (by decide) ac_int fl193 rfl rfl (fun _ => rfl) (fun _ => rfl) rfl (Nat.le_of_ble_eq_true rfl) rfl (Nat.le_of_ble_eq_true rfl) dX12_init_193 dX12_init_195 (fun ad H locs hM => ?_)
  refine lv_aload_n B.1 B.2.1 dX12_init_198 rfl (lv_at hl 0 rfl) ?_
  refine q_bip B dX12_init_199 (by decide) ?_
  refine mk_row (k := 34) (t := 0) (n := 32) (z := 32) (x := (32, .inl (fun _ => II 0))) (cells' := 23) (slots' := 25354) (fty := .array .int) (atype := .int) B hin hM hA rfl rfl (by decide) rfl (by decide) rfl (mE_i rfl rfl rfl) rfl (fun _ h => h) (fun cA => ha_int 32 cA) (by decide) ac_int fl196 rfl rfl (fun _ => rfl) (fun _ => rfl) rfl (Nat.le_of_ble_eq_true rfl) rfl (Nat.le_of_ble_eq_true rfl) dX12_init_201 dX12_init_203 (fun ad H locs hM => ?_)
  refine lv_aload_n B.1 B.2.1 dX12_init_206 rfl (lv_at hl 0 rfl) ?_
  refine q_bip B dX12_init_207 (by decide) ?_
  refine mk_row (k := 35) (t := 0) (n := 32) (z := 32) (x := (32, .inl (fun _ => II 0))) (cells' := 24) (slots' := 25386) (fty := .array .int) (atype := .int) B hin hM hA rfl rfl (by decide) rfl (by decide) rfl (mE_i rfl rfl rfl) rfl (fun _ h => h) (fun cA => ha_int 32 cA) (by decide) ac_int fl199 rfl rfl (fun _ => rfl) (fun _ => rfl) rfl (Nat.le_of_ble_eq_true rfl) rfl (Nat.le_of_ble_eq_true rfl) dX12_init_209 dX12_init_211 (fun ad H locs hM => ?_)
  refine lv_aload_n B.1 B.2.1 dX12_init_214 rfl (lv_at hl 0 rfl) ?_
  refine q_bip B dX12_init_215 (by decide) ?_
  refine mk_row (k := 36) (t := 0) (n := 32) (z := 32) (x := (32, .inl (fun _ => II 0))) (cells' := 25) (slots' := 25418) (fty := .array .int) (atype := .int) B hin hM hA rfl rfl (by decide) rfl (by decide) rfl (mE_i rfl rfl rfl) rfl (fun _ h => h) (fun cA => ha_int 32 cA) (by decide) ac_int fl202 rfl rfl (fun _ => rfl) (fun _ => rfl) rfl (Nat.le_of_ble_eq_true rfl) rfl (Nat.le_of_ble_eq_true rfl) dX12_init_217 dX12_init_219 (fun ad H locs hM => ?_)
  refine lv_aload_n B.1 B.2.1 dX12_init_222 rfl (lv_at hl 0 rfl) ?_
  refine q_bip B dX12_init_223 (by decide) ?_
  refine mk_row (k := 37) (t := 0) (n := 32) (z := 32) (x := (32, .inl (fun _ => II 0))) (cells' := 26) (slots' := 25450) (fty := .array .int) (atype := .int) B hin hM hA rfl rfl (by decide) rfl (by decide) rfl (mE_i rfl rfl rfl) rfl (fun _ h => h) (fun cA => ha_int 32 cA) (by decide) ac_int fl205 rfl rfl (fun _ => rfl) (fun _ => rfl) rfl (Nat.le_of_ble_eq_true rfl) rfl (Nat.le_of_ble_eq_true rfl) dX12_init_225 dX12_init_227 (fun ad H locs hM => ?_)
  refine lv_aload_n B.1 B.2.1 dX12_init_230 rfl (lv_at hl 0 rfl) ?_
  refine q_sip B dX12_init_231 (by decide) ?_
  refine mk_row (k := 38) (t := 0) (n := 384) (z := 384) (x := (384, .inl (fun _ => II 0))) (cells' := 27) (slots' := 25834) (fty := .array .int) (atype := .int) B hin hM hA rfl rfl (by decide) rfl (by decide) rfl (mE_i rfl rfl rfl) rfl (fun _ h => h) (fun cA => ha_int 384 cA) (by decide) ac_int fl208 rfl rfl (fun _ => rfl) (fun _ => rfl) rfl (Nat.le_of_ble_eq_true rfl) rfl (Nat.le_of_ble_eq_true rfl) dX12_init_234 dX12_init_236 (fun ad H locs hM => ?_)
  refine lv_aload_n B.1 B.2.1 dX12_init_239 rfl (lv_at hl 0 rfl) ?_
  refine q_sip B dX12_init_240 (by decide) ?_
  refine mk_row (k := 39) (t := 0) (n := 256) (z := 256) (x := (256, .inl (fun _ => II 0))) (cells' := 28) (slots' := 26090) (fty := .array .int) (atype := .int) B hin hM hA rfl rfl (by decide) rfl (by decide) rfl (mE_i rfl rfl rfl) rfl (fun _ h => h) (fun cA => ha_int 256 cA) (by decide) ac_int fl211 rfl rfl (fun _ => rfl) (fun _ => rfl) rfl (Nat.le_of_ble_eq_true rfl) rfl (Nat.le_of_ble_eq_true rfl) dX12_init_243 dX12_init_245 (fun ad H locs hM => ?_)
  refine lv_aload_n B.1 B.2.1 dX12_init_248 rfl (lv_at hl 0 rfl) ?_
  refine q_bip B dX12_init_249 (by decide) ?_
  refine mk_row (k := 40) (t := 0) (n := 32) (z := 32) (x := (32, .inl (fun _ => II 0))) (cells' := 29) (slots' := 26122) (fty := .array .int) (atype := .int) B hin hM hA rfl rfl (by decide) rfl (by decide) rfl (mE_i rfl rfl rfl) rfl (fun _ h => h) (fun cA => ha_int 32 cA) (by decide) ac_int fl214 rfl rfl (fun _ => rfl) (fun _ => rfl) rfl (Nat.le_of_ble_eq_true rfl) rfl (Nat.le_of_ble_eq_true rfl) dX12_init_251 dX12_init_253 (fun ad H locs hM => ?_)
  refine lv_aload_n B.1 B.2.1 dX12_init_256 rfl (lv_at hl 0 rfl) ?_
  refine q_sip B dX12_init_257 (by decide) ?_
  refine mk_row (k := 41) (t := 3) (n := 400) (z := 400) (x := (400, .inr (.inl (fun _ => 0)))) (cells' := 30) (slots' := 26522) (fty := .array .long) (atype := .long) B hin hM hA rfl rfl (by decide) rfl (by decide) rfl (mE_l rfl rfl) rfl (fun _ h => h) (fun cA => ha_long 400 cA) (by decide) ac_long fl217 rfl rfl (fun _ => rfl) (fun _ => rfl) rfl (Nat.le_of_ble_eq_true rfl) rfl (Nat.le_of_ble_eq_true rfl) dX12_init_260 dX12_init_262 (fun ad H locs hM => ?_)
  refine lv_aload_n B.1 B.2.1 dX12_init_265 rfl (lv_at hl 0 rfl) ?_
  refine q_sip B dX12_init_266 (by decide) ?_
  refine mk_row (k := 42) (t := 0) (n := 400) (z := 400) (x := (400, .inl (fun _ => II 0))) (cells' := 31) (slots' := 26922) (fty := .array .int) (atype := .int) B hin hM hA rfl rfl (by decide) rfl (by decide) rfl (mE_i rfl rfl rfl) rfl (fun _ h => h) (fun cA => ha_int 400 cA) (by decide) ac_int fl220 rfl rfl (fun _ => rfl) (fun _ => rfl) rfl (Nat.le_of_ble_eq_true rfl) rfl (Nat.le_of_ble_eq_true rfl) dX12_init_269 dX12_init_271 (fun ad H locs hM => ?_)
  refine lv_aload_n B.1 B.2.1 dX12_init_274 rfl (lv_at hl 0 rfl) ?_
  refine q_sip B dX12_init_275 (by decide) ?_
  refine mk_row (k := 43) (t := 0) (n := 400) (z := 400) (x := (400, .inl (fun _ => II 0))) (cells' := 32) (slots' := 27322) (fty := .array .int) (atype := .int) B hin hM hA rfl rfl (by decide) rfl (by decide) rfl (mE_i rfl rfl rfl) rfl (fun _ h => h) (fun cA => ha_int 400 cA) (by decide) ac_int fl223 rfl rfl (fun _ => rfl) (fun _ => rfl) rfl (Nat.le_of_ble_eq_true rfl) rfl (Nat.le_of_ble_eq_true rfl) dX12_init_278 dX12_init_280 (fun ad H locs hM => ?_)
  refine lv_aload_n B.1 B.2.1 dX12_init_283 rfl (lv_at hl 0 rfl) ?_
  refine q_sip B dX12_init_284 (by decide) ?_
  refine mk_row (k := 44) (t := 0) (n := 400) (z := 400) (x := (400, .inl (fun _ => II 0))) (cells' := 33) (slots' := 27722) (fty := .array .int) (atype := .int) B hin hM hA rfl rfl (by decide) rfl (by decide) rfl (mE_i rfl rfl rfl) rfl (fun _ h => h) (fun cA => ha_int 400 cA) (by decide) ac_int fl226 rfl rfl (fun _ => rfl) (fun _ => rfl) rfl (Nat.le_of_ble_eq_true rfl) rfl (Nat.le_of_ble_eq_true rfl) dX12_init_287 dX12_init_289 (fun ad H locs hM => ?_)
  refine lv_aload_n B.1 B.2.1 dX12_init_292 rfl (lv_at hl 0 rfl) ?_
  refine q_sip B dX12_init_293 (by decide) ?_
  refine mk_row (k := 45) (t := 0) (n := 400) (z := 400) (x := (400, .inl (fun _ => II 0))) (cells' := 34) (slots' := 28122) (fty := .array .int) (atype := .int) B hin hM hA rfl rfl (by decide) rfl (by decide) rfl (mE_i rfl rfl rfl) rfl (fun _ h => h) (fun cA => ha_int 400 cA) (by decide) ac_int fl229 rfl rfl (fun _ => rfl) (fun _ => rfl) rfl (Nat.le_of_ble_eq_true rfl) rfl (Nat.le_of_ble_eq_true rfl) dX12_init_296 dX12_init_298 (fun ad H locs hM => ?_)
  refine lv_aload_n B.1 B.2.1 dX12_init_301 rfl (lv_at hl 0 rfl) ?_
  refine q_sip B dX12_init_302 (by decide) ?_
  refine mk_row (k := 46) (t := 0) (n := 3200) (z := 3200) (x := (3200, .inl (fun _ => II 0))) (cells' := 35) (slots' := 31322) (fty := .array .int) (atype := .int) B hin hM hA rfl rfl (by decide) rfl (by decide) rfl (mE_i rfl rfl rfl) rfl (fun _ h => h) (fun cA => ha_int 3200 cA) (by decide) ac_int fl232 rfl rfl (fun _ => rfl) (fun _ => rfl) rfl (Nat.le_of_ble_eq_true rfl) rfl (Nat.le_of_ble_eq_true rfl) dX12_init_305 dX12_init_307 (fun ad H locs hM => ?_)
  refine lv_aload_n B.1 B.2.1 dX12_init_310 rfl (lv_at hl 0 rfl) ?_
  refine q_sip B dX12_init_311 (by decide) ?_
  refine mk_row (k := 47) (t := 0) (n := 3200) (z := 3200) (x := (3200, .inl (fun _ => II 0))) (cells' := 36) (slots' := 34522) (fty := .array .int) (atype := .int) B hin hM hA rfl rfl (by decide) rfl (by decide) rfl (mE_i rfl rfl rfl) rfl (fun _ h => h) (fun cA => ha_int 3200 cA) (by decide) ac_int fl235 rfl rfl (fun _ => rfl) (fun _ => rfl) rfl (Nat.le_of_ble_eq_true rfl) rfl (Nat.le_of_ble_eq_true rfl) dX12_init_314 dX12_init_316 (fun ad H locs hM => ?_)
  refine lv_aload_n B.1 B.2.1 dX12_init_319 rfl (lv_at hl 0 rfl) ?_
  refine q_sip B dX12_init_320 (by decide) ?_
  refine mk_row (k := 48) (t := 0) (n := 3200) (z := 3200) (x := (3200, .inl (fun _ => II 0))) (cells' := 37) (slots' := 37722) (fty := .array .int) (atype := .int) B hin hM hA rfl rfl (by decide) rfl (by decide) rfl (mE_i rfl rfl rfl) rfl (fun _ h => h) (fun cA => ha_int 3200 cA) (by decide) ac_int fl238 rfl rfl (fun _ => rfl) (fun _ => rfl) rfl (Nat.le_of_ble_eq_true rfl) rfl (Nat.le_of_ble_eq_true rfl) dX12_init_323 dX12_init_325 (fun ad H locs hM => ?_)
  refine lv_aload_n B.1 B.2.1 dX12_init_328 rfl (lv_at hl 0 rfl) ?_
  refine q_sip B dX12_init_329 (by decide) ?_
  refine mk_row (k := 49) (t := 0) (n := 3200) (z := 3200) (x := (3200, .inl (fun _ => II 0))) (cells' := 38) (slots' := 40922) (fty := .array .int) (atype := .int) B hin hM hA rfl rfl (by decide) rfl (by decide) rfl (mE_i rfl rfl rfl) rfl (fun _ h => h) (fun cA => ha_int 3200 cA) (by decide) ac_int fl241 rfl rfl (fun _ => rfl) (fun _ => rfl) rfl (Nat.le_of_ble_eq_true rfl) rfl (Nat.le_of_ble_eq_true rfl) dX12_init_332 dX12_init_334 (fun ad H locs hM => ?_)
  refine lv_aload_n B.1 B.2.1 dX12_init_337 rfl (lv_at hl 0 rfl) ?_
  refine q_sip B dX12_init_338 (by decide) ?_
  refine mk_row (k := 50) (t := 0) (n := 3200) (z := 3200) (x := (3200, .inl (fun _ => II 0))) (cells' := 39) (slots' := 44122) (fty := .array .int) (atype := .int) B hin hM hA rfl rfl (by decide) rfl (by decide) rfl (mE_i rfl rfl rfl) rfl (fun _ h => h) (fun cA => ha_int 3200 cA) (by decide) ac_int fl244 rfl rfl (fun _ => rfl) (fun _ => rfl) rfl (Nat.le_of_ble_eq_true rfl) rfl (Nat.le_of_ble_eq_true rfl) dX12_init_341 dX12_init_343 (fun ad H locs hM => ?_)
  refine lv_aload_n B.1 B.2.1 dX12_init_346 rfl (lv_at hl 0 rfl) ?_
  refine q_sip B dX12_init_347 (by decide) ?_
  refine mk_row (k := 51) (t := 0) (n := 3200) (z := 3200) (x := (3200, .inl (fun _ => II 0))) (cells' := 40) (slots' := 47322) (fty := .array .int) (atype := .int) B hin hM hA rfl rfl (by decide) rfl (by decide) rfl (mE_i rfl rfl rfl) rfl (fun _ h => h) (fun cA => ha_int 3200 cA) (by decide) ac_int fl247 rfl rfl (fun _ => rfl) (fun _ => rfl) rfl (Nat.le_of_ble_eq_true rfl) rfl (Nat.le_of_ble_eq_true rfl) dX12_init_350 dX12_init_352 (fun ad H locs hM => ?_)
  refine lv_aload_n B.1 B.2.1 dX12_init_355 rfl (lv_at hl 0 rfl) ?_
  refine q_sip B dX12_init_356 (by decide) ?_
  refine mk_row (k := 52) (t := 0) (n := 3200) (z := 3200) (x := (3200, .inl (fun _ => II 0))) (cells' := 41) (slots' := 50522) (fty := .array .int) (atype := .int) B hin hM hA rfl rfl (by decide) rfl (by decide) rfl (mE_i rfl rfl rfl) rfl (fun _ h => h) (fun cA => ha_int 3200 cA) (by decide) ac_int fl250 rfl rfl (fun _ => rfl) (fun _ => rfl) rfl (Nat.le_of_ble_eq_true rfl) rfl (Nat.le_of_ble_eq_true rfl) dX12_init_359 dX12_init_361 (fun ad H locs hM => ?_)
  refine lv_aload_n B.1 B.2.1 dX12_init_364 rfl (lv_at hl 0 rfl) ?_
  refine q_sip B dX12_init_365 (by decide) ?_
  refine mk_row (k := 53) (t := 2) (n := 3200) (z := 3200) (x := (3200, .inl (fun _ => II 0))) (cells' := 42) (slots' := 53722) (fty := .array .boolean) (atype := .boolean) B hin hM hA rfl rfl (by decide) rfl (by decide) rfl (mE_i rfl rfl rfl) rfl (fun _ h => h) (fun cA => ha_boolean 3200 cA) (by decide) ac_boolean fl253 rfl rfl (fun _ => rfl) (fun _ => rfl) rfl (Nat.le_of_ble_eq_true rfl) rfl (Nat.le_of_ble_eq_true rfl) dX12_init_368 dX12_init_370 (fun ad H locs hM => ?_)
  refine lv_aload_n B.1 B.2.1 dX12_init_373 rfl (lv_at hl 0 rfl) ?_
  refine q_sip B dX12_init_374 (by decide) ?_
  refine mk_row (k := 54) (t := 0) (n := 12800) (z := 12800) (x := (12800, .inl (fun _ => II 0))) (cells' := 43) (slots' := 66522) (fty := .array .int) (atype := .int) B hin hM hA rfl rfl (by decide) rfl (by decide) rfl (mE_i rfl rfl rfl) rfl (fun _ h => h) (fun cA => ha_int 12800 cA) (by decide) ac_int fl257 rfl rfl (fun _ => rfl) (fun _ => rfl) rfl (Nat.le_of_ble_eq_true rfl) rfl (Nat.le_of_ble_eq_true rfl) dX12_init_377 dX12_init_379 (fun ad H locs hM => ?_)
  refine lv_aload_n B.1 B.2.1 dX12_init_382 rfl (lv_at hl 0 rfl) ?_
  refine q_sip B dX12_init_383 (by decide) ?_
  refine mk_row (k := 55) (t := 3) (n := 12800) (z := 12800) (x := (12800, .inr (.inl (fun _ => 0)))) (cells' := 44) (slots' := 79322) (fty := .array .long) (atype := .long) B hin hM hA rfl rfl (by decide) rfl (by decide) rfl (mE_l rfl rfl) rfl (fun _ h => h) (fun cA => ha_long 12800 cA) (by decide) ac_long fl260 rfl rfl (fun _ => rfl) (fun _ => rfl) rfl (Nat.le_of_ble_eq_true rfl) rfl (Nat.le_of_ble_eq_true rfl) dX12_init_386 dX12_init_388 (fun ad H locs hM => ?_)
  refine lv_aload_n B.1 B.2.1 dX12_init_391 rfl (lv_at hl 0 rfl) ?_
  refine q_sip B dX12_init_392 (by decide) ?_
  refine mk_row (k := 64) (t := 0) (n := 216) (z := 216) (x := (216, .inl (fun _ => II 0))) (cells' := 45) (slots' := 79538) (fty := .array .int) (atype := .int) B hin hM hA rfl rfl (by decide) rfl (by decide) rfl (mE_i rfl rfl rfl) rfl (fun _ h => h) (fun cA => ha_int 216 cA) (by decide) ac_int fl263 rfl rfl (fun _ => rfl) (fun _ => rfl) rfl (Nat.le_of_ble_eq_true rfl) rfl (Nat.le_of_ble_eq_true rfl) dX12_init_395 dX12_init_397 (fun ad H locs hM => ?_)
  refine lv_aload_n B.1 B.2.1 dX12_init_400 rfl (lv_at hl 0 rfl) ?_
  refine q_sip B dX12_init_401 (by decide) ?_
  refine mk_row (k := 65) (t := 0) (n := 12960) (z := 12960) (x := (12960, .inl (fun _ => II 0))) (cells' := 46) (slots' := 92498) (fty := .array .int) (atype := .int) B hin hM hA rfl rfl (by decide) rfl (by decide) rfl (mE_i rfl rfl rfl) rfl (fun _ h => h) (fun cA => ha_int 12960 cA) (by decide) ac_int fl266 rfl rfl (fun _ => rfl) (fun _ => rfl) rfl (Nat.le_of_ble_eq_true rfl) rfl (Nat.le_of_ble_eq_true rfl) dX12_init_404 dX12_init_406 (fun ad H locs hM => ?_)
  refine lv_aload_n B.1 B.2.1 dX12_init_409 rfl (lv_at hl 0 rfl) ?_
  refine q_sip B dX12_init_410 (by decide) ?_
  refine mk_row (k := 66) (t := 0) (n := 12960) (z := 12960) (x := (12960, .inl (fun _ => II 0))) (cells' := 47) (slots' := 105458) (fty := .array .int) (atype := .int) B hin hM hA rfl rfl (by decide) rfl (by decide) rfl (mE_i rfl rfl rfl) rfl (fun _ h => h) (fun cA => ha_int 12960 cA) (by decide) ac_int fl269 rfl rfl (fun _ => rfl) (fun _ => rfl) rfl (Nat.le_of_ble_eq_true rfl) rfl (Nat.le_of_ble_eq_true rfl) dX12_init_413 dX12_init_415 (fun ad H locs hM => ?_)
  refine lv_aload_n B.1 B.2.1 dX12_init_418 rfl (lv_at hl 0 rfl) ?_
  refine q_sip B dX12_init_419 (by decide) ?_
  refine mk_row (k := 67) (t := 0) (n := 12960) (z := 12960) (x := (12960, .inl (fun _ => II 0))) (cells' := 48) (slots' := 118418) (fty := .array .int) (atype := .int) B hin hM hA rfl rfl (by decide) rfl (by decide) rfl (mE_i rfl rfl rfl) rfl (fun _ h => h) (fun cA => ha_int 12960 cA) (by decide) ac_int fl272 rfl rfl (fun _ => rfl) (fun _ => rfl) rfl (Nat.le_of_ble_eq_true rfl) rfl (Nat.le_of_ble_eq_true rfl) dX12_init_422 dX12_init_424 (fun ad H locs hM => ?_)
  refine lv_aload_n B.1 B.2.1 dX12_init_427 rfl (lv_at hl 0 rfl) ?_
  refine q_sip B dX12_init_428 (by decide) ?_
  refine mk_row (k := 68) (t := 0) (n := 12960) (z := 12960) (x := (12960, .inl (fun _ => II 0))) (cells' := 49) (slots' := 131378) (fty := .array .int) (atype := .int) B hin hM hA rfl rfl (by decide) rfl (by decide) rfl (mE_i rfl rfl rfl) rfl (fun _ h => h) (fun cA => ha_int 12960 cA) (by decide) ac_int fl275 rfl rfl (fun _ => rfl) (fun _ => rfl) rfl (Nat.le_of_ble_eq_true rfl) rfl (Nat.le_of_ble_eq_true rfl) dX12_init_431 dX12_init_433 (fun ad H locs hM => ?_)
  refine lv_aload_n B.1 B.2.1 dX12_init_436 rfl (lv_at hl 0 rfl) ?_
  refine q_sip B dX12_init_437 (by decide) ?_
  refine mk_row (k := 69) (t := 0) (n := 12960) (z := 12960) (x := (12960, .inl (fun _ => II 0))) (cells' := 50) (slots' := 144338) (fty := .array .int) (atype := .int) B hin hM hA rfl rfl (by decide) rfl (by decide) rfl (mE_i rfl rfl rfl) rfl (fun _ h => h) (fun cA => ha_int 12960 cA) (by decide) ac_int fl278 rfl rfl (fun _ => rfl) (fun _ => rfl) rfl (Nat.le_of_ble_eq_true rfl) rfl (Nat.le_of_ble_eq_true rfl) dX12_init_440 dX12_init_442 (fun ad H locs hM => ?_)
  refine lv_aload_n B.1 B.2.1 dX12_init_445 rfl (lv_at hl 0 rfl) ?_
  refine q_sip B dX12_init_446 (by decide) ?_
  refine mk_row (k := 70) (t := 0) (n := 12960) (z := 12960) (x := (12960, .inl (fun _ => II 0))) (cells' := 51) (slots' := 157298) (fty := .array .int) (atype := .int) B hin hM hA rfl rfl (by decide) rfl (by decide) rfl (mE_i rfl rfl rfl) rfl (fun _ h => h) (fun cA => ha_int 12960 cA) (by decide) ac_int fl281 rfl rfl (fun _ => rfl) (fun _ => rfl) rfl (Nat.le_of_ble_eq_true rfl) rfl (Nat.le_of_ble_eq_true rfl) dX12_init_449 dX12_init_451 (fun ad H locs hM => ?_)
  refine lv_aload_n B.1 B.2.1 dX12_init_454 rfl (lv_at hl 0 rfl) ?_
  refine q_sip B dX12_init_455 (by decide) ?_
  refine mk_row (k := 71) (t := 0) (n := 12960) (z := 12960) (x := (12960, .inl (fun _ => II 0))) (cells' := 52) (slots' := 170258) (fty := .array .int) (atype := .int) B hin hM hA rfl rfl (by decide) rfl (by decide) rfl (mE_i rfl rfl rfl) rfl (fun _ h => h) (fun cA => ha_int 12960 cA) (by decide) ac_int fl284 rfl rfl (fun _ => rfl) (fun _ => rfl) rfl (Nat.le_of_ble_eq_true rfl) rfl (Nat.le_of_ble_eq_true rfl) dX12_init_458 dX12_init_460 (fun ad H locs hM => ?_)
  refine lv_aload_n B.1 B.2.1 dX12_init_463 rfl (lv_at hl 0 rfl) ?_
  refine lv_ldcw (v := II 51840) B.1 B.2.1 B.2.2.2.1 (B.2.2.2.2.1 _ ic287) dX12_init_464 ?_
  refine mk_row (k := 72) (t := 0) (n := 51840) (z := 51840) (x := (51840, .inl (fun _ => II 0))) (cells' := 53) (slots' := 222098) (fty := .array .int) (atype := .int) B hin hM hA rfl rfl (by decide) rfl (by decide) rfl (mE_i rfl rfl rfl) rfl (fun _ h => h) (fun cA => ha_int 51840 cA) (by decide) ac_int fl288 rfl rfl (fun _ => rfl) (fun _ => rfl) rfl (Nat.le_of_ble_eq_true rfl) rfl (Nat.le_of_ble_eq_true rfl) dX12_init_467 dX12_init_469 (fun ad H locs hM => ?_)
  refine lv_aload_n B.1 B.2.1 dX12_init_472 rfl (lv_at hl 0 rfl) ?_
  refine q_sip B dX12_init_473 (by decide) ?_
  refine mk_row (k := 73) (t := 0) (n := 200) (z := 200) (x := (200, .inl (fun _ => II 0))) (cells' := 54) (slots' := 222298) (fty := .array .int) (atype := .int) B hin hM hA rfl rfl (by decide) rfl (by decide) rfl (mE_i rfl rfl rfl) rfl (fun _ h => h) (fun cA => ha_int 200 cA) (by decide) ac_int fl291 rfl rfl (fun _ => rfl) (fun _ => rfl) rfl (Nat.le_of_ble_eq_true rfl) rfl (Nat.le_of_ble_eq_true rfl) dX12_init_476 dX12_init_478 (fun ad H locs hM => ?_)
  refine lv_aload_n B.1 B.2.1 dX12_init_481 rfl (lv_at hl 0 rfl) ?_
  refine q_sip B dX12_init_482 (by decide) ?_
  refine mk_row (k := 74) (t := 0) (n := 200) (z := 200) (x := (200, .inl (fun _ => II 0))) (cells' := 55) (slots' := 222498) (fty := .array .int) (atype := .int) B hin hM hA rfl rfl (by decide) rfl (by decide) rfl (mE_i rfl rfl rfl) rfl (fun _ h => h) (fun cA => ha_int 200 cA) (by decide) ac_int fl294 rfl rfl (fun _ => rfl) (fun _ => rfl) rfl (Nat.le_of_ble_eq_true rfl) rfl (Nat.le_of_ble_eq_true rfl) dX12_init_485 dX12_init_487 (fun ad H locs hM => ?_)
  refine lv_aload_n B.1 B.2.1 dX12_init_490 rfl (lv_at hl 0 rfl) ?_
  refine q_sip B dX12_init_491 (by decide) ?_
  refine mk_row (k := 75) (t := 0) (n := 200) (z := 200) (x := (200, .inl (fun _ => II 0))) (cells' := 56) (slots' := 222698) (fty := .array .int) (atype := .int) B hin hM hA rfl rfl (by decide) rfl (by decide) rfl (mE_i rfl rfl rfl) rfl (fun _ h => h) (fun cA => ha_int 200 cA) (by decide) ac_int fl297 rfl rfl (fun _ => rfl) (fun _ => rfl) rfl (Nat.le_of_ble_eq_true rfl) rfl (Nat.le_of_ble_eq_true rfl) dX12_init_494 dX12_init_496 (fun ad H locs hM => ?_)
  refine lv_aload_n B.1 B.2.1 dX12_init_499 rfl (lv_at hl 0 rfl) ?_
  refine q_sip B dX12_init_500 (by decide) ?_
  refine mk_row (k := 76) (t := 0) (n := 200) (z := 200) (x := (200, .inl (fun _ => II 0))) (cells' := 57) (slots' := 222898) (fty := .array .int) (atype := .int) B hin hM hA rfl rfl (by decide) rfl (by decide) rfl (mE_i rfl rfl rfl) rfl (fun _ h => h) (fun cA => ha_int 200 cA) (by decide) ac_int fl300 rfl rfl (fun _ => rfl) (fun _ => rfl) rfl (Nat.le_of_ble_eq_true rfl) rfl (Nat.le_of_ble_eq_true rfl) dX12_init_503 dX12_init_505 (fun ad H locs hM => ?_)
  refine lv_aload_n B.1 B.2.1 dX12_init_508 rfl (lv_at hl 0 rfl) ?_
  refine q_bip B dX12_init_509 (by decide) ?_
  refine mk_row (k := 79) (t := 2) (n := 16) (z := 16) (x := (16, .inl (fun _ => II 0))) (cells' := 58) (slots' := 222914) (fty := .array .boolean) (atype := .boolean) B hin hM hA rfl rfl (by decide) rfl (by decide) rfl (mE_i rfl rfl rfl) rfl (fun _ h => h) (fun cA => ha_boolean 16 cA) (by decide) ac_boolean fl303 rfl rfl (fun _ => rfl) (fun _ => rfl) rfl (Nat.le_of_ble_eq_true rfl) rfl (Nat.le_of_ble_eq_true rfl) dX12_init_511 dX12_init_513 (fun ad H locs hM => ?_)
  refine lv_aload_n B.1 B.2.1 dX12_init_516 rfl (lv_at hl 0 rfl) ?_
  refine q_sip B dX12_init_517 (by decide) ?_
  refine mk_row (k := 80) (t := 2) (n := 256) (z := 256) (x := (256, .inl (fun _ => II 0))) (cells' := 59) (slots' := 223170) (fty := .array .boolean) (atype := .boolean) B hin hM hA rfl rfl (by decide) rfl (by decide) rfl (mE_i rfl rfl rfl) rfl (fun _ h => h) (fun cA => ha_boolean 256 cA) (by decide) ac_boolean fl306 rfl rfl (fun _ => rfl) (fun _ => rfl) rfl (Nat.le_of_ble_eq_true rfl) rfl (Nat.le_of_ble_eq_true rfl) dX12_init_520 dX12_init_522 (fun ad H locs hM => ?_)
  refine lv_aload_n B.1 B.2.1 dX12_init_525 rfl (lv_at hl 0 rfl) ?_
  refine q_bip B dX12_init_526 (by decide) ?_
  refine mk_row (k := 81) (t := 0) (n := 20) (z := 20) (x := (20, .inl (fun _ => II 0))) (cells' := 60) (slots' := 223190) (fty := .array .int) (atype := .int) B hin hM hA rfl rfl (by decide) rfl (by decide) rfl (mE_i rfl rfl rfl) rfl (fun _ h => h) (fun cA => ha_int 20 cA) (by decide) ac_int fl309 rfl rfl (fun _ => rfl) (fun _ => rfl) rfl (Nat.le_of_ble_eq_true rfl) rfl (Nat.le_of_ble_eq_true rfl) dX12_init_528 dX12_init_530 (fun ad H locs hM => ?_)
  refine lv_aload_n B.1 B.2.1 dX12_init_533 rfl (lv_at hl 0 rfl) ?_
  refine q_bip B dX12_init_534 (by decide) ?_
  refine mk_row (k := 82) (t := 0) (n := 20) (z := 20) (x := (20, .inl (fun _ => II 0))) (cells' := 61) (slots' := 223210) (fty := .array .int) (atype := .int) B hin hM hA rfl rfl (by decide) rfl (by decide) rfl (mE_i rfl rfl rfl) rfl (fun _ h => h) (fun cA => ha_int 20 cA) (by decide) ac_int fl312 rfl rfl (fun _ => rfl) (fun _ => rfl) rfl (Nat.le_of_ble_eq_true rfl) rfl (Nat.le_of_ble_eq_true rfl) dX12_init_536 dX12_init_538 (fun ad H locs hM => ?_)
  refine lv_aload_n B.1 B.2.1 dX12_init_541 rfl (lv_at hl 0 rfl) ?_
  refine q_sip B dX12_init_542 (by decide) ?_
  refine mk_row (k := 83) (t := 0) (n := 200) (z := 200) (x := (200, .inl (fun _ => II 0))) (cells' := 62) (slots' := 223410) (fty := .array .int) (atype := .int) B hin hM hA rfl rfl (by decide) rfl (by decide) rfl (mE_i rfl rfl rfl) rfl (fun _ h => h) (fun cA => ha_int 200 cA) (by decide) ac_int fl315 rfl rfl (fun _ => rfl) (fun _ => rfl) rfl (Nat.le_of_ble_eq_true rfl) rfl (Nat.le_of_ble_eq_true rfl) dX12_init_545 dX12_init_547 (fun ad H locs hM => ?_)
  refine lv_aload_n B.1 B.2.1 dX12_init_550 rfl (lv_at hl 0 rfl) ?_
  refine q_sip B dX12_init_551 (by decide) ?_
  refine mk_row (k := 84) (t := 0) (n := 2400) (z := 2400) (x := (2400, .inl (fun _ => II 0))) (cells' := 63) (slots' := 225810) (fty := .array .int) (atype := .int) B hin hM hA rfl rfl (by decide) rfl (by decide) rfl (mE_i rfl rfl rfl) rfl (fun _ h => h) (fun cA => ha_int 2400 cA) (by decide) ac_int fl318 rfl rfl (fun _ => rfl) (fun _ => rfl) rfl (Nat.le_of_ble_eq_true rfl) rfl (Nat.le_of_ble_eq_true rfl) dX12_init_554 dX12_init_556 (fun ad H locs hM => ?_)
  refine lv_aload_n B.1 B.2.1 dX12_init_559 rfl (lv_at hl 0 rfl) ?_
  refine q_sip B dX12_init_560 (by decide) ?_
  refine mk_row (k := 85) (t := 0) (n := 2400) (z := 2400) (x := (2400, .inl (fun _ => II 0))) (cells' := 64) (slots' := 228210) (fty := .array .int) (atype := .int) B hin hM hA rfl rfl (by decide) rfl (by decide) rfl (mE_i rfl rfl rfl) rfl (fun _ h => h) (fun cA => ha_int 2400 cA) (by decide) ac_int fl321 rfl rfl (fun _ => rfl) (fun _ => rfl) rfl (Nat.le_of_ble_eq_true rfl) rfl (Nat.le_of_ble_eq_true rfl) dX12_init_563 dX12_init_565 (fun ad H locs hM => ?_)
  refine lv_aload_n B.1 B.2.1 dX12_init_568 rfl (lv_at hl 0 rfl) ?_
  refine q_sip B dX12_init_569 (by decide) ?_
  refine mk_row (k := 86) (t := 0) (n := 2400) (z := 2400) (x := (2400, .inl (fun _ => II 0))) (cells' := 65) (slots' := 230610) (fty := .array .int) (atype := .int) B hin hM hA rfl rfl (by decide) rfl (by decide) rfl (mE_i rfl rfl rfl) rfl (fun _ h => h) (fun cA => ha_int 2400 cA) (by decide) ac_int fl324 rfl rfl (fun _ => rfl) (fun _ => rfl) rfl (Nat.le_of_ble_eq_true rfl) rfl (Nat.le_of_ble_eq_true rfl) dX12_init_572 dX12_init_574 (fun ad H locs hM => ?_)
  refine lv_aload_n B.1 B.2.1 dX12_init_577 rfl (lv_at hl 0 rfl) ?_
  refine q_sip B dX12_init_578 (by decide) ?_
  refine mk_row (k := 87) (t := 0) (n := 2400) (z := 2400) (x := (2400, .inl (fun _ => II 0))) (cells' := 66) (slots' := 233010) (fty := .array .int) (atype := .int) B hin hM hA rfl rfl (by decide) rfl (by decide) rfl (mE_i rfl rfl rfl) rfl (fun _ h => h) (fun cA => ha_int 2400 cA) (by decide) ac_int fl327 rfl rfl (fun _ => rfl) (fun _ => rfl) rfl (Nat.le_of_ble_eq_true rfl) rfl (Nat.le_of_ble_eq_true rfl) dX12_init_581 dX12_init_583 (fun ad H locs hM => ?_)
  refine lv_aload_n B.1 B.2.1 dX12_init_586 rfl (lv_at hl 0 rfl) ?_
  refine lv_ldcw (v := II 48000) B.1 B.2.1 B.2.2.2.1 (B.2.2.2.2.1 _ ic330) dX12_init_587 ?_
  refine mk_row (k := 88) (t := 0) (n := 48000) (z := 48000) (x := (48000, .inl (fun _ => II 0))) (cells' := 67) (slots' := 281010) (fty := .array .int) (atype := .int) B hin hM hA rfl rfl (by decide) rfl (by decide) rfl (mE_i rfl rfl rfl) rfl (fun _ h => h) (fun cA => ha_int 48000 cA) (by decide) ac_int fl331 rfl rfl (fun _ => rfl) (fun _ => rfl) rfl (Nat.le_of_ble_eq_true rfl) rfl (Nat.le_of_ble_eq_true rfl) dX12_init_590 dX12_init_592 (fun ad H locs hM => ?_)
  refine lv_aload_n B.1 B.2.1 dX12_init_595 rfl (lv_at hl 0 rfl) ?_
  refine q_sip B dX12_init_596 (by decide) ?_
  refine mk_row (k := 89) (t := 2) (n := 2400) (z := 2400) (x := (2400, .inl (fun _ => II 0))) (cells' := 68) (slots' := 283410) (fty := .array .boolean) (atype := .boolean) B hin hM hA rfl rfl (by decide) rfl (by decide) rfl (mE_i rfl rfl rfl) rfl (fun _ h => h) (fun cA => ha_boolean 2400 cA) (by decide) ac_boolean fl334 rfl rfl (fun _ => rfl) (fun _ => rfl) rfl (Nat.le_of_ble_eq_true rfl) rfl (Nat.le_of_ble_eq_true rfl) dX12_init_599 dX12_init_601 (fun ad H locs hM => ?_)
  refine lv_aload_n B.1 B.2.1 dX12_init_604 rfl (lv_at hl 0 rfl) ?_
  refine q_bip B dX12_init_605 (by decide) ?_
  refine mk_row (k := 91) (t := 0) (n := 16) (z := 16) (x := (16, .inl (fun _ => II 0))) (cells' := 69) (slots' := 283426) (fty := .array .int) (atype := .int) B hin hM hA rfl rfl (by decide) rfl (by decide) rfl (mE_i rfl rfl rfl) rfl (fun _ h => h) (fun cA => ha_int 16 cA) (by decide) ac_int fl337 rfl rfl (fun _ => rfl) (fun _ => rfl) rfl (Nat.le_of_ble_eq_true rfl) rfl (Nat.le_of_ble_eq_true rfl) dX12_init_607 dX12_init_609 (fun ad H locs hM => ?_)
  refine lv_aload_n B.1 B.2.1 dX12_init_612 rfl (lv_at hl 0 rfl) ?_
  refine q_bip B dX12_init_613 (by decide) ?_
  refine mk_row (k := 92) (t := 0) (n := 16) (z := 16) (x := (16, .inl (fun _ => II 0))) (cells' := 70) (slots' := 283442) (fty := .array .int) (atype := .int) B hin hM hA rfl rfl (by decide) rfl (by decide) rfl (mE_i rfl rfl rfl) rfl (fun _ h => h) (fun cA => ha_int 16 cA) (by decide) ac_int fl340 rfl rfl (fun _ => rfl) (fun _ => rfl) rfl (Nat.le_of_ble_eq_true rfl) rfl (Nat.le_of_ble_eq_true rfl) dX12_init_615 dX12_init_617 (fun ad H locs hM => ?_)
  refine lv_aload_n B.1 B.2.1 dX12_init_620 rfl (lv_at hl 0 rfl) ?_
  refine q_bip B dX12_init_621 (by decide) ?_
  refine mk_row (k := 93) (t := 0) (n := 16) (z := 16) (x := (16, .inl (fun _ => II 0))) (cells' := 71) (slots' := 283458) (fty := .array .int) (atype := .int) B hin hM hA rfl rfl (by decide) rfl (by decide) rfl (mE_i rfl rfl rfl) rfl (fun _ h => h) (fun cA => ha_int 16 cA) (by decide) ac_int fl343 rfl rfl (fun _ => rfl) (fun _ => rfl) rfl (Nat.le_of_ble_eq_true rfl) rfl (Nat.le_of_ble_eq_true rfl) dX12_init_623 dX12_init_625 (fun ad H locs hM => ?_)
  refine lv_aload_n B.1 B.2.1 dX12_init_628 rfl (lv_at hl 0 rfl) ?_
  refine q_bip B dX12_init_629 (by decide) ?_
  refine mk_row (k := 94) (t := 0) (n := 16) (z := 16) (x := (16, .inl (fun _ => II 0))) (cells' := 72) (slots' := 283474) (fty := .array .int) (atype := .int) B hin hM hA rfl rfl (by decide) rfl (by decide) rfl (mE_i rfl rfl rfl) rfl (fun _ h => h) (fun cA => ha_int 16 cA) (by decide) ac_int fl346 rfl rfl (fun _ => rfl) (fun _ => rfl) rfl (Nat.le_of_ble_eq_true rfl) rfl (Nat.le_of_ble_eq_true rfl) dX12_init_631 dX12_init_633 (fun ad H locs hM => ?_)
  refine lv_aload_n B.1 B.2.1 dX12_init_636 rfl (lv_at hl 0 rfl) ?_
  refine q_bip B dX12_init_637 (by decide) ?_
  refine mk_row (k := 95) (t := 0) (n := 16) (z := 16) (x := (16, .inl (fun _ => II 0))) (cells' := 73) (slots' := 283490) (fty := .array .int) (atype := .int) B hin hM hA rfl rfl (by decide) rfl (by decide) rfl (mE_i rfl rfl rfl) rfl (fun _ h => h) (fun cA => ha_int 16 cA) (by decide) ac_int fl349 rfl rfl (fun _ => rfl) (fun _ => rfl) rfl (Nat.le_of_ble_eq_true rfl) rfl (Nat.le_of_ble_eq_true rfl) dX12_init_639 dX12_init_641 (fun ad H locs hM => ?_)
  refine lv_aload_n B.1 B.2.1 dX12_init_644 rfl (lv_at hl 0 rfl) ?_
  refine q_bip B dX12_init_645 (by decide) ?_
  refine mk_row (k := 96) (t := 0) (n := 20) (z := 20) (x := (20, .inl (fun _ => II 0))) (cells' := 74) (slots' := 283510) (fty := .array .int) (atype := .int) B hin hM hA rfl rfl (by decide) rfl (by decide) rfl (mE_i rfl rfl rfl) rfl (fun _ h => h) (fun cA => ha_int 20 cA) (by decide) ac_int fl352 rfl rfl (fun _ => rfl) (fun _ => rfl) rfl (Nat.le_of_ble_eq_true rfl) rfl (Nat.le_of_ble_eq_true rfl) dX12_init_647 dX12_init_649 (fun ad H locs hM => ?_)
  refine lv_aload_n B.1 B.2.1 dX12_init_652 rfl (lv_at hl 0 rfl) ?_
  refine q_sip B dX12_init_653 (by decide) ?_
  refine mk_row (k := 106) (t := 0) (n := 500) (z := 500) (x := (500, .inl (fun _ => II 0))) (cells' := 75) (slots' := 284010) (fty := .array .int) (atype := .int) B hin hM hA rfl rfl (by decide) rfl (by decide) rfl (mE_i rfl rfl rfl) rfl (fun _ h => h) (fun cA => ha_int 500 cA) (by decide) ac_int fl355 rfl rfl (fun _ => rfl) (fun _ => rfl) rfl (Nat.le_of_ble_eq_true rfl) rfl (Nat.le_of_ble_eq_true rfl) dX12_init_656 dX12_init_658 (fun ad H locs hM => ?_)
  refine lv_aload_n B.1 B.2.1 dX12_init_661 rfl (lv_at hl 0 rfl) ?_
  refine q_sip B dX12_init_662 (by decide) ?_
  refine mk_row (k := 107) (t := 0) (n := 500) (z := 500) (x := (500, .inl (fun _ => II 0))) (cells' := 76) (slots' := 284510) (fty := .array .int) (atype := .int) B hin hM hA rfl rfl (by decide) rfl (by decide) rfl (mE_i rfl rfl rfl) rfl (fun _ h => h) (fun cA => ha_int 500 cA) (by decide) ac_int fl358 rfl rfl (fun _ => rfl) (fun _ => rfl) rfl (Nat.le_of_ble_eq_true rfl) rfl (Nat.le_of_ble_eq_true rfl) dX12_init_665 dX12_init_667 (fun ad H locs hM => ?_)
  refine lv_aload_n B.1 B.2.1 dX12_init_670 rfl (lv_at hl 0 rfl) ?_
  refine q_sip B dX12_init_671 (by decide) ?_
  refine mk_row (k := 108) (t := 0) (n := 500) (z := 500) (x := (500, .inl (fun _ => II 0))) (cells' := 77) (slots' := 285010) (fty := .array .int) (atype := .int) B hin hM hA rfl rfl (by decide) rfl (by decide) rfl (mE_i rfl rfl rfl) rfl (fun _ h => h) (fun cA => ha_int 500 cA) (by decide) ac_int fl361 rfl rfl (fun _ => rfl) (fun _ => rfl) rfl (Nat.le_of_ble_eq_true rfl) rfl (Nat.le_of_ble_eq_true rfl) dX12_init_674 dX12_init_676 (fun ad H locs hM => ?_)
  refine lv_aload_n B.1 B.2.1 dX12_init_679 rfl (lv_at hl 0 rfl) ?_
  refine q_sip B dX12_init_680 (by decide) ?_
  refine mk_row (k := 109) (t := 0) (n := 500) (z := 500) (x := (500, .inl (fun _ => II 0))) (cells' := 78) (slots' := 285510) (fty := .array .int) (atype := .int) B hin hM hA rfl rfl (by decide) rfl (by decide) rfl (mE_i rfl rfl rfl) rfl (fun _ h => h) (fun cA => ha_int 500 cA) (by decide) ac_int fl364 rfl rfl (fun _ => rfl) (fun _ => rfl) rfl (Nat.le_of_ble_eq_true rfl) rfl (Nat.le_of_ble_eq_true rfl) dX12_init_683 dX12_init_685 (fun ad H locs hM => ?_)
  refine lv_aload_n B.1 B.2.1 dX12_init_688 rfl (lv_at hl 0 rfl) ?_
  refine q_sip B dX12_init_689 (by decide) ?_
  refine mk_row (k := 110) (t := 0) (n := 500) (z := 500) (x := (500, .inl (fun _ => II 0))) (cells' := 79) (slots' := 286010) (fty := .array .int) (atype := .int) B hin hM hA rfl rfl (by decide) rfl (by decide) rfl (mE_i rfl rfl rfl) rfl (fun _ h => h) (fun cA => ha_int 500 cA) (by decide) ac_int fl367 rfl rfl (fun _ => rfl) (fun _ => rfl) rfl (Nat.le_of_ble_eq_true rfl) rfl (Nat.le_of_ble_eq_true rfl) dX12_init_692 dX12_init_694 (fun ad H locs hM => ?_)
  refine lv_aload_n B.1 B.2.1 dX12_init_697 rfl (lv_at hl 0 rfl) ?_
  refine q_sip B dX12_init_698 (by decide) ?_
  refine mk_row (k := 111) (t := 0) (n := 500) (z := 500) (x := (500, .inl (fun _ => II 0))) (cells' := 80) (slots' := 286510) (fty := .array .int) (atype := .int) B hin hM hA rfl rfl (by decide) rfl (by decide) rfl (mE_i rfl rfl rfl) rfl (fun _ h => h) (fun cA => ha_int 500 cA) (by decide) ac_int fl370 rfl rfl (fun _ => rfl) (fun _ => rfl) rfl (Nat.le_of_ble_eq_true rfl) rfl (Nat.le_of_ble_eq_true rfl) dX12_init_701 dX12_init_703 (fun ad H locs hM => ?_)
  refine lv_aload_n B.1 B.2.1 dX12_init_706 rfl (lv_at hl 0 rfl) ?_
  refine q_sip B dX12_init_707 (by decide) ?_
  refine mk_row (k := 112) (t := 0) (n := 500) (z := 500) (x := (500, .inl (fun _ => II 0))) (cells' := 81) (slots' := 287010) (fty := .array .int) (atype := .int) B hin hM hA rfl rfl (by decide) rfl (by decide) rfl (mE_i rfl rfl rfl) rfl (fun _ h => h) (fun cA => ha_int 500 cA) (by decide) ac_int fl373 rfl rfl (fun _ => rfl) (fun _ => rfl) rfl (Nat.le_of_ble_eq_true rfl) rfl (Nat.le_of_ble_eq_true rfl) dX12_init_710 dX12_init_712 (fun ad H locs hM => ?_)
  refine lv_aload_n B.1 B.2.1 dX12_init_715 rfl (lv_at hl 0 rfl) ?_
  refine q_sip B dX12_init_716 (by decide) ?_
  refine mk_row (k := 113) (t := 0) (n := 500) (z := 500) (x := (500, .inl (fun _ => II 0))) (cells' := 82) (slots' := 287510) (fty := .array .int) (atype := .int) B hin hM hA rfl rfl (by decide) rfl (by decide) rfl (mE_i rfl rfl rfl) rfl (fun _ h => h) (fun cA => ha_int 500 cA) (by decide) ac_int fl376 rfl rfl (fun _ => rfl) (fun _ => rfl) rfl (Nat.le_of_ble_eq_true rfl) rfl (Nat.le_of_ble_eq_true rfl) dX12_init_719 dX12_init_721 (fun ad H locs hM => ?_)
  refine lv_aload_n B.1 B.2.1 dX12_init_724 rfl (lv_at hl 0 rfl) ?_
  refine q_sip B dX12_init_725 (by decide) ?_
  refine mk_row (k := 114) (t := 0) (n := 500) (z := 500) (x := (500, .inl (fun _ => II 0))) (cells' := 83) (slots' := 288010) (fty := .array .int) (atype := .int) B hin hM hA rfl rfl (by decide) rfl (by decide) rfl (mE_i rfl rfl rfl) rfl (fun _ h => h) (fun cA => ha_int 500 cA) (by decide) ac_int fl379 rfl rfl (fun _ => rfl) (fun _ => rfl) rfl (Nat.le_of_ble_eq_true rfl) rfl (Nat.le_of_ble_eq_true rfl) dX12_init_728 dX12_init_730 (fun ad H locs hM => ?_)
  refine lv_aload_n B.1 B.2.1 dX12_init_733 rfl (lv_at hl 0 rfl) ?_
  refine q_sip B dX12_init_734 (by decide) ?_
  refine mk_row (k := 115) (t := 0) (n := 20000) (z := 20000) (x := (20000, .inl (fun _ => II 0))) (cells' := 84) (slots' := 308010) (fty := .array .int) (atype := .int) B hin hM hA rfl rfl (by decide) rfl (by decide) rfl (mE_i rfl rfl rfl) rfl (fun _ h => h) (fun cA => ha_int 20000 cA) (by decide) ac_int fl382 rfl rfl (fun _ => rfl) (fun _ => rfl) rfl (Nat.le_of_ble_eq_true rfl) rfl (Nat.le_of_ble_eq_true rfl) dX12_init_737 dX12_init_739 (fun ad H locs hM => ?_)
  refine lv_aload_n B.1 B.2.1 dX12_init_742 rfl (lv_at hl 0 rfl) ?_
  refine q_sip B dX12_init_743 (by decide) ?_
  refine mk_row (k := 116) (t := 2) (n := 500) (z := 500) (x := (500, .inl (fun _ => II 0))) (cells' := 85) (slots' := 308510) (fty := .array .boolean) (atype := .boolean) B hin hM hA rfl rfl (by decide) rfl (by decide) rfl (mE_i rfl rfl rfl) rfl (fun _ h => h) (fun cA => ha_boolean 500 cA) (by decide) ac_boolean fl385 rfl rfl (fun _ => rfl) (fun _ => rfl) rfl (Nat.le_of_ble_eq_true rfl) rfl (Nat.le_of_ble_eq_true rfl) dX12_init_746 dX12_init_748 (fun ad H locs hM => ?_)
  refine lv_aload_n B.1 B.2.1 dX12_init_751 rfl (lv_at hl 0 rfl) ?_
  refine lv_ldcw (v := II 40000) B.1 B.2.1 B.2.2.2.1 (B.2.2.2.2.1 _ ic388) dX12_init_752 ?_
  refine mk_row (k := 117) (t := 1) (n := 40000) (z := 40000) (x := (40000, .inl (fun _ => II 0))) (cells' := 86) (slots' := 348510) (fty := .array .byte) (atype := .byte) B hin hM hA rfl rfl (by decide) rfl (by decide) rfl (mE_i rfl rfl rfl) rfl (fun _ h => h) (fun cA => ha_byte 40000 cA) (by decide) ac_byte fl389 rfl rfl (fun _ => rfl) (fun _ => rfl) rfl (Nat.le_of_ble_eq_true rfl) rfl (Nat.le_of_ble_eq_true rfl) dX12_init_755 dX12_init_757 (fun ad H locs hM => ?_)
  refine lv_aload_n B.1 B.2.1 dX12_init_760 rfl (lv_at hl 0 rfl) ?_
  refine q_bip B dX12_init_761 (by decide) ?_
  refine mk_row (k := 118) (t := 0) (n := 60) (z := 60) (x := (60, .inl (fun _ => II 0))) (cells' := 87) (slots' := 348570) (fty := .array .int) (atype := .int) B hin hM hA rfl rfl (by decide) rfl (by decide) rfl (mE_i rfl rfl rfl) rfl (fun _ h => h) (fun cA => ha_int 60 cA) (by decide) ac_int fl392 rfl rfl (fun _ => rfl) (fun _ => rfl) rfl (Nat.le_of_ble_eq_true rfl) rfl (Nat.le_of_ble_eq_true rfl) dX12_init_763 dX12_init_765 (fun ad H locs hM => ?_)
  refine lv_aload_n B.1 B.2.1 dX12_init_768 rfl (lv_at hl 0 rfl) ?_
  refine q_sip B dX12_init_769 (by decide) ?_
  refine mk_row (k := 119) (t := 2) (n := 200) (z := 200) (x := (200, .inl (fun _ => II 0))) (cells' := 88) (slots' := 348770) (fty := .array .boolean) (atype := .boolean) B hin hM hA rfl rfl (by decide) rfl (by decide) rfl (mE_i rfl rfl rfl) rfl (fun _ h => h) (fun cA => ha_boolean 200 cA) (by decide) ac_boolean fl395 rfl rfl (fun _ => rfl) (fun _ => rfl) rfl (Nat.le_of_ble_eq_true rfl) rfl (Nat.le_of_ble_eq_true rfl) dX12_init_772 dX12_init_774 (fun ad H locs hM => ?_)
  refine lv_aload_n B.1 B.2.1 dX12_init_777 rfl (lv_at hl 0 rfl) ?_
  refine q_sip B dX12_init_778 (by decide) ?_
  refine mk_row (k := 120) (t := 0) (n := 201) (z := 201) (x := (201, .inl (fun _ => II 0))) (cells' := 89) (slots' := 348971) (fty := .array .int) (atype := .int) B hin hM hA rfl rfl (by decide) rfl (by decide) rfl (mE_i rfl rfl rfl) rfl (fun _ h => h) (fun cA => ha_int 201 cA) (by decide) ac_int fl398 rfl rfl (fun _ => rfl) (fun _ => rfl) rfl (Nat.le_of_ble_eq_true rfl) rfl (Nat.le_of_ble_eq_true rfl) dX12_init_781 dX12_init_783 (fun ad H locs hM => ?_)
  refine lv_aload_n B.1 B.2.1 dX12_init_786 rfl (lv_at hl 0 rfl) ?_
  refine q_sip B dX12_init_787 (by decide) ?_
  refine mk_row (k := 121) (t := 0) (n := 201) (z := 201) (x := (201, .inl (fun _ => II 0))) (cells' := 90) (slots' := 349172) (fty := .array .int) (atype := .int) B hin hM hA rfl rfl (by decide) rfl (by decide) rfl (mE_i rfl rfl rfl) rfl (fun _ h => h) (fun cA => ha_int 201 cA) (by decide) ac_int fl401 rfl rfl (fun _ => rfl) (fun _ => rfl) rfl (Nat.le_of_ble_eq_true rfl) rfl (Nat.le_of_ble_eq_true rfl) dX12_init_790 dX12_init_792 (fun ad H locs hM => ?_)
  refine lv_aload_n B.1 B.2.1 dX12_init_795 rfl (lv_at hl 0 rfl) ?_
  refine q_sip B dX12_init_796 (by decide) ?_
  refine mk_row (k := 122) (t := 0) (n := 201) (z := 201) (x := (201, .inl (fun _ => II 0))) (cells' := 91) (slots' := 349373) (fty := .array .int) (atype := .int) B hin hM hA rfl rfl (by decide) rfl (by decide) rfl (mE_i rfl rfl rfl) rfl (fun _ h => h) (fun cA => ha_int 201 cA) (by decide) ac_int fl404 rfl rfl (fun _ => rfl) (fun _ => rfl) rfl (Nat.le_of_ble_eq_true rfl) rfl (Nat.le_of_ble_eq_true rfl) dX12_init_799 dX12_init_801 (fun ad H locs hM => ?_)
  refine lv_aload_n B.1 B.2.1 dX12_init_804 rfl (lv_at hl 0 rfl) ?_
  refine q_sip B dX12_init_805 (by decide) ?_
  refine mk_row (k := 123) (t := 0) (n := 201) (z := 201) (x := (201, .inl (fun _ => II 0))) (cells' := 92) (slots' := 349574) (fty := .array .int) (atype := .int) B hin hM hA rfl rfl (by decide) rfl (by decide) rfl (mE_i rfl rfl rfl) rfl (fun _ h => h) (fun cA => ha_int 201 cA) (by decide) ac_int fl407 rfl rfl (fun _ => rfl) (fun _ => rfl) rfl (Nat.le_of_ble_eq_true rfl) rfl (Nat.le_of_ble_eq_true rfl) dX12_init_808 dX12_init_810 (fun ad H locs hM => ?_)
  refine lv_aload_n B.1 B.2.1 dX12_init_813 rfl (lv_at hl 0 rfl) ?_
  refine q_bip B dX12_init_814 (by decide) ?_
  refine mk_row (k := 126) (t := 0) (n := 16) (z := 16) (x := (16, .inl (fun _ => II 0))) (cells' := 93) (slots' := 349590) (fty := .array .int) (atype := .int) B hin hM hA rfl rfl (by decide) rfl (by decide) rfl (mE_i rfl rfl rfl) rfl (fun _ h => h) (fun cA => ha_int 16 cA) (by decide) ac_int fl410 rfl rfl (fun _ => rfl) (fun _ => rfl) rfl (Nat.le_of_ble_eq_true rfl) rfl (Nat.le_of_ble_eq_true rfl) dX12_init_816 dX12_init_818 (fun ad H locs hM => ?_)
  have hM : MWd D dA h0 ad (va_A (pW dA h0 (fun _ => 0) (fun _ => 0) 0) s.heap.size) s.heap (u1 (fun _ => 0) 6 (-1), (fun _ => 0), (fun _ _ => 0), (fun _ _ => 0)) H locs := ⟨by rw [← pW_end]; exact hM.1, by rw [← pW_end]; exact hM.2.1, hM.2.2, GI_0⟩
  refine lv_aload_n B.1 B.2.1 dX12_init_821 rfl (lv_at hl 0 rfl) ?_
  refine lv_ldc2 B.1 B.2.1 B.2.2.2.1 (B.2.2.2.2.1 _ lc413) dX12_init_822 ?_
  refine q_con B dX12_init_825 ?_
  refine q_con B dX12_init_826 ?_
  refine m_callv (n := 3) (rest := []) B hM hA hl.1 (k_add l D dA h0 ad (u1 (fun _ => 0) 6 (-1)) (fun _ => 0) (fun _ _ => 0) (fun _ _ => 0) (6384748 : Int64) 1 0 (by omega) (by omega) (by decide) (by omega) (by omega) (by omega) (by omega)) rfl ok_add nm_add ⟨rfl, rfl⟩ ⟨Nat.le_of_ble_eq_true rfl, Nat.le_of_ble_eq_true rfl⟩ dX12_init_827 rfl rfl (Nat.le_of_ble_eq_true rfl) ⟨Nat.le_of_ble_eq_true rfl, Nat.le_of_ble_eq_true rfl⟩ (fun σ H locs hp hM => ?_)
  obtain ⟨b, rfl, -⟩ := hp
  refine lv_aload_n B.1 B.2.1 dX12_init_830 rfl (lv_at hl 0 rfl) ?_
  refine m_geta (k := 23) B hM (by decide) rfl fl163 dX12_init_831 ?_
  refine q_con B dX12_init_834 ?_
  refine q_con B dX12_init_835 ?_
  refine m_ist (k := 23) (i := 11) (n := 18) (z := 0) (v := 1) B hM rfl rfl rfl (by decide) dX12_init_836 (by omega) (by omega) (by decide) (by decide) rfl (fun H locs hM => ?_)
  refine i_vret B hM dX12_init_837 ⟨⟨fun j => Or.inl (Int.le_refl 0), fun j => Or.inl (Int.le_refl 0), fun k _ _ => KIl_0 (Int.le_refl 0), fun k h0 h1 h2 => (show (0 : Int) < k % 16 from by omega), RWp_0 (Int.le_refl 0), CHp_0 (Int.le_refl 0), fun q q0 q1 i i0 i1 => absurd (show i < 0 from i1) (by omega), fun hq => absurd (show (0 : Int) < 0 from hq) (by omega), FIp_0 (Int.le_refl 0), fun hq => absurd (show (0 : Int) < 0 from hq) (by omega), fun hq => absurd (show (0 : Int) = 1 from hq) (by omega), fun j hj => Int.le_refl 0⟩, rfl⟩
