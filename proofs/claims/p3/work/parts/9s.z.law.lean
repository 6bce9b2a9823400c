/-! THE CLAIM OUT OF ONE WALK OF THE LAW'S BODY. Your part is whole_start (and what it stands on); all else here is the same for every law, but numbers. -/
def R_law : String := "CustomsDeskLaw"
def lw_P (b : Addr) (xs : List Int32) (args : Array Value) (s : State) : Prop := args = #[.ref b] ∧ s.IntsAt b xs ∧ xs.length ≤ 3072 ∧ (Jvm.Cond.and given_1 narrow_1).before args s = true
def lw_Q (_ : Array Value) (s : State) (o : Outcome) (t : State) : Prop := o = .returned (some (.int 1)) ∧ Framed s o t [] 600000 7302250
def lw_Z (below : List Frame) (a : Array Value) (s : State) : State → Prop := fun t => ∃ o, t.status = .running ∧ Ended t below o ∧ lw_Q a s o t
/-- the law's own end, with 1 on the stack, nothing written that was there before, its room as the claim has it -/
theorem lw_ret {p : Program} {l : Launch} {e : Env} {s : State} {m : MethodId} {below : List Frame} {meth : Method} {c : Code} {b : Nat} (hx : p.tables.exec = Jvm.exec) (hb : c.code = code) (hr : meth.sig.returnType = ret) (hlocks : meth.locks = false) {pc : Nat} {H : Heap} {ls : Array Slot} (hdg : decode code pc = .ok (.ireturn, 1)) : W p l e room_1 s m #[Value.ref b] below meth c H [] 600000 7302250 (lw_Z below #[Value.ref b] s) (F0 m pc ls [.int 1]) := by
  intro T hT X
  obtain ⟨fs, hret, hrun, hended, hW, hframe⟩ := X.leave (v := some (.int 1)) (hlocks := hlocks) (fun h => by rw [hr] at h; cases h)
  have hmeth' : T.vm.method? m = some meth := X.method'
  refine ⟨T.setFrames fs, ?_, .returned (some (.int 1)), hrun, hended, rfl, ⟨_, rfl⟩, hW, hframe⟩
  jvm_step X.here [X.here.top, hx, hb, hdg, hmeth', hr, ret, narrow_b1]
  (try refine ⟨rfl, ?_⟩); (try refine ⟨rfl, ?_⟩)
  first | (intro acts; rw [hret _ acts rfl rfl rfl]) | rw [hret _ _ rfl rfl rfl]
  exact Steps.refl _
/-- what holds at the law's entry: the machine, the code, the tables' words (any of lw_tbl by 'hts w (by decide +kernel)'), the script of L ints xs at the cell b, what the Statement gives of the start (any of its parts by flat_of_before) -/
def lw_At (p : Program) (s : State) (m : MethodId) (meth : Method) (c : Code) (b L : Nat) (xs : Nat → Int32) : Prop :=
  p.tables.exec = Jvm.exec ∧ c.code = code ∧ meth.sig.returnType = ret ∧ c.maxLocals = 4 ∧ s.vm.findClass R_law = some m.cls ∧ (∀ w ∈ lw_tbl, w.before #[Value.ref b] s = true) ∧ va_X b L xs s s.heap ∧ b < s.heap.size ∧ meth.locks = false ∧ (Jvm.Cond.and given_1 narrow_1).before #[Value.ref b] s = true
section LLP
variable {p : Program} {l : Launch} {e : Env} {s : State} {m : MethodId} {below : List Frame} {meth : Method} {c : Code} 
variable {D : va_G} {dA : Nat → ClassId} {eA h0 hd b Ln : Nat} {xs : Nat → Int32} {ad : Nat → Nat} 
set_option maxHeartbeats 2000000 in
set_option maxRecDepth 20000 in
theorem law_loop (C0 : LC p s m meth c b Ln xs D dA eA) : ∀ (fu n : Nat), Ln + 6 ≤ fu + 6 * n → 6 * n ≤ Ln + 5 → ∀ (σ : MS) (L : List Nat) (T N : Nat → Nat) (I : Nat → Nat → Int) (J : Nat → Nat → Int64) (R : Nat → Nat → Nat) (H : Heap) (locs : List Loc) (z y : Nat) (ls : Array Slot), LSt D dA eA h0 hd ad s n σ L T N I J R H locs z y → lv_has ls 4 [(3, .int (II (6 * (n : Int)))), (2, .ref h0), (1, .ref hd), (0, .ref b)] → W p l e room_1 s m #[Value.ref b] below meth c H locs z y (lw_Z below #[Value.ref b] s) (F0 m 18 ls []) := by
  intro fu
  induction fu with
  | zero => intro n h1 h2; exact absurd h1 (by omega)
  | succ fu ih =>
    intro n h1 h2 σ L T N I J R H locs z y ls hS hl
    obtain ⟨B, hX, hxs, hbl, hL⟩ := id C0
    have hbA : ¬ lwA s b := Nat.not_le.mpr hbl
    have hSs := hS.1.1.2.2.1
    refine lv_iload_n B.1 B.2.1 dL_18 rfl (lv_at hl 0 rfl) ?_
    refine lv_aload_n B.1 B.2.1 dL_19 rfl (lv_at hl 3 rfl) ?_
    refine va_slen (A := lwA s) B.1 B.2.1 hxs hbl hbA hSs dL_20 ?_
    rw [II_nat]
    refine q_bip B dL_21 (by decide) ?_
    refine q_sub B dL_23 ?_
    refine q_cgt (tgt := 1064) B dL_24 (by decide) (by unfold inr; omega) (by unfold inr; omega) (fun hc => ?_) (fun hc => ?_)
    · obtain ⟨hW, -, td, -, -, hz, hy⟩ := hS
      have hC := hW.2.1.2.2.2.2.2.2.1
      have h7 := g2_7 hC td
      have hns := lNS_le hC td
      refine q_con B dL_1064 ?_
      rw [show II 1 = (1 : Int32) by decide]
      refine va_forget (fun q hq => hSs.2.2 q hq) ?_
      refine W.widen (k := 600000) (n := 7302250) (by omega) (by omega) ?_
      exact lw_ret B.1 B.2.1 B.2.2.2.2.2.2.1 B.2.2.2.2.2.2.2 dL_1065
    · have hn : 6 * n + 6 ≤ Ln := by omega
      refine lv_aload_n B.1 B.2.1 dL_27 rfl (lv_at hl 3 rfl) ?_
      refine lv_iload_n B.1 B.2.1 dL_28 rfl (lv_at hl 0 rfl) ?_
      refine va_sld (A := lwA s) B.1 B.2.1 hxs hbl hbA hSs (II_in (n := Ln) (by omega) (by omega) (by omega)) dL_29 ?_
      refine q_bip B dL_30 (by decide) ?_
      refine q_andm B dL_32 (by decide) (inr_lit rfl) (fun v iv h0v h1v => ?_)
      have KK : ∀ (σ : MS) (L : List Nat) (T N : Nat → Nat) (I : Nat → Nat → Int) (J : Nat → Nat → Int64) (R : Nat → Nat → Nat) (H : Heap) (locs : List Loc) (z y : Nat), LSt D dA eA h0 hd ad s (n + 1) σ L T N I J R H locs z y → W p l e room_1 s m #[Value.ref b] below meth c H locs z y (lw_Z below #[Value.ref b] s) (F0 m 1058 ls []) := by
        intro σ L T N I J R H locs z y hS
        refine q_inc (k := 0) (lv' := [(3, .int (II (6 * (n : Int) + 6))), (2, .ref h0), (1, .ref hd), (0, .ref b)]) B dL_1058 hl rfl (by decide) rfl (fun ls hl => ?_)
        refine lv_goto (tgt := 18) B.1 B.2.1 dL_1061 (by decide) ?_
        refine ih (n + 1) (by omega) (by omega) σ L T N I J R H locs z y ls hS ?_
        rw [show 6 * ((n + 1 : Nat) : Int) = 6 * (n : Int) + 6 by omega]
        exact hl
      by_cases hsw : v < 0 ∨ 23 < v
      · refine lv_tableOut (tgt := 1058) B.1 B.2.1 dL_33 (by rw [II_toInt iv]; omega) (by decide) ?_
        obtain ⟨hW, hRI, td, hDI, hlen, hz, hy⟩ := hS
        exact KK σ L T N I J R H locs z y ⟨hW, hRI, td, hDI, hlen, by omega, by omega⟩
      have hdj : v = 0 ∨ v = 1 ∨ v = 2 ∨ v = 3 ∨ v = 4 ∨ v = 5 ∨ v = 6 ∨ v = 7 ∨ v = 8 ∨ v = 9 ∨ v = 10 ∨ v = 11 ∨ v = 12 ∨ v = 13 ∨ v = 14 ∨ v = 15 ∨ v = 16 ∨ v = 17 ∨ v = 18 ∨ v = 19 ∨ v = 20 ∨ v = 21 ∨ v = 22 ∨ v = 23 := by omega
      clear hsw
      rcases hdj with h100 | h101 | h102 | h103 | h104 | h105 | h106 | h107 | h108 | h109 | h110 | h111 | h112 | h113 | h114 | h115 | h116 | h117 | h118 | h119 | h120 | h121 | h122 | h123
      · refine lv_tableIn (off := 111) (tgt := 144) B.1 B.2.1 dL_33 (by rw [II_toInt iv]; omega) (by rw [II_toInt iv]; omega) (by rw [II_toInt iv, h100]; decide) (by decide) ?_
        exact law_c0 C0 hS hn hl KK
      · refine lv_tableIn (off := 174) (tgt := 207) B.1 B.2.1 dL_33 (by rw [II_toInt iv]; omega) (by rw [II_toInt iv]; omega) (by rw [II_toInt iv, h101]; decide) (by decide) ?_
        exact law_c1 C0 hS hn hl KK
      · refine lv_tableIn (off := 197) (tgt := 230) B.1 B.2.1 dL_33 (by rw [II_toInt iv]; omega) (by rw [II_toInt iv]; omega) (by rw [II_toInt iv, h102]; decide) (by decide) ?_
        exact law_c2 C0 hS hn hl KK
      · refine lv_tableIn (off := 210) (tgt := 243) B.1 B.2.1 dL_33 (by rw [II_toInt iv]; omega) (by rw [II_toInt iv]; omega) (by rw [II_toInt iv, h103]; decide) (by decide) ?_
        exact law_c3 C0 hS hn hl KK
      · refine lv_tableIn (off := 233) (tgt := 266) B.1 B.2.1 dL_33 (by rw [II_toInt iv]; omega) (by rw [II_toInt iv]; omega) (by rw [II_toInt iv, h104]; decide) (by decide) ?_
        exact law_c4 C0 hS hn hl KK
      · refine lv_tableIn (off := 286) (tgt := 319) B.1 B.2.1 dL_33 (by rw [II_toInt iv]; omega) (by rw [II_toInt iv]; omega) (by rw [II_toInt iv, h105]; decide) (by decide) ?_
        exact law_c5 C0 hS hn hl KK
      · refine lv_tableIn (off := 319) (tgt := 352) B.1 B.2.1 dL_33 (by rw [II_toInt iv]; omega) (by rw [II_toInt iv]; omega) (by rw [II_toInt iv, h106]; decide) (by decide) ?_
        exact law_c6 C0 hS hn hl KK
      · refine lv_tableIn (off := 382) (tgt := 415) B.1 B.2.1 dL_33 (by rw [II_toInt iv]; omega) (by rw [II_toInt iv]; omega) (by rw [II_toInt iv, h107]; decide) (by decide) ?_
        exact law_c7 C0 hS hn hl KK
      · refine lv_tableIn (off := 415) (tgt := 448) B.1 B.2.1 dL_33 (by rw [II_toInt iv]; omega) (by rw [II_toInt iv]; omega) (by rw [II_toInt iv, h108]; decide) (by decide) ?_
        exact law_c8 C0 hS hn hl KK
      · refine lv_tableIn (off := 438) (tgt := 471) B.1 B.2.1 dL_33 (by rw [II_toInt iv]; omega) (by rw [II_toInt iv]; omega) (by rw [II_toInt iv, h109]; decide) (by decide) ?_
        exact law_c9 C0 hS hn hl KK
      · refine lv_tableIn (off := 507) (tgt := 540) B.1 B.2.1 dL_33 (by rw [II_toInt iv]; omega) (by rw [II_toInt iv]; omega) (by rw [II_toInt iv, h110]; decide) (by decide) ?_
        exact law_c10 C0 hS hn hl KK
      · refine lv_tableIn (off := 606) (tgt := 639) B.1 B.2.1 dL_33 (by rw [II_toInt iv]; omega) (by rw [II_toInt iv]; omega) (by rw [II_toInt iv, h111]; decide) (by decide) ?_
        exact law_c11 C0 hS hn hl KK
      · refine lv_tableIn (off := 649) (tgt := 682) B.1 B.2.1 dL_33 (by rw [II_toInt iv]; omega) (by rw [II_toInt iv]; omega) (by rw [II_toInt iv, h112]; decide) (by decide) ?_
        exact law_c12 C0 hS hn hl KK
      · refine lv_tableIn (off := 692) (tgt := 725) B.1 B.2.1 dL_33 (by rw [II_toInt iv]; omega) (by rw [II_toInt iv]; omega) (by rw [II_toInt iv, h113]; decide) (by decide) ?_
        exact law_c13 C0 hS hn hl KK
      · refine lv_tableIn (off := 735) (tgt := 768) B.1 B.2.1 dL_33 (by rw [II_toInt iv]; omega) (by rw [II_toInt iv]; omega) (by rw [II_toInt iv, h114]; decide) (by decide) ?_
        exact law_c14 C0 hS hn hl KK
      · refine lv_tableIn (off := 768) (tgt := 801) B.1 B.2.1 dL_33 (by rw [II_toInt iv]; omega) (by rw [II_toInt iv]; omega) (by rw [II_toInt iv, h115]; decide) (by decide) ?_
        exact law_c15 C0 hS hn hl KK
      · refine lv_tableIn (off := 801) (tgt := 834) B.1 B.2.1 dL_33 (by rw [II_toInt iv]; omega) (by rw [II_toInt iv]; omega) (by rw [II_toInt iv, h116]; decide) (by decide) ?_
        exact law_c16 C0 hS hn hl KK
      · refine lv_tableIn (off := 834) (tgt := 867) B.1 B.2.1 dL_33 (by rw [II_toInt iv]; omega) (by rw [II_toInt iv]; omega) (by rw [II_toInt iv, h117]; decide) (by decide) ?_
        exact law_c17 C0 hS hn hl KK
      · refine lv_tableIn (off := 867) (tgt := 900) B.1 B.2.1 dL_33 (by rw [II_toInt iv]; omega) (by rw [II_toInt iv]; omega) (by rw [II_toInt iv, h118]; decide) (by decide) ?_
        exact law_c18 C0 hS hn hl KK
      · refine lv_tableIn (off := 900) (tgt := 933) B.1 B.2.1 dL_33 (by rw [II_toInt iv]; omega) (by rw [II_toInt iv]; omega) (by rw [II_toInt iv, h119]; decide) (by decide) ?_
        exact law_c19 C0 hS hn hl KK
      · refine lv_tableIn (off := 933) (tgt := 966) B.1 B.2.1 dL_33 (by rw [II_toInt iv]; omega) (by rw [II_toInt iv]; omega) (by rw [II_toInt iv, h120]; decide) (by decide) ?_
        exact law_c20 C0 hS hn hl KK
      · refine lv_tableIn (off := 956) (tgt := 989) B.1 B.2.1 dL_33 (by rw [II_toInt iv]; omega) (by rw [II_toInt iv]; omega) (by rw [II_toInt iv, h121]; decide) (by decide) ?_
        exact law_c21 C0 hS hn hl KK
      · refine lv_tableIn (off := 969) (tgt := 1002) B.1 B.2.1 dL_33 (by rw [II_toInt iv]; omega) (by rw [II_toInt iv]; omega) (by rw [II_toInt iv, h122]; decide) (by decide) ?_
        exact law_c22 C0 hS hn hl KK
      · refine lv_tableIn (off := 1012) (tgt := 1045) B.1 B.2.1 dL_33 (by rw [II_toInt iv]; omega) (by rw [II_toInt iv]; omega) (by rw [II_toInt iv, h123]; decide) (by decide) ?_
        exact law_c23 C0 hS hn hl KK
end LLP
theorem pV_df : ∀ j, j < 129 → defaultValue (tyX12 j) = vp_V ((List.range 129).map (pV 0 (fun _ => 0) (fun _ => 0))) j := by decide +kernel
set_option maxHeartbeats 2000000 in
set_option maxRecDepth 20000 in
theorem whole_start {p : Program} {e : Env} {s : State} {m : MethodId} {below : List Frame} {meth : Method} {c : Code} (l : Launch) {b L : Nat} {xs : Nat → Int32} (hL : L ≤ 3072) (C0 : lw_At p s m meth c b L xs) : W p l e room_1 s m #[Value.ref b] below meth c s.heap [] 0 0 (lw_Z below #[Value.ref b] s) (entryFrame m ([Value.ref b] : List Value).toArray 4) := by
  obtain ⟨hx, hb, hr, hml, hown, hts, hX, hbl, hlocks, hgv⟩ := id C0
  have ht : ∀ w ∈ tables_1, w.before #[Value.ref b] s = true := fun w h => hts w (List.mem_append_right _ h)
  have hg := law_G hts ht
  obtain ⟨D, dA, hK⟩ := law_K hg ht
  obtain ⟨eA, hSX⟩ := law_SX ht hgv
  have B : Cx D dA p s m #[Value.ref b] meth c cL_law RL 4 ret := ⟨hx, hb, hml, hown, hg, hK, hr, hlocks⟩
  have hA : ∀ q, s.heap.size ≤ q → lwA s q := fun _ h => h
  have CC : LC p s m meth c b L xs D dA eA := ⟨B, hSX, hX, hbl, hL⟩
  have hM : CWd D dA eA (lwA s) s.heap [] (t0T eA) (fun _ => 0) (fun _ _ => 0) (fun _ _ => 0) (fun _ _ => 0) s.heap [] := law_C0 t0T_1 t0T_2
  have hl := lv_entry ([.ref b]) (n := 4) (Nat.le_of_ble_eq_true rfl)
  rw [lg_entry_eq]
  generalize (lg_sl ([.ref b]) ++ List.replicate (4 - (lg_sl ([.ref b])).length) Slot.unset).toArray = ls at hl ⊢
  have hl : lv_has ls 4 [(0, .ref b)] := hl
  generalize t0T eA = T at hM
  generalize (fun _ _ => 0 : Nat → Nat → Int) = I at hM
  generalize (fun _ _ => 0 : Nat → Nat → Int64) = J at hM
  generalize (fun _ _ => 0 : Nat → Nat → Nat) = R at hM
  generalize (fun _ => 0 : Nat → Nat) = N at hM
  have hMo := hM
  refine c_new (t := 30) pk_X11 B hSX.out hA hM kd30 df_X11 rfl rfl (by decide) cl_L_7 in_X11 ini_X11 (by show 0 + 1 ≤ 600000; omega) (by show 0 + 10 ≤ 7302250; omega) dL_0 (fun hd L1 T1 N1 H t1 hT1 hN1 hM => ?_)
  have z1 := hMo.2.2.2.2.2.1 hd t1
  clear hMo
  have td1 : T1 hd = 30 := by rw [hT1, va_up_self]
  refine lv_dup B.1 B.2.1 dL_3 rfl ?_
  refine g_callv hM hA (c_runI (n := 0) (as := []) (rest := [.ref hd]) B hSX hA hM hl.1 (k_X11_init l D dA eA L1 T1 N1 I J R hd td1 z1 _ _) ml_L_9 nm_X11_init ⟨rfl, rfl⟩ ⟨Nat.le_of_ble_eq_true rfl, Nat.le_of_ble_eq_true rfl⟩ dL_4 rfl rfl (Nat.le_of_ble_eq_true rfl) ⟨by show 0 + 1 + 249 ≤ 600000; omega, by show 0 + 10 + 23030 ≤ 7302250; omega⟩) (fun L2 T2 N2 I2 J2 R2 dz dl H locs hp hM => ?_)
  obtain ⟨-, td, hDI, h7, hdz, hdl⟩ := hp
  refine lv_astore_n (lv' := [(1, .ref hd), (0, .ref b)]) B.1 B.2.1 dL_7 rfl hl (by decide) rfl (fun ls hl => ?_)
  refine va_new (ci := 14) (fs := ((List.range 129).map (pV 0 (fun _ => 0) (fun _ => 0)))) (C := RX12) (T := TX12) (N := 129) B.1 B.2.1 B.2.2.2.2.1 i_X12 tyX12 tyX12_ok B.2.2.2.1 (B.2.2.2.2.1 _ cl_L_10) (B.2.2.2.2.1 _ in_X12) (B.2.2.2.2.1 _ ini_X12) hK hM.1 hM.2.1 hM.2.2.1 hA rfl pV_df (by show 0 + 1 + dz + 1 ≤ 600000; omega) (by show 0 + 10 + dl + 129 ≤ 7302250; omega) dL_8 (fun q H1 hP hD hS => ?_)
  have hPc := va_P_l hP
  have hPm : va_P D vwCl (pW dA q (fun _ => 0) (fun _ => 0) 0) H1 := va_P_r hP
  have hDm : va_D (lwA s) (pW dA q (fun _ => 0) (fun _ => 0) 0) := va_D_r hD
  have hne : ∀ (k a : Nat) (ee : va_E), (cW dA L2 T2 N2 I2 J2 R2)[k]? = some (a, ee) → a ≠ q := fun k a ee hk => va_D_x hD hk (show ([(q, Sum.inr (14, ((List.range 129).map (pV 0 (fun _ => 0) (fun _ => 0)))))] : va_W)[0]? = some (q, Sum.inr (14, ((List.range 129).map (pV 0 (fun _ => 0) (fun _ => 0))))) from rfl)
  have hF : ∀ a, va_A (pW dA q (fun _ => 0) (fun _ => 0) 0) H1.size a → lwA s a := fun a h => by
    rcases h with ⟨k, e', h⟩ | h
    · exact hDm.2 k (a, e') h
    · exact Nat.le_trans hS.1 h
  refine lv_dup B.1 B.2.1 dL_11 rfl ?_
  refine va_callv (va_runI (As := []) (rest := [.ref q]) ⟨B.1, B.2.1, B.2.2.1, B.2.2.2.1, B.2.2.2.2.1⟩ (k_init l D dA q H1.size) ⟨callB_of 0 B.2.2.2.2.1 (good_cw ml_L_12.2.2.2.1) rfl rfl rfl (B.2.2.2.2.1 _ ml_L_12.2.2.1) (B.2.2.2.2.1 _ ml_L_12.1) (by decide +kernel) ⟨Nat.le_of_ble_eq_true rfl, Nat.le_of_ble_eq_true rfl⟩, rfl, B.2.2.2.2.1 _ ml_L_12.2.1⟩ ⟨fun a U g mk qq => by obtain ⟨x0, x1, x2, x3, x4⟩ := qq; exact ⟨x0, x1, x2, va_K.moved (u := U) (U := U.calling g mk a) (Vm.Alike.refl U.vm) x3, x4⟩, fun U hU hW => ⟨rfl, by rw [hU], by rw [hU]; exact hPm, va_K.moved hW.alike hK, hDm.weaken (fun _ _ _ _ => trivial)⟩⟩ rfl rfl hl.1 rfl (lv_room (Nat.le_of_ble_eq_true rfl)) dL_12 ⟨by show 0 + 1 + dz + 1 + 93 ≤ 600000; omega, by show 0 + 10 + dl + 129 + 349590 ≤ 7302250; omega⟩) hS (fun a _ h => hF a h) hF (fun u t H2 locs2 htt hvm hw hB hz1 hk1 hS2 => ?_)
  obtain ⟨hRI, h1z⟩ := hw
  obtain ⟨hP1, hK1, hD1, hG1⟩ := hB
  rw [htt] at hP1
  have hLt : ∀ (k a : Nat) (ee : va_E), (cW dA L2 T2 N2 I2 J2 R2)[k]? = some (a, ee) → a < H1.size ∧ ¬ va_A (pW dA q (fun _ => 0) (fun _ => 0) 0) H1.size a := fun k a ee hk => by
    have h1 : a < H1.size := (hPc k (a, ee) hk).lt
    refine ⟨h1, fun h => ?_⟩
    rcases h with ⟨k', e', h⟩ | h
    · have h9 : (a, e').1 = q := by
        cases k' with
        | zero => cases h; rfl
        | succ k' => cases h
      exact hne k a ee hk h9
    · omega
  have hWW : LW D dA eA q u.1 (lwA s) s u.2 L2 T2 N2 I2 J2 R2 H2 locs2 := by
    refine ⟨⟨hP1, hD1.weaken (fun k x _ h => hF x.1 h), hS2, hG1⟩, ⟨hPc.kept (fun k x hx => ?_), hM.2.1, hS2, hM.2.2.2⟩, fun k a ee hk hL2 => ?_⟩
    · have h9 := hLt k x.1 x.2 hx
      exact hk1 x.1 h9.1 h9.2
    · obtain ⟨j, hj⟩ := va_pl_get (X := []) (f := cE dA T2 N2 I2 J2 R2) hL2
      rw [List.nil_append] at hj
      exact (hLt j a _ hj).2 (hD1.2 k (a, ee) hk)
  refine lv_astore_n (lv' := [(2, .ref q), (1, .ref hd), (0, .ref b)]) B.1 B.2.1 dL_15 rfl hl (by decide) rfl (fun ls hl => ?_)
  refine q_con B dL_16 ?_
  refine lv_istore_n (lv' := [(3, .int (II 0)), (2, .ref q), (1, .ref hd), (0, .ref b)]) B.1 B.2.1 dL_17 rfl hl (by decide) rfl (fun ls hl => ?_)
  exact law_loop CC (L + 6) 0 (by omega) (by omega) _ _ _ _ _ _ _ _ _ _ _ ls ⟨hWW, hRI, td, hDI, h7.trans h1z.symm, by rw [h7]; omega, by rw [h7]; omega⟩ (by rw [show 6 * ((0 : Nat) : Int) = 0 by decide]; exact hl)
set_option maxHeartbeats 4000000 in
theorem lw_walk (l : Launch) (b : Addr) (xs : List Int32) : MetFree l x (headSpec (Jvm.Cond.code x code maxLocals ret :: tables_1) room_1) (lw_P b xs) (fun _ _ _ _ _ => True) lw_Q := by
  refine MetFree.of_bodyS (code := code) (maxLocals := maxLocals) (ret := ret) (by decide) ?_ ?_
  · intro args s m h hn
    obtain ⟨meth, c, h1, h2, h3, h4, h5, h6, -, -⟩ := Cond.code_spec hn (atoms_spec (ws := Jvm.Cond.code x code maxLocals ret :: tables_1) h _ List.mem_cons_self)
    exact ⟨meth, c, h1, h2, h3, h4, h5, h6⟩
  · intro p e s m args below meth c s₁ B hml0 hP _
    obtain ⟨rfl, hx, hbd, hgv⟩ := hP
    obtain ⟨scr, harrAt, hlist, hof, hsmall⟩ := hx
    obtain ⟨hcb, hkn, -, -⟩ := State.arrayAt?_spec harrAt
    have hown : s.vm.findClass R_law = some m.cls := findClass_of_methodNamed B.named
    have hts0 : ∀ c ∈ (Jvm.Cond.code x code maxLocals ret :: tables_1), c.before #[Value.ref b] s = true := atoms_spec (ws := Jvm.Cond.code x code maxLocals ret :: tables_1) B.pre
    have hts : ∀ w ∈ lw_tbl, w.before #[Value.ref b] s = true := k2_hts_sels lw_privs (fun w hw => hts0 w (List.mem_cons_of_mem _ hw)) lw_privs_ok
    have hml : c.maxLocals = 4 := B.maxLocals_eq (hts0 _ List.mem_cons_self)
    have X₀ : Stand p l e room_1 s m #[Value.ref b] below meth c s₁ [] 0 0 := Stand.of_body B
    have hh0 : s₁.heap = s.heap := by rw [B.state]; rfl
    have hsz : scr.slots.size = xs.length := by rw [← Array.length_toList, hlist, List.length_map]
    have hval : ∀ j : Nat, j < xs.length → scr.slots[j]? = some (.int (xs.getD j 0)) := fun j hj => by
      rw [← Array.getElem?_toList, hlist]
      simp [hj]
    have hbl : b < s.heap.size := (Array.getElem?_eq_some_iff.mp hcb).1
    have hX : va_X b xs.length (fun j => xs.getD j 0) s s.heap := ⟨scr, hcb, hof, hkn, hsz, hval⟩
    have K : W p l e room_1 s m #[Value.ref b] below meth c s₁.heap [] 0 0 (lw_Z below #[Value.ref b] s) (entryFrame m ([Value.ref b] : List Value).toArray 4) := by
      rw [hh0]
      exact whole_start l hbd ⟨B.exec, B.bytes, B.returns, hml, hown, hts, hX, hbl, B.notSynchronized, hgv⟩
    obtain ⟨t, a1, o, b1, b2, b3⟩ := K s₁ rfl X₀
    exact ⟨t, o, a1, b1, b2, b3⟩
theorem lw_pre_spec {args : Array Value} {s : State} (h : (Jvm.Cond.and given_1 narrow_1).before args s = true) (hr : rest_1_c.before args s = true) : ∃ (b : Addr) (xs : List Int32), lw_P b xs args s := by
  have hs := flat_of_before _ h
  have hq := flat_of_before _ hr
  have hc : (Cond.count 1).before args s = true := hs _ (by decide +kernel)
  have harr : (Cond.arrayOf (.arg 0) .int).before args s = true := hs _ (by decide +kernel)
  have hle : (Cond.le (.length (.arg 0)) (.int 3072)).before args s = true := hs _ (by decide +kernel)
  have hlen : (Cond.isInt (.length (.arg 0))).before args s = true := hq _ (by decide +kernel)
  have hall : (Cond.all (.arg 0) (.isInt (.elem (.arg 0) (.index 0)))).before args s = true := hq _ (by decide +kernel)
  obtain ⟨b, xs, hb, hx⟩ := State.ints_of_pre rfl harr hlen hall
  have hsm : xs.length < 2 ^ 31 := hx.choose_spec.2.2.2
  have hev : (Term.length (.arg 0)).eval args s none [] s = some (.int xs.length.toInt32) := hx.length_eval hb
  have hv := Cond.le_ints hev (show (Term.int 3072).eval args s none [] s = some (.int 3072) from rfl)
  have hd : xs.length.toInt32 ≤ 3072 := by
    simpa [Cond.before, Cond.holds, hv] using hle
  have hN : xs.length ≤ 3072 := (Int32.ofNat_le_ofNat hsm (by decide)).mp (show Int32.ofNat xs.length ≤ Int32.ofNat 3072 from hd)
  exact ⟨b, xs, Cond.one_arg hc (show args[0]? = some (.ref b) from hb), hx, hN, h⟩
theorem lw_comes (l : Launch) : Comes l x (Jvm.Cond.code x code maxLocals ret :: tables_1) room_1 (fun tb e args s => Calls_1 tb e args s ∧ rest_1 tb e args s ∧ Pre_1 tb e args s)
    (fun _ _ args s o t => lw_Q args s o t) := by
  intro p e ha hc hk s m args below hf hfit hheap happ hpre
  obtain ⟨b, xs, hP⟩ := lw_pre_spec hpre.2.2 hpre.2.1
  obtain ⟨k, o, h1, h2, h3, hQ⟩ := lw_walk l b xs p e ha hc hk s m args below hf ((Spec.applies_iff_loose hf).mp happ).1 hP trivial
  exact ⟨k, o, h1, h2, h3, hQ⟩
theorem lw_frame {s t : State} {o : Outcome} {args : Array Value} (h : Framed s o t [] 600000 7302250) :
    Framed s o t (fieldLocs frame_1_writes args s ++ arrayLocs frame_1_arrays args s ++ staticLocs frame_1_statics s) 600000 7302250 := h
theorem lw_limb (L : Cond) (hL : ∀ (args : Array Value) (s t : State), L.after args s (.returned (some (.int 1))) t = true) :
    ArmFor flags0 classFile x code maxLocals ret World_1 tables_1 room_1 Calls_1 rest_1 Pre_1
      (fun tb e a s o t => postC L tb e a s o t ∧ Framed s o t (fieldLocs frame_1_writes a s ++ arrayLocs frame_1_arrays a s ++ staticLocs frame_1_statics s) 600000 7302250) := by
  intro l _ _ _ p e ha hc hk s m args below hf hfit hheap happ hpre
  obtain ⟨k, o, h1, h2, h3, rfl, hF⟩ := lw_comes l p e ha hc hk s m args below hf hfit hheap happ hpre
  exact ⟨k, _, h1, h2, h3, hL args s _, lw_frame hF⟩
theorem i_vc : Claimed_1_1 ∧ Claimed_1_2 := ⟨lw_limb limb_1_1 (fun args s t => by simp [limb_1_1, Cond.after, Cond.holds, Cond.value]), lw_limb limb_1_2 (fun args s t => Cond.after_iff.mpr (by
  first | (rw [show limb_1_2 = Cond.eq .result (.int 1) from rfl, Cond.eq_ints (x := 1) (y := 1) rfl rfl]; simp; done) | (simp [limb_1_2, Cond.value, Term.eval]; done)))⟩
