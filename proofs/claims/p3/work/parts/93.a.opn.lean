def mo_X4_joinRow : List Nat := [2656]
set_option maxHeartbeats 1000000 in
set_option maxRecDepth 20000 in
theorem k_X4_joinRow (l : Launch) (D : va_G) (dA : Nat → ClassId) (eA : Nat) (L : List Nat) (T N : Nat → Nat) (I : Nat → Nat → Int) (J : Nat → Nat → Int64) (R : Nat → Nat → Nat) (a_use : Nat) (t_use : T a_use = 9) (a_f : Nat) (t_f : T a_f = 83) (a_t : Nat) (t_t : T a_t = 83) : GC l yX4_joinRow cX4_joinRow 5 none ({ frames := 0, cells := 0, slots := 0, locals := 0 }) D dA eA L T N I J R [.ref a_use, .ref a_f, .ref a_t] 0 0 (gV (fun L' T' N' I' J' R' dz dl => L' = L ∧ T' = T ∧ N' = N ∧ J' = J ∧ R' = R ∧ Fr mo_X4_joinRow [] T N I J R T' N' I' J' R' ∧ (True))) := by
  generalize hPST : (gV (fun L' T' N' I' J' R' dz dl => L' = L ∧ T' = T ∧ N' = N ∧ J' = J ∧ R' = R ∧ Fr mo_X4_joinRow [] T N I J R T' N' I' J' R' ∧ (True))) = PST
  refine g_enter (own := RX4) (by decide) rfl (Nat.le_of_ble_eq_true rfl) (fun p e s m args below meth c ls hm B hX hM hl => ?_)
  have hC0 := hM.2.2.2.2.2.2.1
  have hW0 := hM.2.2.2
  have hF : Fr mo_X4_joinRow [] T N I J R T N I J R := Fr.rf
  have hA : ∀ q, s.heap.size ≤ q → cF dA L T N I J R s.heap.size q := fun q h => Or.inr h
  have hl : lv_has ls 5 [(0, .ref a_use), (1, .ref a_f), (2, .ref a_t)] := hl
  refine lv_aload_n B.1 B.2.1 dX4_joinRow_0 rfl (lv_at hl 2 rfl) ?_
  refine q_con B dX4_joinRow_1 ?_
  refine lv_aload_n B.1 B.2.1 dX4_joinRow_2 rfl (lv_at hl 1 rfl) ?_
  refine q_con B dX4_joinRow_3 ?_
  have n1 : 6 ≤ N a_f ∧ N a_f ≤ 6 := gn83 hM.2.2.2.2.2.2.1 t_f
  obtain ⟨x2, e3⟩ : ∃ v, I a_f ((0 : Int).toNat) = v := ⟨_, rfl⟩
  have r4 : (-2147483648 : Int) ≤ x2 ∧ x2 ≤ 2147483647 := by rw [← e3]; exact ga83 hM.2.2.2.2.2.2.1 t_f (by omega)
  refine c_ild B hM t_f kd83 an83 dX4_joinRow_4 (by omega) (by omega) e3 ?_
  refine q_con B dX4_joinRow_5 ?_
  have JJ19 : ∀ (s19_0 : Int) (H : Heap) (locs : List Loc) (ls : Array Slot), (CWd D dA eA (cF dA L T N I J R s.heap.size) s.heap L T N I J R H locs) → lv_has ls 5 [(0, .ref a_use), (1, .ref a_f), (2, .ref a_t)] → ((-2147483648 : Int) ≤ s19_0 ∧ s19_0 ≤ 2147483647) → W p l e ({ frames := 0, cells := 0, slots := 0, locals := 0 }) s m args below meth c H locs 0 0 (MQ below (gQ D dA eA (cF dA L T N I J R s.heap.size) s.heap.size (hs s.heap) PST) args s 0 0 (cF dA L T N I J R s.heap.size)) (F0 m 19 ls [.int (II s19_0), .int (II 0), .ref a_t]) := by
    intro s19_0 H locs ls hM hl hJJ19_0
    have n5 : 6 ≤ N a_t ∧ N a_t ≤ 6 := gn83 hM.2.2.2.2.2.2.1 t_t
    refine c_ist B hM t_t kd83 aq83 dX4_joinRow_19 (by omega) (by omega) (show (-2147483648 : Int) ≤ s19_0 from by omega) (show s19_0 ≤ (2147483647 : Int) from by omega) (fun I7 H locs hu6 hM => ?_)
    have e8 : I7 a_t ((0 : Int).toNat) = s19_0 := w2_at hu6
    replace hF : Fr mo_X4_joinRow [] T N I J R T N I7 J R := hF.wi hu6 (fun _ _ => by rw [t_t, cd_arr (j := 0) (by decide)]; rfl)
    refine lv_aload_n B.1 B.2.1 dX4_joinRow_20 rfl (lv_at hl 2 rfl) ?_
    refine q_con B dX4_joinRow_21 ?_
    refine lv_aload_n B.1 B.2.1 dX4_joinRow_22 rfl (lv_at hl 1 rfl) ?_
    refine q_con B dX4_joinRow_23 ?_
    obtain ⟨x9, e10⟩ : ∃ v, I7 a_f ((1 : Int).toNat) = v := ⟨_, rfl⟩
    have r11 : (-2147483648 : Int) ≤ x9 ∧ x9 ≤ 2147483647 := by rw [← e10]; exact ga83 hM.2.2.2.2.2.2.1 t_f (by omega)
    refine c_ild B hM t_f kd83 an83 dX4_joinRow_24 (by omega) (by omega) e10 ?_
    refine q_con B dX4_joinRow_25 ?_
    have JJ39 : ∀ (s39_0 : Int) (H : Heap) (locs : List Loc) (ls : Array Slot), (CWd D dA eA (cF dA L T N I J R s.heap.size) s.heap L T N I7 J R H locs) → lv_has ls 5 [(0, .ref a_use), (1, .ref a_f), (2, .ref a_t)] → ((-2147483648 : Int) ≤ s39_0 ∧ s39_0 ≤ 2147483647) → W p l e ({ frames := 0, cells := 0, slots := 0, locals := 0 }) s m args below meth c H locs 0 0 (MQ below (gQ D dA eA (cF dA L T N I J R s.heap.size) s.heap.size (hs s.heap) PST) args s 0 0 (cF dA L T N I J R s.heap.size)) (F0 m 39 ls [.int (II s39_0), .int (II 1), .ref a_t]) := by
      intro s39_0 H locs ls hM hl hJJ39_0
      refine c_ist B hM t_t kd83 aq83 dX4_joinRow_39 (by omega) (by omega) (show (-2147483648 : Int) ≤ s39_0 from by omega) (show s39_0 ≤ (2147483647 : Int) from by omega) (fun I13 H locs hu12 hM => ?_)
      have e14 : I13 a_t ((1 : Int).toNat) = s39_0 := w2_at hu12
      replace hF : Fr mo_X4_joinRow [] T N I J R T N I13 J R := hF.wi hu12 (fun _ _ => by rw [t_t, cd_arr (j := 0) (by decide)]; rfl)
      refine lv_aload_n B.1 B.2.1 dX4_joinRow_40 rfl (lv_at hl 1 rfl) ?_
      refine q_con B dX4_joinRow_41 ?_
      obtain ⟨x15, e16⟩ : ∃ v, I13 a_f ((2 : Int).toNat) = v := ⟨_, rfl⟩
      have r17 : (-2147483648 : Int) ≤ x15 ∧ x15 ≤ 2147483647 := by rw [← e16]; exact ga83 hM.2.2.2.2.2.2.1 t_f (by omega)
      refine c_ild B hM t_f kd83 an83 dX4_joinRow_42 (by omega) (by omega) e16 ?_
      have JJ51 : ∀ (s51_0 : Int) (H : Heap) (locs : List Loc) (ls : Array Slot), (CWd D dA eA (cF dA L T N I J R s.heap.size) s.heap L T N I13 J R H locs) → lv_has ls 5 [(0, .ref a_use), (1, .ref a_f), (2, .ref a_t)] → ((-2147483648 : Int) ≤ s51_0 ∧ s51_0 ≤ 2147483647) → W p l e ({ frames := 0, cells := 0, slots := 0, locals := 0 }) s m args below meth c H locs 0 0 (MQ below (gQ D dA eA (cF dA L T N I J R s.heap.size) s.heap.size (hs s.heap) PST) args s 0 0 (cF dA L T N I J R s.heap.size)) (F0 m 51 ls [.int (II s51_0)]) := by
        intro s51_0 H locs ls hM hl hJJ51_0
        refine lv_istore_n (lv' := [(3, .int (II s51_0)), (0, .ref a_use), (1, .ref a_f), (2, .ref a_t)]) B.1 B.2.1 dX4_joinRow_51 rfl hl (by decide) rfl (fun ls hl => ?_)
        refine lv_aload_n B.1 B.2.1 dX4_joinRow_52 rfl (lv_at hl 3 rfl) ?_
        refine q_con B dX4_joinRow_53 ?_
        refine lv_iload_n B.1 B.2.1 dX4_joinRow_54 rfl (lv_at hl 0 rfl) ?_
        have JJ70 : ∀ (s70_0 : Int) (H : Heap) (locs : List Loc) (ls : Array Slot), (CWd D dA eA (cF dA L T N I J R s.heap.size) s.heap L T N I13 J R H locs) → lv_has ls 5 [(3, .int (II s51_0)), (0, .ref a_use), (1, .ref a_f), (2, .ref a_t)] → ((-2147483648 : Int) ≤ s70_0 ∧ s70_0 ≤ 2147483647) → W p l e ({ frames := 0, cells := 0, slots := 0, locals := 0 }) s m args below meth c H locs 0 0 (MQ below (gQ D dA eA (cF dA L T N I J R s.heap.size) s.heap.size (hs s.heap) PST) args s 0 0 (cF dA L T N I J R s.heap.size)) (F0 m 70 ls [.int (II s70_0), .int (II 2), .ref a_t]) := by
          intro s70_0 H locs ls hM hl hJJ70_0
          refine c_ist B hM t_t kd83 aq83 dX4_joinRow_70 (by omega) (by omega) (show (-2147483648 : Int) ≤ s70_0 from by omega) (show s70_0 ≤ (2147483647 : Int) from by omega) (fun I19 H locs hu18 hM => ?_)
          have e21 : I19 a_t ((2 : Int).toNat) = s70_0 := w2_at hu18
          replace hF : Fr mo_X4_joinRow [] T N I J R T N I19 J R := hF.wi hu18 (fun _ _ => by rw [t_t, cd_arr (j := 0) (by decide)]; rfl)
          refine lv_aload_n B.1 B.2.1 dX4_joinRow_71 rfl (lv_at hl 3 rfl) ?_
          refine q_con B dX4_joinRow_72 ?_
          refine lv_iload_n B.1 B.2.1 dX4_joinRow_73 rfl (lv_at hl 0 rfl) ?_
          have JJ87 : ∀ (s87_0 : Int) (H : Heap) (locs : List Loc) (ls : Array Slot), (CWd D dA eA (cF dA L T N I J R s.heap.size) s.heap L T N I19 J R H locs) → lv_has ls 5 [(3, .int (II s51_0)), (0, .ref a_use), (1, .ref a_f), (2, .ref a_t)] → ((-2147483648 : Int) ≤ s87_0 ∧ s87_0 ≤ 2147483647) → W p l e ({ frames := 0, cells := 0, slots := 0, locals := 0 }) s m args below meth c H locs 0 0 (MQ below (gQ D dA eA (cF dA L T N I J R s.heap.size) s.heap.size (hs s.heap) PST) args s 0 0 (cF dA L T N I J R s.heap.size)) (F0 m 87 ls [.int (II s87_0), .int (II 3), .ref a_t]) := by
            intro s87_0 H locs ls hM hl hJJ87_0
            refine c_ist B hM t_t kd83 aq83 dX4_joinRow_87 (by omega) (by omega) (show (-2147483648 : Int) ≤ s87_0 from by omega) (show s87_0 ≤ (2147483647 : Int) from by omega) (fun I23 H locs hu22 hM => ?_)
            have e24 : I23 a_t ((3 : Int).toNat) = s87_0 := w2_at hu22
            replace hF : Fr mo_X4_joinRow [] T N I J R T N I23 J R := hF.wi hu22 (fun _ _ => by rw [t_t, cd_arr (j := 0) (by decide)]; rfl)
            refine lv_aload_n B.1 B.2.1 dX4_joinRow_88 rfl (lv_at hl 2 rfl) ?_
            refine q_con B dX4_joinRow_89 ?_
            obtain ⟨x25, e26⟩ : ∃ v, I23 a_f ((4 : Int).toNat) = v := ⟨_, rfl⟩
            have r27 : (-2147483648 : Int) ≤ x25 ∧ x25 ≤ 2147483647 := by rw [← e26]; exact ga83 hM.2.2.2.2.2.2.1 t_f (by omega)
            refine c_ild B hM t_f kd83 an83 dX4_joinRow_90 (by omega) (by omega) e26 ?_
            refine q_con B dX4_joinRow_91 ?_
            have JJ100 : ∀ (s100_0 : Int) (H : Heap) (locs : List Loc) (ls : Array Slot), (CWd D dA eA (cF dA L T N I J R s.heap.size) s.heap L T N I23 J R H locs) → lv_has ls 5 [(3, .int (II s51_0)), (0, .ref a_use), (1, .ref a_f), (2, .ref a_t)] → ((-2147483648 : Int) ≤ s100_0 ∧ s100_0 ≤ 2147483647) → W p l e ({ frames := 0, cells := 0, slots := 0, locals := 0 }) s m args below meth c H locs 0 0 (MQ below (gQ D dA eA (cF dA L T N I J R s.heap.size) s.heap.size (hs s.heap) PST) args s 0 0 (cF dA L T N I J R s.heap.size)) (F0 m 100 ls [.int (II s100_0)]) := by
              intro s100_0 H locs ls hM hl hJJ100_0
              refine lv_istore (lv' := [(4, .int (II s100_0)), (3, .int (II s51_0)), (0, .ref a_use), (1, .ref a_f), (2, .ref a_t)]) B.1 B.2.1 dX4_joinRow_100 hl (by decide) rfl (fun ls hl => ?_)
              refine lv_aload_n B.1 B.2.1 dX4_joinRow_102 rfl (lv_at hl 4 rfl) ?_
              refine q_con B dX4_joinRow_103 ?_
              refine lv_iload B.1 B.2.1 dX4_joinRow_104 (lv_at hl 0 rfl) ?_
              have JJ119 : ∀ (s119_0 : Int) (H : Heap) (locs : List Loc) (ls : Array Slot), (CWd D dA eA (cF dA L T N I J R s.heap.size) s.heap L T N I23 J R H locs) → lv_has ls 5 [(4, .int (II s100_0)), (3, .int (II s51_0)), (0, .ref a_use), (1, .ref a_f), (2, .ref a_t)] → ((-2147483648 : Int) ≤ s119_0 ∧ s119_0 ≤ 2147483647) → W p l e ({ frames := 0, cells := 0, slots := 0, locals := 0 }) s m args below meth c H locs 0 0 (MQ below (gQ D dA eA (cF dA L T N I J R s.heap.size) s.heap.size (hs s.heap) PST) args s 0 0 (cF dA L T N I J R s.heap.size)) (F0 m 119 ls [.int (II s119_0), .int (II 4), .ref a_t]) := by
                intro s119_0 H locs ls hM hl hJJ119_0
                refine c_ist B hM t_t kd83 aq83 dX4_joinRow_119 (by omega) (by omega) (show (-2147483648 : Int) ≤ s119_0 from by omega) (show s119_0 ≤ (2147483647 : Int) from by omega) (fun I29 H locs hu28 hM => ?_)
                have e30 : I29 a_t ((4 : Int).toNat) = s119_0 := w2_at hu28
                replace hF : Fr mo_X4_joinRow [] T N I J R T N I29 J R := hF.wi hu28 (fun _ _ => by rw [t_t, cd_arr (j := 0) (by decide)]; rfl)
                refine lv_aload_n B.1 B.2.1 dX4_joinRow_120 rfl (lv_at hl 4 rfl) ?_
                refine q_con B dX4_joinRow_121 ?_
                refine lv_iload B.1 B.2.1 dX4_joinRow_122 (lv_at hl 0 rfl) ?_
                have JJ137 : ∀ (s137_0 : Int) (H : Heap) (locs : List Loc) (ls : Array Slot), (CWd D dA eA (cF dA L T N I J R s.heap.size) s.heap L T N I29 J R H locs) → lv_has ls 5 [(4, .int (II s100_0)), (3, .int (II s51_0)), (0, .ref a_use), (1, .ref a_f), (2, .ref a_t)] → ((-2147483648 : Int) ≤ s137_0 ∧ s137_0 ≤ 2147483647) → W p l e ({ frames := 0, cells := 0, slots := 0, locals := 0 }) s m args below meth c H locs 0 0 (MQ below (gQ D dA eA (cF dA L T N I J R s.heap.size) s.heap.size (hs s.heap) PST) args s 0 0 (cF dA L T N I J R s.heap.size)) (F0 m 137 ls [.int (II s137_0), .int (II 5), .ref a_t]) := by
                  intro s137_0 H locs ls hM hl hJJ137_0
                  refine c_ist B hM t_t kd83 aq83 dX4_joinRow_137 (by omega) (by omega) (show (-2147483648 : Int) ≤ s137_0 from by omega) (show s137_0 ≤ (2147483647 : Int) from by omega) (fun I32 H locs hu31 hM => ?_)
                  have e33 : I32 a_t ((5 : Int).toNat) = s137_0 := w2_at hu31
                  replace hF : Fr mo_X4_joinRow [] T N I J R T N I32 J R := hF.wi hu31 (fun _ _ => by rw [t_t, cd_arr (j := 0) (by decide)]; rfl)
                  refine g_vret B hM dX4_joinRow_138 ⟨Nat.le_refl _, Nat.le_refl _⟩ ?_
                  rw [← hPST]
                  exact ⟨rfl, rfl, rfl, rfl, rfl, rfl, hF, by first | omega | assumption | exact trivial⟩
                refine q_ieq (tgt := 133) B dX4_joinRow_124 (by decide) (by unfold inr; omega) (fun c34 => ?_) (fun c34 => ?_)
                · refine lv_aload_n B.1 B.2.1 dX4_joinRow_133 rfl (lv_at hl 2 rfl) ?_
                  obtain ⟨x35, e36⟩ : ∃ v, I a_use 10 = v := ⟨_, rfl⟩
                  have e37 : I29 a_use 10 = x35 := (hF.i t_use (by decide) nm0 rfl).trans e36
                  have r38 : (-2147483648 : Int) ≤ x35 ∧ x35 ≤ 2147483647 := by rw [← e37]; exact g9_10 hM.2.2.2.2.2.2.1 t_use
                  refine c_geti (k := 10) pk_X10 B hM t_use kd9 rfl (by decide) fl_X4_140 dX4_joinRow_134 e37 ?_
                  exact JJ137 x35 _ _ ls hM (lv_sub hl [0, 1, 2, 3, 4] rfl) (by first | omega | assumption | exact trivial)
                · refine lv_aload_n B.1 B.2.1 dX4_joinRow_127 rfl (lv_at hl 3 rfl) ?_
                  refine q_con B dX4_joinRow_128 ?_
                  obtain ⟨x39, e40⟩ : ∃ v, I29 a_f ((5 : Int).toNat) = v := ⟨_, rfl⟩
                  have r41 : (-2147483648 : Int) ≤ x39 ∧ x39 ≤ 2147483647 := by rw [← e40]; exact ga83 hM.2.2.2.2.2.2.1 t_f (by omega)
                  refine c_ild B hM t_f kd83 an83 dX4_joinRow_129 (by omega) (by omega) e40 ?_
                  refine lv_goto (tgt := 137) B.1 B.2.1 dX4_joinRow_130 (by decide) ?_
                  exact JJ137 x39 _ _ ls hM (lv_sub hl [0, 1, 2, 3, 4] rfl) (by first | omega | assumption | exact trivial)
              refine q_ieq (tgt := 115) B dX4_joinRow_106 (by decide) (by unfold inr; omega) (fun c42 => ?_) (fun c42 => ?_)
              · refine lv_aload_n B.1 B.2.1 dX4_joinRow_115 rfl (lv_at hl 2 rfl) ?_
                obtain ⟨x43, e44⟩ : ∃ v, I a_use 9 = v := ⟨_, rfl⟩
                have e45 : I23 a_use 9 = x43 := (hF.i t_use (by decide) nm0 rfl).trans e44
                have r46 : (-2147483648 : Int) ≤ x43 ∧ x43 ≤ 2147483647 := by rw [← e45]; exact g9_9 hM.2.2.2.2.2.2.1 t_use
                refine c_geti (k := 9) pk_X10 B hM t_use kd9 rfl (by decide) fl_X4_137 dX4_joinRow_116 e45 ?_
                exact JJ119 x43 _ _ ls hM (lv_sub hl [0, 1, 2, 3, 4] rfl) (by first | omega | assumption | exact trivial)
              · refine lv_aload_n B.1 B.2.1 dX4_joinRow_109 rfl (lv_at hl 3 rfl) ?_
                refine q_con B dX4_joinRow_110 ?_
                refine c_ild B hM t_f kd83 an83 dX4_joinRow_111 (by omega) (by omega) e26 ?_
                refine lv_goto (tgt := 119) B.1 B.2.1 dX4_joinRow_112 (by decide) ?_
                exact JJ119 x25 _ _ ls hM (lv_sub hl [0, 1, 2, 3, 4] rfl) (by first | omega | assumption | exact trivial)
            refine q_ceq (tgt := 99) B dX4_joinRow_92 (by decide) (by unfold inr; omega) (by unfold inr; omega) (fun c47 => ?_) (fun c47 => ?_)
            · refine q_con B dX4_joinRow_99 ?_
              exact JJ100 0 _ _ ls hM (lv_sub hl [0, 1, 2, 3] rfl) (by first | omega | assumption | exact trivial)
            · refine q_con B dX4_joinRow_95 ?_
              refine lv_goto (tgt := 100) B.1 B.2.1 dX4_joinRow_96 (by decide) ?_
              exact JJ100 1 _ _ ls hM (lv_sub hl [0, 1, 2, 3] rfl) (by first | omega | assumption | exact trivial)
          refine q_ieq (tgt := 83) B dX4_joinRow_74 (by decide) (by unfold inr; omega) (fun c48 => ?_) (fun c48 => ?_)
          · refine lv_aload_n B.1 B.2.1 dX4_joinRow_83 rfl (lv_at hl 1 rfl) ?_
            obtain ⟨x49, e50⟩ : ∃ v, I a_use 8 = v := ⟨_, rfl⟩
            have e51 : I19 a_use 8 = x49 := (hF.i t_use (by decide) nm0 rfl).trans e50
            have r52 : (-2147483648 : Int) ≤ x49 ∧ x49 ≤ 2147483647 := by rw [← e51]; exact g9_8 hM.2.2.2.2.2.2.1 t_use
            refine c_geti (k := 8) pk_X10 B hM t_use kd9 rfl (by decide) fl_X4_134 dX4_joinRow_84 e51 ?_
            exact JJ87 x49 _ _ ls hM (lv_sub hl [0, 1, 2, 3] rfl) (by first | omega | assumption | exact trivial)
          · refine lv_aload_n B.1 B.2.1 dX4_joinRow_77 rfl (lv_at hl 2 rfl) ?_
            refine q_con B dX4_joinRow_78 ?_
            obtain ⟨x53, e54⟩ : ∃ v, I19 a_f ((3 : Int).toNat) = v := ⟨_, rfl⟩
            have r55 : (-2147483648 : Int) ≤ x53 ∧ x53 ≤ 2147483647 := by rw [← e54]; exact ga83 hM.2.2.2.2.2.2.1 t_f (by omega)
            refine c_ild B hM t_f kd83 an83 dX4_joinRow_79 (by omega) (by omega) e54 ?_
            refine lv_goto (tgt := 87) B.1 B.2.1 dX4_joinRow_80 (by decide) ?_
            exact JJ87 x53 _ _ ls hM (lv_sub hl [0, 1, 2, 3] rfl) (by first | omega | assumption | exact trivial)
        refine q_ine (tgt := 65) B dX4_joinRow_55 (by decide) (by unfold inr; omega) (fun c56 => ?_) (fun c56 => ?_)
        · refine q_con B dX4_joinRow_65 ?_
          refine lv_goto (tgt := 70) B.1 B.2.1 dX4_joinRow_66 (by decide) ?_
          exact JJ70 1 _ _ ls hM (lv_sub hl [0, 1, 2, 3] rfl) (by first | omega | assumption | exact trivial)
        · refine lv_aload_n B.1 B.2.1 dX4_joinRow_58 rfl (lv_at hl 1 rfl) ?_
          obtain ⟨x57, e58⟩ : ∃ v, I a_use 7 = v := ⟨_, rfl⟩
          have e59 : I13 a_use 7 = x57 := (hF.i t_use (by decide) nm0 rfl).trans e58
          have r60 : (0 : Int) ≤ x57 ∧ x57 ≤ 1 := by rw [← e59]; exact g9_7 hM.2.2.2.2.2.2.1 t_use
          refine c_geti (k := 7) pk_X10 B hM t_use kd9 rfl (by decide) fl_X4_130 dX4_joinRow_59 e59 ?_
          refine q_ieq (tgt := 69) B dX4_joinRow_62 (by decide) (by unfold inr; omega) (fun c61 => ?_) (fun c61 => ?_)
          · refine q_con B dX4_joinRow_69 ?_
            exact JJ70 0 _ _ ls hM (lv_sub hl [0, 1, 2, 3] rfl) (by first | omega | assumption | exact trivial)
          · refine q_con B dX4_joinRow_65 ?_
            refine lv_goto (tgt := 70) B.1 B.2.1 dX4_joinRow_66 (by decide) ?_
            exact JJ70 1 _ _ ls hM (lv_sub hl [0, 1, 2, 3] rfl) (by first | omega | assumption | exact trivial)
      refine q_ieq (tgt := 50) B dX4_joinRow_43 (by decide) (by unfold inr; omega) (fun c62 => ?_) (fun c62 => ?_)
      · refine q_con B dX4_joinRow_50 ?_
        exact JJ51 0 _ _ ls hM (lv_sub hl [0, 1, 2] rfl) (by first | omega | assumption | exact trivial)
      · refine q_con B dX4_joinRow_46 ?_
        refine lv_goto (tgt := 51) B.1 B.2.1 dX4_joinRow_47 (by decide) ?_
        exact JJ51 1 _ _ ls hM (lv_sub hl [0, 1, 2] rfl) (by first | omega | assumption | exact trivial)
    refine q_ceq (tgt := 35) B dX4_joinRow_26 (by decide) (by unfold inr; omega) (by unfold inr; omega) (fun c63 => ?_) (fun c63 => ?_)
    · refine lv_aload_n B.1 B.2.1 dX4_joinRow_35 rfl (lv_at hl 0 rfl) ?_
      obtain ⟨x64, e65⟩ : ∃ v, I a_use 6 = v := ⟨_, rfl⟩
      have e66 : I7 a_use 6 = x64 := (hF.i t_use (by decide) nm0 rfl).trans e65
      have r67 : (-2147483648 : Int) ≤ x64 ∧ x64 ≤ 2147483647 := by rw [← e66]; exact g9_6 hM.2.2.2.2.2.2.1 t_use
      refine c_geti (k := 6) pk_X10 B hM t_use kd9 rfl (by decide) fl_X4_127 dX4_joinRow_36 e66 ?_
      exact JJ39 x64 _ _ ls hM (lv_sub hl [0, 1, 2] rfl) (by first | omega | assumption | exact trivial)
    · refine lv_aload_n B.1 B.2.1 dX4_joinRow_29 rfl (lv_at hl 1 rfl) ?_
      refine q_con B dX4_joinRow_30 ?_
      refine c_ild B hM t_f kd83 an83 dX4_joinRow_31 (by omega) (by omega) e10 ?_
      refine lv_goto (tgt := 39) B.1 B.2.1 dX4_joinRow_32 (by decide) ?_
      exact JJ39 x9 _ _ ls hM (lv_sub hl [0, 1, 2] rfl) (by first | omega | assumption | exact trivial)
  refine q_ceq (tgt := 15) B dX4_joinRow_6 (by decide) (by unfold inr; omega) (by unfold inr; omega) (fun c68 => ?_) (fun c68 => ?_)
  · refine lv_aload_n B.1 B.2.1 dX4_joinRow_15 rfl (lv_at hl 0 rfl) ?_
    obtain ⟨x69, e70⟩ : ∃ v, I a_use 5 = v := ⟨_, rfl⟩
    have r71 : (-2147483648 : Int) ≤ x69 ∧ x69 ≤ 2147483647 := by rw [← e70]; exact g9_5 hM.2.2.2.2.2.2.1 t_use
    refine c_geti (k := 5) pk_X10 B hM t_use kd9 rfl (by decide) fl_X4_124 dX4_joinRow_16 e70 ?_
    exact JJ19 x69 _ _ ls hM (lv_sub hl [0, 1, 2] rfl) (by first | omega | assumption | exact trivial)
  · refine lv_aload_n B.1 B.2.1 dX4_joinRow_9 rfl (lv_at hl 1 rfl) ?_
    refine q_con B dX4_joinRow_10 ?_
    refine c_ild B hM t_f kd83 an83 dX4_joinRow_11 (by omega) (by omega) e3 ?_
    refine lv_goto (tgt := 19) B.1 B.2.1 dX4_joinRow_12 (by decide) ?_
    exact JJ19 x2 _ _ ls hM (lv_sub hl [0, 1, 2] rfl) (by first | omega | assumption | exact trivial)

def mo_X4_hold : List Nat := []
set_option maxHeartbeats 1000000 in
set_option maxRecDepth 20000 in
theorem k_X4_hold (l : Launch) (D : va_G) (dA : Nat → ClassId) (eA : Nat) (L : List Nat) (T N : Nat → Nat) (I : Nat → Nat → Int) (J : Nat → Nat → Int64) (R : Nat → Nat → Nat) (a_use : Nat) (t_use : T a_use = 9) (a_row : Nat) (t_row : T a_row = 83) (a_reads : Nat) (q_reads : a_reads = 0 ∨ ∃ b, a_reads = b + 1 ∧ T b = 77) : GC l yX4_hold cX4_hold 4 (some (.object "CustomsDesk$Use")) ({ frames := 2, cells := 1, slots := 11, locals := 51 }) D dA eA L T N I J R [.ref a_use, .ref a_row, cv a_reads] 1 11 (gR (fun r L' T' N' I' J' R' dz dl => J' = J ∧ Fr mo_X4_hold [] T N I J R T' N' I' J' R' ∧ T' r = 9 ∧ (dz ≤ 1 ∧ dl ≤ 11))) := by
  generalize hPST : (gR (fun r L' T' N' I' J' R' dz dl => J' = J ∧ Fr mo_X4_hold [] T N I J R T' N' I' J' R' ∧ T' r = 9 ∧ (dz ≤ 1 ∧ dl ≤ 11))) = PST
  refine g_enter (own := RX4) (by decide) rfl (by cases a_reads <;> exact Nat.le_of_ble_eq_true rfl) (fun p e s m args below meth c ls hm B hX hM hl => ?_)
  have hC0 := hM.2.2.2.2.2.2.1
  have hW0 := hM.2.2.2
  have hF : Fr mo_X4_hold [] T N I J R T N I J R := Fr.rf
  have hA : ∀ q, s.heap.size ≤ q → cF dA L T N I J R s.heap.size q := fun q h => Or.inr h
  have hl : lv_has ls 4 [(0, .ref a_use), (1, .ref a_row), (2, cv a_reads)] := (by cases a_reads <;> exact hl)
  have hMo := hM
  refine c_new (t := 37) pk_X10 B hX.out hA hM kd37 df_X10 rfl rfl (by decide) cl_X4_95 in_X10 ini_X10 (by show 0 + 1 ≤ 1; omega) (by show 0 + 11 ≤ 11; omega) dX4_hold_0 (fun b1 L2 T3 N4 H t5 hT6 hN7 hM => ?_)
  have t8 : T3 b1 = 37 := by rw [hT6, va_up_self]
  have n9 : N4 b1 = 11 := by rw [hN7, va_up_self]
  replace hF : Fr mo_X4_hold [] T N I J R T3 N4 I J R := hF.new t5 hT6 hN7
  have zz10 := hMo.2.2.2.2.2.1 b1 t5
  clear hMo
  refine lv_dup B.1 B.2.1 dX4_hold_3 rfl ?_
  refine lv_aload_n B.1 B.2.1 dX4_hold_4 rfl (lv_at hl 0 rfl) ?_
  have t11 : T3 a_use = 9 := hF.tt t_use (by decide) nm0
  obtain ⟨x12, e13⟩ : ∃ v, I a_use 0 = v := ⟨_, rfl⟩
  have r14 : (-2147483648 : Int) ≤ x12 ∧ x12 ≤ 2147483647 := by rw [← e13]; exact g9_0 hM.2.2.2.2.2.2.1 t11
  refine c_geti (k := 0) pk_X10 B hM t11 kd9 rfl (by decide) fl_X4_97 dX4_hold_5 e13 ?_
  refine z_callv hM hA (c_runI (n := 1) (as := [.int (II x12)]) (rest := [.ref b1]) B hX hA hM hl.1 (k_X10_init l D dA eA L2 T3 N4 I J R b1 t8 x12 (by first | omega | assumption | exact trivial) zz10 _ _) ml_X4_202 nm_X10_init ⟨rfl, rfl⟩ ⟨Nat.le_of_ble_eq_true rfl, Nat.le_of_ble_eq_true rfl⟩ dX4_hold_8 rfl rfl (Nat.le_of_ble_eq_true rfl) ⟨by show 0 + 1 + 0 ≤ 1; omega, by show 0 + 11 + 0 ≤ 11; omega⟩) (fun L17 T18 N19 I20 J21 R22 dz23 dl24 H locs hp15 hMn => ?_)
  obtain ⟨yJ21, hFc25, hp15a⟩ := hp15
  obtain rfl := yJ21.symm
  have t26 : T3 a_row = 83 := hF.tt t_row (by decide) nm0
  replace hF : Fr mo_X4_hold [] T N I J R T18 N19 I20 J R22 := hF.trans hFc25 (by decide) (e2x (fun h => absurd t5 h))
  have hM := hMn
  clear hMn
  obtain ⟨t27, hp15a⟩ := hp15a
  replace hp15a : I20 b1 5 = -1 ∧ I20 b1 6 = -1 := hp15a
  obtain ⟨hp15a_0, hp15a_1⟩ := hp15a
  refine lv_astore_n (i := 3) (lv' := [(3, .ref b1), (0, .ref a_use), (1, .ref a_row), (2, cv a_reads)]) B.1 B.2.1 dX4_hold_11 rfl hl (by decide) (by first | rfl | simp [cv_cat]) (fun ls hl => ?_)
  refine lv_aload_n B.1 B.2.1 dX4_hold_12 rfl (lv_at hl 0 rfl) ?_
  refine lv_aload_n B.1 B.2.1 dX4_hold_13 rfl (lv_at hl 1 rfl) ?_
  have t28 : T18 a_use = 9 := hF.tt t_use (by decide) nm0
  obtain ⟨x29, e30⟩ : ∃ v, I a_use 1 = v := ⟨_, rfl⟩
  have e31 : I20 a_use 1 = x29 := (hF.i t_use (by decide) nm0 rfl).trans e30
  have r32 : (-2147483648 : Int) ≤ x29 ∧ x29 ≤ 2147483647 := by rw [← e31]; exact g9_1 hM.2.2.2.2.2.2.1 t28
  refine c_geti (k := 1) pk_X10 B hM t28 kd9 rfl (by decide) fl_X4_179 dX4_hold_14 e31 ?_
  refine c_puti (k := 1) pk_X10 B hM t27 kd9 rfl (by decide) fl_X4_179 (Or.inl rfl) dX4_hold_17 rfl rfl rfl (show (-2147483648 : Int) ≤ x29 from by omega) (show x29 ≤ (2147483647 : Int) from by omega) (fun I33 H locs hu34 hM => ?_)
  have e35 : I33 b1 1 = x29 := w2_at hu34
  replace hF : Fr mo_X4_hold [] T N I J R T18 N19 I33 J R22 := hF.wi hu34 (fun h _ => absurd t5 h)
  refine lv_aload_n B.1 B.2.1 dX4_hold_20 rfl (lv_at hl 0 rfl) ?_
  refine lv_aload_n B.1 B.2.1 dX4_hold_21 rfl (lv_at hl 1 rfl) ?_
  obtain ⟨v36, e37⟩ : ∃ v, R a_use 2 = v := ⟨_, rfl⟩
  have e38 : R22 a_use 2 = v36 := (hF.r t_use (by decide) nm0 rfl).trans e37
  have q39 : v36 = 0 ∨ ∃ b, v36 = b + 1 ∧ T b = 75 := by rw [← e37]; exact g9_2 hC0 t_use
  refine c_getr (k := 2) pk_X10 B hM t28 kd9 rfl (by decide) fl_X4_205 dX4_hold_22 e38 ?_
  have q42 : v36 = 0 ∨ ∃ b, v36 = b + 1 ∧ T18 b = 75 := qFr hF q39 (by decide) (fun _ _ => nm0)
  refine c_putr (k := 2) (v := v36) pk_X10 B hM t27 kd9 rfl (by decide) fl_X4_205 (Or.inl rfl) dX4_hold_25 rfl rfl ⟨rfl, fun _ => rfl, rfl, fun _ => rfl⟩ (rokQ q42 rfl) (fun R40 H locs hu41 hM => ?_)
  have e43 : R40 b1 2 = v36 := w2_at hu41
  replace hF : Fr mo_X4_hold [] T N I J R T18 N19 I33 J R40 := hF.wr hu41 (fun h _ => absurd t5 h)
  refine lv_aload_n B.1 B.2.1 dX4_hold_28 rfl (lv_at hl 0 rfl) ?_
  refine lv_aload_n B.1 B.2.1 dX4_hold_29 rfl (lv_at hl 1 rfl) ?_
  obtain ⟨v44, e45⟩ : ∃ v, R a_use 3 = v := ⟨_, rfl⟩
  have e46 : R40 a_use 3 = v44 := (hF.r t_use (by decide) nm0 rfl).trans e45
  have q47 : v44 = 0 ∨ ∃ b, v44 = b + 1 ∧ T b = 76 := by rw [← e45]; exact g9_3 hC0 t_use
  refine c_getr (k := 3) pk_X10 B hM t28 kd9 rfl (by decide) fl_X4_208 dX4_hold_30 e46 ?_
  have q50 : v44 = 0 ∨ ∃ b, v44 = b + 1 ∧ T18 b = 76 := qFr hF q47 (by decide) (fun _ _ => nm0)
  refine c_putr (k := 3) (v := v44) pk_X10 B hM t27 kd9 rfl (by decide) fl_X4_208 (Or.inl rfl) dX4_hold_33 rfl rfl ⟨rfl, fun _ => rfl, rfl, fun _ => rfl⟩ (rokQ q50 rfl) (fun R48 H locs hu49 hM => ?_)
  have e51 : R48 b1 3 = v44 := w2_at hu49
  replace hF : Fr mo_X4_hold [] T N I J R T18 N19 I33 J R48 := hF.wr hu49 (fun h _ => absurd t5 h)
  refine lv_aload_n B.1 B.2.1 dX4_hold_36 rfl (lv_at hl 0 rfl) ?_
  refine c_aload_n B dX4_hold_37 rfl (lv_at hl 3 rfl) ?_
  have q54 : a_reads = 0 ∨ ∃ b, a_reads = b + 1 ∧ T18 b = 77 := qFr hF q_reads (by decide) (fun _ _ => nm0)
  refine c_putr (k := 4) (v := a_reads) pk_X10 B hM t27 kd9 rfl (by decide) fl_X4_212 (Or.inl rfl) dX4_hold_38 rfl rfl ⟨rfl, fun _ => rfl, rfl, fun _ => rfl⟩ (rokQ q54 rfl) (fun R52 H locs hu53 hM => ?_)
  have e55 : R52 b1 4 = a_reads := w2_at hu53
  replace hF : Fr mo_X4_hold [] T N I J R T18 N19 I33 J R52 := hF.wr hu53 (fun h _ => absurd t5 h)
  refine lv_aload_n B.1 B.2.1 dX4_hold_41 rfl (lv_at hl 0 rfl) ?_
  refine lv_aload_n B.1 B.2.1 dX4_hold_42 rfl (lv_at hl 2 rfl) ?_
  refine q_con B dX4_hold_43 ?_
  have t56 : T18 a_row = 83 := hF.tt t_row (by decide) nm0
  have n57 : 6 ≤ N19 a_row ∧ N19 a_row ≤ 6 := gn83 hM.2.2.2.2.2.2.1 t56
  obtain ⟨x58, e59⟩ : ∃ v, I a_row ((0 : Int).toNat) = v := ⟨_, rfl⟩
  have e60 : I33 a_row ((0 : Int).toNat) = x58 := (hF.i t_row (by decide) nm0 (by rw [cd_arr (j := 0) (by decide)]; rfl)).trans e59
  have r61 : (-2147483648 : Int) ≤ x58 ∧ x58 ≤ 2147483647 := by rw [← e60]; exact ga83 hM.2.2.2.2.2.2.1 t56 (by omega)
  refine c_ild B hM t56 kd83 an83 dX4_hold_44 (by omega) (by omega) e60 ?_
  refine q_con B dX4_hold_45 ?_
  refine c_mmax B ml_X4_215 hl.1 (by unfold inr; omega) (by unfold inr; omega) (Nat.le_of_ble_eq_true rfl) (Nat.le_of_ble_eq_true rfl) (by show 0 + 1 ≤ 1; omega) (by show 0 + 11 ≤ 11; omega) dX4_hold_46 (fun x62 ox62 lx62 ux62 => ?_)
  refine c_puti (k := 5) pk_X10 B hM t27 kd9 rfl (by decide) fl_X4_124 (Or.inl rfl) dX4_hold_49 rfl rfl rfl (show (-2147483648 : Int) ≤ x62 from by omega) (show x62 ≤ (2147483647 : Int) from by omega) (fun I63 H locs hu64 hM => ?_)
  have e65 : I63 b1 5 = x62 := w2_at hu64
  replace hF : Fr mo_X4_hold [] T N I J R T18 N19 I63 J R52 := hF.wi hu64 (fun h _ => absurd t5 h)
  refine lv_aload_n B.1 B.2.1 dX4_hold_52 rfl (lv_at hl 0 rfl) ?_
  refine lv_aload_n B.1 B.2.1 dX4_hold_53 rfl (lv_at hl 2 rfl) ?_
  refine q_con B dX4_hold_54 ?_
  obtain ⟨x66, e67⟩ : ∃ v, I a_row ((1 : Int).toNat) = v := ⟨_, rfl⟩
  have e68 : I63 a_row ((1 : Int).toNat) = x66 := (hF.i t_row (by decide) nm0 (by rw [cd_arr (j := 0) (by decide)]; rfl)).trans e67
  have r69 : (-2147483648 : Int) ≤ x66 ∧ x66 ≤ 2147483647 := by rw [← e68]; exact ga83 hM.2.2.2.2.2.2.1 t56 (by omega)
  refine c_ild B hM t56 kd83 an83 dX4_hold_55 (by omega) (by omega) e68 ?_
  refine q_con B dX4_hold_56 ?_
  refine c_mmax B ml_X4_215 hl.1 (by unfold inr; omega) (by unfold inr; omega) (Nat.le_of_ble_eq_true rfl) (Nat.le_of_ble_eq_true rfl) (by show 0 + 1 ≤ 1; omega) (by show 0 + 11 ≤ 11; omega) dX4_hold_57 (fun x70 ox70 lx70 ux70 => ?_)
  refine c_puti (k := 6) pk_X10 B hM t27 kd9 rfl (by decide) fl_X4_127 (Or.inl rfl) dX4_hold_60 rfl rfl rfl (show (-2147483648 : Int) ≤ x70 from by omega) (show x70 ≤ (2147483647 : Int) from by omega) (fun I71 H locs hu72 hM => ?_)
  have e73 : I71 b1 6 = x70 := w2_at hu72
  replace hF : Fr mo_X4_hold [] T N I J R T18 N19 I71 J R52 := hF.wi hu72 (fun h _ => absurd t5 h)
  refine lv_aload_n B.1 B.2.1 dX4_hold_63 rfl (lv_at hl 0 rfl) ?_
  refine lv_aload_n B.1 B.2.1 dX4_hold_64 rfl (lv_at hl 2 rfl) ?_
  refine q_con B dX4_hold_65 ?_
  obtain ⟨x74, e75⟩ : ∃ v, I a_row ((3 : Int).toNat) = v := ⟨_, rfl⟩
  have e76 : I71 a_row ((3 : Int).toNat) = x74 := (hF.i t_row (by decide) nm0 (by rw [cd_arr (j := 0) (by decide)]; rfl)).trans e75
  have r77 : (-2147483648 : Int) ≤ x74 ∧ x74 ≤ 2147483647 := by rw [← e76]; exact ga83 hM.2.2.2.2.2.2.1 t56 (by omega)
  refine c_ild B hM t56 kd83 an83 dX4_hold_66 (by omega) (by omega) e76 ?_
  refine c_puti (k := 8) pk_X10 B hM t27 kd9 rfl (by decide) fl_X4_134 (Or.inl rfl) dX4_hold_67 rfl rfl rfl (show (-2147483648 : Int) ≤ x74 from by omega) (show x74 ≤ (2147483647 : Int) from by omega) (fun I78 H locs hu79 hM => ?_)
  have e80 : I78 b1 8 = x74 := w2_at hu79
  replace hF : Fr mo_X4_hold [] T N I J R T18 N19 I78 J R52 := hF.wi hu79 (fun h _ => absurd t5 h)
  refine lv_aload_n B.1 B.2.1 dX4_hold_70 rfl (lv_at hl 0 rfl) ?_
  refine lv_aload_n B.1 B.2.1 dX4_hold_71 rfl (lv_at hl 2 rfl) ?_
  refine q_con B dX4_hold_72 ?_
  obtain ⟨x81, e82⟩ : ∃ v, I a_row ((4 : Int).toNat) = v := ⟨_, rfl⟩
  have e83 : I78 a_row ((4 : Int).toNat) = x81 := (hF.i t_row (by decide) nm0 (by rw [cd_arr (j := 0) (by decide)]; rfl)).trans e82
  have r84 : (-2147483648 : Int) ≤ x81 ∧ x81 ≤ 2147483647 := by rw [← e83]; exact ga83 hM.2.2.2.2.2.2.1 t56 (by omega)
  refine c_ild B hM t56 kd83 an83 dX4_hold_73 (by omega) (by omega) e83 ?_
  refine c_puti (k := 9) pk_X10 B hM t27 kd9 rfl (by decide) fl_X4_137 (Or.inl rfl) dX4_hold_74 rfl rfl rfl (show (-2147483648 : Int) ≤ x81 from by omega) (show x81 ≤ (2147483647 : Int) from by omega) (fun I85 H locs hu86 hM => ?_)
  have e87 : I85 b1 9 = x81 := w2_at hu86
  replace hF : Fr mo_X4_hold [] T N I J R T18 N19 I85 J R52 := hF.wi hu86 (fun h _ => absurd t5 h)
  refine lv_aload_n B.1 B.2.1 dX4_hold_77 rfl (lv_at hl 0 rfl) ?_
  refine lv_aload_n B.1 B.2.1 dX4_hold_78 rfl (lv_at hl 2 rfl) ?_
  refine q_con B dX4_hold_79 ?_
  obtain ⟨x88, e89⟩ : ∃ v, I a_row ((5 : Int).toNat) = v := ⟨_, rfl⟩
  have e90 : I85 a_row ((5 : Int).toNat) = x88 := (hF.i t_row (by decide) nm0 (by rw [cd_arr (j := 0) (by decide)]; rfl)).trans e89
  have r91 : (-2147483648 : Int) ≤ x88 ∧ x88 ≤ 2147483647 := by rw [← e90]; exact ga83 hM.2.2.2.2.2.2.1 t56 (by omega)
  refine c_ild B hM t56 kd83 an83 dX4_hold_80 (by omega) (by omega) e90 ?_
  refine c_puti (k := 10) pk_X10 B hM t27 kd9 rfl (by decide) fl_X4_140 (Or.inl rfl) dX4_hold_81 rfl rfl rfl (show (-2147483648 : Int) ≤ x88 from by omega) (show x88 ≤ (2147483647 : Int) from by omega) (fun I92 H locs hu93 hM => ?_)
  have e94 : I92 b1 10 = x88 := w2_at hu93
  replace hF : Fr mo_X4_hold [] T N I J R T18 N19 I92 J R52 := hF.wi hu93 (fun h _ => absurd t5 h)
  refine lv_aload_n B.1 B.2.1 dX4_hold_84 rfl (lv_at hl 0 rfl) ?_
  refine g_aret (v := b1 + 1) B (Or.inl ⟨_, rfl⟩) hM dX4_hold_85 ⟨by show 0 + 1 ≤ 1; omega, by show 0 + 11 ≤ 11; omega⟩ rfl ?_
  rw [← hPST]
  exact ⟨b1, rfl, rfl, hF, t27, by first | omega | assumption | exact trivial, by first | omega | assumption | exact trivial⟩

def mo_X4_membersOfBelow : List Nat := []
set_option maxHeartbeats 1000000 in
set_option maxRecDepth 20000 in
theorem k_X4_membersOfBelow (l : Launch) (D : va_G) (dA : Nat → ClassId) (eA : Nat) (L : List Nat) (T N : Nat → Nat) (I : Nat → Nat → Int) (J : Nat → Nat → Int64) (R : Nat → Nat → Nat) (a_this : Nat) (t_this : T a_this = 4) (a_use : Nat) (t_use : T a_use = 9) (g_k : Nat) (p_0 : R a_this 3 = g_k + 1) (p_1 : T g_k = 11) : GC l yX4_membersOfBelow cX4_membersOfBelow 5 (some (.array .int)) ({ frames := 5, cells := 1, slots := 3, locals := 128 }) D dA eA L T N I J R [.ref a_this, .ref a_use] 1 3 (gO (fun r L' T' N' I' J' R' dz dl => J' = J ∧ R' = R ∧ Fr mo_X4_membersOfBelow [] T N I J R T' N' I' J' R' ∧ (r = 0 ∨ ∃ b, r = b + 1 ∧ T' b = 77) ∧ (dz ≤ 1 ∧ dl ≤ 3))) := by
  generalize hPST : (gO (fun r L' T' N' I' J' R' dz dl => J' = J ∧ R' = R ∧ Fr mo_X4_membersOfBelow [] T N I J R T' N' I' J' R' ∧ (r = 0 ∨ ∃ b, r = b + 1 ∧ T' b = 77) ∧ (dz ≤ 1 ∧ dl ≤ 3))) = PST
  refine g_enter (own := RX4) (by decide) rfl (Nat.le_of_ble_eq_true rfl) (fun p e s m args below meth c ls hm B hX hM hl => ?_)
  have hC0 := hM.2.2.2.2.2.2.1
  have hW0 := hM.2.2.2
  have hF : Fr mo_X4_membersOfBelow [] T N I J R T N I J R := Fr.rf
  have hA : ∀ q, s.heap.size ≤ q → cF dA L T N I J R s.heap.size q := fun q h => Or.inr h
  have hl : lv_has ls 5 [(0, .ref a_this), (1, .ref a_use)] := hl
  refine lv_aload_n B.1 B.2.1 dX4_membersOfBelow_0 rfl (lv_at hl 0 rfl) ?_
  refine c_getn (k := 3) pk_X4 B hM t_this kd4 rfl (by decide) fl_X4_52 dX4_membersOfBelow_1 p_0 ?_
  refine lv_aload_n B.1 B.2.1 dX4_membersOfBelow_4 rfl (lv_at hl 1 rfl) ?_
  refine q_con B dX4_membersOfBelow_5 ?_
  refine p_calll (c_runV (n := 1) (as := [.int (II 0)]) (rest := [.ref g_k]) B hX hA hM hl.1 t_use kd9 rfl (k_X10_name l D dA eA L T N I J R a_use t_use (0) (by first | omega | assumption | exact trivial) _ _) ml_X4_185 nm_X10_name ⟨rfl, rfl⟩ ⟨Nat.le_of_ble_eq_true rfl, Nat.le_of_ble_eq_true rfl⟩ dX4_membersOfBelow_6 rfl rfl (Nat.le_of_ble_eq_true rfl) ⟨by show 0 + 0 ≤ 1; omega, by show 0 + 0 ≤ 3; omega⟩) (fun w2 hp1 => ?_)
  have hp1a := hp1
  clear hp1a
  refine q_con B dX4_membersOfBelow_9 ?_
  refine p_calli (c_runV (n := 2) (as := [.long w2, .int (II 1)]) (rest := []) B hX hA hM hl.1 p_1 kd11 rfl (k_X3_findTyped l D dA eA L T N I J R g_k p_1 w2 (1) (by first | omega | assumption | exact trivial) _ _) ml_X4_189 nm_X3_findTyped ⟨rfl, rfl⟩ ⟨Nat.le_of_ble_eq_true rfl, Nat.le_of_ble_eq_true rfl⟩ dX4_membersOfBelow_10 rfl rfl (Nat.le_of_ble_eq_true rfl) ⟨by show 0 + 0 ≤ 1; omega, by show 0 + 0 ≤ 3; omega⟩) (fun x4 ix4 hp3 => ?_)
  have hp3a := hp3
  replace hp3a : x4 = -1 ∨ (0 ≤ x4 ∧ x4 < I (R g_k 3 - 1) 2) := hp3a
  obtain ⟨b5, e6, t7⟩ := g11_3 hC0 p_1
  have pq8 : I (R g_k 3 - 1) 2 = I b5 2 := by rw [e6, Nat.add_sub_cancel]
  obtain ⟨x9, e10⟩ : ∃ v, I b5 2 = v := ⟨_, rfl⟩
  refine lv_istore_n (lv' := [(2, .int (II x4)), (0, .ref a_this), (1, .ref a_use)]) B.1 B.2.1 dX4_membersOfBelow_13 rfl hl (by decide) rfl (fun ls hl => ?_)
  refine lv_aload_n B.1 B.2.1 dX4_membersOfBelow_14 rfl (lv_at hl 1 rfl) ?_
  refine c_getn (k := 3) pk_X4 B hM t_this kd4 rfl (by decide) fl_X4_52 dX4_membersOfBelow_15 p_0 ?_
  refine lv_aload_n B.1 B.2.1 dX4_membersOfBelow_18 rfl (lv_at hl 2 rfl) ?_
  refine q_con B dX4_membersOfBelow_19 ?_
  refine p_calll (c_runV (n := 1) (as := [.int (II 1)]) (rest := [.ref g_k]) B hX hA hM hl.1 t_use kd9 rfl (k_X10_name l D dA eA L T N I J R a_use t_use (1) (by first | omega | assumption | exact trivial) _ _) ml_X4_185 nm_X10_name ⟨rfl, rfl⟩ ⟨Nat.le_of_ble_eq_true rfl, Nat.le_of_ble_eq_true rfl⟩ dX4_membersOfBelow_20 rfl rfl (Nat.le_of_ble_eq_true rfl) ⟨by show 0 + 0 ≤ 1; omega, by show 0 + 0 ≤ 3; omega⟩) (fun w12 hp11 => ?_)
  have hp11a := hp11
  clear hp11a
  refine q_con B dX4_membersOfBelow_23 ?_
  refine p_calli (c_runV (n := 2) (as := [.long w12, .int (II 1)]) (rest := []) B hX hA hM hl.1 p_1 kd11 rfl (k_X3_findTyped l D dA eA L T N I J R g_k p_1 w12 (1) (by first | omega | assumption | exact trivial) _ _) ml_X4_189 nm_X3_findTyped ⟨rfl, rfl⟩ ⟨Nat.le_of_ble_eq_true rfl, Nat.le_of_ble_eq_true rfl⟩ dX4_membersOfBelow_24 rfl rfl (Nat.le_of_ble_eq_true rfl) ⟨by show 0 + 0 ≤ 1; omega, by show 0 + 0 ≤ 3; omega⟩) (fun x14 ix14 hp13 => ?_)
  have hp13a := hp13
  replace hp13a : x14 = -1 ∨ (0 ≤ x14 ∧ x14 < I (R g_k 3 - 1) 2) := hp13a
  refine lv_istore_n (lv' := [(3, .int (II x14)), (2, .int (II x4)), (0, .ref a_this), (1, .ref a_use)]) B.1 B.2.1 dX4_membersOfBelow_27 rfl hl (by decide) rfl (fun ls hl => ?_)
  refine lv_aload_n B.1 B.2.1 dX4_membersOfBelow_28 rfl (lv_at hl 3 rfl) ?_
  obtain ⟨x15, e16⟩ : ∃ v, I a_use 1 = v := ⟨_, rfl⟩
  have r17 : (-2147483648 : Int) ≤ x15 ∧ x15 ≤ 2147483647 := by rw [← e16]; exact g9_1 hM.2.2.2.2.2.2.1 t_use
  refine c_geti (k := 1) pk_X10 B hM t_use kd9 rfl (by decide) fl_X4_179 dX4_membersOfBelow_29 e16 ?_
  refine q_con B dX4_membersOfBelow_32 ?_
  have JJ46 : ∀  (H : Heap) (locs : List Loc) (ls : Array Slot), (CWd D dA eA (cF dA L T N I J R s.heap.size) s.heap L T N I J R H locs) → lv_has ls 5 [(3, .int (II x14)), (2, .int (II x4)), (0, .ref a_this), (1, .ref a_use)] → W p l e ({ frames := 5, cells := 1, slots := 3, locals := 128 }) s m args below meth c H locs 0 0 (MQ below (gQ D dA eA (cF dA L T N I J R s.heap.size) s.heap.size (hs s.heap) PST) args s 1 3 (cF dA L T N I J R s.heap.size)) (F0 m 46 ls []) := by
    intro  H locs ls hM hl 
    refine lv_null B.1 B.2.1 dX4_membersOfBelow_46 ?_
    refine g_aret (v := 0) B (Or.inr ⟨_, rfl⟩) hM dX4_membersOfBelow_47 ⟨by show 0 ≤ 1; omega, by show 0 ≤ 3; omega⟩ rfl ?_
    rw [← hPST]
    exact ⟨0, rfl, rfl, rfl, hF, Or.inl rfl, by first | omega | assumption | exact trivial, by first | omega | assumption | exact trivial⟩
  refine q_cne (tgt := 46) B dX4_membersOfBelow_33 (by decide) (by unfold inr; omega) (by unfold inr; omega) (fun c18 => ?_) (fun c18 => ?_)
  · exact JJ46  _ _ ls hM (lv_sub hl [0, 1, 2, 3] rfl)
  · refine lv_iload_n B.1 B.2.1 dX4_membersOfBelow_36 rfl (lv_at hl 1 rfl) ?_
    refine q_con B dX4_membersOfBelow_37 ?_
    refine q_ceq (tgt := 46) B dX4_membersOfBelow_38 (by decide) (by unfold inr; omega) (by unfold inr; omega) (fun c19 => ?_) (fun c19 => ?_)
    · exact JJ46  _ _ ls hM (lv_sub hl [0, 1, 2, 3] rfl)
    · refine lv_iload_n B.1 B.2.1 dX4_membersOfBelow_41 rfl (lv_at hl 0 rfl) ?_
      refine q_con B dX4_membersOfBelow_42 ?_
      refine q_cne (tgt := 48) B dX4_membersOfBelow_43 (by decide) (by unfold inr; omega) (by unfold inr; omega) (fun c20 => ?_) (fun c20 => ?_)
      · refine q_con B dX4_membersOfBelow_48 ?_
        have hMo := hM
        refine c_newa (t := 77) (atype := .int) (n' := 2) B hX.out hA hM kd77 aw77 rfl rfl (fun _ => va_RA_i) acc_int hav_int (by decide) (by omega) (show 2 ≤ 2 ∧ 2 ≤ 3 from by omega) (by show 0 + 1 ≤ 1; omega) (by show 0 + 2 ≤ 3; omega) dX4_membersOfBelow_49 (fun b21 L22 T23 N24 H t25 hT26 hN27 hM => ?_)
        have t28 : T23 b21 = 77 := by rw [hT26, va_up_self]
        have n29 : N24 b21 = 2 := by rw [hN27, va_up_self]
        replace hF : Fr mo_X4_membersOfBelow [] T N I J R T23 N24 I J R := hF.new t25 hT26 hN27
        have zz30 := hMo.2.2.2.2.2.1 b21 t25
        clear hMo
        refine lv_dup B.1 B.2.1 dX4_membersOfBelow_51 rfl ?_
        refine q_con B dX4_membersOfBelow_52 ?_
        refine lv_iload_n B.1 B.2.1 dX4_membersOfBelow_53 rfl (lv_at hl 1 rfl) ?_
        refine c_ist B hM t28 kd77 aq77 dX4_membersOfBelow_54 (by omega) (by omega) (show (-2147483648 : Int) ≤ x4 from by omega) (show x4 ≤ (2147483647 : Int) from by omega) (fun I32 H locs hu31 hM => ?_)
        have e33 : I32 b21 ((0 : Int).toNat) = x4 := w2_at hu31
        replace hF : Fr mo_X4_membersOfBelow [] T N I J R T23 N24 I32 J R := hF.wi hu31 (fun h _ => absurd t25 h)
        refine lv_dup B.1 B.2.1 dX4_membersOfBelow_55 rfl ?_
        refine q_con B dX4_membersOfBelow_56 ?_
        refine lv_iload_n B.1 B.2.1 dX4_membersOfBelow_57 rfl (lv_at hl 0 rfl) ?_
        refine c_ist B hM t28 kd77 aq77 dX4_membersOfBelow_58 (by omega) (by omega) (show (-2147483648 : Int) ≤ x14 from by omega) (show x14 ≤ (2147483647 : Int) from by omega) (fun I35 H locs hu34 hM => ?_)
        have e36 : I35 b21 ((1 : Int).toNat) = x14 := w2_at hu34
        replace hF : Fr mo_X4_membersOfBelow [] T N I J R T23 N24 I35 J R := hF.wi hu34 (fun h _ => absurd t25 h)
        refine lv_astore (lv' := [(4, .ref b21), (3, .int (II x14)), (2, .int (II x4)), (0, .ref a_this), (1, .ref a_use)]) B.1 B.2.1 dX4_membersOfBelow_59 hl (by decide) rfl (fun ls hl => ?_)
        refine lv_aload B.1 B.2.1 dX4_membersOfBelow_61 (lv_at hl 0 rfl) ?_
        refine g_aret (v := b21 + 1) B (Or.inr ⟨_, rfl⟩) hM dX4_membersOfBelow_63 ⟨by show 0 + 1 ≤ 1; omega, by show 0 + 2 ≤ 3; omega⟩ rfl ?_
        rw [← hPST]
        exact ⟨b21 + 1, rfl, rfl, rfl, hF, Or.inr ⟨_, rfl, t28⟩, by first | omega | assumption | exact trivial, by first | omega | assumption | exact trivial⟩
      · exact JJ46  _ _ ls hM (lv_sub hl [0, 1, 2, 3] rfl)

def mo_X4_membersOfTotal : List Nat := []
set_option maxHeartbeats 1000000 in
set_option maxRecDepth 20000 in
theorem k_X4_membersOfTotal (l : Launch) (D : va_G) (dA : Nat → ClassId) (eA : Nat) (L : List Nat) (T N : Nat → Nat) (I : Nat → Nat → Int) (J : Nat → Nat → Int64) (R : Nat → Nat → Nat) (a_this : Nat) (t_this : T a_this = 4) (a_use : Nat) (t_use : T a_use = 9) (g_k : Nat) (g_bk : Nat) (p_0 : R a_this 3 = g_k + 1) (p_1 : T g_k = 11) (p_2 : R a_this 2 = g_bk + 1) (p_3 : T g_bk = 6) : GC l yX4_membersOfTotal cX4_membersOfTotal 7 (some (.array .int)) ({ frames := 5, cells := 1, slots := 3, locals := 128 }) D dA eA L T N I J R [.ref a_this, .ref a_use] 1 3 (gO (fun r L' T' N' I' J' R' dz dl => J' = J ∧ R' = R ∧ Fr mo_X4_membersOfTotal [] T N I J R T' N' I' J' R' ∧ (r = 0 ∨ ∃ b, r = b + 1 ∧ T' b = 77) ∧ (dz ≤ 1 ∧ dl ≤ 3))) := by
  generalize hPST : (gO (fun r L' T' N' I' J' R' dz dl => J' = J ∧ R' = R ∧ Fr mo_X4_membersOfTotal [] T N I J R T' N' I' J' R' ∧ (r = 0 ∨ ∃ b, r = b + 1 ∧ T' b = 77) ∧ (dz ≤ 1 ∧ dl ≤ 3))) = PST
  refine g_enter (own := RX4) (by decide) rfl (Nat.le_of_ble_eq_true rfl) (fun p e s m args below meth c ls hm B hX hM hl => ?_)
  have hC0 := hM.2.2.2.2.2.2.1
  have hW0 := hM.2.2.2
  have hF : Fr mo_X4_membersOfTotal [] T N I J R T N I J R := Fr.rf
  have hA : ∀ q, s.heap.size ≤ q → cF dA L T N I J R s.heap.size q := fun q h => Or.inr h
  have hl : lv_has ls 7 [(0, .ref a_this), (1, .ref a_use)] := hl
  refine lv_aload_n B.1 B.2.1 dX4_membersOfTotal_0 rfl (lv_at hl 0 rfl) ?_
  refine c_getn (k := 3) pk_X4 B hM t_this kd4 rfl (by decide) fl_X4_52 dX4_membersOfTotal_1 p_0 ?_
  refine lv_aload_n B.1 B.2.1 dX4_membersOfTotal_4 rfl (lv_at hl 1 rfl) ?_
  refine q_con B dX4_membersOfTotal_5 ?_
  refine p_calll (c_runV (n := 1) (as := [.int (II 0)]) (rest := [.ref g_k]) B hX hA hM hl.1 t_use kd9 rfl (k_X10_name l D dA eA L T N I J R a_use t_use (0) (by first | omega | assumption | exact trivial) _ _) ml_X4_185 nm_X10_name ⟨rfl, rfl⟩ ⟨Nat.le_of_ble_eq_true rfl, Nat.le_of_ble_eq_true rfl⟩ dX4_membersOfTotal_6 rfl rfl (Nat.le_of_ble_eq_true rfl) ⟨by show 0 + 0 ≤ 1; omega, by show 0 + 0 ≤ 3; omega⟩) (fun w2 hp1 => ?_)
  have hp1a := hp1
  clear hp1a
  refine q_con B dX4_membersOfTotal_9 ?_
  refine p_calli (c_runV (n := 2) (as := [.long w2, .int (II 4)]) (rest := []) B hX hA hM hl.1 p_1 kd11 rfl (k_X3_findTyped l D dA eA L T N I J R g_k p_1 w2 (4) (by first | omega | assumption | exact trivial) _ _) ml_X4_189 nm_X3_findTyped ⟨rfl, rfl⟩ ⟨Nat.le_of_ble_eq_true rfl, Nat.le_of_ble_eq_true rfl⟩ dX4_membersOfTotal_10 rfl rfl (Nat.le_of_ble_eq_true rfl) ⟨by show 0 + 0 ≤ 1; omega, by show 0 + 0 ≤ 3; omega⟩) (fun x4 ix4 hp3 => ?_)
  have hp3a := hp3
  replace hp3a : x4 = -1 ∨ (0 ≤ x4 ∧ x4 < I (R g_k 3 - 1) 2) := hp3a
  obtain ⟨b5, e6, t7⟩ := g11_3 hC0 p_1
  have pq8 : I (R g_k 3 - 1) 2 = I b5 2 := by rw [e6, Nat.add_sub_cancel]
  obtain ⟨x9, e10⟩ : ∃ v, I b5 2 = v := ⟨_, rfl⟩
  refine lv_istore_n (lv' := [(2, .int (II x4)), (0, .ref a_this), (1, .ref a_use)]) B.1 B.2.1 dX4_membersOfTotal_13 rfl hl (by decide) rfl (fun ls hl => ?_)
  refine lv_aload_n B.1 B.2.1 dX4_membersOfTotal_14 rfl (lv_at hl 1 rfl) ?_
  refine c_getn (k := 3) pk_X4 B hM t_this kd4 rfl (by decide) fl_X4_52 dX4_membersOfTotal_15 p_0 ?_
  refine lv_aload_n B.1 B.2.1 dX4_membersOfTotal_18 rfl (lv_at hl 2 rfl) ?_
  refine q_con B dX4_membersOfTotal_19 ?_
  refine p_calll (c_runV (n := 1) (as := [.int (II 2)]) (rest := [.ref g_k]) B hX hA hM hl.1 t_use kd9 rfl (k_X10_name l D dA eA L T N I J R a_use t_use (2) (by first | omega | assumption | exact trivial) _ _) ml_X4_185 nm_X10_name ⟨rfl, rfl⟩ ⟨Nat.le_of_ble_eq_true rfl, Nat.le_of_ble_eq_true rfl⟩ dX4_membersOfTotal_20 rfl rfl (Nat.le_of_ble_eq_true rfl) ⟨by show 0 + 0 ≤ 1; omega, by show 0 + 0 ≤ 3; omega⟩) (fun w12 hp11 => ?_)
  have hp11a := hp11
  clear hp11a
  refine q_con B dX4_membersOfTotal_23 ?_
  refine p_calli (c_runV (n := 2) (as := [.long w12, .int (II 1)]) (rest := []) B hX hA hM hl.1 p_1 kd11 rfl (k_X3_findTyped l D dA eA L T N I J R g_k p_1 w12 (1) (by first | omega | assumption | exact trivial) _ _) ml_X4_189 nm_X3_findTyped ⟨rfl, rfl⟩ ⟨Nat.le_of_ble_eq_true rfl, Nat.le_of_ble_eq_true rfl⟩ dX4_membersOfTotal_24 rfl rfl (Nat.le_of_ble_eq_true rfl) ⟨by show 0 + 0 ≤ 1; omega, by show 0 + 0 ≤ 3; omega⟩) (fun x14 ix14 hp13 => ?_)
  have hp13a := hp13
  replace hp13a : x14 = -1 ∨ (0 ≤ x14 ∧ x14 < I (R g_k 3 - 1) 2) := hp13a
  refine lv_istore_n (lv' := [(3, .int (II x14)), (2, .int (II x4)), (0, .ref a_this), (1, .ref a_use)]) B.1 B.2.1 dX4_membersOfTotal_27 rfl hl (by decide) rfl (fun ls hl => ?_)
  refine lv_aload_n B.1 B.2.1 dX4_membersOfTotal_28 rfl (lv_at hl 3 rfl) ?_
  obtain ⟨x15, e16⟩ : ∃ v, I a_use 1 = v := ⟨_, rfl⟩
  have r17 : (-2147483648 : Int) ≤ x15 ∧ x15 ≤ 2147483647 := by rw [← e16]; exact g9_1 hM.2.2.2.2.2.2.1 t_use
  refine c_geti (k := 1) pk_X10 B hM t_use kd9 rfl (by decide) fl_X4_179 dX4_membersOfTotal_29 e16 ?_
  refine q_con B dX4_membersOfTotal_32 ?_
  have JJ46 : ∀  (H : Heap) (locs : List Loc) (ls : Array Slot), (CWd D dA eA (cF dA L T N I J R s.heap.size) s.heap L T N I J R H locs) → lv_has ls 7 [(3, .int (II x14)), (2, .int (II x4)), (0, .ref a_this), (1, .ref a_use)] → W p l e ({ frames := 5, cells := 1, slots := 3, locals := 128 }) s m args below meth c H locs 0 0 (MQ below (gQ D dA eA (cF dA L T N I J R s.heap.size) s.heap.size (hs s.heap) PST) args s 1 3 (cF dA L T N I J R s.heap.size)) (F0 m 46 ls []) := by
    intro  H locs ls hM hl 
    refine lv_null B.1 B.2.1 dX4_membersOfTotal_46 ?_
    refine g_aret (v := 0) B (Or.inr ⟨_, rfl⟩) hM dX4_membersOfTotal_47 ⟨by show 0 ≤ 1; omega, by show 0 ≤ 3; omega⟩ rfl ?_
    rw [← hPST]
    exact ⟨0, rfl, rfl, rfl, hF, Or.inl rfl, by first | omega | assumption | exact trivial, by first | omega | assumption | exact trivial⟩
  refine q_cne (tgt := 46) B dX4_membersOfTotal_33 (by decide) (by unfold inr; omega) (by unfold inr; omega) (fun c18 => ?_) (fun c18 => ?_)
  · exact JJ46  _ _ ls hM (lv_sub hl [0, 1, 2, 3] rfl)
  · refine lv_iload_n B.1 B.2.1 dX4_membersOfTotal_36 rfl (lv_at hl 1 rfl) ?_
    refine q_con B dX4_membersOfTotal_37 ?_
    refine q_ceq (tgt := 46) B dX4_membersOfTotal_38 (by decide) (by unfold inr; omega) (by unfold inr; omega) (fun c19 => ?_) (fun c19 => ?_)
    · exact JJ46  _ _ ls hM (lv_sub hl [0, 1, 2, 3] rfl)
    · refine lv_iload_n B.1 B.2.1 dX4_membersOfTotal_41 rfl (lv_at hl 0 rfl) ?_
      refine q_con B dX4_membersOfTotal_42 ?_
      refine q_cne (tgt := 48) B dX4_membersOfTotal_43 (by decide) (by unfold inr; omega) (by unfold inr; omega) (fun c20 => ?_) (fun c20 => ?_)
      · refine lv_aload_n B.1 B.2.1 dX4_membersOfTotal_48 rfl (lv_at hl 2 rfl) ?_
        refine c_getn (k := 2) pk_X4 B hM t_this kd4 rfl (by decide) fl_X4_23 dX4_membersOfTotal_49 p_2 ?_
        refine lv_aload_n B.1 B.2.1 dX4_membersOfTotal_52 rfl (lv_at hl 2 rfl) ?_
        refine c_getn (k := 3) pk_X4 B hM t_this kd4 rfl (by decide) fl_X4_52 dX4_membersOfTotal_53 p_0 ?_
        refine c_getn (k := 3) pk_X3 B hM p_1 kd11 rfl (by decide) fl_X4_79 dX4_membersOfTotal_56 e6 ?_
        refine lv_iload_n B.1 B.2.1 dX4_membersOfTotal_59 rfl (lv_at hl 1 rfl) ?_
        have hv21 : ((-2147483648 : Int) ≤ x4 ∧ (x4 : Int) ≤ 2147483647) ∧ (15 ≤ 19) ∧ (19 ≤ 23) ∧ (0 ≤ x4) ∧ (x4 < I b5 2) := by first | omega | exact ⟨by first | omega | assumption | exact trivial, by first | omega | assumption | exact trivial, by first | omega | assumption | exact trivial, by first | omega | assumption | exact trivial, by first | omega | assumption | exact trivial⟩
        refine p_callr (c_runV (n := 1) (as := [.int (II x4)]) (rest := [.ref g_bk]) B hX hA hM hl.1 t7 kd19 rfl (k_Jx4a65c_get_915e3 l D dA eA L T N I J R b5 t7 x4 hv21.1 hv21.2.1 hv21.2.2.1 hv21.2.2.2.1 hv21.2.2.2.2 _ _) ml_X4_46 nm_Jx4a65c_get_915e3 ⟨rfl, rfl⟩ ⟨Nat.le_of_ble_eq_true rfl, Nat.le_of_ble_eq_true rfl⟩ dX4_membersOfTotal_60 rfl rfl (Nat.le_of_ble_eq_true rfl) ⟨by show 0 + 0 ≤ 1; omega, by show 0 + 0 ≤ 3; omega⟩) (fun b23 hp22 => ?_)
        obtain ⟨tb23, hp22a⟩ := hp22
        replace hp22a : R (R b5 1 - 1) x4.toNat = b23 + 1 := hp22a
        refine c_cast B hM tb23 kd10 rfl cl_X4_68 dX4_membersOfTotal_63 ?_
        obtain ⟨x24, e25⟩ : ∃ v, I b23 2 = v := ⟨_, rfl⟩
        have r26 : (-2147483648 : Int) ≤ x24 ∧ x24 ≤ 2147483647 := by rw [← e25]; exact g10_2 hM.2.2.2.2.2.2.1 tb23
        refine c_geti (k := 2) pk_X8 B hM tb23 kd10 rfl (by decide) fl_X4_193 dX4_membersOfTotal_66 e25 ?_
        refine p_callq (c_runV (n := 1) (as := [.int (II x24)]) (rest := []) B hX hA hM hl.1 p_3 kd6 rfl (k_X0_kindAt l D dA eA L T N I J R g_bk p_3 x24 (by first | omega | assumption | exact trivial) _ _) ml_X4_195 nm_X0_kindAt ⟨rfl, rfl⟩ ⟨Nat.le_of_ble_eq_true rfl, Nat.le_of_ble_eq_true rfl⟩ dX4_membersOfTotal_69 rfl rfl (Nat.le_of_ble_eq_true rfl) ⟨by show 0 + 0 ≤ 1; omega, by show 0 + 0 ≤ 3; omega⟩) (fun v28 hp27 => ?_)
        obtain ⟨qv28, hp27a⟩ := hp27
        replace hp27a : v28 = 0 ∨ (0 ≤ x24 ∧ I (v28 - 1) 0 ≤ x24) := hp27a
        refine c_astore (lv' := [(4, cv v28), (3, .int (II x14)), (2, .int (II x4)), (0, .ref a_this), (1, .ref a_use)]) B dX4_membersOfTotal_72 hl (by decide) (by first | rfl | simp [cv_cat]) (fun ls hl => ?_)
        refine c_aload B dX4_membersOfTotal_74 (lv_at hl 0 rfl) ?_
        have JJ94 : ∀ (s94_0 : Int) (H : Heap) (locs : List Loc) (ls : Array Slot), (CWd D dA eA (cF dA L T N I J R s.heap.size) s.heap L T N I J R H locs) → lv_has ls 7 [(3, .int (II x14)), (2, .int (II x4)), (0, .ref a_this), (1, .ref a_use)] → ((-2147483648 : Int) ≤ s94_0 ∧ s94_0 ≤ 2147483647) → W p l e ({ frames := 5, cells := 1, slots := 3, locals := 128 }) s m args below meth c H locs 0 0 (MQ below (gQ D dA eA (cF dA L T N I J R s.heap.size) s.heap.size (hs s.heap) PST) args s 1 3 (cF dA L T N I J R s.heap.size)) (F0 m 94 ls [.int (II s94_0)]) := by
          intro s94_0 H locs ls hM hl hJJ94_0
          refine lv_istore (lv' := [(5, .int (II s94_0)), (3, .int (II x14)), (2, .int (II x4)), (0, .ref a_this), (1, .ref a_use)]) B.1 B.2.1 dX4_membersOfTotal_94 hl (by decide) rfl (fun ls hl => ?_)
          refine lv_iload B.1 B.2.1 dX4_membersOfTotal_96 (lv_at hl 0 rfl) ?_
          refine q_con B dX4_membersOfTotal_98 ?_
          refine q_cne (tgt := 104) B dX4_membersOfTotal_99 (by decide) (by unfold inr; omega) (by unfold inr; omega) (fun c29 => ?_) (fun c29 => ?_)
          · refine q_con B dX4_membersOfTotal_104 ?_
            have hMo := hM
            refine c_newa (t := 77) (atype := .int) (n' := 3) B hX.out hA hM kd77 aw77 rfl rfl (fun _ => va_RA_i) acc_int hav_int (by decide) (by omega) (show 2 ≤ 3 ∧ 3 ≤ 3 from by omega) (by show 0 + 1 ≤ 1; omega) (by show 0 + 3 ≤ 3; omega) dX4_membersOfTotal_105 (fun b30 L31 T32 N33 H t34 hT35 hN36 hM => ?_)
            have t37 : T32 b30 = 77 := by rw [hT35, va_up_self]
            have n38 : N33 b30 = 3 := by rw [hN36, va_up_self]
            replace hF : Fr mo_X4_membersOfTotal [] T N I J R T32 N33 I J R := hF.new t34 hT35 hN36
            have zz39 := hMo.2.2.2.2.2.1 b30 t34
            clear hMo
            refine lv_dup B.1 B.2.1 dX4_membersOfTotal_107 rfl ?_
            refine q_con B dX4_membersOfTotal_108 ?_
            refine lv_iload_n B.1 B.2.1 dX4_membersOfTotal_109 rfl (lv_at hl 2 rfl) ?_
            refine c_ist B hM t37 kd77 aq77 dX4_membersOfTotal_110 (by omega) (by omega) (show (-2147483648 : Int) ≤ x4 from by omega) (show x4 ≤ (2147483647 : Int) from by omega) (fun I41 H locs hu40 hM => ?_)
            have e42 : I41 b30 ((0 : Int).toNat) = x4 := w2_at hu40
            replace hF : Fr mo_X4_membersOfTotal [] T N I J R T32 N33 I41 J R := hF.wi hu40 (fun h _ => absurd t34 h)
            refine lv_dup B.1 B.2.1 dX4_membersOfTotal_111 rfl ?_
            refine q_con B dX4_membersOfTotal_112 ?_
            refine lv_iload B.1 B.2.1 dX4_membersOfTotal_113 (lv_at hl 0 rfl) ?_
            refine c_ist B hM t37 kd77 aq77 dX4_membersOfTotal_115 (by omega) (by omega) (show (-2147483648 : Int) ≤ s94_0 from by omega) (show s94_0 ≤ (2147483647 : Int) from by omega) (fun I44 H locs hu43 hM => ?_)
            have e45 : I44 b30 ((1 : Int).toNat) = s94_0 := w2_at hu43
            replace hF : Fr mo_X4_membersOfTotal [] T N I J R T32 N33 I44 J R := hF.wi hu43 (fun h _ => absurd t34 h)
            refine lv_dup B.1 B.2.1 dX4_membersOfTotal_116 rfl ?_
            refine q_con B dX4_membersOfTotal_117 ?_
            refine lv_iload_n B.1 B.2.1 dX4_membersOfTotal_118 rfl (lv_at hl 1 rfl) ?_
            refine c_ist B hM t37 kd77 aq77 dX4_membersOfTotal_119 (by omega) (by omega) (show (-2147483648 : Int) ≤ x14 from by omega) (show x14 ≤ (2147483647 : Int) from by omega) (fun I47 H locs hu46 hM => ?_)
            have e48 : I47 b30 ((2 : Int).toNat) = x14 := w2_at hu46
            replace hF : Fr mo_X4_membersOfTotal [] T N I J R T32 N33 I47 J R := hF.wi hu46 (fun h _ => absurd t34 h)
            refine lv_astore (lv' := [(6, .ref b30), (5, .int (II s94_0)), (3, .int (II x14)), (2, .int (II x4)), (0, .ref a_this), (1, .ref a_use)]) B.1 B.2.1 dX4_membersOfTotal_120 hl (by decide) rfl (fun ls hl => ?_)
            refine lv_aload B.1 B.2.1 dX4_membersOfTotal_122 (lv_at hl 0 rfl) ?_
            refine g_aret (v := b30 + 1) B (Or.inr ⟨_, rfl⟩) hM dX4_membersOfTotal_124 ⟨by show 0 + 1 ≤ 1; omega, by show 0 + 3 ≤ 3; omega⟩ rfl ?_
            rw [← hPST]
            exact ⟨b30 + 1, rfl, rfl, rfl, hF, Or.inr ⟨_, rfl, t37⟩, by first | omega | assumption | exact trivial, by first | omega | assumption | exact trivial⟩
          · refine lv_null B.1 B.2.1 dX4_membersOfTotal_102 ?_
            refine g_aret (v := 0) B (Or.inr ⟨_, rfl⟩) hM dX4_membersOfTotal_103 ⟨by show 0 ≤ 1; omega, by show 0 ≤ 3; omega⟩ rfl ?_
            rw [← hPST]
            exact ⟨0, rfl, rfl, rfl, hF, Or.inl rfl, by first | omega | assumption | exact trivial, by first | omega | assumption | exact trivial⟩
        rcases qv28 with rfl | ⟨b49, rfl, t50⟩
        · have hl : lv_has ls 7 [(4, .null), (3, .int (II x14)), (2, .int (II x4)), (0, .ref a_this), (1, .ref a_use)] := hl
          refine lv_ifnonnullN B.1 B.2.1 dX4_membersOfTotal_76 ?_
          refine q_con B dX4_membersOfTotal_79 ?_
          refine lv_goto (tgt := 94) B.1 B.2.1 dX4_membersOfTotal_80 (by decide) ?_
          exact JJ94 (-1) _ _ ls hM (lv_sub hl [1, 2, 3, 4] rfl) (by first | omega | assumption | exact trivial)
        · have hl : lv_has ls 7 [(4, .ref b49), (3, .int (II x14)), (2, .int (II x4)), (0, .ref a_this), (1, .ref a_use)] := hl
          refine lv_ifnonnull (tgt := 83) B.1 B.2.1 dX4_membersOfTotal_76 (by decide) ?_
          refine lv_aload B.1 B.2.1 dX4_membersOfTotal_83 (lv_at hl 0 rfl) ?_
          refine lv_aload_n B.1 B.2.1 dX4_membersOfTotal_85 rfl (lv_at hl 4 rfl) ?_
          refine q_con B dX4_membersOfTotal_86 ?_
          refine p_calll (c_runV (n := 1) (as := [.int (II 1)]) (rest := [.ref b49]) B hX hA hM hl.1 t_use kd9 rfl (k_X10_name l D dA eA L T N I J R a_use t_use (1) (by first | omega | assumption | exact trivial) _ _) ml_X4_185 nm_X10_name ⟨rfl, rfl⟩ ⟨Nat.le_of_ble_eq_true rfl, Nat.le_of_ble_eq_true rfl⟩ dX4_membersOfTotal_87 rfl rfl (Nat.le_of_ble_eq_true rfl) ⟨by show 0 + 0 ≤ 1; omega, by show 0 + 0 ≤ 3; omega⟩) (fun w52 hp51 => ?_)
          have hp51a := hp51
          clear hp51a
          refine q_con B dX4_membersOfTotal_90 ?_
          refine p_calli (c_runV (n := 2) (as := [.long w52, .int (II 1)]) (rest := []) B hX hA hM hl.1 t50 kd11 rfl (k_X3_findTyped l D dA eA L T N I J R b49 t50 w52 (1) (by first | omega | assumption | exact trivial) _ _) ml_X4_189 nm_X3_findTyped ⟨rfl, rfl⟩ ⟨Nat.le_of_ble_eq_true rfl, Nat.le_of_ble_eq_true rfl⟩ dX4_membersOfTotal_91 rfl rfl (Nat.le_of_ble_eq_true rfl) ⟨by show 0 + 0 ≤ 1; omega, by show 0 + 0 ≤ 3; omega⟩) (fun x54 ix54 hp53 => ?_)
          have hp53a := hp53
          replace hp53a : x54 = -1 ∨ (0 ≤ x54 ∧ x54 < I (R b49 3 - 1) 2) := hp53a
          obtain ⟨b55, e56, t57⟩ := g11_3 hM.2.2.2.2.2.2.1 t50
          have pq58 : I (R b49 3 - 1) 2 = I b55 2 := by rw [e56, Nat.add_sub_cancel]
          obtain ⟨x59, e60⟩ : ∃ v, I b55 2 = v := ⟨_, rfl⟩
          exact JJ94 x54 _ _ ls hM (lv_sub hl [1, 2, 3, 4] rfl) (by first | omega | assumption | exact trivial)
      · exact JJ46  _ _ ls hM (lv_sub hl [0, 1, 2, 3] rfl)

def mo_X4_findReach : List Nat := [2592]
set_option maxHeartbeats 1000000 in
set_option maxRecDepth 20000 in
theorem k_X4_findReach (l : Launch) (D : va_G) (dA : Nat → ClassId) (eA : Nat) (L : List Nat) (T N : Nat → Nat) (I : Nat → Nat → Int) (J : Nat → Nat → Int64) (R : Nat → Nat → Nat) (a_this : Nat) (t_this : T a_this = 4) (g_bk : Nat) (p_0 : R a_this 2 = g_bk + 1) (p_1 : T g_bk = 6) : GC l yX4_findReach cX4_findReach 4 none ({ frames := 4, cells := 0, slots := 0, locals := 104 }) D dA eA L T N I J R [.ref a_this] 0 0 (gV (fun L' T' N' I' J' R' dz dl => L' = L ∧ T' = T ∧ N' = N ∧ J' = J ∧ R' = R ∧ Fr mo_X4_findReach [] T N I J R T' N' I' J' R' ∧ (True))) := by
  generalize hPST : (gV (fun L' T' N' I' J' R' dz dl => L' = L ∧ T' = T ∧ N' = N ∧ J' = J ∧ R' = R ∧ Fr mo_X4_findReach [] T N I J R T' N' I' J' R' ∧ (True))) = PST
  refine g_enter (own := RX4) (by decide) rfl (Nat.le_of_ble_eq_true rfl) (fun p e s m args below meth c ls hm B hX hM hl => ?_)
  have hC0 := hM.2.2.2.2.2.2.1
  have hW0 := hM.2.2.2
  have hF : Fr mo_X4_findReach [] T N I J R T N I J R := Fr.rf
  have hA : ∀ q, s.heap.size ≤ q → cF dA L T N I J R s.heap.size q := fun q h => Or.inr h
  have hl : lv_has ls 4 [(0, .ref a_this)] := hl
  refine lv_aload_n B.1 B.2.1 dX4_findReach_0 rfl (lv_at hl 0 rfl) ?_
  refine c_getn (k := 2) pk_X4 B hM t_this kd4 rfl (by decide) fl_X4_23 dX4_findReach_1 p_0 ?_
  obtain ⟨b1, e2, t3⟩ := g6_2 hC0 p_1
  refine c_getn (k := 2) pk_X0 B hM p_1 kd6 rfl (by decide) fl_X4_82 dX4_findReach_4 e2 ?_
  have hv4 : (15 ≤ 17) ∧ (17 ≤ 23) := by first | omega | exact ⟨by first | omega | assumption | exact trivial, by first | omega | assumption | exact trivial⟩
  refine p_calli (c_runV (n := 0) (as := []) (rest := []) B hX hA hM hl.1 t3 kd17 rfl (k_Jx4a65c_size_8abf5 l D dA eA L T N I J R b1 t3 hv4.1 hv4.2 _ _) ml_X4_40 nm_Jx4a65c_size_8abf5 ⟨rfl, rfl⟩ ⟨Nat.le_of_ble_eq_true rfl, Nat.le_of_ble_eq_true rfl⟩ dX4_findReach_7 rfl rfl (Nat.le_of_ble_eq_true rfl) ⟨Nat.zero_le _, Nat.zero_le _⟩) (fun x6 ix6 hp5 => ?_)
  have hp5a := hp5
  replace hp5a : I b1 2 = x6 ∧ 0 ≤ x6 ∧ x6 ≤ 16 := hp5a
  obtain ⟨hp5a_0, hp5a_1, hp5a_2⟩ := hp5a
  refine q_bip B dX4_findReach_10 (by decide) ?_
  refine c_mmin B ml_X4_85 hl.1 (by unfold inr; omega) (by unfold inr; omega) (Nat.le_of_ble_eq_true rfl) (Nat.le_of_ble_eq_true rfl) (Nat.zero_le _) (Nat.zero_le _) dX4_findReach_12 (fun x7 ox7 lx7 ux7 => ?_)
  refine lv_istore_n (lv' := [(1, .int (II x7)), (0, .ref a_this)]) B.1 B.2.1 dX4_findReach_15 rfl hl (by decide) rfl (fun ls hl => ?_)
  refine q_con B dX4_findReach_16 ?_
  refine lv_istore_n (lv' := [(2, .int (II 0)), (1, .int (II x7)), (0, .ref a_this)]) B.1 B.2.1 dX4_findReach_17 rfl hl (by decide) rfl (fun ls hl => ?_)
  have LL18 : ∀ NN : Nat, ∀ (v18_2 : Int) (I_18 : Nat → Nat → Int) (H : Heap) (locs : List Loc) (ls : Array Slot), (CWd D dA eA (cF dA L T N I J R s.heap.size) s.heap L T N I_18 J R H locs) → (Fr mo_X4_findReach [] T N I J R T N I_18 J R) → lv_has ls 4 [(1, .int (II x7)), (0, .ref a_this), (2, .int (II v18_2))] → ((-2147483648 : Int) ≤ v18_2 ∧ v18_2 ≤ 2147483647) → (0 ≤ v18_2) → (v18_2 ≤ 16) → (x7 ≤ 16) → (0 ≤ 17 - v18_2) → (17 - v18_2 < (NN : Int)) → W p l e ({ frames := 4, cells := 0, slots := 0, locals := 104 }) s m args below meth c H locs 0 0 (MQ below (gQ D dA eA (cF dA L T N I J R s.heap.size) s.heap.size (hs s.heap) PST) args s 0 0 (cF dA L T N I J R s.heap.size)) (F0 m 18 ls []) := by
    intro NN
    induction NN with
    | zero => intro v18_2 I_18 H locs ls hM hF hl hLL18_0 hLL18_1 hLL18_2 hLL18_3 hLL18_4 hN; exfalso; omega
    | succ NN IH18 =>
      intro v18_2 I_18 H locs ls hM hF hl hLL18_0 hLL18_1 hLL18_2 hLL18_3 hLL18_4 hN
      refine lv_iload_n B.1 B.2.1 dX4_findReach_18 rfl (lv_at hl 2 rfl) ?_
      refine lv_iload_n B.1 B.2.1 dX4_findReach_19 rfl (lv_at hl 0 rfl) ?_
      refine q_cge (tgt := 55) B dX4_findReach_20 (by decide) (by unfold inr; omega) (by unfold inr; omega) (fun c8 => ?_) (fun c8 => ?_)
      · refine q_con B dX4_findReach_55 ?_
        refine lv_istore_n (lv' := [(2, .int (II 0)), (1, .int (II x7)), (0, .ref a_this)]) B.1 B.2.1 dX4_findReach_56 rfl hl (by decide) rfl (fun ls hl => ?_)
        have LL57 : ∀ NN : Nat, ∀ (v57_2 : Int) (I_57 : Nat → Nat → Int) (H : Heap) (locs : List Loc) (ls : Array Slot), (CWd D dA eA (cF dA L T N I J R s.heap.size) s.heap L T N I_57 J R H locs) → (Fr mo_X4_findReach [] T N I J R T N I_57 J R) → lv_has ls 4 [(1, .int (II x7)), (0, .ref a_this), (2, .int (II v57_2))] → ((-2147483648 : Int) ≤ v57_2 ∧ v57_2 ≤ 2147483647) → (0 ≤ v57_2) → (v57_2 ≤ 16) → (x7 ≤ 16) → (0 ≤ 17 - v57_2) → (17 - v57_2 < (NN : Int)) → W p l e ({ frames := 4, cells := 0, slots := 0, locals := 104 }) s m args below meth c H locs 0 0 (MQ below (gQ D dA eA (cF dA L T N I J R s.heap.size) s.heap.size (hs s.heap) PST) args s 0 0 (cF dA L T N I J R s.heap.size)) (F0 m 57 ls []) := by
          intro NN
          induction NN with
          | zero => intro v57_2 I_57 H locs ls hM hF hl hLL57_0 hLL57_1 hLL57_2 hLL57_3 hLL57_4 hN; exfalso; omega
          | succ NN IH57 =>
            intro v57_2 I_57 H locs ls hM hF hl hLL57_0 hLL57_1 hLL57_2 hLL57_3 hLL57_4 hN
            refine lv_iload_n B.1 B.2.1 dX4_findReach_57 rfl (lv_at hl 2 rfl) ?_
            refine lv_iload_n B.1 B.2.1 dX4_findReach_58 rfl (lv_at hl 0 rfl) ?_
            refine q_cge (tgt := 109) B dX4_findReach_59 (by decide) (by unfold inr; omega) (by unfold inr; omega) (fun c9 => ?_) (fun c9 => ?_)
            · refine g_vret B hM dX4_findReach_109 ⟨Nat.le_refl _, Nat.le_refl _⟩ ?_
              rw [← hPST]
              exact ⟨rfl, rfl, rfl, rfl, rfl, rfl, hF, by first | omega | assumption | exact trivial⟩
            · refine q_con B dX4_findReach_62 ?_
              refine lv_istore_n (lv' := [(3, .int (II 0)), (1, .int (II x7)), (0, .ref a_this), (2, .int (II v57_2))]) B.1 B.2.1 dX4_findReach_63 rfl hl (by decide) rfl (fun ls hl => ?_)
              have LL64 : ∀ NN : Nat, ∀ (v64_3 : Int) (I_64 : Nat → Nat → Int) (H : Heap) (locs : List Loc) (ls : Array Slot), (CWd D dA eA (cF dA L T N I J R s.heap.size) s.heap L T N I_64 J R H locs) → (Fr mo_X4_findReach [] T N I J R T N I_64 J R) → lv_has ls 4 [(1, .int (II x7)), (0, .ref a_this), (2, .int (II v57_2)), (3, .int (II v64_3))] → ((-2147483648 : Int) ≤ v64_3 ∧ v64_3 ≤ 2147483647) → (0 ≤ v64_3) → (v64_3 ≤ 16) → (0 ≤ v57_2) → (v57_2 < 16) → (x7 ≤ 16) → (0 ≤ 17 - v64_3) → (17 - v64_3 < (NN : Int)) → W p l e ({ frames := 4, cells := 0, slots := 0, locals := 104 }) s m args below meth c H locs 0 0 (MQ below (gQ D dA eA (cF dA L T N I J R s.heap.size) s.heap.size (hs s.heap) PST) args s 0 0 (cF dA L T N I J R s.heap.size)) (F0 m 64 ls []) := by
                intro NN
                induction NN with
                | zero => intro v64_3 I_64 H locs ls hM hF hl hLL64_0 hLL64_1 hLL64_2 hLL64_3 hLL64_4 hLL64_5 hLL64_6 hN; exfalso; omega
                | succ NN IH64 =>
                  intro v64_3 I_64 H locs ls hM hF hl hLL64_0 hLL64_1 hLL64_2 hLL64_3 hLL64_4 hLL64_5 hLL64_6 hN
                  refine lv_iload_n B.1 B.2.1 dX4_findReach_64 rfl (lv_at hl 3 rfl) ?_
                  refine lv_iload_n B.1 B.2.1 dX4_findReach_65 rfl (lv_at hl 0 rfl) ?_
                  refine q_cge (tgt := 103) B dX4_findReach_66 (by decide) (by unfold inr; omega) (by unfold inr; omega) (fun c10 => ?_) (fun c10 => ?_)
                  · refine q_inc (lv' := [(2, .int (II (v57_2 + 1))), (1, .int (II x7)), (0, .ref a_this), (3, .int (II v64_3))]) B dX4_findReach_103 hl (k := 2) rfl (by decide) rfl (fun ls hl => ?_)
                    refine lv_goto (tgt := 57) B.1 B.2.1 dX4_findReach_106 (by decide) ?_
                    have hv11 : ((-2147483648 : Int) ≤ v57_2 + 1 ∧ (v57_2 + 1 : Int) ≤ 2147483647) ∧ (0 ≤ (v57_2 + 1)) ∧ ((v57_2 + 1) ≤ 16) ∧ (x7 ≤ 16) ∧ (0 ≤ 17 - (v57_2 + 1)) := by first | omega | exact ⟨by first | omega | assumption | exact trivial, by first | omega | assumption | exact trivial, by first | omega | assumption | exact trivial, by first | omega | assumption | exact trivial, by first | omega | assumption | exact trivial⟩
                    exact IH57 (v57_2 + 1) I_64 _ _ ls hM hF (lv_sub hl [1, 2, 0] rfl) hv11.1 hv11.2.1 hv11.2.2.1 hv11.2.2.2.1 hv11.2.2.2.2 (by omega)
                  · refine lv_aload_n B.1 B.2.1 dX4_findReach_69 rfl (lv_at hl 1 rfl) ?_
                    obtain ⟨b12, e13, t14⟩ := g4_7 hC0 t_this
                    refine c_getn (k := 7) pk_X4 B hM t_this kd4 rfl (by decide) fl_X4_16 dX4_findReach_70 e13 ?_
                    refine lv_iload_n B.1 B.2.1 dX4_findReach_73 rfl (lv_at hl 3 rfl) ?_
                    have n15 : 16 ≤ N b12 ∧ N b12 ≤ 16 := gn81 hM.2.2.2.2.2.2.1 t14
                    obtain ⟨x16, e17⟩ : ∃ v, I_64 b12 v64_3.toNat = v := ⟨_, rfl⟩
                    have r18 : (-2147483648 : Int) ≤ x16 ∧ x16 ≤ 2147483647 := by rw [← e17]; exact ga81 hM.2.2.2.2.2.2.1 t14 (by omega)
                    refine c_ild B hM t14 kd81 an81 dX4_findReach_74 (by omega) (by omega) e17 ?_
                    refine q_con B dX4_findReach_75 ?_
                    refine lv_iload_n B.1 B.2.1 dX4_findReach_76 rfl (lv_at hl 2 rfl) ?_
                    refine q_shl B dX4_findReach_77 (fun x19 ix19 => ?_)
                    unfold inr at ix19
                    refine q_and B dX4_findReach_78 (fun x20 ix20 ex20 => ?_)
                    unfold inr at ix20
                    refine q_ieq (tgt := 97) B dX4_findReach_79 (by decide) (by unfold inr; omega) (fun c21 => ?_) (fun c21 => ?_)
                    · refine q_inc (lv' := [(3, .int (II (v64_3 + 1))), (1, .int (II x7)), (0, .ref a_this), (2, .int (II v57_2))]) B dX4_findReach_97 hl (k := 3) rfl (by decide) rfl (fun ls hl => ?_)
                      refine lv_goto (tgt := 64) B.1 B.2.1 dX4_findReach_100 (by decide) ?_
                      have hv22 : ((-2147483648 : Int) ≤ v64_3 + 1 ∧ (v64_3 + 1 : Int) ≤ 2147483647) ∧ (0 ≤ (v64_3 + 1)) ∧ ((v64_3 + 1) ≤ 16) ∧ (0 ≤ v57_2) ∧ (v57_2 < 16) ∧ (x7 ≤ 16) ∧ (0 ≤ 17 - (v64_3 + 1)) := by first | omega | exact ⟨by first | omega | assumption | exact trivial, by first | omega | assumption | exact trivial, by first | omega | assumption | exact trivial, by first | omega | assumption | exact trivial, by first | omega | assumption | exact trivial, by first | omega | assumption | exact trivial, by first | omega | assumption | exact trivial⟩
                      exact IH64 (v64_3 + 1) I_64 _ _ ls hM hF (lv_sub hl [1, 2, 3, 0] rfl) hv22.1 hv22.2.1 hv22.2.2.1 hv22.2.2.2.1 hv22.2.2.2.2.1 hv22.2.2.2.2.2.1 hv22.2.2.2.2.2.2 (by omega)
                    · refine lv_aload_n B.1 B.2.1 dX4_findReach_82 rfl (lv_at hl 1 rfl) ?_
                      refine c_getn (k := 7) pk_X4 B hM t_this kd4 rfl (by decide) fl_X4_16 dX4_findReach_83 e13 ?_
                      refine lv_iload_n B.1 B.2.1 dX4_findReach_86 rfl (lv_at hl 3 rfl) ?_
                      refine lv_dup2_11 B.1 B.2.1 dX4_findReach_87 rfl rfl ?_
                      refine c_ild B hM t14 kd81 an81 dX4_findReach_88 (by omega) (by omega) e17 ?_
                      refine lv_aload_n B.1 B.2.1 dX4_findReach_89 rfl (lv_at hl 1 rfl) ?_
                      refine c_getn (k := 7) pk_X4 B hM t_this kd4 rfl (by decide) fl_X4_16 dX4_findReach_90 e13 ?_
                      refine lv_iload_n B.1 B.2.1 dX4_findReach_93 rfl (lv_at hl 2 rfl) ?_
                      obtain ⟨x23, e24⟩ : ∃ v, I_64 b12 v57_2.toNat = v := ⟨_, rfl⟩
                      have r25 : (-2147483648 : Int) ≤ x23 ∧ x23 ≤ 2147483647 := by rw [← e24]; exact ga81 hM.2.2.2.2.2.2.1 t14 (by omega)
                      refine c_ild B hM t14 kd81 an81 dX4_findReach_94 (by omega) (by omega) e24 ?_
                      refine q_or B dX4_findReach_95 (fun x26 ix26 ex26 => ?_)
                      unfold inr at ix26
                      refine c_ist B hM t14 kd81 aq81 dX4_findReach_96 (by omega) (by omega) (show (-2147483648 : Int) ≤ x26 from by omega) (show x26 ≤ (2147483647 : Int) from by omega) (fun I28 H locs hu27 hM => ?_)
                      have e29 : I28 b12 v64_3.toNat = x26 := w2_at hu27
                      replace hF : Fr mo_X4_findReach [] T N I J R T N I28 J R := hF.wi hu27 (fun _ _ => by rw [t14, cd_arr (j := 0) (by decide)]; rfl)
                      refine q_inc (lv' := [(3, .int (II (v64_3 + 1))), (1, .int (II x7)), (0, .ref a_this), (2, .int (II v57_2))]) B dX4_findReach_97 hl (k := 3) rfl (by decide) rfl (fun ls hl => ?_)
                      refine lv_goto (tgt := 64) B.1 B.2.1 dX4_findReach_100 (by decide) ?_
                      have hv30 : ((-2147483648 : Int) ≤ v64_3 + 1 ∧ (v64_3 + 1 : Int) ≤ 2147483647) ∧ (0 ≤ (v64_3 + 1)) ∧ ((v64_3 + 1) ≤ 16) ∧ (0 ≤ v57_2) ∧ (v57_2 < 16) ∧ (x7 ≤ 16) ∧ (0 ≤ 17 - (v64_3 + 1)) := by first | omega | exact ⟨by first | omega | assumption | exact trivial, by first | omega | assumption | exact trivial, by first | omega | assumption | exact trivial, by first | omega | assumption | exact trivial, by first | omega | assumption | exact trivial, by first | omega | assumption | exact trivial, by first | omega | assumption | exact trivial⟩
                      exact IH64 (v64_3 + 1) I28 _ _ ls hM hF (lv_sub hl [1, 2, 3, 0] rfl) hv30.1 hv30.2.1 hv30.2.2.1 hv30.2.2.2.1 hv30.2.2.2.2.1 hv30.2.2.2.2.2.1 hv30.2.2.2.2.2.2 (by omega)
              have hv31 : ((-2147483648 : Int) ≤ 0 ∧ (0 : Int) ≤ 2147483647) ∧ (0 ≤ (0 : Int)) ∧ ((0 : Int) ≤ 16) ∧ (0 ≤ v57_2) ∧ (v57_2 < 16) ∧ (x7 ≤ 16) ∧ (0 ≤ 17 - (0 : Int)) := by first | omega | exact ⟨by first | omega | assumption | exact trivial, by first | omega | assumption | exact trivial, by first | omega | assumption | exact trivial, by first | omega | assumption | exact trivial, by first | omega | assumption | exact trivial, by first | omega | assumption | exact trivial, by first | omega | assumption | exact trivial⟩
              exact LL64 (Int.toNat (17 - (0 : Int) + 1)) 0 I_57 _ _ ls hM hF (lv_sub hl [1, 2, 3, 0] rfl) hv31.1 hv31.2.1 hv31.2.2.1 hv31.2.2.2.1 hv31.2.2.2.2.1 hv31.2.2.2.2.2.1 hv31.2.2.2.2.2.2 (by omega)
        have hv32 : ((-2147483648 : Int) ≤ 0 ∧ (0 : Int) ≤ 2147483647) ∧ (0 ≤ (0 : Int)) ∧ ((0 : Int) ≤ 16) ∧ (x7 ≤ 16) ∧ (0 ≤ 17 - (0 : Int)) := by first | omega | exact ⟨by first | omega | assumption | exact trivial, by first | omega | assumption | exact trivial, by first | omega | assumption | exact trivial, by first | omega | assumption | exact trivial, by first | omega | assumption | exact trivial⟩
        exact LL57 (Int.toNat (17 - (0 : Int) + 1)) 0 I_18 _ _ ls hM hF (lv_sub hl [1, 2, 0] rfl) hv32.1 hv32.2.1 hv32.2.2.1 hv32.2.2.2.1 hv32.2.2.2.2 (by omega)
      · refine lv_aload_n B.1 B.2.1 dX4_findReach_23 rfl (lv_at hl 1 rfl) ?_
        obtain ⟨b33, e34, t35⟩ := g4_7 hC0 t_this
        refine c_getn (k := 7) pk_X4 B hM t_this kd4 rfl (by decide) fl_X4_16 dX4_findReach_24 e34 ?_
        refine lv_iload_n B.1 B.2.1 dX4_findReach_27 rfl (lv_at hl 2 rfl) ?_
        refine lv_aload_n B.1 B.2.1 dX4_findReach_28 rfl (lv_at hl 1 rfl) ?_
        refine c_getn (k := 2) pk_X4 B hM t_this kd4 rfl (by decide) fl_X4_23 dX4_findReach_29 p_0 ?_
        refine c_getn (k := 2) pk_X0 B hM p_1 kd6 rfl (by decide) fl_X4_82 dX4_findReach_32 e2 ?_
        refine lv_iload_n B.1 B.2.1 dX4_findReach_35 rfl (lv_at hl 2 rfl) ?_
        have e36 : I_18 b1 2 = x6 := (hF.i t3 (by decide) nm0 rfl).trans hp5a_0
        have hv37 : ((-2147483648 : Int) ≤ v18_2 ∧ (v18_2 : Int) ≤ 2147483647) ∧ (15 ≤ 17) ∧ (17 ≤ 23) ∧ (0 ≤ v18_2) ∧ (v18_2 < I_18 b1 2) := by first | omega | exact ⟨by first | omega | assumption | exact trivial, by first | omega | assumption | exact trivial, by first | omega | assumption | exact trivial, by first | omega | assumption | exact trivial, by first | omega | assumption | exact trivial⟩
        refine p_callr (c_runV (n := 1) (as := [.int (II v18_2)]) (rest := [.int (II v18_2), .ref b33]) B hX hA hM hl.1 t3 kd17 rfl (k_Jx4a65c_get_915e3 l D dA eA L T N I_18 J R b1 t3 v18_2 hv37.1 hv37.2.1 hv37.2.2.1 hv37.2.2.2.1 hv37.2.2.2.2 _ _) ml_X4_46 nm_Jx4a65c_get_915e3 ⟨rfl, rfl⟩ ⟨Nat.le_of_ble_eq_true rfl, Nat.le_of_ble_eq_true rfl⟩ dX4_findReach_36 rfl rfl (Nat.le_of_ble_eq_true rfl) ⟨Nat.zero_le _, Nat.zero_le _⟩) (fun b39 hp38 => ?_)
        obtain ⟨tb39, hp38a⟩ := hp38
        replace hp38a : R (R b1 1 - 1) v18_2.toNat = b39 + 1 := hp38a
        refine c_cast B hM tb39 kd10 rfl cl_X4_68 dX4_findReach_39 ?_
        obtain ⟨b40, e41, t42⟩ := g10_3 hM.2.2.2.2.2.2.1 tb39
        refine c_getn (k := 3) pk_X8 B hM tb39 kd10 rfl (by decide) fl_X4_67 dX4_findReach_42 e41 ?_
        refine p_calli (c_runS (n := 1) (as := [.ref b40]) (rest := [.int (II v18_2), .ref b33]) B hX hA hM hl.1 (k_X4_usedMarks l D dA eA L T N I_18 J R b40 t42 _ _) ml_X4_91 nm_X4_usedMarks ⟨rfl, rfl⟩ ⟨Nat.le_of_ble_eq_true rfl, Nat.le_of_ble_eq_true rfl⟩ dX4_findReach_45 rfl rfl (Nat.le_of_ble_eq_true rfl) ⟨Nat.zero_le _, Nat.zero_le _⟩) (fun x44 ix44 hp43 => ?_)
        have hp43a := hp43
        clear hp43a
        have n45 : 16 ≤ N b33 ∧ N b33 ≤ 16 := gn81 hM.2.2.2.2.2.2.1 t35
        refine c_ist B hM t35 kd81 aq81 dX4_findReach_48 (by omega) (by omega) (show (-2147483648 : Int) ≤ x44 from by omega) (show x44 ≤ (2147483647 : Int) from by omega) (fun I47 H locs hu46 hM => ?_)
        have e48 : I47 b33 v18_2.toNat = x44 := w2_at hu46
        replace hF : Fr mo_X4_findReach [] T N I J R T N I47 J R := hF.wi hu46 (fun _ _ => by rw [t35, cd_arr (j := 0) (by decide)]; rfl)
        refine q_inc (lv' := [(2, .int (II (v18_2 + 1))), (1, .int (II x7)), (0, .ref a_this)]) B dX4_findReach_49 hl (k := 2) rfl (by decide) rfl (fun ls hl => ?_)
        refine lv_goto (tgt := 18) B.1 B.2.1 dX4_findReach_52 (by decide) ?_
        have hv49 : ((-2147483648 : Int) ≤ v18_2 + 1 ∧ (v18_2 + 1 : Int) ≤ 2147483647) ∧ (0 ≤ (v18_2 + 1)) ∧ ((v18_2 + 1) ≤ 16) ∧ (x7 ≤ 16) ∧ (0 ≤ 17 - (v18_2 + 1)) := by first | omega | exact ⟨by first | omega | assumption | exact trivial, by first | omega | assumption | exact trivial, by first | omega | assumption | exact trivial, by first | omega | assumption | exact trivial, by first | omega | assumption | exact trivial⟩
        exact IH18 (v18_2 + 1) I47 _ _ ls hM hF (lv_sub hl [1, 2, 0] rfl) hv49.1 hv49.2.1 hv49.2.2.1 hv49.2.2.2.1 hv49.2.2.2.2 (by omega)
  have hv50 : ((-2147483648 : Int) ≤ 0 ∧ (0 : Int) ≤ 2147483647) ∧ (0 ≤ (0 : Int)) ∧ ((0 : Int) ≤ 16) ∧ (x7 ≤ 16) ∧ (0 ≤ 17 - (0 : Int)) := by first | omega | exact ⟨by first | omega | assumption | exact trivial, by first | omega | assumption | exact trivial, by first | omega | assumption | exact trivial, by first | omega | assumption | exact trivial, by first | omega | assumption | exact trivial⟩
  exact LL18 (Int.toNat (17 - (0 : Int) + 1)) 0 I _ _ ls hM hF (lv_sub hl [1, 2, 0] rfl) hv50.1 hv50.2.1 hv50.2.2.1 hv50.2.2.2.1 hv50.2.2.2.2 (by omega)

def mo_J7_fill_53178 : List Nat := [2656]
set_option maxHeartbeats 1000000 in
set_option maxRecDepth 20000 in
theorem k_J7_fill_53178 (l : Launch) (D : va_G) (dA : Nat → ClassId) (eA : Nat) (L : List Nat) (T N : Nat → Nat) (I : Nat → Nat → Int) (J : Nat → Nat → Int64) (R : Nat → Nat → Nat) (a_a : Nat) (t_a : T a_a = 83) (a_v : Int) (i_v : (-2147483648 : Int) ≤ a_v ∧ a_v ≤ 2147483647) : GC l yJ7_fill_53178 cJ7_fill_53178 4 none ({ frames := 0, cells := 0, slots := 0, locals := 0 }) D dA eA L T N I J R [.ref a_a, .int (II a_v)] 0 0 (gV (fun L' T' N' I' J' R' dz dl => L' = L ∧ T' = T ∧ N' = N ∧ J' = J ∧ R' = R ∧ Fr mo_J7_fill_53178 [] T N I J R T' N' I' J' R' ∧ (True))) := by
  generalize hPST : (gV (fun L' T' N' I' J' R' dz dl => L' = L ∧ T' = T ∧ N' = N ∧ J' = J ∧ R' = R ∧ Fr mo_J7_fill_53178 [] T N I J R T' N' I' J' R' ∧ (True))) = PST
  refine g_enter (own := RJ7) (by decide) rfl (Nat.le_of_ble_eq_true rfl) (fun p e s m args below meth c ls hm B hX hM hl => ?_)
  have hC0 := hM.2.2.2.2.2.2.1
  have hW0 := hM.2.2.2
  have hF : Fr mo_J7_fill_53178 [] T N I J R T N I J R := Fr.rf
  have hA : ∀ q, s.heap.size ≤ q → cF dA L T N I J R s.heap.size q := fun q h => Or.inr h
  have hl : lv_has ls 4 [(0, .ref a_a), (1, .int (II a_v))] := hl
  refine q_con B dJ7_fill_53178_0 ?_
  refine lv_istore_n (lv' := [(2, .int (II 0)), (0, .ref a_a), (1, .int (II a_v))]) B.1 B.2.1 dJ7_fill_53178_1 rfl hl (by decide) rfl (fun ls hl => ?_)
  refine lv_aload_n B.1 B.2.1 dJ7_fill_53178_2 rfl (lv_at hl 1 rfl) ?_
  have n1 : 6 ≤ N a_a ∧ N a_a ≤ 6 := gn83 hM.2.2.2.2.2.2.1 t_a
  refine c_len B hM t_a kd83 (by decide) dJ7_fill_53178_3 rfl ?_
  refine lv_istore_n (lv' := [(3, .int (II (((N a_a : Nat) : Int)))), (2, .int (II 0)), (0, .ref a_a), (1, .int (II a_v))]) B.1 B.2.1 dJ7_fill_53178_4 rfl hl (by decide) rfl (fun ls hl => ?_)
  have LL5 : ∀ NN : Nat, ∀ (v5_2 : Int) (I_5 : Nat → Nat → Int) (H : Heap) (locs : List Loc) (ls : Array Slot), (CWd D dA eA (cF dA L T N I J R s.heap.size) s.heap L T N I_5 J R H locs) → (Fr mo_J7_fill_53178 [] T N I J R T N I_5 J R) → lv_has ls 4 [(3, .int (II (((N a_a : Nat) : Int)))), (0, .ref a_a), (1, .int (II a_v)), (2, .int (II v5_2))] → ((-2147483648 : Int) ≤ v5_2 ∧ v5_2 ≤ 2147483647) → (0 ≤ v5_2) → (v5_2 ≤ 6) → ((((N a_a : Nat) : Int)) ≤ 6) → (0 ≤ 7 - v5_2) → (7 - v5_2 < (NN : Int)) → W p l e ({ frames := 0, cells := 0, slots := 0, locals := 0 }) s m args below meth c H locs 0 0 (MQ below (gQ D dA eA (cF dA L T N I J R s.heap.size) s.heap.size (hs s.heap) PST) args s 0 0 (cF dA L T N I J R s.heap.size)) (F0 m 5 ls []) := by
    intro NN
    induction NN with
    | zero => intro v5_2 I_5 H locs ls hM hF hl hLL5_0 hLL5_1 hLL5_2 hLL5_3 hLL5_4 hN; exfalso; omega
    | succ NN IH5 =>
      intro v5_2 I_5 H locs ls hM hF hl hLL5_0 hLL5_1 hLL5_2 hLL5_3 hLL5_4 hN
      refine lv_iload_n B.1 B.2.1 dJ7_fill_53178_5 rfl (lv_at hl 3 rfl) ?_
      refine lv_iload_n B.1 B.2.1 dJ7_fill_53178_6 rfl (lv_at hl 0 rfl) ?_
      refine q_cge (tgt := 20) B dJ7_fill_53178_7 (by decide) (by unfold inr; omega) (by unfold inr; omega) (fun c2 => ?_) (fun c2 => ?_)
      · refine g_vret B hM dJ7_fill_53178_20 ⟨Nat.le_refl _, Nat.le_refl _⟩ ?_
        rw [← hPST]
        exact ⟨rfl, rfl, rfl, rfl, rfl, rfl, hF, by first | omega | assumption | exact trivial⟩
      · refine lv_aload_n B.1 B.2.1 dJ7_fill_53178_10 rfl (lv_at hl 1 rfl) ?_
        refine lv_iload_n B.1 B.2.1 dJ7_fill_53178_11 rfl (lv_at hl 3 rfl) ?_
        refine lv_iload_n B.1 B.2.1 dJ7_fill_53178_12 rfl (lv_at hl 2 rfl) ?_
        refine c_ist B hM t_a kd83 aq83 dJ7_fill_53178_13 (by omega) (by omega) (show (-2147483648 : Int) ≤ a_v from by omega) (show a_v ≤ (2147483647 : Int) from by omega) (fun I4 H locs hu3 hM => ?_)
        have e5 : I4 a_a v5_2.toNat = a_v := w2_at hu3
        replace hF : Fr mo_J7_fill_53178 [] T N I J R T N I4 J R := hF.wi hu3 (fun _ _ => by rw [t_a, cd_arr (j := 0) (by decide)]; rfl)
        refine q_inc (lv' := [(2, .int (II (v5_2 + 1))), (3, .int (II (((N a_a : Nat) : Int)))), (0, .ref a_a), (1, .int (II a_v))]) B dJ7_fill_53178_14 hl (k := 3) rfl (by decide) rfl (fun ls hl => ?_)
        refine lv_goto (tgt := 5) B.1 B.2.1 dJ7_fill_53178_17 (by decide) ?_
        have hv6 : ((-2147483648 : Int) ≤ v5_2 + 1 ∧ (v5_2 + 1 : Int) ≤ 2147483647) ∧ (0 ≤ (v5_2 + 1)) ∧ ((v5_2 + 1) ≤ 6) ∧ ((((N a_a : Nat) : Int)) ≤ 6) ∧ (0 ≤ 7 - (v5_2 + 1)) := by first | omega | exact ⟨by first | omega | assumption | exact trivial, by first | omega | assumption | exact trivial, by first | omega | assumption | exact trivial, by first | omega | assumption | exact trivial, by first | omega | assumption | exact trivial⟩
        exact IH5 (v5_2 + 1) I4 _ _ ls hM hF (lv_sub hl [1, 2, 3, 0] rfl) hv6.1 hv6.2.1 hv6.2.2.1 hv6.2.2.2.1 hv6.2.2.2.2 (by omega)
  have hv7 : ((-2147483648 : Int) ≤ 0 ∧ (0 : Int) ≤ 2147483647) ∧ (0 ≤ (0 : Int)) ∧ ((0 : Int) ≤ 6) ∧ ((((N a_a : Nat) : Int)) ≤ 6) ∧ (0 ≤ 7 - (0 : Int)) := by first | omega | exact ⟨by first | omega | assumption | exact trivial, by first | omega | assumption | exact trivial, by first | omega | assumption | exact trivial, by first | omega | assumption | exact trivial, by first | omega | assumption | exact trivial⟩
  exact LL5 (Int.toNat (7 - (0 : Int) + 1)) 0 I _ _ ls hM hF (lv_sub hl [0, 2, 3, 1] rfl) hv7.1 hv7.2.1 hv7.2.2.1 hv7.2.2.2.1 hv7.2.2.2.2 (by omega)

def mo_X4_turnTo : List Nat := [132, 133, 134, 2656]
set_option maxHeartbeats 1000000 in
set_option maxRecDepth 20000 in
theorem k_X4_turnTo (l : Launch) (D : va_G) (dA : Nat → ClassId) (eA : Nat) (L : List Nat) (T N : Nat → Nat) (I : Nat → Nat → Int) (J : Nat → Nat → Int64) (R : Nat → Nat → Nat) (a_this : Nat) (t_this : T a_this = 4) (a_p : Nat) (t_p : T a_p = 10) (a_n : Int) (i_n : (-2147483648 : Int) ≤ a_n ∧ a_n ≤ 2147483647) : GC l yX4_turnTo cX4_turnTo 4 none ({ frames := 1, cells := 0, slots := 0, locals := 23 }) D dA eA L T N I J R [.ref a_this, .ref a_p, .int (II a_n)] 0 0 (gV (fun L' T' N' I' J' R' dz dl => L' = L ∧ T' = T ∧ N' = N ∧ J' = J ∧ Fr mo_X4_turnTo [] T N I J R T' N' I' J' R' ∧ I' a_this 6 = 0 ∧ R' a_this 4 = a_p + 1)) := by
  generalize hPST : (gV (fun L' T' N' I' J' R' dz dl => L' = L ∧ T' = T ∧ N' = N ∧ J' = J ∧ Fr mo_X4_turnTo [] T N I J R T' N' I' J' R' ∧ I' a_this 6 = 0 ∧ R' a_this 4 = a_p + 1)) = PST
  refine g_enter (own := RX4) (by decide) rfl (Nat.le_of_ble_eq_true rfl) (fun p e s m args below meth c ls hm B hX hM hl => ?_)
  have hC0 := hM.2.2.2.2.2.2.1
  have hW0 := hM.2.2.2
  have hF : Fr mo_X4_turnTo [] T N I J R T N I J R := Fr.rf
  have hA : ∀ q, s.heap.size ≤ q → cF dA L T N I J R s.heap.size q := fun q h => Or.inr h
  have hl : lv_has ls 4 [(0, .ref a_this), (1, .ref a_p), (2, .int (II a_n))] := hl
  refine lv_aload_n B.1 B.2.1 dX4_turnTo_0 rfl (lv_at hl 0 rfl) ?_
  refine lv_aload_n B.1 B.2.1 dX4_turnTo_1 rfl (lv_at hl 1 rfl) ?_
  refine c_putr (k := 4) (v := a_p + 1) pk_X4 B hM t_this kd4 rfl (by decide) fl_X4_64 (Or.inl rfl) dX4_turnTo_2 rfl rfl ⟨rfl, fun _ => rfl, rfl, fun _ => rfl⟩ (rokR t_p rfl) (fun R1 H locs hu2 hM => ?_)
  have e3 : R1 a_this 4 = a_p + 1 := w2_at hu2
  replace hF : Fr mo_X4_turnTo [] T N I J R T N I J R1 := hF.wr hu2 (fun _ _ => by rw [t_this]; rfl)
  refine lv_aload_n B.1 B.2.1 dX4_turnTo_5 rfl (lv_at hl 0 rfl) ?_
  refine lv_iload_n B.1 B.2.1 dX4_turnTo_6 rfl (lv_at hl 2 rfl) ?_
  refine c_puti (k := 5) pk_X4 B hM t_this kd4 rfl (by decide) fl_X4_100 (Or.inl rfl) dX4_turnTo_7 rfl rfl rfl (show (-2147483648 : Int) ≤ a_n from by omega) (show a_n ≤ (2147483647 : Int) from by omega) (fun I4 H locs hu5 hM => ?_)
  have e6 : I4 a_this 5 = a_n := w2_at hu5
  replace hF : Fr mo_X4_turnTo [] T N I J R T N I4 J R1 := hF.wi hu5 (fun _ _ => by rw [t_this]; rfl)
  refine lv_aload_n B.1 B.2.1 dX4_turnTo_10 rfl (lv_at hl 0 rfl) ?_
  refine q_con B dX4_turnTo_11 ?_
  refine c_puti (k := 6) pk_X4 B hM t_this kd4 rfl (by decide) fl_X4_103 (Or.inl rfl) dX4_turnTo_12 rfl rfl rfl (show (-2147483648 : Int) ≤ 0 from by omega) (show 0 ≤ (2147483647 : Int) from by omega) (fun I7 H locs hu8 hM => ?_)
  have e9 : I7 a_this 6 = 0 := w2_at hu8
  replace hF : Fr mo_X4_turnTo [] T N I J R T N I7 J R1 := hF.wi hu8 (fun _ _ => by rw [t_this]; rfl)
  refine lv_aload_n B.1 B.2.1 dX4_turnTo_15 rfl (lv_at hl 0 rfl) ?_
  obtain ⟨b10, e11, t12⟩ := g4_8 hC0 t_this
  have e13 : R1 a_this 8 = b10 + 1 := (hF.r t_this (by decide) nm0 rfl).trans e11
  refine c_getn (k := 8) pk_X4 B hM t_this kd4 rfl (by decide) fl_X4_20 dX4_turnTo_16 e13 ?_
  refine q_con B dX4_turnTo_19 ?_
  have n14 : 18 ≤ N b10 ∧ N b10 ≤ 18 := gn82 hM.2.2.2.2.2.2.1 t12
  obtain ⟨b15, e16, t17⟩ := ga82 hC0 t12 (k := ((0 : Int).toNat)) (by omega)
  have e18 : R1 b10 ((0 : Int).toNat) = b15 + 1 := (hF.r t12 (by decide) nm0 (by rw [cd_arr (j := 0) (by decide)]; rfl)).trans e16
  refine c_aldn B hM t12 kd82 an82 dX4_turnTo_20 (by omega) (by omega) e18 ?_
  refine lv_astore_n (lv' := [(3, .ref b15), (0, .ref a_this), (1, .ref a_p), (2, .int (II a_n))]) B.1 B.2.1 dX4_turnTo_21 rfl hl (by decide) rfl (fun ls hl => ?_)
  refine lv_aload_n B.1 B.2.1 dX4_turnTo_22 rfl (lv_at hl 0 rfl) ?_
  refine q_con B dX4_turnTo_23 ?_
  refine z_callv hM hA (c_runS (n := 2) (as := [.ref b15, .int (II (-1))]) (rest := []) B hX hA hM hl.1 (k_J7_fill_53178 l D dA eA L T N I7 J R1 b15 t17 (-1) (by first | omega | assumption | exact trivial) _ _) ml_X4_106 nm_J7_fill_53178 ⟨rfl, rfl⟩ ⟨Nat.le_of_ble_eq_true rfl, Nat.le_of_ble_eq_true rfl⟩ dX4_turnTo_24 rfl rfl (Nat.le_of_ble_eq_true rfl) ⟨Nat.zero_le _, Nat.zero_le _⟩) (fun L21 T22 N23 I24 J25 R26 dz27 dl28 H locs hp19 hMn => ?_)
  obtain ⟨yL21, yT22, yN23, yJ25, yR26, hFc29, hp19a⟩ := hp19
  obtain rfl := yL21.symm; obtain rfl := yT22.symm; obtain rfl := yN23.symm; obtain rfl := yJ25.symm; obtain rfl := yR26.symm
  replace hF : Fr mo_X4_turnTo [] T N I J R T N I24 J R1 := hF.trans hFc29 (by decide) e20
  have hM := hMn
  clear hMn
  clear hp19a
  refine lv_aload_n B.1 B.2.1 dX4_turnTo_27 rfl (lv_at hl 0 rfl) ?_
  refine q_con B dX4_turnTo_28 ?_
  refine q_con B dX4_turnTo_29 ?_
  have n30 : 6 ≤ N b15 ∧ N b15 ≤ 6 := gn83 hM.2.2.2.2.2.2.1 t17
  refine c_ist B hM t17 kd83 aq83 dX4_turnTo_30 (by omega) (by omega) (show (-2147483648 : Int) ≤ 0 from by omega) (show 0 ≤ (2147483647 : Int) from by omega) (fun I32 H locs hu31 hM => ?_)
  have e33 : I32 b15 ((2 : Int).toNat) = 0 := w2_at hu31
  replace hF : Fr mo_X4_turnTo [] T N I J R T N I32 J R1 := hF.wi hu31 (fun _ _ => by rw [t17, cd_arr (j := 0) (by decide)]; rfl)
  refine lv_aload_n B.1 B.2.1 dX4_turnTo_31 rfl (lv_at hl 0 rfl) ?_
  refine q_con B dX4_turnTo_32 ?_
  refine q_con B dX4_turnTo_33 ?_
  refine c_ist B hM t17 kd83 aq83 dX4_turnTo_34 (by omega) (by omega) (show (-2147483648 : Int) ≤ 0 from by omega) (show 0 ≤ (2147483647 : Int) from by omega) (fun I35 H locs hu34 hM => ?_)
  have e36 : I35 b15 ((3 : Int).toNat) = 0 := w2_at hu34
  replace hF : Fr mo_X4_turnTo [] T N I J R T N I35 J R1 := hF.wi hu34 (fun _ _ => by rw [t17, cd_arr (j := 0) (by decide)]; rfl)
  refine lv_aload_n B.1 B.2.1 dX4_turnTo_35 rfl (lv_at hl 0 rfl) ?_
  refine q_con B dX4_turnTo_36 ?_
  refine q_con B dX4_turnTo_37 ?_
  refine c_ist B hM t17 kd83 aq83 dX4_turnTo_38 (by omega) (by omega) (show (-2147483648 : Int) ≤ 0 from by omega) (show 0 ≤ (2147483647 : Int) from by omega) (fun I38 H locs hu37 hM => ?_)
  have e39 : I38 b15 ((5 : Int).toNat) = 0 := w2_at hu37
  replace hF : Fr mo_X4_turnTo [] T N I J R T N I38 J R1 := hF.wi hu37 (fun _ _ => by rw [t17, cd_arr (j := 0) (by decide)]; rfl)
  have e40 : I24 a_this 6 = 0 := (hFc29.i t_this (by decide) nm0 rfl).trans e9
  have e41 : I32 a_this 6 = 0 := (w2_ne hu31 (Or.inl (tne t_this t17 (by decide)))).trans e40
  have e42 : I35 a_this 6 = 0 := (w2_ne hu34 (Or.inl (tne t_this t17 (by decide)))).trans e41
  have e43 : I38 a_this 6 = 0 := (w2_ne hu37 (Or.inl (tne t_this t17 (by decide)))).trans e42
  refine g_vret B hM dX4_turnTo_39 ⟨Nat.le_refl _, Nat.le_refl _⟩ ?_
  rw [← hPST]
  exact ⟨rfl, rfl, rfl, rfl, rfl, hF, by first | omega | assumption | exact trivial, by first | omega | assumption | exact trivial⟩
