/-! lists -/
def el (t : Nat) : Nat := [8, 8, 10, 11, 10, 9, 9, 12, 13].getD (t - 15) 0
def mx (t : Nat) : Int := [16, 16, 16, 16, 12, 8, 40, 200, 500].getD (t - 15) 0
def ecap (t : Nat) : Nat := [24, 24, 24, 24, 18, 12, 60, 300, 750].getD (t - 15) 0
def moL (t : Nat) : List Nat := [t * 32, t * 32 + 1, t * 32 + 2, (t + 35) * 32]
section LS
variable {T N : Nat → Nat} {I : Nat → Nat → Int} {J : Nat → Nat → Int64} {R : Nat → Nat → Nat} {a b k lt : Nat}
theorem ls_dec {P : Nat → Prop} (h1 : 15 ≤ lt) (h2 : lt ≤ 23) (h : ∀ t, t < 24 → 15 ≤ t → P t) : P lt := h lt (by omega) h1
theorem kdLs (h1 : 15 ≤ lt) (h2 : lt ≤ 23) : kd lt = (0, 1, [0, 2, 0]) := ls_dec (P := fun t => kd t = (0, 1, [0, 2, 0])) h1 h2 (by decide)
theorem kdEs (h1 : 15 ≤ lt) (h2 : lt ≤ 23) : kd (lt + 35) = (1, 5, [2]) := ls_dec (P := fun t => kd (t + 35) = (1, 5, [2])) h1 h2 (by decide)
theorem rFEs (h1 : 15 ≤ lt) (h2 : lt ≤ 23) : rF (lt + 35) 0 = (1, el lt, el lt) := ls_dec (P := fun t => rF (t + 35) 0 = (1, el t, el t)) h1 h2 (by decide)
theorem nREs (h1 : 15 ≤ lt) (h2 : lt ≤ 23) : nR (lt + 35) = (10, ecap lt) := ls_dec (P := fun t => nR (t + 35) = (10, ecap t)) h1 h2 (by decide)
theorem iRLs (h1 : 15 ≤ lt) (h2 : lt ≤ 23) : iR lt 2 = (0, mx lt) ∧ iR lt 0 = iRng ∧ nR lt = (3, 3) ∧ rF lt 1 = (2, lt + 35, 1) ∧ xI lt 0 = false := ls_dec (P := fun t => iR t 2 = (0, mx t) ∧ iR t 0 = iRng ∧ nR t = (3, 3) ∧ rF t 1 = (2, t + 35, 1) ∧ xI t 0 = false) h1 h2 (by decide)
theorem mx_le (h1 : 15 ≤ lt) (h2 : lt ≤ 23) : mx lt ≤ 500 ∧ 8 ≤ mx lt ∧ 12 ≤ ecap lt ∧ ecap lt ≤ 750 ∧ 2 * (ecap lt : Int) = 3 * mx lt := ls_dec (P := fun t => mx t ≤ 500 ∧ 8 ≤ mx t ∧ 12 ≤ ecap t ∧ ecap t ≤ 750 ∧ 2 * (ecap t : Int) = 3 * mx t) h1 h2 (by decide)
theorem gls_2 (h : CT T N I R) (hT : T a = lt) (h1 : 15 ≤ lt) (h2 : lt ≤ 23) : (0 : Int) ≤ I a 2 ∧ I a 2 ≤ mx lt := by
  have hq := iRLs h1 h2
  have := h.io (k := 2) hT (by omega) (by rw [hq.2.2.1]; decide)
  rw [hq.1] at this
  exact this
theorem gls_0 (h : CT T N I R) (hT : T a = lt) (h1 : 15 ≤ lt) (h2 : lt ≤ 23) : (-2147483648 : Int) ≤ I a 0 ∧ I a 0 ≤ 2147483647 := by
  have hq := iRLs h1 h2
  have := h.io (k := 0) hT (by omega) (by rw [hq.2.2.1]; decide)
  rw [hq.2.1] at this
  exact this
theorem gls_1 (h : CT T N I R) (hT : T a = lt) (h1 : 15 ≤ lt) (h2 : lt ≤ 23) : ∃ b, R a 1 = b + 1 ∧ (T b = lt + 35 ∨ T b = 1) := by
  have := h.ed (a := a) (by omega) (by omega)
  rw [hT] at this
  exact this
theorem n_one (h : CT T N I R) (hT : T b = 1) : N b = 0 := by
  have : N b ≤ 0 := (h.n hT (by decide)).2
  omega
/-- a list's row, where the list has a place -/
theorem gls_e (h : CT T N I R) (hx : XI T N I R) (hT : T a = lt) (h1 : 15 ≤ lt) (h2 : lt ≤ 23) {i : Int} (hi : 0 ≤ i) (hj : i < I a 2) : ∃ b, R a 1 = b + 1 ∧ T b = lt + 35 ∧ I a 2 ≤ N b ∧ ∃ e, R b i.toNat = e + 1 ∧ T e = el lt := by
  obtain ⟨b, e1, tb⟩ := gls_1 h hT h1 h2
  obtain ⟨g1, g2, -⟩ := hx.1 a (by omega) (by omega)
  rw [e1, Nat.add_sub_cancel] at g1 g2
  have tb : T b = lt + 35 := by
    rcases tb with tb | tb
    · exact tb
    · have := n_one h tb
      omega
  have hne := g2 i.toNat (by omega)
  refine ⟨b, e1, tb, g1, ?_⟩
  rcases h.rna (k := i.toNat) (t1 := el lt) tb (by omega) (by omega) (by rw [rF_arr (by omega), rFEs h1 h2]) with z | z
  · exact absurd z hne
  · exact z
end LS
set_option maxRecDepth 20000 in
theorem k_Jx4a65c_size_8abf5 (l : Launch) (D : va_G) (dA : Nat → ClassId) (eA : Nat) (L : List Nat) (T N : Nat → Nat) (I : Nat → Nat → Int) (J : Nat → Nat → Int64) (R : Nat → Nat → Nat) (a_this : Nat) {lt : Nat} (t_this : T a_this = lt) (h1 : 15 ≤ lt) (h2 : lt ≤ 23) : PC l yJx4a65c_size_8abf5 cJx4a65c_size_8abf5 1 (some .int) ({ frames := 0, cells := 0, slots := 0, locals := 0 }) D dA eA L T N I J R [.ref a_this] (rI (fun r => I a_this 2 = r ∧ 0 ≤ r ∧ r ≤ mx lt)) := by
  refine p_enter (own := RJx4a65c) (by decide) rfl (Nat.le_of_ble_eq_true rfl) (fun p e s m args below meth c ls B hX hM hl => ?_)
  have hl : lv_has ls 1 [(0, .ref a_this)] := hl
  have hr := gls_2 hM.2.2.2.2.2.2.1 t_this h1 h2
  have hm := mx_le h1 h2
  refine lv_aload_n B.1 B.2.1 dJx4a65c_size_8abf5_0 rfl (lv_at hl 0 rfl) ?_
  refine c_geti (k := 2) pk_Jx4a65c B hM t_this (kdLs h1 h2) rfl (by decide) fl_Jx4a65c_48 dJx4a65c_size_8abf5_1 rfl ?_
  exact p_iret B dJx4a65c_size_8abf5_4 ⟨_, rfl, by omega, rfl, hr.1, hr.2⟩
set_option maxRecDepth 20000 in
theorem k_Jx4a65c_elementData_915e3 (l : Launch) (D : va_G) (dA : Nat → ClassId) (eA : Nat) (L : List Nat) (T N : Nat → Nat) (I : Nat → Nat → Int) (J : Nat → Nat → Int64) (R : Nat → Nat → Nat) (a_this : Nat) {lt : Nat} (t_this : T a_this = lt) (a_i : Int) (i_i : (-2147483648 : Int) ≤ a_i ∧ a_i ≤ 2147483647) (h1 : 15 ≤ lt) (h2 : lt ≤ 23) (p_0 : 0 ≤ a_i) (p_1 : a_i < I a_this 2) : PC l yJx4a65c_elementData_915e3 cJx4a65c_elementData_915e3 2 (some (.object "java/lang/Object")) ({ frames := 0, cells := 0, slots := 0, locals := 0 }) D dA eA L T N I J R [.ref a_this, .int (II a_i)] (rR (fun r => T r = el lt ∧ R (R a_this 1 - 1) a_i.toNat = r + 1)) := by
  refine p_enter (own := RJx4a65c) (by decide) rfl (Nat.le_of_ble_eq_true rfl) (fun p e s m args below meth c ls B hX hM hl => ?_)
  have hl : lv_has ls 2 [(0, .ref a_this), (1, .int (II a_i))] := hl
  obtain ⟨b, e1, tb, hn, el1, e2, te⟩ := gls_e hM.2.2.2.2.2.2.1 hM.2.2.2.2.2.2.2 t_this h1 h2 p_0 p_1
  have hm := mx_le h1 h2
  refine lv_aload_n B.1 B.2.1 dJx4a65c_elementData_915e3_0 rfl (lv_at hl 0 rfl) ?_
  refine c_getn (k := 1) pk_Jx4a65c B hM t_this (kdLs h1 h2) rfl (by decide) fl_Jx4a65c_9 dJx4a65c_elementData_915e3_1 e1 ?_
  refine lv_iload_n B.1 B.2.1 dJx4a65c_elementData_915e3_4 rfl (lv_at hl 1 rfl) ?_
  refine c_aldO B hM tb (kdEs h1 h2) (by rw [nREs h1 h2]; show ecap lt ≤ _; omega) dJx4a65c_elementData_915e3_5 p_0 (by omega) e2 ?_
  exact p_aret (v := el1 + 1) B (Or.inl ⟨_, rfl⟩) dJx4a65c_elementData_915e3_6 rfl ⟨el1, rfl, te, by rw [e1, Nat.add_sub_cancel]; exact e2⟩
