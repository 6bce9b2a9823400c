section MLong
variable {p : Program} {l : Launch} {e : Env} {R : Room} {s : State} {m : MethodId} {args : Array Value} {below : List Frame} {meth : Method} {c : Code} {H : Heap} {locs : List Loc} {cells slots : Nat} {Q : State → Prop}
variable {cc : ByteArray} {pc : Nat} {ls : Array Slot} {rest : List Value}
variable {D : va_G} {dA : Nat → ClassId} {own : String} {nL : Nat} {ret : Option FieldType}
theorem I64_ne {x : Int64} (h : x.toInt ≠ 0) : ¬ x = 0 := fun e => h (by rw [e]; rfl)
theorem I64_rng (x : Int64) : -9223372036854775808 ≤ x.toInt ∧ x.toInt ≤ 9223372036854775807 := by
  have h1 := Int64.le_toInt x
  have h2 := Int64.toInt_lt x
  omega
/-- a long is compared with a long: as whole numbers -/
theorem q_lcmpZ (B : Cx D dA p s m args meth c cc own nL ret) {x y : Int64} (hdg : decode cc pc = .ok (.lcmp, 1)) (kk : ∀ z : Int, -1 ≤ z → z ≤ 1 → (z < 0 ↔ x.toInt < y.toInt) → (z = 0 ↔ x.toInt = y.toInt) → W p l e R s m args below meth c H locs cells slots Q (F0 m (pc + 1) ls (.int (II z) :: rest))) : W p l e R s m args below meth c H locs cells slots Q (F0 m pc ls (.long y :: .long x :: rest)) := by
  refine W.lcmp B.1 B.2.1 hdg ?_
  unfold lg_cmp
  split
  · next h =>
    have h' := Int64.lt_iff_toInt_lt.mp h
    exact kk 1 (by omega) (by omega) (by omega) (by omega)
  · next h0 =>
    have h0' : ¬ y.toInt < x.toInt := fun q => h0 (Int64.lt_iff_toInt_lt.mpr q)
    split
    · next h =>
      have h' : x.toInt = y.toInt := by rw [h]
      exact kk 0 (by omega) (by omega) (by omega) (by omega)
    · next h =>
      have h' : ¬ x.toInt = y.toInt := fun q => h (Int64.toInt_inj.mp q)
      exact kk (-1) (by omega) (by omega) (by omega) (by omega)
theorem q_i2lZ (B : Cx D dA p s m args meth c cc own nL ret) {x : Int} (hx : inr x) (hdg : decode cc pc = .ok (.i2l, 1)) (k : ∀ z : Int64, z.toInt = x → W p l e R s m args below meth c H locs cells slots Q (F0 m (pc + 1) ls (.long z :: rest))) : W p l e R s m args below meth c H locs cells slots Q (F0 m pc ls (.int (II x) :: rest)) := lv_i2l B.1 B.2.1 hdg rfl (k _ (by rw [Int32.toInt_toInt64, II_toInt hx]))
theorem q_lnegZ (B : Cx D dA p s m args meth c cc own nL ret) {x : Int64} (hx : -9223372036854775808 < x.toInt) (hdg : decode cc pc = .ok (.lneg, 1)) (k : ∀ z : Int64, z.toInt = -x.toInt → W p l e R s m args below meth c H locs cells slots Q (F0 m (pc + 1) ls (.long z :: rest))) : W p l e R s m args below meth c H locs cells slots Q (F0 m pc ls (.long x :: rest)) := lv_lneg B.1 B.2.1 hdg (k _ (by
  have hr := I64_rng x
  rw [Int64.toInt_neg, Int.bmod_def]
  split <;> omega))
theorem q_lmul10 (B : Cx D dA p s m args meth c cc own nL ret) {x : Int64} (hx : 0 ≤ x.toInt ∧ x.toInt ≤ 9000000000) (hdg : decode cc pc = .ok (.lmul, 1)) (k : ∀ z : Int64, z.toInt = x.toInt * 10 → W p l e R s m args below meth c H locs cells slots Q (F0 m (pc + 1) ls (.long z :: rest))) : W p l e R s m args below meth c H locs cells slots Q (F0 m pc ls (.long (10 : Int64) :: .long x :: rest)) := lv_lmul B.1 B.2.1 hdg (k _ (by
  rw [Int64.toInt_mul, show (10 : Int64).toInt = 10 by decide, Int.bmod_def]
  split <;> omega))
theorem I64_div {x y : Int64} (hx : 0 ≤ x.toInt) (hy : 0 < y.toInt) : (x / y).toInt = x.toInt / y.toInt := by
  rw [Int64.toInt_div]
  have hr := I64_rng x
  have h1 : x.toInt.tdiv y.toInt = x.toInt / y.toInt := Int.tdiv_eq_ediv_of_nonneg hx
  have h2 : 0 ≤ x.toInt / y.toInt := Int.ediv_nonneg hx (by omega)
  have h3 : x.toInt / y.toInt ≤ x.toInt := Int.ediv_le_self _ hx
  rw [h1, Int.bmod_def]
  split <;> omega
theorem q_ldiv10 (B : Cx D dA p s m args meth c cc own nL ret) {x : Int64} (hx : 0 ≤ x.toInt) (hdg : decode cc pc = .ok (.ldiv, 1)) (k : ∀ z : Int64, z.toInt = x.toInt / 10 → W p l e R s m args below meth c H locs cells slots Q (F0 m (pc + 1) ls (.long z :: rest))) : W p l e R s m args below meth c H locs cells slots Q (F0 m pc ls (.long (10 : Int64) :: .long x :: rest)) := lv_ldiv B.1 B.2.1 hdg (by decide) (k _ (by rw [I64_div hx (by decide), show (10 : Int64).toInt = 10 by decide]))
theorem q_ldivV (B : Cx D dA p s m args meth c cc own nL ret) {x y : Int64} (hx : 0 ≤ x.toInt) (hy : 0 < y.toInt) (hdg : decode cc pc = .ok (.ldiv, 1)) (k : ∀ z : Int64, 0 ≤ z.toInt → (10 ≤ z.toInt → 10 * y.toInt ≤ x.toInt) → W p l e R s m args below meth c H locs cells slots Q (F0 m (pc + 1) ls (.long z :: rest))) : W p l e R s m args below meth c H locs cells slots Q (F0 m pc ls (.long y :: .long x :: rest)) := lv_ldiv B.1 B.2.1 hdg (I64_ne (by omega)) (k _ (by rw [I64_div hx hy]; exact Int.ediv_nonneg hx (by omega)) (by
  rw [I64_div hx hy]
  intro h
  have h1 : x.toInt / y.toInt * y.toInt ≤ x.toInt := Int.ediv_mul_le _ (by omega)
  have h2 : 10 * y.toInt ≤ x.toInt / y.toInt * y.toInt := Int.mul_le_mul_of_nonneg_right h (by omega)
  omega))
theorem q_lremA (B : Cx D dA p s m args meth c cc own nL ret) {x y : Int64} (hy : y.toInt ≠ 0) (hdg : decode cc pc = .ok (.lrem, 1)) (k : ∀ z : Int64, W p l e R s m args below meth c H locs cells slots Q (F0 m (pc + 1) ls (.long z :: rest))) : W p l e R s m args below meth c H locs cells slots Q (F0 m pc ls (.long y :: .long x :: rest)) := lv_lrem B.1 B.2.1 hdg (I64_ne hy) (k _)
end MLong

/-- how many digits -/
def dgs (u : Int) : Int := if u ≤ 0 then 0 else if u < 10 then 1 else if u < 100 then 2 else if u < 1000 then 3 else if u < 10000 then 4 else if u < 100000 then 5 else if u < 1000000 then 6 else if u < 10000000 then 7 else if u < 100000000 then 8 else if u < 1000000000 then 9 else 10
theorem dgs_rng (u : Int) : 0 ≤ dgs u ∧ dgs u ≤ 10 := by
  unfold dgs; repeat' split
  all_goals omega
theorem dgs_a0 {u : Int} (h : u ≤ 0) : dgs u = 0 := if_pos h
theorem dgs_a1 {u : Int} (h : 1 ≤ u) (h1 : u < 10) : dgs u = 1 := by
  unfold dgs; repeat' split
  all_goals omega
theorem dgs_a2 {u : Int} (h : 10 ≤ u) (h1 : u < 100) : dgs u = 2 := by
  unfold dgs; repeat' split
  all_goals omega
theorem dgs_a3 {u : Int} (h : 100 ≤ u) (h1 : u < 1000) : dgs u = 3 := by
  unfold dgs; repeat' split
  all_goals omega
theorem dgs_a4 {u : Int} (h : 1000 ≤ u) (h1 : u < 10000) : dgs u = 4 := by
  unfold dgs; repeat' split
  all_goals omega
theorem dgs_a5 {u : Int} (h : 10000 ≤ u) (h1 : u < 100000) : dgs u = 5 := by
  unfold dgs; repeat' split
  all_goals omega
theorem dgs_a6 {u : Int} (h : 100000 ≤ u) (h1 : u < 1000000) : dgs u = 6 := by
  unfold dgs; repeat' split
  all_goals omega
theorem dgs_a7 {u : Int} (h : 1000000 ≤ u) (h1 : u < 10000000) : dgs u = 7 := by
  unfold dgs; repeat' split
  all_goals omega
theorem dgs_a8 {u : Int} (h : 10000000 ≤ u) (h1 : u < 100000000) : dgs u = 8 := by
  unfold dgs; repeat' split
  all_goals omega
theorem dgs_a9 {u : Int} (h : 100000000 ≤ u) (h1 : u < 1000000000) : dgs u = 9 := by
  unfold dgs; repeat' split
  all_goals omega
theorem dgs_a10 {u : Int} (h : 1000000000 ≤ u) (h1 : u < 2147483649) : dgs u = 10 := by
  unfold dgs; repeat' split
  all_goals omega
theorem dgs_div {u v : Int} (h : 1 ≤ u) (h1 : u ≤ 2147483648) (e : v = u / 10) : dgs v + 1 = dgs u := by
  by_cases c1 : u < 10
  · rw [dgs_a1 (u := u) (by omega) (by omega), dgs_a0 (u := v) (by omega)]; rfl
  by_cases c2 : u < 100
  · rw [dgs_a2 (u := u) (by omega) (by omega), dgs_a1 (u := v) (by omega) (by omega)]; rfl
  by_cases c3 : u < 1000
  · rw [dgs_a3 (u := u) (by omega) (by omega), dgs_a2 (u := v) (by omega) (by omega)]; rfl
  by_cases c4 : u < 10000
  · rw [dgs_a4 (u := u) (by omega) (by omega), dgs_a3 (u := v) (by omega) (by omega)]; rfl
  by_cases c5 : u < 100000
  · rw [dgs_a5 (u := u) (by omega) (by omega), dgs_a4 (u := v) (by omega) (by omega)]; rfl
  by_cases c6 : u < 1000000
  · rw [dgs_a6 (u := u) (by omega) (by omega), dgs_a5 (u := v) (by omega) (by omega)]; rfl
  by_cases c7 : u < 10000000
  · rw [dgs_a7 (u := u) (by omega) (by omega), dgs_a6 (u := v) (by omega) (by omega)]; rfl
  by_cases c8 : u < 100000000
  · rw [dgs_a8 (u := u) (by omega) (by omega), dgs_a7 (u := v) (by omega) (by omega)]; rfl
  by_cases c9 : u < 1000000000
  · rw [dgs_a9 (u := u) (by omega) (by omega), dgs_a8 (u := v) (by omega) (by omega)]; rfl
  rw [dgs_a10 (u := u) (by omega) (by omega), dgs_a9 (u := v) (by omega) (by omega)]; rfl
/-- the pile behind k - P steps -/
def DPi (o : Nat → Int) (P k n : Int) : Prop := n = dep o P.toNat (k - P).toNat
theorem DPi_0 {o : Nat → Int} {P : Int} : DPi o P P 0 := by
  unfold DPi
  rw [show (P - P).toNat = 0 by omega]; rfl
theorem DPi_rng {o : Nat → Int} {P b st fr mn k n : Int} (h : DPi o P k n) (hs : SegP 0 b st o fr mn) (hP : P = 1500 * b + fr) (h0 : P ≤ k) (h1 : k ≤ P + mn) : 0 ≤ n ∧ n ≤ 16 := by
  subst hP
  obtain ⟨s1, s2, s3, s4⟩ := hs rfl
  unfold DPi at h
  rw [h]
  exact dep_range _ (fun i hi => s4 i (by omega))
theorem DPi_can {o : Nat → Int} {P b st fr mn k n : Int} (h : DPi o P k n) (hs : SegP 0 b st o fr mn) (hP : P = 1500 * b + fr) (hb : 0 ≤ b) (h0 : P ≤ k) (h1 : k < P + mn) : canOp (o k.toNat) n := by
  subst hP
  obtain ⟨s1, s2, s3, s4⟩ := hs rfl
  have := s4 (k - (1500 * b + fr)).toNat (by omega)
  unfold DPi at h
  rw [show (1500 * b + fr).toNat + (k - (1500 * b + fr)).toNat = k.toNat by omega, ← h] at this
  exact this
theorem DPi_step {o : Nat → Int} {P k n d : Int} (h : DPi o P k n) (hP : 0 ≤ P) (h0 : P ≤ k) (hd : d = dl (o k.toNat)) : DPi o P (k + 1) (n + d) := by
  unfold DPi at h ⊢
  rw [show (k + 1 - P).toNat = (k - P).toNat + 1 by omega]
  show n + d = dep o P.toNat (k - P).toNat + dl (o (P.toNat + (k - P).toNat))
  rw [← h, hd, show P.toNat + (k - P).toNat = k.toNat by omega]
theorem DPi_push {o : Nat → Int} {P k n : Int} (h : DPi o P k n) (hP : 0 ≤ P) (h0 : P ≤ k) (ho : o k.toNat = 110 ∨ o k.toNat = 118 ∨ o k.toNat = 97 ∨ o k.toNat = 98) : DPi o P (k + 1) (n + 1) := DPi_step h hP h0 (dl_push ho).symm
theorem DPi_not {o : Nat → Int} {P k n : Int} (h : DPi o P k n) (hP : 0 ≤ P) (h0 : P ≤ k) (ho : o k.toNat = 126) : DPi o P (k + 1) n := by
  have := DPi_step h hP h0 (dl_not ho).symm
  rw [show n + 0 = n by omega] at this
  exact this
theorem DPi_bin {o : Nat → Int} {P k n : Int} (h : DPi o P k n) (hP : 0 ≤ P) (h0 : P ≤ k) (h1 : ¬ (o k.toNat = 110 ∨ o k.toNat = 118 ∨ o k.toNat = 97 ∨ o k.toNat = 98)) (h2 : o k.toNat ≠ 126) : DPi o P (k + 1) (n + -1) := DPi_step h hP h0 (dl_bin h1 h2).symm
/-- a use that is asked at a member (or a star) -/
def okA (rl : Int) (oR oA : Nat → Int) (m o : Int) : Prop := (m < 0 → (oR o.toNat = 7 ∧ AG oA (4 * o) 2) ∨ (oR o.toNat = 8 ∧ AG oA (4 * o) 3)) ∧ (0 ≤ m → 1 ≤ oR o.toNat ∧ oR o.toNat ≠ 2 ∧ oR o.toNat ≠ 7 ∧ oR o.toNat ≠ 8 ∧ (oR o.toNat ≤ 8 ∨ (100 ≤ oR o.toNat ∧ oR o.toNat < 100 + rl)))
theorem okA_of {b rl l i m o : Int} {oM oR oA bT : Nat → Int} (h : OI b rl oM oR oA bT) (l0 : 0 ≤ l) (l1 : l < 216) (i0 : 0 ≤ i) (i1 : i < oM l.toNat) (ho : o = 40 * l + i) (hm : m < 0 → 200 ≤ l) (hm2 : 0 ≤ m → l < 200) (h2 : oR o.toNat ≠ 2) : okA rl oR oA m o := by
  subst ho
  obtain ⟨a1, a2, a3, a4⟩ := h l l0 l1 i i0 i1
  refine ⟨fun q => a4 (hm q), fun q => ?_⟩
  obtain ⟨c1, c2, -⟩ := a3 (hm2 q)
  exact ⟨a1, h2, c1, c2, a2⟩
/-- how many papers are met -/
def cn1 (r : Nat → Int) : Nat → Int
  | 0 => 0
  | n + 1 => cn1 r n + (if r n = 1 then 1 else 0)
theorem cn1_rng (r : Nat → Int) : ∀ n, 0 ≤ cn1 r n ∧ cn1 r n ≤ n
  | 0 => ⟨Int.le_refl 0, Int.le_refl 0⟩
  | n + 1 => by
    have := cn1_rng r n
    show 0 ≤ cn1 r n + (if r n = 1 then 1 else 0) ∧ cn1 r n + (if r n = 1 then 1 else 0) ≤ _
    split <;> omega
theorem cn1_put {r : Nat → Int} {z : Int} (h0 : 0 ≤ z) (hz : r z.toNat ≠ 1) : ∀ n : Nat, (z < (n : Int) → cn1 (wr r z 1) n = cn1 r n + 1) ∧ ((n : Int) ≤ z → cn1 (wr r z 1) n = cn1 r n)
  | 0 => ⟨fun h => absurd h (by omega), fun _ => rfl⟩
  | n + 1 => by
    obtain ⟨i1, i2⟩ := cn1_put h0 hz n
    refine ⟨fun h => ?_, fun h => ?_⟩
    · show cn1 (wr r z 1) n + (if wr r z 1 n = 1 then 1 else 0) = cn1 r n + (if r n = 1 then 1 else 0) + 1
      by_cases e : (n : Int) = z
      · have e' : n = z.toNat := by omega
        rw [i2 (by omega), e', wr_at, if_pos rfl, if_neg hz]
        omega
      · rw [i1 (by omega), wr_ne (by omega)]
        omega
    · show cn1 (wr r z 1) n + (if wr r z 1 n = 1 then 1 else 0) = cn1 r n + (if r n = 1 then 1 else 0)
      rw [i2 (by omega), wr_ne (by omega)]
/-- met papers: as many as frames at least -/
def MEp (d : Int) (r : Nat → Int) : Prop := d ≤ cn1 r 200
theorem MEp_0 {d : Int} {r : Nat → Int} (h : d ≤ 0) : MEp d r := Int.le_trans h (cn1_rng r 200).1
theorem MEp_le {d d' : Int} {r : Nat → Int} (h : MEp d r) (hd : d' ≤ d) : MEp d' r := Int.le_trans hd h
theorem MEp_lt {d z : Int} {r : Nat → Int} (h : MEp d r) (h0 : 0 ≤ z) (h1 : z < 200) (hz : r z.toNat ≠ 1) : d ≤ 199 := by
  have h2 := (cn1_put h0 hz 200).1 (by omega)
  have h3 := cn1_rng (wr r z 1) 200
  unfold MEp at h
  omega
theorem MEp_put {d d' z : Int} {r : Nat → Int} (h : MEp d r) (h0 : 0 ≤ z) (h1 : z < 200) (hz : r z.toNat ≠ 1) (hd : d' ≤ d + 1) : MEp d' (wr r z 1) := by
  have h2 := (cn1_put h0 hz 200).1 (by omega)
  unfold MEp at h ⊢
  omega
/-- the places of the going: not behind the last member -/
def DMp (d b : Int) (dP dM pK kM : Nat → Int) : Prop := ∀ i : Int, 0 ≤ i → i < d → dM i.toNat ≤ kM (16 * b + pK (dP i.toNat).toNat).toNat
theorem DMp_0 {d b : Int} {dP dM pK kM : Nat → Int} (h : d ≤ 0) : DMp d b dP dM pK kM := fun i i0 i1 => absurd i1 (by omega)
theorem DMp_le {d d' b : Int} {dP dM pK kM : Nat → Int} (h : DMp d b dP dM pK kM) (hd : d' ≤ d) : DMp d' b dP dM pK kM := fun i i0 i1 => h i i0 (by omega)
theorem DMp_push {d d' b p : Int} {dP dM pK kM : Nat → Int} (h : DMp d b dP dM pK kM) (h0 : 0 ≤ d) (hd : d' = d + 1) (hM : ∀ j, 0 ≤ kM j) : DMp d' b (wr dP d p) (wr dM d 0) pK kM := by
  subst hd
  intro i i0 i1
  by_cases e : i = d
  · subst e; rw [wr_at, wr_at]; exact hM _
  · rw [wr_ne (by omega), wr_ne (by omega)]; exact h i i0 (by omega)
theorem DMp_inc {d b q m : Int} {dP dM pK kM : Nat → Int} (h : DMp d b dP dM pK kM) (q0 : 0 ≤ q) (hm : m = dM q.toNat + 1) (hn : dM q.toNat ≠ kM (16 * b + pK (dP q.toNat).toNat).toNat) (q1 : q < d) : DMp d b dP (wr dM q m) pK kM := by
  intro i i0 i1
  by_cases e : i = q
  · subst e; rw [wr_at]; have := h i i0 i1; omega
  · rw [wr_ne (by omega)]; exact h i i0 i1
/-- how much is left to go -/
def msd (dM dI : Nat → Int) : Nat → Int
  | 0 => 0
  | n + 1 => msd dM dI n + ((12 - dM n) * 23 + (21 - dI n) + 1)
theorem msd_congr {dM dI dM' dI' : Nat → Int} : ∀ n, (∀ i, i < n → dM' i = dM i ∧ dI' i = dI i) → msd dM' dI' n = msd dM dI n
  | 0, _ => rfl
  | n + 1, h => by
    show msd dM' dI' n + _ = msd dM dI n + _
    rw [msd_congr n (fun i hi => h i (by omega)), (h n (by omega)).1, (h n (by omega)).2]
theorem msd_nn {dM dI : Nat → Int} (h : ∀ i, dM i ≤ 12) (h2 : ∀ i, dI i ≤ 21) : ∀ n, 0 ≤ msd dM dI n
  | 0 => Int.le_refl 0
  | n + 1 => by
    show 0 ≤ msd dM dI n + _
    have := msd_nn h h2 n; have := h n; have := h2 n
    omega
def MSg (dM dI r : Nat → Int) (d : Int) : Int := (200 - cn1 r 200) * 299 + msd dM dI d.toNat
theorem MSg_nn {dM dI r : Nat → Int} {d : Int} (h : ∀ i, dM i ≤ 12) (h2 : ∀ i, dI i ≤ 21) : 0 ≤ MSg dM dI r d := by
  have := msd_nn h h2 d.toNat
  have := cn1_rng r 200
  unfold MSg
  omega
theorem MSg_pop {dM dI r : Nat → Int} {d d' : Int} (h : ∀ i, dM i ≤ 12) (h2 : ∀ i, dI i ≤ 21) (h0 : 1 ≤ d) (hd : d' = d - 1) : MSg dM dI r d' + 1 ≤ MSg dM dI r d := by
  subst hd
  unfold MSg
  rw [show d.toNat = (d - 1).toNat + 1 by omega]
  show _ + msd dM dI (d - 1).toNat + 1 ≤ _ + (msd dM dI (d - 1).toNat + _)
  have := h (d - 1).toNat; have := h2 (d - 1).toNat
  omega
theorem MSg_mem {dM dI r : Nat → Int} {d q m : Int} (h2 : ∀ i, 0 ≤ dI i ∧ dI i ≤ 21) (h0 : 1 ≤ d) (hq : q = d - 1) (hm : m = dM q.toNat + 1) : MSg (wr dM q m) (wr dI q 0) r d + 1 ≤ MSg dM dI r d := by
  subst hq
  unfold MSg
  rw [show d.toNat = (d - 1).toNat + 1 by omega]
  show _ + (msd _ _ (d - 1).toNat + _) + 1 ≤ _ + (msd dM dI (d - 1).toNat + _)
  rw [msd_congr (dM := dM) (dI := dI) (d - 1).toNat (fun i hi => ⟨wr_ne (by omega), wr_ne (by omega)⟩), wr_at, wr_at, hm]
  have := h2 (d - 1).toNat
  omega
theorem MSg_item {dM dI r : Nat → Int} {d q m : Int} (h0 : 1 ≤ d) (hq : q = d - 1) (hm : m = dI q.toNat + 1) : MSg dM (wr dI q m) r d + 1 ≤ MSg dM dI r d := by
  subst hq
  unfold MSg
  rw [show d.toNat = (d - 1).toNat + 1 by omega]
  show _ + (msd _ _ (d - 1).toNat + _) + 1 ≤ _ + (msd dM dI (d - 1).toNat + _)
  rw [msd_congr (dM := dM) (dI := dI) (d - 1).toNat (fun i hi => ⟨rfl, wr_ne (by omega)⟩), wr_at, hm]
  omega
theorem MSg_push {dM dI r : Nat → Int} {d d' z : Int} (h0 : 0 ≤ d) (hd : d' = d + 1) (hz0 : 0 ≤ z) (hz1 : z < 200) (hz : r z.toNat ≠ 1) : MSg (wr dM d 0) (wr dI d 0) (wr r z 1) d' + 1 ≤ MSg dM dI r d := by
  subst hd
  have h2 := (cn1_put hz0 hz 200).1 (by omega)
  unfold MSg
  rw [show (d + 1).toNat = d.toNat + 1 by omega]
  show (200 - cn1 (wr r z 1) 200) * 299 + (msd _ _ d.toNat + ((12 - wr dM d 0 d.toNat) * 23 + (21 - wr dI d 0 d.toNat) + 1)) + 1 ≤ _
  rw [msd_congr (dM := dM) (dI := dI) d.toNat (fun i hi => ⟨wr_ne (by omega), wr_ne (by omega)⟩), wr_at, wr_at, h2]
  omega
theorem MSg_le {dM dI r : Nat → Int} {d : Int} (h : d ≤ 0) : MSg dM dI r d ≤ 59800 := by
  have := cn1_rng r 200
  unfold MSg
  rw [show d.toNat = 0 by omega]
  show _ + 0 ≤ _
  omega
def FHp (h m : Nat → Int) : Prop := ∀ j : Nat, h j = 1 → 0 ≤ m j
theorem FHp_put {h m : Nat → Int} {z v w : Int} (k : FHp h m) (hw : w = 1 → 0 ≤ v) : FHp (wr h z w) (wr m z v) := by
  intro j hj
  by_cases e : j = z.toNat
  · subst e; rw [wr_at] at hj ⊢; exact hw hj
  · rw [wr_ne e] at hj ⊢; exact k j hj
def SDp (s u b : Int) : Prop := s + dgs u ≤ b
theorem SDp_0 {s u b : Int} (h : s + 10 ≤ b) : SDp s u b := by
  have := dgs_rng u
  unfold SDp; omega
theorem SDp_div {s s' u v b : Int} (h : SDp s u b) (h1 : 1 ≤ u) (h2 : u ≤ 2147483648) (hv : v = u / 10) (hs : s' = s + 1) : SDp s' v b := by
  have := dgs_div h1 h2 hv
  unfold SDp at h ⊢; omega
theorem SDp_end {s u b : Int} (h : SDp s u b) : s ≤ b := by
  have := dgs_rng u
  unfold SDp at h; omega
def IZp (n : Int) (r : Nat → Int) : Prop := ∀ x : Int, 0 ≤ x → x < n → r x.toNat = 0
theorem IZp_0 {n : Int} {r : Nat → Int} (h : n ≤ 0) : IZp n r := fun x x0 x1 => absurd x1 (by omega)
theorem IZp_push {n v : Int} {r : Nat → Int} (h : IZp n r) (hn : 0 ≤ n) (hv : v = 0) : IZp (n + 1) (wr r n v) := fun x x0 x1 => by
  by_cases e : x = n
  · subst e; rw [wr_at]; exact hv
  · rw [wr_ne (by omega)]; exact h x x0 (by omega)
