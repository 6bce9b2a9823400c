/-- the strings of uses lie within the texts -/
def TXI (x z : Nat → Int) : Prop := ∀ j : Nat, z j ≤ 0 ∨ x j + z j ≤ 6000
theorem TXI_neg {x z : Nat → Int} {u v : Int} (h : TXI x z) (hv : v ≤ 0) : TXI x (wr z u v) := by
  intro j
  by_cases e : j = u.toNat
  · subst e; rw [wr_at]; exact Or.inl hv
  · rw [wr_ne e]; exact h j
theorem TXI_put {x z : Nat → Int} {u v w : Int} (h : TXI x z) (hv : v + w ≤ 6000) : TXI (wr x u v) (wr z u w) := by
  intro j
  by_cases e : j = u.toNat
  · subst e; rw [wr_at, wr_at]; exact Or.inr hv
  · rw [wr_ne e, wr_ne e]; exact h j
/-- every use of this half has asked for what it names -/
def UTI (k b us n : Int) (r a : Nat → Int) : Prop := k = 0 → ∀ u : Int, 1600 * b ≤ u → u < 1600 * b + us → ∃ j : Nat, (j : Int) < n ∧ r j = 5 ∧ a j = u
theorem UTI_bad {k b us n : Int} {r a : Nat → Int} (h : k ≠ 0) : UTI k b us n r a := fun e => absurd e h
theorem UTI_0 {k b us n : Int} {r a : Nat → Int} (h : us ≤ 0) : UTI k b us n r a := fun _ u u0 u1 => absurd u1 (by omega)
theorem UTI_st {k k' b us us' n n' : Int} {r a r' a' : Nat → Int} (hp : APe n r a r' a') (h : UTI k b us n r a) (hk : k' = 0 → k = 0) (e : us' = us) (hn : n ≤ n') : UTI k' b us' n' r' a' := by
  subst e
  intro e0 u u0 u1
  obtain ⟨j, j0, j1, j2⟩ := h (hk e0) u u0 u1
  obtain ⟨e1, e2⟩ := hp j j0
  exact ⟨j, by omega, by rw [e1]; exact j1, by rw [e2]; exact j2⟩
theorem UTI_same {k k' b us us' n n' : Int} {r a : Nat → Int} (h : UTI k b us n r a) (hk : k' = 0 → k = 0) (e : us' = us) (hn : n ≤ n') : UTI k' b us' n' r a := UTI_st APe_rfl h hk e hn
theorem UTI_ask {k k' b us us' n n' : Int} {r a r' a' : Nat → Int} (hp : APe n r a r' a') (h : UTI k b us n r a) (hk : k' = 0 → k = 0) (e : us' = us + 1) (h0 : 0 ≤ n) (hn : k' = 0 → n' = n + 1 ∧ r' n.toNat = 5 ∧ a' n.toNat = 1600 * b + us) : UTI k' b us' n' r' a' := by
  subst e
  intro e0 u u0 u1
  obtain ⟨hn1, h1, h2⟩ := hn e0
  by_cases e : u = 1600 * b + us
  · subst e; exact ⟨n.toNat, by omega, h1, h2⟩
  · obtain ⟨j, j0, j1, j2⟩ := h (hk e0) u u0 (by omega)
    obtain ⟨e1, e2⟩ := hp j j0
    exact ⟨j, by omega, by rw [e1]; exact j1, by rw [e2]; exact j2⟩
/-- only one place of a row has changed -/
def Fr1 (a a' : Nat → Int) (z : Int) : Prop := ∀ j : Nat, j ≠ z.toNat → a' j = a j
theorem Fr1_rfl {a : Nat → Int} {z : Int} : Fr1 a a z := fun _ _ => rfl
theorem Fr1_wr {a a' : Nat → Int} {z y v : Int} (h : Fr1 a a' z) (e : y = z) : Fr1 a (wr a' y v) z := by
  subst e; exact fun j hj => (wr_ne hj).trans (h j hj)
theorem Fr1_tr {a a' a2 : Nat → Int} {z : Int} (h1 : Fr1 a' a2 z) (h : Fr1 a a' z) : Fr1 a a2 z := fun j hj => (h1 j hj).trans (h j hj)
theorem Fr1_eq {a a' : Nat → Int} {z y : Int} (h : Fr1 a a' y) (e : y = z) : Fr1 a a' z := by subst e; exact h
/-- what a step does to the pile -/
def dl (op : Int) : Int := if op = 110 ∨ op = 118 ∨ op = 97 ∨ op = 98 then 1 else if op = 126 then 0 else -1
theorem dl_push {op : Int} (h : op = 110 ∨ op = 118 ∨ op = 97 ∨ op = 98) : dl op = 1 := if_pos h
theorem dl_not {op : Int} (h : op = 126) : dl op = 0 := by subst h; rfl
theorem dl_bin {op : Int} (h : ¬ (op = 110 ∨ op = 118 ∨ op = 97 ∨ op = 98)) (h2 : op ≠ 126) : dl op = -1 := by
  unfold dl; rw [if_neg h, if_neg h2]
def canOp (op d : Int) : Prop := ((op = 110 ∨ op = 118 ∨ op = 97 ∨ op = 98) → d < 16) ∧ (op = 126 → 0 < d) ∧ (¬ (op = 110 ∨ op = 118 ∨ op = 97 ∨ op = 98) → op ≠ 126 → 1 < d)
def dep (o : Nat → Int) (p : Nat) : Nat → Int
  | 0 => 0
  | n + 1 => dep o p n + dl (o (p + n))
def stpO (o : Nat → Int) (p n : Nat) : Prop := ∀ i, i < n → canOp (o (p + i)) (dep o p i)
theorem dep_congr {o o' : Nat → Int} {p : Nat} : ∀ n, (∀ i, i < n → o' (p + i) = o (p + i)) → dep o' p n = dep o p n
  | 0, _ => rfl
  | n + 1, h => by
    show dep o' p n + dl (o' (p + n)) = dep o p n + dl (o (p + n))
    rw [dep_congr n (fun i hi => h i (by omega)), h n (by omega)]
theorem stpO_congr {o o' : Nat → Int} {p n : Nat} (h : ∀ i, i < n → o' (p + i) = o (p + i)) (k : stpO o p n) : stpO o' p n := by
  intro i hi
  rw [h i hi, dep_congr i (fun j hj => h j (by omega))]
  exact k i hi
theorem dep_range {o : Nat → Int} {p : Nat} : ∀ n, stpO o p n → 0 ≤ dep o p n ∧ dep o p n ≤ 16
  | 0, _ => ⟨by show (0 : Int) ≤ 0; omega, by show (0 : Int) ≤ 16; omega⟩
  | n + 1, h => by
    have h1 := dep_range n (fun i hi => h i (by omega))
    obtain ⟨c1, c2, c3⟩ := h n (by omega)
    show 0 ≤ dep o p n + dl (o (p + n)) ∧ dep o p n + dl (o (p + n)) ≤ 16
    by_cases e : o (p + n) = 110 ∨ o (p + n) = 118 ∨ o (p + n) = 97 ∨ o (p + n) = 98
    · rw [dl_push e]; have := c1 e; omega
    · by_cases e2 : o (p + n) = 126
      · rw [dl_not e2]; have := c2 e2; omega
      · rw [dl_bin e e2]; have := c3 e e2; omega
theorem dep_wr {o : Nat → Int} {b v : Int} {p n : Nat} (hb : b.toNat = p + n) : dep (wr o b v) p (n + 1) = dep o p n + dl v := by
  show dep (wr o b v) p n + dl (wr o b v (p + n)) = _
  rw [dep_congr n (fun i hi => wr_ne (by omega)), ← hb, wr_at]
theorem stpO_wr {o : Nat → Int} {b v : Int} {p n : Nat} (hb : b.toNat = p + n) (h : stpO o p n) (hc : canOp v (dep o p n)) : stpO (wr o b v) p (n + 1) := by
  intro i hi
  by_cases e : i = n
  · subst e
    rw [dep_congr i (fun j hj => wr_ne (by omega)), ← hb, wr_at]
    exact hc
  · rw [wr_ne (by omega), dep_congr i (fun j hj => wr_ne (by omega))]
    exact h i (by omega)
/-- steps are written behind those that stand, in this half -/
def FrS (b st : Int) (o o' : Nat → Int) : Prop := ∀ j : Nat, ((j : Int) < 1500 * b + st ∨ 1500 * b + 1500 ≤ (j : Int)) → o' j = o j
theorem FrS_rfl {b st : Int} {o : Nat → Int} : FrS b st o o := fun _ _ => rfl
theorem FrS_wr {b st z v : Int} {o o' : Nat → Int} (h : FrS b st o o') (h1 : 1500 * b + st ≤ z) (h2 : z < 1500 * b + 1500) (h3 : 0 ≤ z) : FrS b st o (wr o' z v) := fun j hj => (wr_ne (by omega)).trans (h j hj)
theorem FrS_tr {b st st' : Int} {o o' o2 : Nat → Int} (h1 : FrS b st' o' o2) (h : FrS b st o o') (h2 : st ≤ st') : FrS b st o o2 := fun j hj => (h1 j (by omega)).trans (h j hj)
theorem FrS_stpO {b st : Int} {o o' : Nat → Int} {p n : Nat} (h : FrS b st o o') (hp : (p : Int) + n ≤ 1500 * b + st) (k : stpO o p n) : stpO o' p n := stpO_congr (fun i hi => h (p + i) (Or.inl (by omega))) k
/-- where the walk through steps stands -/
def SpI (o : Nat → Int) (b st0 st pile : Int) : Prop := pile = dep o (1500 * b + st0).toNat (st - st0).toNat ∧ stpO o (1500 * b + st0).toNat (st - st0).toNat
theorem SpI_0 {o : Nat → Int} {b st : Int} : SpI o b st st 0 := by
  unfold SpI
  rw [show (st - st).toNat = 0 by omega]
  exact ⟨rfl, fun i hi => absurd hi (Nat.not_lt_zero i)⟩
theorem SpI_push {o : Nat → Int} {b st0 st pile op d : Int} (h : SpI o b st0 st pile) (hb : 0 ≤ b) (h0 : 0 ≤ st0) (h1 : st0 ≤ st) (hc : canOp op pile) (hd : d = dl op) : SpI (wr o (1500 * b + st) op) b st0 (st + 1) (pile + d) := by
  obtain ⟨e, k⟩ := h
  unfold SpI
  rw [show (st + 1 - st0).toNat = (st - st0).toNat + 1 by omega]
  have hb2 : (1500 * b + st).toNat = (1500 * b + st0).toNat + (st - st0).toNat := by omega
  rw [dep_wr hb2, ← e, hd]
  exact ⟨rfl, stpO_wr hb2 k (by rw [← e]; exact hc)⟩
/-- a rule's steps lie among those that stand, and come out -/
def SegP (k b st : Int) (o : Nat → Int) (fr mn : Int) : Prop := k = 0 → 0 ≤ fr ∧ 0 ≤ mn ∧ fr + mn ≤ st ∧ stpO o (1500 * b + fr).toNat mn.toNat
theorem SegP_bad {k b st fr mn : Int} {o : Nat → Int} (h : k ≠ 0) : SegP k b st o fr mn := fun e => absurd e h
theorem SegP_0 {k b st fr mn : Int} {o : Nat → Int} (e : mn = 0) (h0 : 0 ≤ fr) (h1 : fr ≤ st) : SegP k b st o fr mn := by
  subst e
  exact fun _ => ⟨h0, by omega, by omega, fun i hi => absurd hi (Nat.not_lt_zero i)⟩
theorem SegP_mono {k k' b st st' fr mn : Int} {o o' : Nat → Int} (hf : FrS b st o o') (h : SegP k b st o fr mn) (hk : k' = 0 → k = 0) (hs : st ≤ st') (hb : 0 ≤ b) : SegP k' b st' o' fr mn := fun e => by
  obtain ⟨h1, h2, h3, h4⟩ := h (hk e)
  exact ⟨h1, h2, by omega, FrS_stpO hf (by omega) h4⟩
theorem SegP_same {k k' b st st' fr mn : Int} {o : Nat → Int} (h : SegP k b st o fr mn) (hk : k' = 0 → k = 0) (hs : st ≤ st') (hb : 0 ≤ b) : SegP k' b st' o fr mn := SegP_mono FrS_rfl h hk hs hb
theorem SegP_eq {k b st fr mn fr' mn' : Int} {o : Nat → Int} (h : SegP k b st o fr mn) (e1 : fr' = fr) (e2 : mn' = mn) : SegP k b st o fr' mn' := by subst e1 e2; exact h
def RWp (k b n st : Int) (r1 m1 r2 m2 o : Nat → Int) : Prop := k = 0 → ∀ q : Int, 0 ≤ q → q < n → SegP 0 b st o (r1 (16 * b + q).toNat) (m1 (16 * b + q).toNat) ∧ SegP 0 b st o (r2 (16 * b + q).toNat) (m2 (16 * b + q).toNat)
theorem RWp_bad {k b n st : Int} {r1 m1 r2 m2 o : Nat → Int} (h : k ≠ 0) : RWp k b n st r1 m1 r2 m2 o := fun e => absurd e h
theorem RWp_0 {k b n st : Int} {r1 m1 r2 m2 o : Nat → Int} (h : n ≤ 0) : RWp k b n st r1 m1 r2 m2 o := fun _ q q0 q1 => absurd q1 (by omega)
theorem RWp_same {k k' b n n' st st' : Int} {r1 m1 r2 m2 o : Nat → Int} (h : RWp k b n st r1 m1 r2 m2 o) (hk : k' = 0 → k = 0) (hn : n' ≤ n) (hs : st ≤ st') (hb : 0 ≤ b) : RWp k' b n' st' r1 m1 r2 m2 o := fun e q q0 q1 => by
  obtain ⟨k1, k2⟩ := h (hk e) q q0 (by omega)
  exact ⟨SegP_same k1 (fun e => e) hs hb, SegP_same k2 (fun e => e) hs hb⟩
theorem RWp_push {k k' b n n' st st' : Int} {r1 m1 r2 m2 o r1' m1' r2' m2' o' : Nat → Int} (hf : FrS b st o o') (f1 : Fr1 r1 r1' (16 * b + n)) (f2 : Fr1 m1 m1' (16 * b + n)) (f3 : Fr1 r2 r2' (16 * b + n)) (f4 : Fr1 m2 m2' (16 * b + n)) (h : RWp k b n st r1 m1 r2 m2 o)
    (g1 : SegP k' b st' o' (r1' (16 * b + n).toNat) (m1' (16 * b + n).toNat)) (g2 : SegP k' b st' o' (r2' (16 * b + n).toNat) (m2' (16 * b + n).toNat)) (hk : k' = 0 → k = 0) (he : k' = 0 → n' = n + 1) (hs : st ≤ st') (hb : 0 ≤ b) (hn : 0 ≤ n) : RWp k' b n' st' r1' m1' r2' m2' o' := by
  intro e0 q h0 h1
  have hq := he e0
  by_cases e : q = n
  · subst e; exact ⟨fun _ => g1 e0, fun _ => g2 e0⟩
  · have hne : (16 * b + q).toNat ≠ (16 * b + n).toNat := by omega
    rw [f1 _ hne, f2 _ hne, f3 _ hne, f4 _ hne]
    obtain ⟨k1, k2⟩ := h (hk e0) q h0 (by omega)
    exact ⟨SegP_mono hf k1 (fun e => e) hs hb, SegP_mono hf k2 (fun e => e) hs hb⟩
/-- rules of one half stay when only the other half is written -/
theorem RWp_other {b b' n st st2 : Int} {r1 m1 r2 m2 o r1' m1' r2' m2' o' : Nat → Int} (h : RWp 0 b' n st r1 m1 r2 m2 o) (hst : st ≤ 1500) (hn : n ≤ 16) (h0 : 0 ≤ b') (hb0 : 0 ≤ b) (hbb : b' ≠ b) (hs2 : 0 ≤ st2) (hf : FrS b st2 o o')
    (f : ∀ j : Nat, ((j : Int) < 16 * b ∨ 16 * b + 16 ≤ (j : Int)) → r1' j = r1 j ∧ m1' j = m1 j ∧ r2' j = r2 j ∧ m2' j = m2 j) : RWp 0 b' n st r1' m1' r2' m2' o' := by
  intro _ q hq0 hq1
  obtain ⟨e1, e2, e3, e4⟩ := f (16 * b' + q).toNat (by omega)
  rw [e1, e2, e3, e4]
  obtain ⟨k1, k2⟩ := h rfl q hq0 hq1
  have tr : ∀ fr mn, SegP 0 b' st o fr mn → SegP 0 b' st o' fr mn := fun fr mn k e => by
    obtain ⟨k1, k2, k3, k4⟩ := k e
    exact ⟨k1, k2, k3, stpO_congr (fun i hi => hf _ (by omega)) k4⟩
  exact ⟨tr _ _ k1, tr _ _ k2⟩
/-- a kind's first n members are among those of this half -/
def KIl (b mem : Int) (kI : Nat → Int) (k n : Int) : Prop := ∀ i : Int, 0 ≤ i → i < n → 200 * b ≤ kI (12 * k + i).toNat ∧ kI (12 * k + i).toNat < 200 * b + mem
theorem KIl_0 {b mem k n : Int} {kI : Nat → Int} (h : n ≤ 0) : KIl b mem kI k n := fun i h0 h1 => absurd h1 (by omega)
theorem KIl_push {b mem k n n' v : Int} {kI : Nat → Int} (h : KIl b mem kI k n) (hn' : n' = n + 1) (hk : 0 ≤ k) (hn : 0 ≤ n) (h1 : 200 * b ≤ v) (h2 : v < 200 * b + mem) : KIl b mem (wr kI (12 * k + n) v) k n' := by
  subst hn'
  intro i i0 i1
  by_cases e : i = n
  · subst e; rw [wr_at]; exact ⟨h1, h2⟩
  · rw [wr_ne (by omega)]; exact h i i0 (by omega)
theorem KIl_mem {b mem mem' k n n' : Int} {kI : Nat → Int} (h : KIl b mem kI k n) (hm : mem ≤ mem') (hn : n' ≤ n) : KIl b mem' kI k n' := fun i i0 i1 => by
  have := h i i0 (by omega); omega
def FrB (k : Int) (a a' : Nat → Int) : Prop := ∀ j : Nat, ((j : Int) < 12 * k ∨ 12 * k + 12 ≤ (j : Int)) → a' j = a j
theorem FrB_rfl {k : Int} {a : Nat → Int} : FrB k a a := fun _ _ => rfl
theorem FrB_wr {k z v : Int} {a a' : Nat → Int} (h : FrB k a a') (h0 : 0 ≤ z) (h1 : 12 * k ≤ z) (h2 : z < 12 * k + 12) : FrB k a (wr a' z v) := fun j hj => (wr_ne (by omega)).trans (h j hj)
theorem FrB_tr {k : Int} {a a' a2 : Nat → Int} (h1 : FrB k a' a2) (h : FrB k a a') : FrB k a a2 := fun j hj => (h1 j hj).trans (h j hj)
theorem FrB_eq {k k' : Int} {a a' : Nat → Int} (h : FrB k a a') (e : k = k') : FrB k' a a' := by subst e; exact h
theorem KIl_fr {b mem k k' n : Int} {a a' : Nat → Int} (h : KIl b mem a k' n) (hf : FrB k a a') (hne : k' ≠ k) (hn : n ≤ 12) (h0 : 0 ≤ k') (hk : 0 ≤ k) : KIl b mem a' k' n := by
  intro i i0 i1
  rw [hf _ (by omega)]
  exact h i i0 i1
/-- the kinds of a half -/
def KIv (k b n mem : Int) (kU kM kO kI : Nat → Int) : Prop := k = 0 → ∀ q : Int, 0 ≤ q → q < n → kU (16 * b + q).toNat < q ∧ kO (16 * b + q).toNat ≤ kM (16 * b + q).toNat ∧ KIl b mem kI (16 * b + q) (kM (16 * b + q).toNat)
theorem KIv_bad {k b n mem : Int} {kU kM kO kI : Nat → Int} (h : k ≠ 0) : KIv k b n mem kU kM kO kI := fun e => absurd e h
theorem KIv_0 {k b n mem : Int} {kU kM kO kI : Nat → Int} (h : n ≤ 0) : KIv k b n mem kU kM kO kI := fun _ q q0 q1 => absurd q1 (by omega)
theorem KIv_same {k k' b n n' mem mem' : Int} {kU kM kO kI : Nat → Int} (h : KIv k b n mem kU kM kO kI) (hk : k' = 0 → k = 0) (hn : n' ≤ n) (hm : mem ≤ mem') : KIv k' b n' mem' kU kM kO kI := fun e q q0 q1 => by
  obtain ⟨a1, a2, a3⟩ := h (hk e) q q0 (by omega)
  exact ⟨a1, a2, KIl_mem a3 hm (by omega)⟩
theorem KIv_push {k k' b n n' mem mem' : Int} {kU kM kO kI kU' kM' kO' kI' : Nat → Int} (f1 : Fr1 kU kU' (16 * b + n)) (f2 : Fr1 kM kM' (16 * b + n)) (f3 : Fr1 kO kO' (16 * b + n)) (f4 : FrB (16 * b + n) kI kI') (h : KIv k b n mem kU kM kO kI) (h12 : ∀ j, kM j ≤ 12)
    (g1 : kU' (16 * b + n).toNat < n) (g2 : kO' (16 * b + n).toNat ≤ kM' (16 * b + n).toNat) (g3 : KIl b mem' kI' (16 * b + n) (kM' (16 * b + n).toNat)) (hk : k' = 0 → k = 0) (he : k' = 0 → n' = n + 1) (hb : 0 ≤ b) (hn : 0 ≤ n) (hm : mem ≤ mem') : KIv k' b n' mem' kU' kM' kO' kI' := by
  intro e0 q q0 q1
  have hq := he e0
  by_cases e : q = n
  · subst e; exact ⟨g1, g2, g3⟩
  · have hne : (16 * b + q).toNat ≠ (16 * b + n).toNat := by omega
    rw [f1 _ hne, f2 _ hne, f3 _ hne]
    obtain ⟨k1, k2, k3⟩ := h (hk e0) q q0 (by omega)
    exact ⟨k1, k2, KIl_mem (KIl_fr k3 f4 (by omega) (h12 _) (by omega) (by omega)) hm (by omega)⟩
/-- of all kinds of both halves -/
def KG (kM kI : Nat → Int) : Prop := ∀ k : Int, 0 ≤ k → k < 32 → KIl (k / 16) 200 kI k (kM k.toNat)
theorem KG_row {kM kM' kI kI' : Nat → Int} {k : Int} (f1 : Fr1 kM kM' k) (f2 : FrB k kI kI') (h : KG kM kI) (h12 : ∀ j, kM j ≤ 12) (g : KIl (k / 16) 200 kI' k (kM' k.toNat)) (hk : 0 ≤ k) : KG kM' kI' := by
  intro q q0 q1
  by_cases e : q = k
  · subst e; exact g
  · rw [f1 _ (by omega)]
    exact KIl_fr (h q q0 q1) f2 e (h12 _) q0 hk
def KU (kU : Nat → Int) : Prop := ∀ k : Int, 0 ≤ k → k < 32 → 1 ≤ k % 16 → kU k.toNat < k % 16
theorem KU_wr {kU kU' : Nat → Int} {k : Int} (f : Fr1 kU kU' k) (h : KU kU) (g : 1 ≤ k % 16 → kU' k.toNat < k % 16) (hk : 0 ≤ k) : KU kU' := by
  intro q q0 q1 q2
  by_cases e : q = k
  · subst e; exact g q2
  · rw [f _ (by omega)]; exact h q q0 q1 q2
/-- every member whose type is a kind's has asked for it -/
def BTI (k b mem : Int) (bT : Nat → Int) (n : Int) (r a : Nat → Int) : Prop := k = 0 → ∀ x : Int, 200 * b ≤ x → x < 200 * b + mem → 2 ≤ bT x.toNat → ∃ j : Nat, (j : Int) < n ∧ r j = 3 ∧ a j = x
theorem BTI_bad {k b mem n : Int} {bT r a : Nat → Int} (h : k ≠ 0) : BTI k b mem bT n r a := fun e => absurd e h
theorem BTI_0 {k b mem n : Int} {bT r a : Nat → Int} (h : mem ≤ 0) : BTI k b mem bT n r a := fun _ x x0 x1 => absurd x1 (by omega)
theorem BTI_st {k k' b mem mem' n n' : Int} {bT r a r' a' : Nat → Int} (hp : APe n r a r' a') (h : BTI k b mem bT n r a) (hk : k' = 0 → k = 0) (e : mem' ≤ mem) (hn : n ≤ n') : BTI k' b mem' bT n' r' a' := by
  intro e0 x x0 x1 x2
  obtain ⟨j, j0, j1, j2⟩ := h (hk e0) x x0 (by omega) x2
  obtain ⟨e1, e2⟩ := hp j j0
  exact ⟨j, by omega, by rw [e1]; exact j1, by rw [e2]; exact j2⟩
theorem BTI_same {k k' b mem mem' n n' : Int} {bT r a : Nat → Int} (h : BTI k b mem bT n r a) (hk : k' = 0 → k = 0) (e : mem' ≤ mem) (hn : n ≤ n') : BTI k' b mem' bT n' r a := BTI_st APe_rfl h hk e hn
theorem BTI_small {k k' b mem mem' n n' v : Int} {bT r a : Nat → Int} (h : BTI k b mem bT n r a) (hk : k' = 0 → k = 0) (e : mem' = mem + 1) (hn : n ≤ n') (hb : 0 ≤ b) (hm : 0 ≤ mem) (hv : v < 2) : BTI k' b mem' (wr bT (200 * b + mem) v) n' r a := by
  subst e
  intro e0 x x0 x1 x2
  by_cases e : x = 200 * b + mem
  · subst e; rw [wr_at] at x2; omega
  · rw [wr_ne (by omega)] at x2
    obtain ⟨j, j0, j1, j2⟩ := h (hk e0) x x0 (by omega) x2
    exact ⟨j, by omega, j1, j2⟩
theorem BTI_ask {k k' b mem mem' n n' v : Int} {bT r a r' a' : Nat → Int} (hp : APe n r a r' a') (h : BTI k b mem bT n r a) (hk : k' = 0 → k = 0) (e : mem' = mem + 1) (hb : 0 ≤ b) (hm : 0 ≤ mem) (hn : 0 ≤ n) (h1 : k' = 0 → n' = n + 1 ∧ r' n.toNat = 3 ∧ a' n.toNat = 200 * b + mem) : BTI k' b mem' (wr bT (200 * b + mem) v) n' r' a' := by
  subst e
  intro e0 x x0 x1 x2
  obtain ⟨z1, z2, z3⟩ := h1 e0
  by_cases e : x = 200 * b + mem
  · subst e; exact ⟨n.toNat, by omega, z2, z3⟩
  · rw [wr_ne (by omega)] at x2
    obtain ⟨j, j0, j1, j2⟩ := h (hk e0) x x0 (by omega) x2
    obtain ⟨e1, e2⟩ := hp j j0
    exact ⟨j, by omega, by rw [e1]; exact j1, by rw [e2]; exact j2⟩
/-- the uses of a kind's star are among those of this half -/
def KSp (b us : Int) (kS : Nat → Int) (k n : Int) : Prop := ∀ i : Int, 0 ≤ i → i < n → 1600 * b ≤ kS (8 * k + i).toNat ∧ kS (8 * k + i).toNat < 1600 * b + us
theorem KSp_0 {b us k n : Int} {kS : Nat → Int} (h : n ≤ 0) : KSp b us kS k n := fun i h0 h1 => absurd h1 (by omega)
theorem KSp_mono {b us us' k n : Int} {kS : Nat → Int} (h : KSp b us kS k n) (hm : us ≤ us') : KSp b us' kS k n := fun i i0 i1 => by
  have := h i i0 i1; omega
theorem KSp_push {b us k n n' v : Int} {kS : Nat → Int} (h : KSp b us kS k n) (hn' : n' = n + 1) (hk : 0 ≤ k) (hn : 0 ≤ n) (h1 : 1600 * b ≤ v) (h2 : v < 1600 * b + us) : KSp b us (wr kS (8 * k + n) v) k n' := by
  subst hn'
  intro i i0 i1
  by_cases e : i = n
  · subst e; rw [wr_at]; exact ⟨h1, h2⟩
  · rw [wr_ne (by omega)]; exact h i i0 (by omega)
def Fr8 (k : Int) (a a' : Nat → Int) : Prop := ∀ j : Nat, ((j : Int) < 8 * k ∨ 8 * k + 8 ≤ (j : Int)) → a' j = a j
theorem Fr8_rfl {k : Int} {a : Nat → Int} : Fr8 k a a := fun _ _ => rfl
theorem Fr8_wr {k z v : Int} {a a' : Nat → Int} (h : Fr8 k a a') (h0 : 0 ≤ z) (h1 : 8 * k ≤ z) (h2 : z < 8 * k + 8) : Fr8 k a (wr a' z v) := fun j hj => (wr_ne (by omega)).trans (h j hj)
theorem Fr8_tr {k : Int} {a a' a2 : Nat → Int} (h1 : Fr8 k a' a2) (h : Fr8 k a a') : Fr8 k a a2 := fun j hj => (h1 j hj).trans (h j hj)
theorem Fr8_eq {k k' : Int} {a a' : Nat → Int} (h : Fr8 k a a') (e : k = k') : Fr8 k' a a' := by subst e; exact h
theorem KSp_fr {b us k k' n : Int} {a a' : Nat → Int} (h : KSp b us a k' n) (hf : Fr8 k a a') (hne : k' ≠ k) (hn : n ≤ 8) (h0 : 0 ≤ k') (hk : 0 ≤ k) : KSp b us a' k' n := by
  intro i i0 i1
  rw [hf _ (by omega)]
  exact h i i0 i1
def KSv (k b n us : Int) (kS kM : Nat → Int) : Prop := k = 0 → ∀ q : Int, 0 ≤ q → q < n → KSp b us kS (16 * b + q) (kM (16 * b + q).toNat)
theorem KSv_bad {k b n us : Int} {kS kM : Nat → Int} (h : k ≠ 0) : KSv k b n us kS kM := fun e => absurd e h
theorem KSv_0 {k b n us : Int} {kS kM : Nat → Int} (h : n ≤ 0) : KSv k b n us kS kM := fun _ q q0 q1 => absurd q1 (by omega)
theorem KSv_same {k k' b n n' us us' : Int} {kS kM : Nat → Int} (h : KSv k b n us kS kM) (hk : k' = 0 → k = 0) (hn : n' ≤ n) (hu : us ≤ us') : KSv k' b n' us' kS kM := fun e q q0 q1 => KSp_mono (h (hk e) q q0 (by omega)) hu
theorem KSv_push {k k' b n n' us us' : Int} {kS kM kS' kM' : Nat → Int} (f1 : Fr8 (16 * b + n) kS kS') (f2 : Fr1 kM kM' (16 * b + n)) (h : KSv k b n us kS kM) (h8 : ∀ j, kM j ≤ 8) (g : KSp b us' kS' (16 * b + n) (kM' (16 * b + n).toNat)) (hk : k' = 0 → k = 0) (he : k' = 0 → n' = n + 1) (hu : us ≤ us') (hb : 0 ≤ b) (hn : 0 ≤ n) : KSv k' b n' us' kS' kM' := by
  intro e0 q q0 q1
  have hq := he e0
  by_cases e : q = n
  · subst e; exact g
  · have hne : (16 * b + q).toNat ≠ (16 * b + n).toNat := by omega
    rw [f2 _ hne]
    exact KSp_mono (KSp_fr (h (hk e0) q q0 (by omega)) f1 (by omega) (h8 _) (by omega) (by omega)) hu
/-- the uses of members are among those of this half -/
def BUp (k b mem us : Int) (bU bM : Nat → Int) : Prop := k = 0 → ∀ x : Int, 200 * b ≤ x → x < 200 * b + mem → 1600 * b ≤ bU x.toNat ∧ bU x.toNat + bM x.toNat ≤ 1600 * b + us
theorem BUp_bad {k b mem us : Int} {bU bM : Nat → Int} (h : k ≠ 0) : BUp k b mem us bU bM := fun e => absurd e h
theorem BUp_0 {k b mem us : Int} {bU bM : Nat → Int} (h : mem ≤ 0) : BUp k b mem us bU bM := fun _ x x0 x1 => absurd x1 (by omega)
theorem BUp_same {k k' b mem mem' us us' : Int} {bU bM : Nat → Int} (h : BUp k b mem us bU bM) (hk : k' = 0 → k = 0) (hm : mem' ≤ mem) (hu : us ≤ us') : BUp k' b mem' us' bU bM := fun e x x0 x1 => by
  have := h (hk e) x x0 (by omega); omega
theorem BUp_push {k k' b mem mem' us us' : Int} {bU bM bU' bM' : Nat → Int} (f1 : Fr1 bU bU' (200 * b + mem)) (f2 : Fr1 bM bM' (200 * b + mem)) (h : BUp k b mem us bU bM) (g : k' = 0 → 1600 * b ≤ bU' (200 * b + mem).toNat ∧ bU' (200 * b + mem).toNat + bM' (200 * b + mem).toNat ≤ 1600 * b + us') (hk : k' = 0 → k = 0) (hm' : k' = 0 → mem' = mem + 1) (hu : us ≤ us') (hb : 0 ≤ b) (hm : 0 ≤ mem) : BUp k' b mem' us' bU' bM' := by
  intro e0 x x0 x1
  have hq := hm' e0
  by_cases e : x = 200 * b + mem
  · subst e; exact g e0
  · have hne : x.toNat ≠ (200 * b + mem).toNat := by omega
    rw [f1 _ hne, f2 _ hne]
    have := h (hk e0) x x0 (by omega)
    omega
/-- the uses of marks are among those of this half -/
def MUp (k b n us : Int) (mU mM : Nat → Int) : Prop := k = 0 → ∀ q : Int, 0 ≤ q → q < n → 1600 * b ≤ mU (16 * b + q).toNat ∧ mU (16 * b + q).toNat + mM (16 * b + q).toNat ≤ 1600 * b + us
theorem MUp_bad {k b n us : Int} {mU mM : Nat → Int} (h : k ≠ 0) : MUp k b n us mU mM := fun e => absurd e h
theorem MUp_0 {k b n us : Int} {mU mM : Nat → Int} (h : n ≤ 0) : MUp k b n us mU mM := fun _ x x0 x1 => absurd x1 (by omega)
theorem MUp_same {k k' b n n' us us' : Int} {mU mM : Nat → Int} (h : MUp k b n us mU mM) (hk : k' = 0 → k = 0) (hn : n' ≤ n) (hu : us ≤ us') : MUp k' b n' us' mU mM := fun e q q0 q1 => by
  have := h (hk e) q q0 (by omega); omega
theorem MUp_push {k k' b n n' us us' : Int} {mU mM mU' mM' : Nat → Int} (f1 : Fr1 mU mU' (16 * b + n)) (f2 : Fr1 mM mM' (16 * b + n)) (h : MUp k b n us mU mM) (g : k' = 0 → mU' (16 * b + n).toNat = 1600 * b + us ∧ mM' (16 * b + n).toNat = us' - us) (hk : k' = 0 → k = 0) (he : k' = 0 → n' = n + 1) (hu : us ≤ us') (hus : 0 ≤ us) (hb : 0 ≤ b) (hn : 0 ≤ n) : MUp k' b n' us' mU' mM' := by
  intro e0 q q0 q1
  have hq := he e0
  by_cases e : q = n
  · subst e; have := g e0; omega
  · have hne : (16 * b + q).toNat ≠ (16 * b + n).toNat := by omega
    rw [f1 _ hne, f2 _ hne]
    have := h (hk e0) q q0 (by omega)
    omega
/-- only one half of a row of w's is written -/
def FrH (w b : Int) (a a' : Nat → Int) : Prop := ∀ j : Nat, ((j : Int) < w * b ∨ w * b + w ≤ (j : Int)) → a' j = a j
theorem FrH_rfl {w b : Int} {a : Nat → Int} : FrH w b a a := fun _ _ => rfl
theorem FrH_1 {w b z : Int} {a a' a2 : Nat → Int} (h1 : Fr1 a' a2 z) (h : FrH w b a a') (z0 : 0 ≤ z) (q0 : w * b ≤ z) (q1 : z < w * b + w) : FrH w b a a2 := fun j hj => (h1 j (by omega)).trans (h j hj)
theorem FrH_tr {w b : Int} {a a' a2 : Nat → Int} (h1 : FrH w b a' a2) (h : FrH w b a a') : FrH w b a a2 := fun j hj => (h1 j hj).trans (h j hj)
theorem FrH_K {b z : Int} {a a' a2 : Nat → Int} (h1 : FrB z a' a2) (h : FrH 192 b a a') (q0 : 16 * b ≤ z) (q1 : z < 16 * b + 16) : FrH 192 b a a2 := fun j hj => (h1 j (by omega)).trans (h j hj)
/-- chains have eight groups at most -/
def CHp (k b n : Int) (cM : Nat → Int) : Prop := k = 0 → ∀ q : Int, 0 ≤ q → q < n → cM (6 * b + q).toNat ≤ 8
theorem CHp_bad {k b n : Int} {cM : Nat → Int} (h : k ≠ 0) : CHp k b n cM := fun e => absurd e h
theorem CHp_0 {k b n : Int} {cM : Nat → Int} (h : n ≤ 0) : CHp k b n cM := fun _ x x0 x1 => absurd x1 (by omega)
theorem CHp_same {k k' b n n' : Int} {cM : Nat → Int} (h : CHp k b n cM) (hk : k' = 0 → k = 0) (hn : n' ≤ n) : CHp k' b n' cM := fun e q q0 q1 => h (hk e) q q0 (by omega)
theorem CHp_push {k k' b n n' : Int} {cM cM' : Nat → Int} (h1 : Fr1 cM cM' (6 * b + n)) (h : CHp k b n cM) (h2 : k' = 0 → cM' (6 * b + n).toNat ≤ 8) (hk : k' = 0 → k = 0) (he : k' = 0 → n' = n + 1) (hb : 0 ≤ b) (hn : 0 ≤ n) : CHp k' b n' cM' := by
  intro e0 q q0 q1
  have hq := he e0
  by_cases e : q = n
  · subst e; exact h2 e0
  · rw [h1 _ (by omega)]; exact h (hk e0) q q0 (by omega)
