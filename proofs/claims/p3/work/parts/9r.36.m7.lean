/-- the first place from i on, of n places, where P holds -/
def fstM (P : Nat → Bool) : Nat → Nat → Int
  | _, 0 => -1
  | i, n + 1 => if P i = true then (i : Int) else fstM P (i + 1) n
theorem fstM_rng (P : Nat → Bool) : ∀ n i : Nat, -1 ≤ fstM P i n ∧ fstM P i n < (i : Int) + n
  | 0, i => ⟨by show (-1 : Int) ≤ -1; omega, by show (-1 : Int) < _; omega⟩
  | n + 1, i => by
    show -1 ≤ (if P i = true then (i : Int) else fstM P (i + 1) n) ∧ (if P i = true then (i : Int) else fstM P (i + 1) n) < _
    have h := fstM_rng P n (i + 1)
    split <;> omega
def mOf (bN : Nat → Int64) (kI : Nat → Int) (k : Int) (v : Int64) (n : Int) : Int := fstM (fun i => decide (bN (kI (12 * k + (i : Int)).toNat).toNat = v)) 0 n.toNat
theorem mOf_rng (bN : Nat → Int64) (kI : Nat → Int) (k : Int) (v : Int64) (n : Int) (h : 0 ≤ n) : -1 ≤ mOf bN kI k v n ∧ mOf bN kI k v n < n := by
  have := fstM_rng (fun i => decide (bN (kI (12 * k + (i : Int)).toNat).toNat = v)) n.toNat 0
  unfold mOf
  omega
def MOi (bN : Nat → Int64) (kI : Nat → Int) (k : Int) (v : Int64) (n i : Int) : Prop := mOf bN kI k v n = fstM (fun i => decide (bN (kI (12 * k + (i : Int)).toNat).toNat = v)) i.toNat (n - i).toNat
theorem MOi_0 {bN : Nat → Int64} {kI : Nat → Int} {k : Int} {v : Int64} {n : Int} : MOi bN kI k v n 0 := by
  unfold MOi mOf
  rw [show (n - 0).toNat = n.toNat by omega]
  rfl
theorem MOi_step {bN : Nat → Int64} {kI : Nat → Int} {k : Int} {v : Int64} {n i : Int} (h : MOi bN kI k v n i) (h0 : 0 ≤ i) (h1 : i < n) (hv : ¬ bN (kI (12 * k + i).toNat).toNat = v) : MOi bN kI k v n (i + 1) := by
  unfold MOi at h ⊢
  rw [h, show (n - i).toNat = (n - (i + 1)).toNat + 1 by omega, show (i + 1).toNat = i.toNat + 1 by omega]
  show (if decide (bN (kI (12 * k + (i.toNat : Int)).toNat).toNat = v) = true then _ else _) = _
  rw [show ((i.toNat : Nat) : Int) = i by omega, if_neg (by simpa using hv)]
theorem MOi_hit {bN : Nat → Int64} {kI : Nat → Int} {k : Int} {v : Int64} {n i : Int} (h : MOi bN kI k v n i) (h0 : 0 ≤ i) (h1 : i < n) (hv : bN (kI (12 * k + i).toNat).toNat = v) : i = mOf bN kI k v n := by
  unfold MOi at h
  rw [h, show (n - i).toNat = (n - (i + 1)).toNat + 1 by omega]
  show i = (if decide (bN (kI (12 * k + (i.toNat : Int)).toNat).toNat = v) = true then ((i.toNat : Nat) : Int) else _)
  rw [show ((i.toNat : Nat) : Int) = i by omega, if_pos (by simpa using hv)]
theorem MOi_end {bN : Nat → Int64} {kI : Nat → Int} {k : Int} {v : Int64} {n i : Int} (h : MOi bN kI k v n i) (h1 : n ≤ i) : -1 = mOf bN kI k v n := by
  unfold MOi at h
  rw [h, show (n - i).toNat = 0 by omega]
  rfl
/-- a member of a type that an arg names -/
def iMem (t : Int) (uN bN : Nat → Int64) (kI kM bT : Nat → Int) (b z kind : Int) : Int :=
  if uN z.toNat = 0 then -1 else
  if 0 ≤ mOf bN kI (16 * b + kind) (uN z.toNat) (kM (16 * b + kind).toNat) ∧ bT (kI (12 * (16 * b + kind) + mOf bN kI (16 * b + kind) (uN z.toNat) (kM (16 * b + kind).toNat)).toNat).toNat = t then mOf bN kI (16 * b + kind) (uN z.toNat) (kM (16 * b + kind).toNat) else -1
theorem iMem_0 {t : Int} {uN bN : Nat → Int64} {kI kM bT : Nat → Int} {b z kind r : Int} (h : uN z.toNat = 0) (hr : r = -1) : r = iMem t uN bN kI kM bT b z kind := by
  unfold iMem; rw [if_pos h]; exact hr
theorem iMem_1 {t : Int} {uN bN : Nat → Int64} {kI kM bT : Nat → Int} {b z kind r : Int} (h : ¬ uN z.toNat = 0) (hm : r = mOf bN kI (16 * b + kind) (uN z.toNat) (kM (16 * b + kind).toNat)) (h0 : 0 ≤ r) (ht : bT (kI (12 * (16 * b + kind) + r).toNat).toNat = t) : r = iMem t uN bN kI kM bT b z kind := by
  unfold iMem; rw [if_neg h, ← hm, if_pos ⟨h0, ht⟩]
theorem iMem_2 {t : Int} {uN bN : Nat → Int64} {kI kM bT : Nat → Int} {b z kind r m : Int} (h : ¬ uN z.toNat = 0) (hm : m = mOf bN kI (16 * b + kind) (uN z.toNat) (kM (16 * b + kind).toNat)) (hn : m < 0 ∨ bT (kI (12 * (16 * b + kind) + m).toNat).toNat ≠ t) (hr : r = -1) : r = iMem t uN bN kI kM bT b z kind := by
  unfold iMem; rw [if_neg h, ← hm, if_neg (fun q => hn.elim (fun z => absurd q.1 (by omega)) (fun z => z q.2))]; exact hr
theorem iMem_rng (t : Int) (uN bN : Nat → Int64) (kI kM bT : Nat → Int) (b z kind : Int) (h : 0 ≤ kM (16 * b + kind).toNat ∧ kM (16 * b + kind).toNat ≤ 12) : -1 ≤ iMem t uN bN kI kM bT b z kind ∧ iMem t uN bN kI kM bT b z kind < kM (16 * b + kind).toNat := by
  have := mOf_rng bN kI (16 * b + kind) (uN z.toNat) (kM (16 * b + kind).toNat) h.1
  unfold iMem
  split
  · omega
  · split <;> omega
theorem iMem_ty {t : Int} {uN bN : Nat → Int64} {kI kM bT : Nat → Int} {b z kind r : Int} (e : r = iMem t uN bN kI kM bT b z kind) (h : 0 ≤ r) : bT (kI (12 * (16 * b + kind) + r).toNat).toNat = t := by
  subst e
  unfold iMem at h ⊢
  split at h
  · omega
  · split at h
    · rename_i h1 h2; rw [if_neg h1, if_pos h2]; exact h2.2
    · omega
/-- what an arg of a held use becomes -/
def argV (uN bN : Nat → Int64) (uA kI kM bT bK : Nat → Int) (b w u kind i : Int) : Int :=
  if w = 7 then iMem 0 uN bN kI kM bT b (4 * u + i) kind
  else if w = 8 then (if i = 0 then iMem 2 uN bN kI kM bT b (4 * u) kind else if i = 1 then iMem 0 uN bN kI kM bT b (4 * u + 1) (bK (kI (12 * (16 * b + kind) + iMem 2 uN bN kI kM bT b (4 * u) kind).toNat).toNat) else iMem 0 uN bN kI kM bT b (4 * u + 2) kind)
  else uA (4 * u + i).toNat
def ARG (uN bN : Nat → Int64) (uA kI kM bT bK : Nat → Int) (b w u kind n : Int) : Prop := (w = 7 ∨ w = 8) → ∀ i : Int, 0 ≤ i → i < n → 0 ≤ argV uN bN uA kI kM bT bK b w u kind i ∧ argV uN bN uA kI kM bT bK b w u kind i ≤ 11
theorem argV_7 {uN bN : Nat → Int64} {uA kI kM bT bK : Nat → Int} {b w u kind i r : Int} (hw : w = 7) (h : r = iMem 0 uN bN kI kM bT b (4 * u + i) kind) : r = argV uN bN uA kI kM bT bK b w u kind i := by
  unfold argV; rw [if_pos hw]; exact h
theorem argV_n {uN bN : Nat → Int64} {uA kI kM bT bK : Nat → Int} {b w u kind i r : Int} (hw : w ≠ 7) (hw2 : w ≠ 8) (h : r = uA (4 * u + i).toNat) : r = argV uN bN uA kI kM bT bK b w u kind i := by
  unfold argV; rw [if_neg hw, if_neg hw2]; exact h
theorem argV_80 {uN bN : Nat → Int64} {uA kI kM bT bK : Nat → Int} {b w u kind i r : Int} (hw : w = 8) (hi : i = 0) (h : r = iMem 2 uN bN kI kM bT b (4 * u) kind) : r = argV uN bN uA kI kM bT bK b w u kind i := by
  unfold argV; rw [if_neg (by omega), if_pos hw, if_pos hi]; exact h
theorem argV_81 {uN bN : Nat → Int64} {uA kI kM bT bK : Nat → Int} {b w u kind i r x y : Int} (hw : w = 8) (hi : i = 1) (hx : x = iMem 2 uN bN kI kM bT b (4 * u) kind) (hy : y = bK (kI (12 * (16 * b + kind) + x).toNat).toNat) (h : r = iMem 0 uN bN kI kM bT b (4 * u + 1) y) : r = argV uN bN uA kI kM bT bK b w u kind i := by
  unfold argV; rw [if_neg (by omega), if_pos hw, if_neg (by omega), if_pos hi, ← hx, ← hy]; exact h
theorem argV_82 {uN bN : Nat → Int64} {uA kI kM bT bK : Nat → Int} {b w u kind i r : Int} (hw : w = 8) (hi : 2 ≤ i) (h : r = iMem 0 uN bN kI kM bT b (4 * u + 2) kind) : r = argV uN bN uA kI kM bT bK b w u kind i := by
  unfold argV; rw [if_neg (by omega), if_pos hw, if_neg (by omega), if_neg (by omega)]; exact h
theorem ARG_n {uN bN : Nat → Int64} {uA kI kM bT bK : Nat → Int} {b w u kind n : Int} (h7 : w ≠ 7) (h8 : w ≠ 8) : ARG uN bN uA kI kM bT bK b w u kind n := fun h => absurd h (by omega)
theorem ARG_7 {uN bN : Nat → Int64} {uA kI kM bT bK : Nat → Int} {b w u kind n x y : Int} (hw : w = 7) (hn : n = 2) (hx : x = iMem 0 uN bN kI kM bT b (4 * u + 0) kind) (hy : y = iMem 0 uN bN kI kM bT b (4 * u + 1) kind) (x0 : 0 ≤ x ∧ x ≤ 11) (y0 : 0 ≤ y ∧ y ≤ 11) : ARG uN bN uA kI kM bT bK b w u kind n := by
  intro _ i i0 i1
  have : i = 0 ∨ i = 1 := by omega
  rcases this with rfl | rfl
  · rw [← argV_7 hw hx]; exact x0
  · rw [← argV_7 hw hy]; exact y0
theorem ARG_8 {uN bN : Nat → Int64} {uA kI kM bT bK : Nat → Int} {b w u kind n x q y z : Int} (hw : w = 8) (hn : n = 3) (hx : x = iMem 2 uN bN kI kM bT b (4 * u) kind) (hq : q = bK (kI (12 * (16 * b + kind) + x).toNat).toNat) (hy : y = iMem 0 uN bN kI kM bT b (4 * u + 1) q) (hz : z = iMem 0 uN bN kI kM bT b (4 * u + 2) kind) (x0 : 0 ≤ x ∧ x ≤ 11) (y0 : 0 ≤ y ∧ y ≤ 11) (z0 : 0 ≤ z ∧ z ≤ 11) : ARG uN bN uA kI kM bT bK b w u kind n := by
  intro _ i i0 i1
  have : i = 0 ∨ i = 1 ∨ i = 2 := by omega
  rcases this with rfl | rfl | rfl
  · rw [← argV_80 hw rfl hx]; exact x0
  · rw [← argV_81 hw rfl hx hq hy]; exact y0
  · rw [← argV_82 hw (by omega) hz]; exact z0
def AG (a : Nat → Int) (z n : Int) : Prop := ∀ j : Int, 0 ≤ j → j < n → 0 ≤ a (z + j).toNat ∧ a (z + j).toNat ≤ 11
def AGc (w : Int) (a : Nat → Int) (z n : Int) : Prop := (w = 7 ∨ w = 8) → AG a z n
theorem AGc_0 {w z n : Int} {a : Nat → Int} (h : n ≤ 0) : AGc w a z n := fun _ j j0 j1 => absurd j1 (by omega)
theorem AGc_push {w z n v : Int} {a : Nat → Int} (h : AGc w a z n) (hv : (w = 7 ∨ w = 8) → 0 ≤ v ∧ v ≤ 11) (hz : 0 ≤ z) (hn : 0 ≤ n) : AGc w (wr a (z + n) v) z (n + 1) := by
  intro hw j j0 j1
  by_cases e : j = n
  · subst e; rw [wr_at]; exact hv hw
  · rw [wr_ne (by omega)]; exact h hw j j0 (by omega)
def okO (b rl : Int) (bT : Nat → Int) (l o : Int) (oR oA : Nat → Int) : Prop :=
  1 ≤ oR o.toNat ∧ (oR o.toNat ≤ 8 ∨ (100 ≤ oR o.toNat ∧ oR o.toNat < 100 + rl)) ∧ (l < 200 → oR o.toNat ≠ 7 ∧ oR o.toNat ≠ 8 ∧ (oR o.toNat = 2 → 2 ≤ bT (200 * b + l).toNat)) ∧ (200 ≤ l → (oR o.toNat = 7 ∧ AG oA (4 * o) 2) ∨ (oR o.toNat = 8 ∧ AG oA (4 * o) 3))
theorem okO_mk {b rl l o w n : Int} {bT oR oA : Nat → Int} (ha : AGc w oA (4 * o) n) (h1 : 1 ≤ w) (h2 : w ≤ 8 ∨ (100 ≤ w ∧ w < 100 + rl)) (h3 : l < 200 → w ≠ 7 ∧ w ≠ 8 ∧ (w = 2 → 2 ≤ bT (200 * b + l).toNat)) (h4 : 200 ≤ l → (w = 7 ∧ n = 2) ∨ (w = 8 ∧ n = 3)) : okO b rl bT l o (wr oR o w) oA := by
  unfold okO
  rw [wr_at]
  refine ⟨h1, h2, h3, fun hl => ?_⟩
  rcases h4 hl with ⟨e, en⟩ | ⟨e, en⟩
  · left; subst en; exact ⟨e, ha (Or.inl e)⟩
  · right; subst en; exact ⟨e, ha (Or.inr e)⟩
/-- the uses that hold -/
def OI (b rl : Int) (oM oR oA bT : Nat → Int) : Prop := ∀ l : Int, 0 ≤ l → l < 216 → ∀ i : Int, 0 ≤ i → i < oM l.toNat → okO b rl bT l (40 * l + i) oR oA
theorem OI_wrR {b rl l0 w : Int} {oM oR oA bT : Nat → Int} (h : OI b rl oM oR oA bT) (hM : ∀ j, 0 ≤ oM j ∧ oM j ≤ 40) (h0 : 0 ≤ l0) (hn : oM l0.toNat ≤ 39) : OI b rl oM (wr oR (40 * l0 + oM l0.toNat) w) oA bT := by
  intro l l1 l2 i i0 i1
  have hl := hM l.toNat; have hl0 := hM l0.toNat
  have hne : (40 * l + i).toNat ≠ (40 * l0 + oM l0.toNat).toNat := by
    intro q
    have : l = l0 := by omega
    subst this
    omega
  have := h l l1 l2 i i0 i1
  unfold okO at this ⊢
  rw [wr_ne hne]
  exact this
theorem OI_wrA {b rl l0 k v : Int} {oM oR oA bT : Nat → Int} (h : OI b rl oM oR oA bT) (hM : ∀ j, 0 ≤ oM j ∧ oM j ≤ 40) (h0 : 0 ≤ l0) (hn : oM l0.toNat ≤ 39) (k0 : 0 ≤ k) (k1 : k < 4) : OI b rl oM oR (wr oA (4 * (40 * l0 + oM l0.toNat) + k) v) bT := by
  intro l l1 l2 i i0 i1
  have hl := hM l.toNat; have hl0 := hM l0.toNat
  have hne : ∀ j : Int, 0 ≤ j → j < 4 → (4 * (40 * l + i) + j).toNat ≠ (4 * (40 * l0 + oM l0.toNat) + k).toNat := by
    intro j j0 j1 q
    have : l = l0 := by omega
    subst this
    omega
  obtain ⟨a1, a2, a3, a4⟩ := h l l1 l2 i i0 i1
  refine ⟨a1, a2, a3, fun q => ?_⟩
  rcases a4 q with ⟨e, g⟩ | ⟨e, g⟩
  · exact Or.inl ⟨e, fun j j0 j1 => by rw [wr_ne (hne j j0 (by omega))]; exact g j j0 j1⟩
  · exact Or.inr ⟨e, fun j j0 j1 => by rw [wr_ne (hne j j0 (by omega))]; exact g j j0 j1⟩
theorem OI_push {b rl l0 : Int} {oM oR oA bT : Nat → Int} (h : OI b rl oM oR oA bT) (h0 : 0 ≤ l0) (ho : okO b rl bT l0 (40 * l0 + oM l0.toNat) oR oA) : OI b rl (wr oM l0 (oM l0.toNat + 1)) oR oA bT := by
  intro l l1 l2 i i0 i1
  by_cases e : l = l0
  · subst e
    rw [wr_at] at i1
    by_cases e2 : i = oM l.toNat
    · subst e2; exact ho
    · exact h l l1 l2 i i0 (by omega)
  · rw [wr_ne (by omega)] at i1
    exact h l l1 l2 i i0 i1
theorem OI_0 {b rl : Int} {oM oR oA bT : Nat → Int} (h : ∀ l : Int, 0 ≤ l → l < 216 → oM l.toNat ≤ 0) : OI b rl oM oR oA bT := fun l l1 l2 i i0 i1 => absurd i1 (by have := h l l1 l2; omega)
/-- marks that come to be within others -/
def StM (b : Int) (uW mU mM : Nat → Int) (x y : Int) : Prop := ∃ j : Int, 0 ≤ j ∧ j < mM (16 * b + x).toNat ∧ uW (mU (16 * b + x).toNat + j).toNat = 200 + y
def PtM (b mk : Int) (uW mU mM : Nat → Int) : Nat → Int → Int → Prop
  | 0, x, y => StM b uW mU mM x y
  | n + 1, x, y => ∃ z : Int, 0 ≤ z ∧ z < mk ∧ StM b uW mU mM x z ∧ PtM b mk uW mU mM n z y
def RcP (b mk T : Int) (uW mU mM rc : Nat → Int) : Prop := ∀ n : Nat, (n : Int) < T → ∀ x y : Int, 0 ≤ x → x < mk → 0 ≤ y → y < mk → PtM b mk uW mU mM n x y → rc (16 * x + y).toNat = 1
def SwP (b mk T m n : Int) (uW mU mM rc : Nat → Int) : Prop := ∀ x y : Int, 0 ≤ x → x < mk → 0 ≤ y → y < mk → (x < m ∨ (x = m ∧ y < n)) → PtM b mk uW mU mM T.toNat x y → rc (16 * x + y).toNat = 1
def LdC (b : Int) (uW mU mM rc : Nat → Int) (x y : Int) : Prop := ∃ j : Int, 0 ≤ j ∧ j < mM (16 * b + x).toNat ∧ 200 ≤ uW (mU (16 * b + x).toNat + j).toNat ∧ (uW (mU (16 * b + x).toNat + j).toNat = 200 + y ∨ rc (16 * (uW (mU (16 * b + x).toNat + j).toNat - 200) + y).toNat = 1)
def LdN (b : Int) (uW mU mM rc : Nat → Int) (x y i : Int) : Prop := ∀ j : Int, 0 ≤ j → j < i → ¬ (200 ≤ uW (mU (16 * b + x).toNat + j).toNat ∧ (uW (mU (16 * b + x).toNat + j).toNat = 200 + y ∨ rc (16 * (uW (mU (16 * b + x).toNat + j).toNat - 200) + y).toNat = 1))
theorem LdN_0 {b x y i : Int} {uW mU mM rc : Nat → Int} (h : i ≤ 0) : LdN b uW mU mM rc x y i := fun j j0 j1 => absurd j1 (by omega)
theorem LdN_step {b x y i w : Int} {uW mU mM rc : Nat → Int} (h : LdN b uW mU mM rc x y i) (hw : w = uW (mU (16 * b + x).toNat + i).toNat) (hn : 200 ≤ w → w - 200 ≠ y ∧ rc (16 * (w - 200) + y).toNat = 0) : LdN b uW mU mM rc x y (i + 1) := by
  intro j j0 j1
  by_cases e : j = i
  · subst e
    rw [← hw]
    rintro ⟨a1, a2⟩
    have := hn a1
    rcases a2 with a2 | a2 <;> omega
  · exact h j j0 (by omega)
theorem LdN_end {b x y i : Int} {uW mU mM rc : Nat → Int} (h : LdN b uW mU mM rc x y i) (hi : mM (16 * b + x).toNat ≤ i) : ¬ LdC b uW mU mM rc x y := by
  rintro ⟨j, j0, j1, j2, j3⟩
  exact h j j0 (by omega) ⟨j2, j3⟩
theorem LdC_of {b mk T x y : Int} {uW mU mM rc : Nat → Int} (h : RcP b mk T uW mU mM rc) (hT : 0 ≤ T) (y0 : 0 ≤ y) (y1 : y < mk) (hp : PtM b mk uW mU mM T.toNat x y) : LdC b uW mU mM rc x y := by
  cases hn : T.toNat with
  | zero =>
    rw [hn] at hp
    obtain ⟨j, j0, j1, j2⟩ := hp
    exact ⟨j, j0, j1, by omega, Or.inl j2⟩
  | succ n =>
    rw [hn] at hp
    obtain ⟨z, z0, z1, ⟨j, j0, j1, j2⟩, hz⟩ := hp
    refine ⟨j, j0, j1, by omega, Or.inr ?_⟩
    rw [j2, show 200 + z - 200 = z by omega]
    exact h n (by omega) z y z0 z1 y0 y1 hz
theorem RcP_0 {b mk T : Int} {uW mU mM rc : Nat → Int} (h : T ≤ 0) : RcP b mk T uW mU mM rc := fun n hn => absurd hn (by omega)
theorem RcP_wr {b mk T z : Int} {uW mU mM rc : Nat → Int} (h : RcP b mk T uW mU mM rc) : RcP b mk T uW mU mM (wr rc z 1) := fun n hn x y x0 x1 y0 y1 hp => by
  by_cases e : (16 * x + y).toNat = z.toNat
  · rw [e, wr_at]
  · rw [wr_ne e]; exact h n hn x y x0 x1 y0 y1 hp
theorem RcP_next {b mk T m n : Int} {uW mU mM rc : Nat → Int} (h : RcP b mk T uW mU mM rc) (g : SwP b mk T m n uW mU mM rc) (hm : mk ≤ m) (hT : 0 ≤ T) : RcP b mk (T + 1) uW mU mM rc := by
  intro k hk x y x0 x1 y0 y1 hp
  by_cases e : (k : Int) < T
  · exact h k e x y x0 x1 y0 y1 hp
  · have : k = T.toNat := by omega
    subst this
    exact g x y x0 x1 y0 y1 (Or.inl (by omega)) hp
theorem SwP_0 {b mk T m n : Int} {uW mU mM rc : Nat → Int} (hm : m ≤ 0) (hn : n ≤ 0) : SwP b mk T m n uW mU mM rc := fun x y x0 x1 y0 y1 h => absurd h (by omega)
theorem SwP_row {b mk T m m' n n' : Int} {uW mU mM rc : Nat → Int} (g : SwP b mk T m n uW mU mM rc) (h : mk ≤ n) (h1 : m' ≤ m + 1) (h2 : n' ≤ 0) : SwP b mk T m' n' uW mU mM rc := fun x y x0 x1 y0 y1 h => g x y x0 x1 y0 y1 (by omega)
theorem SwP_same {b mk T m n m' n' : Int} {uW mU mM rc : Nat → Int} (g : SwP b mk T m n uW mU mM rc) (h1 : m' = m) (h2 : n' ≤ n) : SwP b mk T m' n' uW mU mM rc := fun x y x0 x1 y0 y1 h => g x y x0 x1 y0 y1 (by omega)
theorem SwP_set {b mk T m n : Int} {uW mU mM rc : Nat → Int} (g : SwP b mk T m n uW mU mM rc) : SwP b mk T m (n + 1) uW mU mM (wr rc (16 * m + n) 1) := fun x y x0 x1 y0 y1 h hp => by
  by_cases e : (16 * x + y).toNat = (16 * m + n).toNat
  · rw [e, wr_at]
  · rw [wr_ne e]
    exact g x y x0 x1 y0 y1 (by
      rcases h with h | ⟨h, h'⟩
      · exact Or.inl h
      · refine Or.inr ⟨h, ?_⟩
        subst h
        by_cases e2 : y = n
        · subst e2; exact absurd rfl e
        · omega) hp
theorem SwP_no {b mk T m n : Int} {uW mU mM rc : Nat → Int} (g : SwP b mk T m n uW mU mM rc) (h : RcP b mk T uW mU mM rc) (hT : 0 ≤ T) (hn : ¬ LdC b uW mU mM rc m n) : SwP b mk T m (n + 1) uW mU mM rc := fun x y x0 x1 y0 y1 hx hp => by
  by_cases e : x = m ∧ y = n
  · obtain ⟨rfl, rfl⟩ := e
    exact absurd (LdC_of h hT y0 y1 hp) hn
  · exact g x y x0 x1 y0 y1 (by omega) hp
/-- a mark that comes to be within itself is told so -/
def RGp (b mk : Int) (uW mU mM iR : Nat → Int) : Prop := ∀ n : Nat, n < 16 → ∀ x : Int, 0 ≤ x → x < mk → PtM b mk uW mU mM n x x → iR x.toNat = 1
def RGi (n : Int) (rc iR : Nat → Int) : Prop := ∀ x : Int, 0 ≤ x → x < n → iR x.toNat = rc (17 * x).toNat
theorem RGi_0 {n : Int} {rc iR : Nat → Int} (h : n ≤ 0) : RGi n rc iR := fun x x0 x1 => absurd x1 (by omega)
theorem RGi_push {n v : Int} {rc iR : Nat → Int} (h : RGi n rc iR) (hn : 0 ≤ n) (hv : v = rc (17 * n).toNat) : RGi (n + 1) rc (wr iR n v) := fun x x0 x1 => by
  by_cases e : x = n
  · subst e; rw [wr_at]; exact hv
  · rw [wr_ne (by omega)]; exact h x x0 (by omega)
theorem RGp_of {b mk n T : Int} {uW mU mM rc iR : Nat → Int} (h : RcP b mk T uW mU mM rc) (g : RGi n rc iR) (hn : mk ≤ n) (hT : 16 ≤ T) : RGp b mk uW mU mM iR := fun k hk x x0 x1 hp => by
  rw [g x x0 (by omega)]
  have := h k (by omega) x x x0 x1 x0 x1 hp
  rw [show 17 * x = 16 * x + x by omega]
  exact this
/-- of more values than places two are the same -/
theorem pigeon : ∀ (n : Nat) (f : Nat → Nat), (∀ i, i ≤ n → f i < n) → ∃ i j, i < j ∧ j ≤ n ∧ f i = f j
  | 0, f, h => absurd (h 0 (Nat.le_refl 0)) (Nat.not_lt_zero _)
  | n + 1, f, h => by
    by_cases hd : ∃ i, i < n + 1 ∧ f i = f (n + 1)
    · obtain ⟨i, hi, e⟩ := hd
      exact ⟨i, n + 1, hi, Nat.le_refl _, e⟩
    · have hd' : ∀ i, i < n + 1 → f i ≠ f (n + 1) := fun i hi e => hd ⟨i, hi, e⟩
      obtain ⟨i, j, hij, hj, e⟩ := pigeon n (fun i => if f i < f (n + 1) then f i else f i - 1) (by
        intro i hi
        have h1 := h i (by omega)
        have h2 := h (n + 1) (Nat.le_refl _)
        have h3 := hd' i (by omega)
        show (if f i < f (n + 1) then f i else f i - 1) < n
        split <;> omega)
      refine ⟨i, j, hij, by omega, ?_⟩
      have a1 := hd' i (by omega)
      have a2 := hd' j (by omega)
      have e' : (if f i < f (n + 1) then f i else f i - 1) = (if f j < f (n + 1) then f j else f j - 1) := e
      split at e' <;> split at e' <;> omega
/-- the uses that are being opened -/
def CHN (b us mk : Int) (uW mU mM iR wU wN : Nat → Int) (D : Int) : Prop :=
  (∀ d : Int, 0 ≤ d → d ≤ D → 1600 * b ≤ wU d.toNat ∧ wU d.toNat < 1600 * b + us ∧ (200 ≤ uW (wU d.toNat).toNat → wN d.toNat ≤ mM (16 * b + (uW (wU d.toNat).toNat - 200)).toNat)) ∧
  ∀ d : Int, 0 ≤ d → d < D → 200 ≤ uW (wU d.toNat).toNat ∧ iR (uW (wU d.toNat).toNat - 200).toNat = 0 ∧ ∃ j : Int, 0 ≤ j ∧ j < mM (16 * b + (uW (wU d.toNat).toNat - 200)).toNat ∧ wU (d + 1).toNat = mU (16 * b + (uW (wU d.toNat).toNat - 200)).toNat + j
theorem CHN_0 {b us mk u : Int} {uW mU mM iR wU wN : Nat → Int} (h1 : 1600 * b ≤ u) (h2 : u < 1600 * b + us) (hM : ∀ j, 0 ≤ mM j) : CHN b us mk uW mU mM iR (wr wU 0 u) (wr wN 0 0) 0 := by
  refine ⟨fun d d0 d1 => ?_, fun d d0 d1 => absurd d1 (by omega)⟩
  have : d = 0 := by omega
  subst this
  rw [show wr wU 0 u (0 : Int).toNat = u from wr_at _ _ _, show wr wN 0 0 (0 : Int).toNat = 0 from wr_at _ _ _]
  exact ⟨h1, h2, fun _ => hM _⟩
theorem CHN_pop {b us mk D D' : Int} {uW mU mM iR wU wN : Nat → Int} (h : CHN b us mk uW mU mM iR wU wN D) (hd : D' ≤ D) : CHN b us mk uW mU mM iR wU wN D' := ⟨fun d d0 d1 => h.1 d d0 (by omega), fun d d0 d1 => h.2 d d0 (by omega)⟩
theorem CHN_push {b us mk D u w m n : Int} {uW mU mM iR wU wN : Nat → Int} (h : CHN b us mk uW mU mM iR wU wN D) (h0 : 0 ≤ D) (hM : ∀ j, 0 ≤ mM j) (hu : u = wU D.toNat) (hw : w = uW u.toNat) (hw2 : 200 ≤ w) (hr : iR (w - 200).toNat = 0) (hm : m = 16 * b + (w - 200)) (hn : n = wN D.toNat) (n0 : 0 ≤ n) (n1 : n ≠ mM m.toNat) (r1 : 1600 * b ≤ mU m.toNat) (r2 : mU m.toNat + mM m.toNat ≤ 1600 * b + us) :
    CHN b us mk uW mU mM iR (wr wU (D + 1) (mU m.toNat + n)) (wr (wr wN D (n + 1)) (D + 1) 0) (D + 1) := by
  subst hu hm hn
  have hD := h.1 D h0 (by omega)
  have hnm : wN D.toNat < mM (16 * b + (w - 200)).toNat := by
    have := hD.2.2 (by rw [← hw]; exact hw2)
    rw [← hw] at this
    omega
  refine ⟨fun d d0 d1 => ?_, fun d d0 d1 => ?_⟩
  · by_cases e : d = D + 1
    · subst e
      rw [wr_at, wr_at]
      exact ⟨by omega, by omega, fun _ => hM _⟩
    · rw [wr_ne (by omega), wr_ne (by omega)]
      by_cases e2 : d = D
      · subst e2
        rw [wr_at]
        refine ⟨hD.1, hD.2.1, fun _ => ?_⟩
        rw [← hw]; omega
      · rw [wr_ne (by omega)]
        exact h.1 d d0 (by omega)
  · by_cases e : d = D
    · subst e
      rw [wr_ne (by omega), wr_at, ← hw]
      exact ⟨hw2, hr, _, n0, hnm, rfl⟩
    · rw [wr_ne (show d.toNat ≠ (D + 1).toNat by omega), wr_ne (show (d + 1).toNat ≠ (D + 1).toNat by omega)]
      exact h.2 d d0 (by omega)
/-- how deep it goes -/
theorem CHN_deep {b us mk rl D w : Int} {uW mU mM iR wU wN : Nat → Int} (h : CHN b us mk uW mU mM iR wU wN D) (hR : RGp b mk uW mU mM iR) (hU : UWu 0 b us rl mk uW) (hmk : mk ≤ 16) (hrl : rl ≤ 16) (hw : w = uW (wU D.toNat).toNat) (hw2 : 200 ≤ w) (hr : iR (w - 200).toNat = 0) : D ≤ 15 := by
  apply Classical.byContradiction
  intro hD
  have hx : ∀ d : Int, 0 ≤ d → d ≤ D → 0 ≤ uW (wU d.toNat).toNat - 200 ∧ uW (wU d.toNat).toNat - 200 < mk ∧ iR (uW (wU d.toNat).toNat - 200).toNat = 0 := by
    intro d d0 d1
    have h1 := h.1 d d0 d1
    have hk := hU rfl _ h1.1 h1.2.1
    unfold okW at hk
    by_cases e : d = D
    · subst e; rw [← hw] at hk ⊢; exact ⟨by omega, by omega, hr⟩
    · have h2 := h.2 d d0 (by omega)
      exact ⟨by omega, by omega, h2.2.1⟩
  obtain ⟨i, j, hij, hj, e⟩ := pigeon 16 (fun i => (uW (wU i).toNat - 200).toNat) (fun i hi => by
    have := hx (i : Int) (by omega) (by omega)
    show (uW (wU i).toNat - 200).toNat < 16
    rw [show ((i : Int)).toNat = i by omega] at this
    omega)
  have e' : (uW (wU i).toNat - 200).toNat = (uW (wU j).toNat - 200).toNat := e
  have hi' := hx (i : Int) (by omega) (by omega)
  have hj' := hx (j : Int) (by omega) (by omega)
  rw [show ((i : Int)).toNat = i by omega] at hi'
  rw [show ((j : Int)).toNat = j by omega] at hj'
  have step : ∀ d : Nat, d < 16 → StM b uW mU mM (uW (wU d).toNat - 200) (uW (wU (d + 1)).toNat - 200) := by
    intro d hd
    obtain ⟨-, -, q, q0, q1, q2⟩ := h.2 (d : Int) (by omega) (by omega)
    rw [show ((d : Int)).toNat = d by omega] at q1 q2
    rw [show ((d : Int) + 1).toNat = d + 1 by omega] at q2
    have hz := hx ((d : Int) + 1) (by omega) (by omega)
    rw [show ((d : Int) + 1).toNat = d + 1 by omega] at hz
    exact ⟨q, q0, q1, by rw [← q2]; omega⟩
  have path : ∀ n a : Nat, a + n + 1 ≤ 16 → PtM b mk uW mU mM n (uW (wU a).toNat - 200) (uW (wU (a + n + 1)).toNat - 200) := by
    intro n
    induction n with
    | zero => intro a ha; exact step a (by omega)
    | succ n ih =>
      intro a ha
      have hz := hx ((a : Int) + 1) (by omega) (by omega)
      rw [show ((a : Int) + 1).toNat = a + 1 by omega] at hz
      refine ⟨uW (wU (a + 1)).toNat - 200, hz.1, hz.2.1, step a (by omega), ?_⟩
      have := ih (a + 1) (by omega)
      rw [show a + 1 + n + 1 = a + (n + 1) + 1 by omega] at this
      exact this
  have hp := path (j - i - 1) i (by omega)
  rw [show i + (j - i - 1) + 1 = j by omega] at hp
  have ee : uW (wU j).toNat - 200 = uW (wU i).toNat - 200 := by omega
  rw [ee] at hp
  have := hR (j - i - 1) (by omega) _ hi'.1 hi'.2.1 hp
  omega
/-- how much is left to open -/
def msz (N : Nat → Int) : Nat → Int
  | 0 => 0
  | n + 1 => msz N n + (9 - N n) * (10 : Int) ^ (17 - n)
theorem msz_congr {N N' : Nat → Int} : ∀ n, (∀ i, i < n → N' i = N i) → msz N' n = msz N n
  | 0, _ => rfl
  | n + 1, h => by
    show msz N' n + (9 - N' n) * _ = msz N n + (9 - N n) * _
    rw [msz_congr n (fun i hi => h i (by omega)), h n (by omega)]
theorem pw_pos (n : Nat) : 0 < (10 : Int) ^ n := by
  induction n with
  | zero => decide
  | succ n ih => rw [Int.pow_succ]; omega
theorem msz_nn {N : Nat → Int} (h : ∀ i, N i ≤ 8) : ∀ n, 0 ≤ msz N n
  | 0 => Int.le_refl 0
  | n + 1 => by
    show 0 ≤ msz N n + (9 - N n) * (10 : Int) ^ (17 - n)
    have h1 := msz_nn h n
    have h2 := Int.mul_pos (show 0 < 9 - N n by have := h n; omega) (pw_pos (17 - n))
    omega
theorem msz_pop {N : Nat → Int} {D D' : Int} (h : ∀ i, N i ≤ 8) (h0 : 0 ≤ D) (hd : D' = D - 1) : msz N (D' + 1).toNat < msz N (D + 1).toNat := by
  subst hd
  rw [show (D + 1).toNat = D.toNat + 1 by omega, show (D - 1 + 1).toNat = D.toNat by omega]
  show msz N D.toNat < msz N D.toNat + (9 - N D.toNat) * _
  have h2 := Int.mul_pos (show 0 < 9 - N D.toNat by have := h D.toNat; omega) (pw_pos (17 - D.toNat))
  omega
theorem msz_push {N : Nat → Int} {D D' n : Int} (h0 : 0 ≤ D) (h1 : D ≤ 15) (hn : n = N D.toNat) (hd : D' = D + 1) : msz (wr (wr N D (n + 1)) D' 0) (D' + 1).toNat < msz N (D + 1).toNat := by
  subst hd
  rw [show (D + 1 + 1).toNat = D.toNat + 1 + 1 by omega, show (D + 1).toNat = D.toNat + 1 by omega]
  show msz _ D.toNat + (9 - wr (wr N D (n + 1)) (D + 1) 0 D.toNat) * _ + (9 - wr (wr N D (n + 1)) (D + 1) 0 (D.toNat + 1)) * _ < msz N D.toNat + (9 - N D.toNat) * _
  rw [msz_congr (N := N) D.toNat (fun i hi => (wr_ne (by omega)).trans (wr_ne (by omega))), wr_ne (show D.toNat ≠ (D + 1).toNat by omega), wr_at, show wr (wr N D (n + 1)) (D + 1) 0 (D.toNat + 1) = 0 from by rw [show D.toNat + 1 = (D + 1).toNat by omega, wr_at], ← hn]
  have e : (10 : Int) ^ (17 - D.toNat) = (10 : Int) ^ (17 - (D.toNat + 1)) * 10 := by
    rw [← Int.pow_succ]; congr 1; omega
  rw [e]
  have hp := pw_pos (17 - (D.toNat + 1))
  generalize (10 : Int) ^ (17 - (D.toNat + 1)) = P at hp ⊢
  have e2 : (9 - (n + 1)) * (P * 10) = (9 - n) * (P * 10) - P * 10 := by
    rw [show 9 - (n + 1) = (9 - n) - 1 by omega, Int.sub_mul, Int.one_mul]
  rw [e2]
  generalize (9 - n) * (P * 10) = Y
  omega
theorem RcP_mono {b mk T T' : Int} {uW mU mM rc : Nat → Int} (h : RcP b mk T uW mU mM rc) (hT : T' ≤ T) : RcP b mk T' uW mU mM rc := fun n hn => h n (by omega)
theorem lt_toNat1 {x : Int} (h : 0 ≤ x) : x < ((Int.toNat (x + 1) : Nat) : Int) := by omega
theorem OI_bT {b b' rl : Int} {oM oR oA bT bT' : Nat → Int} (hf : FrH 200 b' bT bT') (h : OI b rl oM oR oA bT) (hb : b ≠ b') (h0 : 0 ≤ b) : OI b rl oM oR oA bT' := by
  intro l l1 l2 i i0 i1
  obtain ⟨a1, a2, a3, a4⟩ := h l l1 l2 i i0 i1
  refine ⟨a1, a2, fun q => ?_, a4⟩
  obtain ⟨c1, c2, c3⟩ := a3 q
  refine ⟨c1, c2, fun e => ?_⟩
  rw [hf _ (by omega)]
  exact c3 e
theorem OI_rl {b rl rl' : Int} {oM oR oA bT : Nat → Int} (h : OI b rl oM oR oA bT) (hr : rl ≤ rl') : OI b rl' oM oR oA bT := by
  intro l l1 l2 i i0 i1
  obtain ⟨a1, a2, a3, a4⟩ := h l l1 l2 i i0 i1
  exact ⟨a1, by omega, a3, a4⟩
theorem CHp_other {b b' n : Int} {cM cM' : Nat → Int} (hf : FrH 6 b' cM cM') (h : CHp 0 b n cM) (hn : n ≤ 6) (hb : b ≠ b') (h0 : 0 ≤ b) : CHp 0 b n cM' := fun e q q0 q1 => by
  rw [hf _ (by omega)]; exact h e q q0 q1
theorem RWp_oth {b b' n st st2 : Int} {r1 m1 r2 m2 o r1' m1' r2' m2' o' : Nat → Int} (hf : FrS b st2 o o') (f1 : FrH 16 b r1 r1') (f2 : FrH 16 b m1 m1') (f3 : FrH 16 b r2 r2') (f4 : FrH 16 b m2 m2') (h : RWp 0 b' n st r1 m1 r2 m2 o) (hst : st ≤ 1500) (hn : n ≤ 16) (h0 : 0 ≤ b') (hb0 : 0 ≤ b) (hbb : b' ≠ b) (hs2 : 0 ≤ st2) : RWp 0 b' n st r1' m1' r2' m2' o' :=
  RWp_other h hst hn h0 hb0 hbb hs2 hf (fun j hj => ⟨f1 j (by omega), f2 j (by omega), f3 j (by omega), f4 j (by omega)⟩)
/-- how many rules have failed -/
def cn2 (r : Nat → Int) : Nat → Int
  | 0 => 0
  | n + 1 => cn2 r n + (if r n = 2 then 1 else 0)
theorem cn2_rng (r : Nat → Int) : ∀ n, 0 ≤ cn2 r n ∧ cn2 r n ≤ n
  | 0 => ⟨Int.le_refl 0, Int.le_refl 0⟩
  | n + 1 => by
    have := cn2_rng r n
    show 0 ≤ cn2 r n + (if r n = 2 then 1 else 0) ∧ cn2 r n + (if r n = 2 then 1 else 0) ≤ _
    split <;> omega
theorem cn2_put {r : Nat → Int} {z : Int} (h0 : 0 ≤ z) (hz : r z.toNat ≠ 2) : ∀ n : Nat, (z < (n : Int) → cn2 (wr r z 2) n = cn2 r n + 1) ∧ ((n : Int) ≤ z → cn2 (wr r z 2) n = cn2 r n)
  | 0 => ⟨fun h => absurd h (by omega), fun _ => rfl⟩
  | n + 1 => by
    obtain ⟨i1, i2⟩ := cn2_put h0 hz n
    refine ⟨fun h => ?_, fun h => ?_⟩
    · show cn2 (wr r z 2) n + (if wr r z 2 n = 2 then 1 else 0) = cn2 r n + (if r n = 2 then 1 else 0) + 1
      by_cases e : (n : Int) = z
      · have e' : n = z.toNat := by omega
        rw [i2 (by omega), e', wr_at, if_pos rfl, if_neg hz]
        omega
      · rw [i1 (by omega), wr_ne (by omega)]
        omega
    · show cn2 (wr r z 2) n + (if wr r z 2 n = 2 then 1 else 0) = cn2 r n + (if r n = 2 then 1 else 0)
      rw [i2 (by omega), wr_ne (by omega)]
theorem cn2_one {r : Nat → Int} {z v : Int} (hz : r z.toNat ≠ 2) (hv : v ≠ 2) : ∀ n, cn2 (wr r z v) n = cn2 r n
  | 0 => rfl
  | n + 1 => by
    show cn2 (wr r z v) n + (if wr r z v n = 2 then 1 else 0) = cn2 r n + (if r n = 2 then 1 else 0)
    rw [cn2_one hz hv n]
    by_cases e : n = z.toNat
    · rw [e, wr_at, if_neg hv, if_neg hz]
    · rw [wr_ne e]
def FIp (n : Int) (r : Nat → Int) : Prop := n ≤ cn2 r 16
theorem FIp_0 {n : Int} {r : Nat → Int} (h : n ≤ 0) : FIp n r := Int.le_trans h (cn2_rng r 16).1
theorem FIp_lt {n z : Int} {r : Nat → Int} (h : FIp n r) (h0 : 0 ≤ z) (h1 : z < 16) (hz : r z.toNat ≠ 2) : n ≤ 15 := by
  have h2 := (cn2_put h0 hz 16).1 (by omega)
  have h3 := cn2_rng (wr r z 2) 16
  unfold FIp at h
  omega
theorem FIp_put {n n' z : Int} {r : Nat → Int} (h : FIp n r) (h0 : 0 ≤ z) (h1 : z < 16) (hz : r z.toNat ≠ 2) (hn : n' = n + 1) : FIp n' (wr r z 2) := by
  have h2 := (cn2_put h0 hz 16).1 (by omega)
  unfold FIp at h ⊢
  omega
theorem FIp_one {n n' z v : Int} {r : Nat → Int} (h : FIp n r) (hz : r z.toNat ≠ 2) (hv : v ≠ 2) (hn : n' = n) : FIp n' (wr r z v) := by
  unfold FIp at h ⊢
  rw [cn2_one hz hv, hn]; exact h
def OZp (n : Int) (oM : Nat → Int) : Prop := ∀ l : Int, 0 ≤ l → l < n → oM l.toNat ≤ 0
theorem OZp_0 {n : Int} {oM : Nat → Int} (h : n ≤ 0) : OZp n oM := fun l l0 l1 => absurd l1 (by omega)
theorem OZp_push {n v : Int} {oM : Nat → Int} (h : OZp n oM) (hn : 0 ≤ n) (hv : v ≤ 0) : OZp (n + 1) (wr oM n v) := fun l l0 l1 => by
  by_cases e : l = n
  · subst e; rw [wr_at]; exact hv
  · rw [wr_ne (by omega)]; exact h l l0 (by omega)
theorem OI_z {b rl n : Int} {oM oR oA bT : Nat → Int} (h : OZp n oM) (hn : 216 ≤ n) : OI b rl oM oR oA bT := OI_0 (fun l l0 l1 => h l l0 (by omega))
