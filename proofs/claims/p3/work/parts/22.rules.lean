section MR
variable {p : Program} {l : Launch} {e : Env} {R : Room} {s : State} {m : MethodId} {args : Array Value} {below : List Frame} {meth : Method} {c : Code} {H : Heap} {locs : List Loc} {cells slots : Nat} {Q : State → Prop}
variable {cc : ByteArray} {pc : Nat} {ls : Array Slot} {rest : List Value}
variable {D : va_G} {dA : Nat → ClassId} {own : String} {nL : Nat} {ret : Option FieldType}
/-! whole numbers on the pile -/
theorem q_con (B : Cx D dA p s m args meth c cc own nL ret) {z : Int} (hdg : decode cc pc = .ok (.iconst z, 1)) (k : W p l e R s m args below meth c H locs cells slots Q (F0 m (pc + 1) ls (.int (II z) :: rest))) : W p l e R s m args below meth c H locs cells slots Q (F0 m pc ls rest) := lv_iconst B.1 B.2.1 hdg rfl k
theorem q_bip (B : Cx D dA p s m args meth c cc own nL ret) {z : Int} (hdg : decode cc pc = .ok (.bipush z, 2)) (hz : (Int8.ofInt z).toInt32 = II z) (k : W p l e R s m args below meth c H locs cells slots Q (F0 m (pc + 2) ls (.int (II z) :: rest))) : W p l e R s m args below meth c H locs cells slots Q (F0 m pc ls rest) := lv_bipush B.1 B.2.1 hdg hz k
theorem q_sip (B : Cx D dA p s m args meth c cc own nL ret) {z : Int} (hdg : decode cc pc = .ok (.sipush z, 3)) (hz : (Int16.ofInt z).toInt32 = II z) (k : W p l e R s m args below meth c H locs cells slots Q (F0 m (pc + 3) ls (.int (II z) :: rest))) : W p l e R s m args below meth c H locs cells slots Q (F0 m pc ls rest) := lv_sipush B.1 B.2.1 hdg hz k
theorem q_add (B : Cx D dA p s m args meth c cc own nL ret) {x y : Int} (hdg : decode cc pc = .ok (.iadd, 1)) (k : W p l e R s m args below meth c H locs cells slots Q (F0 m (pc + 1) ls (.int (II (x + y)) :: rest))) : W p l e R s m args below meth c H locs cells slots Q (F0 m pc ls (.int (II y) :: .int (II x) :: rest)) := lv_iadd B.1 B.2.1 hdg (by rw [II_add]; exact k)
theorem q_sub (B : Cx D dA p s m args meth c cc own nL ret) {x y : Int} (hdg : decode cc pc = .ok (.isub, 1)) (k : W p l e R s m args below meth c H locs cells slots Q (F0 m (pc + 1) ls (.int (II (x - y)) :: rest))) : W p l e R s m args below meth c H locs cells slots Q (F0 m pc ls (.int (II y) :: .int (II x) :: rest)) := lv_isub B.1 B.2.1 hdg (by rw [II_sub]; exact k)
theorem q_mul (B : Cx D dA p s m args meth c cc own nL ret) {x y : Int} (hdg : decode cc pc = .ok (.imul, 1)) (k : W p l e R s m args below meth c H locs cells slots Q (F0 m (pc + 1) ls (.int (II (x * y)) :: rest))) : W p l e R s m args below meth c H locs cells slots Q (F0 m pc ls (.int (II y) :: .int (II x) :: rest)) := lv_imul B.1 B.2.1 hdg (by rw [II_mul]; exact k)
theorem q_neg (B : Cx D dA p s m args meth c cc own nL ret) {x : Int} (hdg : decode cc pc = .ok (.ineg, 1)) (k : W p l e R s m args below meth c H locs cells slots Q (F0 m (pc + 1) ls (.int (II (- x)) :: rest))) : W p l e R s m args below meth c H locs cells slots Q (F0 m pc ls (.int (II x) :: rest)) := lv_ineg B.1 B.2.1 hdg (by rw [II_neg]; exact k)
/-- any int is some whole number -/
theorem q_any {x : Int32} (k : ∀ z : Int, inr z → x = II z → W p l e R s m args below meth c H locs cells slots Q (F0 m pc ls (.int (II z) :: rest))) : W p l e R s m args below meth c H locs cells slots Q (F0 m pc ls (.int x :: rest)) := by
  have h := k x.toInt (toInt_inr x) (II_of x)
  rw [← II_of x] at h
  exact h
theorem q_and (B : Cx D dA p s m args meth c cc own nL ret) {x y : Int32} (hdg : decode cc pc = .ok (.iand, 1)) (k : ∀ z : Int, inr z → x &&& y = II z → W p l e R s m args below meth c H locs cells slots Q (F0 m (pc + 1) ls (.int (II z) :: rest))) : W p l e R s m args below meth c H locs cells slots Q (F0 m pc ls (.int y :: .int x :: rest)) := lv_iand B.1 B.2.1 hdg (q_any k)
theorem q_or (B : Cx D dA p s m args meth c cc own nL ret) {x y : Int32} (hdg : decode cc pc = .ok (.ior, 1)) (k : ∀ z : Int, inr z → x ||| y = II z → W p l e R s m args below meth c H locs cells slots Q (F0 m (pc + 1) ls (.int (II z) :: rest))) : W p l e R s m args below meth c H locs cells slots Q (F0 m pc ls (.int y :: .int x :: rest)) := lv_ior B.1 B.2.1 hdg (q_any k)
/-- a number and a mask that is not below 0 -/
theorem and_mask (x : Int32) {y : Int} (h0 : 0 ≤ y) (h1 : inr y) {z : Int} (hz : inr z) (h : x &&& II y = II z) : 0 ≤ z ∧ z ≤ y := by
  have e : (x &&& II y).toInt = z := by rw [h, II_toInt hz]
  have hb : (II y).toBitVec.toNat = y.toNat := by
    have : (II y).toInt = y := II_toInt h1
    have h2 : (II y).toBitVec.toInt = y := this
    rw [BitVec.toInt_eq_toNat_cond] at h2
    have h3 := (II y).toBitVec.isLt
    unfold inr at h1
    split at h2 <;> omega
  have h4 : (x &&& II y).toBitVec.toNat = x.toBitVec.toNat &&& (II y).toBitVec.toNat := by
    rw [Int32.toBitVec_and, BitVec.toNat_and]
  have h5 : (x &&& II y).toBitVec.toNat ≤ y.toNat := by
    rw [h4, hb]; exact Nat.and_le_right
  have h6 : (x &&& II y).toBitVec.toInt = z := e
  rw [BitVec.toInt_eq_toNat_cond] at h6
  unfold inr at h1
  split at h6 <;> omega
theorem q_andm (B : Cx D dA p s m args meth c cc own nL ret) {x : Int32} {y : Int} (hdg : decode cc pc = .ok (.iand, 1)) (h0 : 0 ≤ y) (h1 : inr y) (k : ∀ z : Int, inr z → 0 ≤ z → z ≤ y → W p l e R s m args below meth c H locs cells slots Q (F0 m (pc + 1) ls (.int (II z) :: rest))) : W p l e R s m args below meth c H locs cells slots Q (F0 m pc ls (.int (II y) :: .int x :: rest)) :=
  q_and B hdg (fun z hz he => k z hz (and_mask x h0 h1 hz he).1 (and_mask x h0 h1 hz he).2)
theorem q_shl (B : Cx D dA p s m args meth c cc own nL ret) {x y : Int32} (hdg : decode cc pc = .ok (.ishl, 1)) (k : ∀ z : Int, inr z → W p l e R s m args below meth c H locs cells slots Q (F0 m (pc + 1) ls (.int (II z) :: rest))) : W p l e R s m args below meth c H locs cells slots Q (F0 m pc ls (.int y :: .int x :: rest)) := lv_ishl B.1 B.2.1 hdg (q_any (fun z hz _ => k z hz))
theorem q_shr (B : Cx D dA p s m args meth c cc own nL ret) {x y : Int32} (hdg : decode cc pc = .ok (.ishr, 1)) (k : ∀ z : Int, inr z → W p l e R s m args below meth c H locs cells slots Q (F0 m (pc + 1) ls (.int (II z) :: rest))) : W p l e R s m args below meth c H locs cells slots Q (F0 m pc ls (.int y :: .int x :: rest)) := lv_ishr B.1 B.2.1 hdg (q_any (fun z hz _ => k z hz))
theorem q_div (B : Cx D dA p s m args meth c cc own nL ret) {x y : Int} (hdg : decode cc pc = .ok (.idiv, 1)) (hy : inr y) (h0 : y ≠ 0) (k : ∀ z : Int, inr z → W p l e R s m args below meth c H locs cells slots Q (F0 m (pc + 1) ls (.int (II z) :: rest))) : W p l e R s m args below meth c H locs cells slots Q (F0 m pc ls (.int (II y) :: .int (II x) :: rest)) := lv_idiv B.1 B.2.1 hdg (fun q => h0 ((II_eq hy (by unfold inr; omega)).mp (show II y = II 0 from q))) (q_any (fun z hz _ => k z hz))
theorem q_rem (B : Cx D dA p s m args meth c cc own nL ret) {x y : Int} (hdg : decode cc pc = .ok (.irem, 1)) (hy : inr y) (h0 : y ≠ 0) (k : ∀ z : Int, inr z → W p l e R s m args below meth c H locs cells slots Q (F0 m (pc + 1) ls (.int (II z) :: rest))) : W p l e R s m args below meth c H locs cells slots Q (F0 m pc ls (.int (II y) :: .int (II x) :: rest)) := lv_irem B.1 B.2.1 hdg (fun q => h0 ((II_eq hy (by unfold inr; omega)).mp (show II y = II 0 from q))) (q_any (fun z hz _ => k z hz))
theorem q_l2i (B : Cx D dA p s m args meth c cc own nL ret) {x : Int64} (hdg : decode cc pc = .ok (.l2i, 1)) (k : ∀ z : Int, inr z → W p l e R s m args below meth c H locs cells slots Q (F0 m (pc + 1) ls (.int (II z) :: rest))) : W p l e R s m args below meth c H locs cells slots Q (F0 m pc ls (.long x :: rest)) := lv_l2i B.1 B.2.1 hdg rfl (q_any (fun z hz _ => k z hz))
theorem q_i2l (B : Cx D dA p s m args meth c cc own nL ret) {x : Int32} (hdg : decode cc pc = .ok (.i2l, 1)) (k : ∀ z : Int64, W p l e R s m args below meth c H locs cells slots Q (F0 m (pc + 1) ls (.long z :: rest))) : W p l e R s m args below meth c H locs cells slots Q (F0 m pc ls (.int x :: rest)) := lv_i2l B.1 B.2.1 hdg rfl (k _)
theorem q_i2b (B : Cx D dA p s m args meth c cc own nL ret) {x : Int32} (hdg : decode cc pc = .ok (.i2b, 1)) (k : ∀ z : Int, inr z → W p l e R s m args below meth c H locs cells slots Q (F0 m (pc + 1) ls (.int (II z) :: rest))) : W p l e R s m args below meth c H locs cells slots Q (F0 m pc ls (.int x :: rest)) := lv_i2b B.1 B.2.1 hdg rfl (q_any (fun z hz _ => k z hz))
theorem lg_cmp_in (x y : Int64) : lg_cmp x y = II 1 ∨ lg_cmp x y = II 0 ∨ lg_cmp x y = II (-1) := by
  unfold lg_cmp
  split
  · exact Or.inl rfl
  · split
    · exact Or.inr (Or.inl rfl)
    · exact Or.inr (Or.inr rfl)
theorem q_lcmp (B : Cx D dA p s m args meth c cc own nL ret) {x y : Int64} (hdg : decode cc pc = .ok (.lcmp, 1)) (k : ∀ z : Int, -1 ≤ z → z ≤ 1 → (z = 0 ↔ x = y) → W p l e R s m args below meth c H locs cells slots Q (F0 m (pc + 1) ls (.int (II z) :: rest))) : W p l e R s m args below meth c H locs cells slots Q (F0 m pc ls (.long y :: .long x :: rest)) := by
  refine W.lcmp B.1 B.2.1 hdg ?_
  unfold lg_cmp
  split
  · next h => exact k 1 (by omega) (by omega) ⟨fun q => by omega, fun q => by subst q; exact absurd h (Int64.lt_irrefl)⟩
  · split
    · next h => exact k 0 (by omega) (by omega) ⟨fun _ => h, fun _ => rfl⟩
    · next h => exact k (-1) (by omega) (by omega) ⟨fun q => by omega, fun q => absurd q h⟩
/-! branches -/
theorem q_cge (B : Cx D dA p s m args meth c cc own nL ret) {x y : Int} {off : Int} {tgt : Nat} (hdg : decode cc pc = .ok (.if_icmp .ge off, 3)) (ht : (pc : Int) + off = (tgt : Int)) (hx : inr x) (hy : inr y) (kt : y ≤ x → W p l e R s m args below meth c H locs cells slots Q (F0 m tgt ls rest)) (kf : x < y → W p l e R s m args below meth c H locs cells slots Q (F0 m (pc + 3) ls rest)) : W p l e R s m args below meth c H locs cells slots Q (F0 m pc ls (.int (II y) :: .int (II x) :: rest)) :=
  lv_icmp_ge B.1 B.2.1 hdg ht (fun q => kt ((II_le hy hx).mp q)) (fun q => kf (by have := mt (II_le hy hx).mpr q; omega))
theorem q_clt (B : Cx D dA p s m args meth c cc own nL ret) {x y : Int} {off : Int} {tgt : Nat} (hdg : decode cc pc = .ok (.if_icmp .lt off, 3)) (ht : (pc : Int) + off = (tgt : Int)) (hx : inr x) (hy : inr y) (kt : x < y → W p l e R s m args below meth c H locs cells slots Q (F0 m tgt ls rest)) (kf : y ≤ x → W p l e R s m args below meth c H locs cells slots Q (F0 m (pc + 3) ls rest)) : W p l e R s m args below meth c H locs cells slots Q (F0 m pc ls (.int (II y) :: .int (II x) :: rest)) :=
  lv_icmp_lt B.1 B.2.1 hdg ht (fun q => kt ((II_lt hx hy).mp q)) (fun q => kf (by have := mt (II_lt hx hy).mpr q; omega))
theorem q_cgt (B : Cx D dA p s m args meth c cc own nL ret) {x y : Int} {off : Int} {tgt : Nat} (hdg : decode cc pc = .ok (.if_icmp .gt off, 3)) (ht : (pc : Int) + off = (tgt : Int)) (hx : inr x) (hy : inr y) (kt : y < x → W p l e R s m args below meth c H locs cells slots Q (F0 m tgt ls rest)) (kf : x ≤ y → W p l e R s m args below meth c H locs cells slots Q (F0 m (pc + 3) ls rest)) : W p l e R s m args below meth c H locs cells slots Q (F0 m pc ls (.int (II y) :: .int (II x) :: rest)) :=
  lv_icmp_gt B.1 B.2.1 hdg ht (fun q => kt ((II_lt hy hx).mp q)) (fun q => kf (by have := mt (II_lt hy hx).mpr q; omega))
theorem q_cle (B : Cx D dA p s m args meth c cc own nL ret) {x y : Int} {off : Int} {tgt : Nat} (hdg : decode cc pc = .ok (.if_icmp .le off, 3)) (ht : (pc : Int) + off = (tgt : Int)) (hx : inr x) (hy : inr y) (kt : x ≤ y → W p l e R s m args below meth c H locs cells slots Q (F0 m tgt ls rest)) (kf : y < x → W p l e R s m args below meth c H locs cells slots Q (F0 m (pc + 3) ls rest)) : W p l e R s m args below meth c H locs cells slots Q (F0 m pc ls (.int (II y) :: .int (II x) :: rest)) :=
  lv_icmp_le B.1 B.2.1 hdg ht (fun q => kt ((II_le hx hy).mp q)) (fun q => kf (by have := mt (II_le hx hy).mpr q; omega))
theorem q_ceq (B : Cx D dA p s m args meth c cc own nL ret) {x y : Int} {off : Int} {tgt : Nat} (hdg : decode cc pc = .ok (.if_icmp .eq off, 3)) (ht : (pc : Int) + off = (tgt : Int)) (hx : inr x) (hy : inr y) (kt : x = y → W p l e R s m args below meth c H locs cells slots Q (F0 m tgt ls rest)) (kf : x ≠ y → W p l e R s m args below meth c H locs cells slots Q (F0 m (pc + 3) ls rest)) : W p l e R s m args below meth c H locs cells slots Q (F0 m pc ls (.int (II y) :: .int (II x) :: rest)) :=
  lv_icmp_eq B.1 B.2.1 hdg ht (fun q => kt ((II_eq hx hy).mp q)) (fun q => kf (mt (II_eq hx hy).mpr q))
theorem q_cne (B : Cx D dA p s m args meth c cc own nL ret) {x y : Int} {off : Int} {tgt : Nat} (hdg : decode cc pc = .ok (.if_icmp .ne off, 3)) (ht : (pc : Int) + off = (tgt : Int)) (hx : inr x) (hy : inr y) (kt : x ≠ y → W p l e R s m args below meth c H locs cells slots Q (F0 m tgt ls rest)) (kf : x = y → W p l e R s m args below meth c H locs cells slots Q (F0 m (pc + 3) ls rest)) : W p l e R s m args below meth c H locs cells slots Q (F0 m pc ls (.int (II y) :: .int (II x) :: rest)) :=
  lv_icmp_ne B.1 B.2.1 hdg ht (fun q => kt (mt (II_eq hx hy).mpr q)) (fun q => kf ((II_eq hx hy).mp q))
theorem inr0 : inr 0 := by unfold inr; omega
theorem q_ieq (B : Cx D dA p s m args meth c cc own nL ret) {x : Int} {off : Int} {tgt : Nat} (hdg : decode cc pc = .ok (.ifCond .eq off, 3)) (ht : (pc : Int) + off = (tgt : Int)) (hx : inr x) (kt : x = 0 → W p l e R s m args below meth c H locs cells slots Q (F0 m tgt ls rest)) (kf : x ≠ 0 → W p l e R s m args below meth c H locs cells slots Q (F0 m (pc + 3) ls rest)) : W p l e R s m args below meth c H locs cells slots Q (F0 m pc ls (.int (II x) :: rest)) :=
  lv_if_eq B.1 B.2.1 hdg ht (fun q => kt ((II_eq hx inr0).mp (show II x = II 0 from q))) (fun q => kf (fun h => q (show II x = 0 from by rw [h]; rfl)))
theorem q_ine (B : Cx D dA p s m args meth c cc own nL ret) {x : Int} {off : Int} {tgt : Nat} (hdg : decode cc pc = .ok (.ifCond .ne off, 3)) (ht : (pc : Int) + off = (tgt : Int)) (hx : inr x) (kt : x ≠ 0 → W p l e R s m args below meth c H locs cells slots Q (F0 m tgt ls rest)) (kf : x = 0 → W p l e R s m args below meth c H locs cells slots Q (F0 m (pc + 3) ls rest)) : W p l e R s m args below meth c H locs cells slots Q (F0 m pc ls (.int (II x) :: rest)) :=
  lv_if_ne B.1 B.2.1 hdg ht (fun q => kt (fun h => q (show II x = 0 from by rw [h]; rfl))) (fun q => kf ((II_eq hx inr0).mp (show II x = II 0 from q)))
theorem q_ilt (B : Cx D dA p s m args meth c cc own nL ret) {x : Int} {off : Int} {tgt : Nat} (hdg : decode cc pc = .ok (.ifCond .lt off, 3)) (ht : (pc : Int) + off = (tgt : Int)) (hx : inr x) (kt : x < 0 → W p l e R s m args below meth c H locs cells slots Q (F0 m tgt ls rest)) (kf : 0 ≤ x → W p l e R s m args below meth c H locs cells slots Q (F0 m (pc + 3) ls rest)) : W p l e R s m args below meth c H locs cells slots Q (F0 m pc ls (.int (II x) :: rest)) :=
  lv_if_lt B.1 B.2.1 hdg ht (fun q => kt ((II_lt hx inr0).mp (show II x < II 0 from q))) (fun q => kf (by have := mt (II_lt hx inr0).mpr (show ¬ II x < II 0 from q); omega))
theorem q_ige (B : Cx D dA p s m args meth c cc own nL ret) {x : Int} {off : Int} {tgt : Nat} (hdg : decode cc pc = .ok (.ifCond .ge off, 3)) (ht : (pc : Int) + off = (tgt : Int)) (hx : inr x) (kt : 0 ≤ x → W p l e R s m args below meth c H locs cells slots Q (F0 m tgt ls rest)) (kf : x < 0 → W p l e R s m args below meth c H locs cells slots Q (F0 m (pc + 3) ls rest)) : W p l e R s m args below meth c H locs cells slots Q (F0 m pc ls (.int (II x) :: rest)) :=
  lv_if_ge B.1 B.2.1 hdg ht (fun q => kt ((II_le inr0 hx).mp (show II 0 ≤ II x from q))) (fun q => kf (by have := mt (II_le inr0 hx).mpr (show ¬ II 0 ≤ II x from q); omega))
theorem q_igt (B : Cx D dA p s m args meth c cc own nL ret) {x : Int} {off : Int} {tgt : Nat} (hdg : decode cc pc = .ok (.ifCond .gt off, 3)) (ht : (pc : Int) + off = (tgt : Int)) (hx : inr x) (kt : 0 < x → W p l e R s m args below meth c H locs cells slots Q (F0 m tgt ls rest)) (kf : x ≤ 0 → W p l e R s m args below meth c H locs cells slots Q (F0 m (pc + 3) ls rest)) : W p l e R s m args below meth c H locs cells slots Q (F0 m pc ls (.int (II x) :: rest)) :=
  lv_if_gt B.1 B.2.1 hdg ht (fun q => kt ((II_lt inr0 hx).mp (show II 0 < II x from q))) (fun q => kf (by have := mt (II_lt inr0 hx).mpr (show ¬ II 0 < II x from q); omega))
theorem q_ile (B : Cx D dA p s m args meth c cc own nL ret) {x : Int} {off : Int} {tgt : Nat} (hdg : decode cc pc = .ok (.ifCond .le off, 3)) (ht : (pc : Int) + off = (tgt : Int)) (hx : inr x) (kt : x ≤ 0 → W p l e R s m args below meth c H locs cells slots Q (F0 m tgt ls rest)) (kf : 0 < x → W p l e R s m args below meth c H locs cells slots Q (F0 m (pc + 3) ls rest)) : W p l e R s m args below meth c H locs cells slots Q (F0 m pc ls (.int (II x) :: rest)) :=
  lv_if_le B.1 B.2.1 hdg ht (fun q => kt ((II_le hx inr0).mp (show II x ≤ II 0 from q))) (fun q => kf (by have := mt (II_le hx inr0).mpr (show ¬ II x ≤ II 0 from q); omega))
theorem q_inc (B : Cx D dA p s m args meth c cc own nL ret) {i k : Nat} {n x : Int} {lv lv' : List (Nat × Value)} (hdg : decode cc pc = .ok (.iinc i n, 3)) (h : lv_has ls nL lv) (hk : lv[k]? = some (i, .int (II x))) (hn : i < nL) (hl : (i, Value.int (II (x + n))) :: lv.filter (fun q => !(q.1 == i) && !(q.1 + 1 == i && q.2.category == 2)) = lv')
    (kk : ∀ ls : Array Slot, lv_has ls nL lv' → W p l e R s m args below meth c H locs cells slots Q (F0 m (pc + 3) ls rest)) : W p l e R s m args below meth c H locs cells slots Q (F0 m pc ls rest) :=
  lv_iinc B.1 B.2.1 hdg h hk (II_add x n) hn hl kk
end MR
