theorem and255 (x : Int) : II x &&& II 255 = II (x % 256) := by
  apply Int32.toBitVec_inj.mp
  rw [Int32.toBitVec_and]
  apply BitVec.eq_of_toNat_eq
  rw [BitVec.toNat_and]
  have e1 : ∀ z : Int, (II z).toBitVec.toNat = (z % 4294967296).toNat := by
    intro z
    show (BitVec.ofInt 32 z).toNat = _
    rw [BitVec.toNat_ofInt]
    rfl
  rw [e1, e1, e1]
  rw [show ((255 : Int) % 4294967296).toNat = 2 ^ 8 - 1 from rfl, Nat.and_two_pow_sub_one_eq_mod]
  omega
/-- the byte of a text at a place, 0 behind its end -/
def sgn (t : Nat → Int) (b z k : Int) : Int := if k < z then t (3000 * b + k).toNat % 256 else 0
theorem sgn_lt {t : Nat → Int} {b z k : Int} (h : k < z) : sgn t b z k = t (3000 * b + k).toNat % 256 := if_pos h
theorem sgn_ge {t : Nat → Int} {b z k : Int} (h : z ≤ k) : sgn t b z k = 0 := if_neg (by omega)
section MX
variable {p : Program} {l : Launch} {e : Env} {R : Room} {s : State} {m : MethodId} {args : Array Value} {below : List Frame} {meth : Method} {c : Code} {H : Heap} {locs : List Loc} {cells slots : Nat} {Q : State → Prop}
variable {cc : ByteArray} {pc : Nat} {ls : Array Slot} {rest : List Value}
variable {D : va_G} {dA : Nat → ClassId} {own : String} {nL : Nat} {ret : Option FieldType}
theorem q_and255 (B : Cx D dA p s m args meth c cc own nL ret) {x : Int} (hdg : decode cc pc = .ok (.iand, 1)) (k : W p l e R s m args below meth c H locs cells slots Q (F0 m (pc + 1) ls (.int (II (x % 256)) :: rest))) : W p l e R s m args below meth c H locs cells slots Q (F0 m pc ls (.int (II 255) :: .int (II x) :: rest)) := lv_iand B.1 B.2.1 hdg (by rw [and255]; exact k)
/-- a number that may have gone round -/
theorem q_wrap {x : Int} (k : ∀ z : Int, (-2147483648 : Int) ≤ z ∧ z ≤ 2147483647 → W p l e R s m args below meth c H locs cells slots Q (F0 m pc ls (.int (II z) :: rest))) : W p l e R s m args below meth c H locs cells slots Q (F0 m pc ls (.int (II x) :: rest)) := q_any (fun z hz _ => k z hz)
end MX
