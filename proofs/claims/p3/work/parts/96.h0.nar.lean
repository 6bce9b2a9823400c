theorem narC {x : Int} (h1 : 0 ≤ x) (h2 : x ≤ 65535) : narrow .char (.int (II x)) = .int (II x) := by
  have hx : inr x := by unfold inr; omega
  have hb : ((II x).toUInt32 % 65536).toNat = ((II x).toUInt32).toNat % 65536 := by rw [UInt32.toNat_mod]; rfl
  have h3 : ((II x).toUInt32).toNat = x.toNat := by
    have e3 : ((II x).toUInt32).toNat = (II x).toBitVec.toNat := rfl
    rw [e3]
    have h4 : (II x).toBitVec.toInt = x := II_toInt hx
    rw [BitVec.toInt_eq_toNat_cond] at h4
    have h5 := (II x).toBitVec.isLt
    unfold inr at hx
    split at h4 <;> omega
  have e : (II x).toUInt32 % 65536 = (II x).toUInt32 := by
    apply UInt32.toNat_inj.mp
    rw [hb, h3]
    omega
  show Value.int ((II x).toUInt32 % 65536).toInt32 = Value.int (II x)
  rw [e]
  rfl
section SBC
variable {p : Program} {l : Launch} {e : Env} {Rm : Room} {s : State} {m : MethodId} {args : Array Value} {below : List Frame} {meth : Method} {c : Code} {H : Heap} {locs : List Loc} {cells slots : Nat} {Q : State → Prop}
variable {cc : ByteArray} {pc : Nat} {ls : Array Slot} {rest : List Value} {D : va_G} {dA : Nat → ClassId} {nL : Nat} {own : String}
theorem p_cret {post : Option Value → Prop} {r : Int} (B : Cx D dA p s m args meth c cc own nL (some .char)) (hdg : decode cc pc = .ok (.ireturn, 1)) (h1 : 0 ≤ r) (h2 : r ≤ 65535) (hp : post (some (.int (II r)))) :
    W p l e Rm s m args below meth c s.heap [] 0 0 (MQ below (pQ post) args s 0 0 (fun _ => False)) (F0 m pc ls [.int (II r)]) :=
  W.zret (v := II r) B.1 B.2.1 B.2.2.2.2.2.2.1 (narC h1 h2) (fun t ht hW => ⟨_, rfl, hp, ht⟩) (fun _ h => by cases h) hdg B.2.2.2.2.2.2.2
end SBC
