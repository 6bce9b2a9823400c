section ST
variable {p : Program} {l : Launch} {e : Env} {Rm : Room} {s : State} {m : MethodId} {args : Array Value} {below : List Frame} {meth : Method} {c : Code} {H : Heap} {locs : List Loc} {cells slots : Nat} {Q : State → Prop}
variable {cc : ByteArray} {pc : Nat} {ls : Array Slot} {rest : List Value} {D : va_G} {dA : Nat → ClassId} {nL : Nat} {ret : Option FieldType} {own : String} {A : Nat → Prop} {a n : Nat} {z : Int}
theorem c_slen {ty : FieldType} {f : Nat → Value} (B : Cx D dA p s m args meth c cc own nL ret) (h : va_T ty a n f A s s.heap) (hS : va_S A s.heap H locs) (hn : Int32.ofNat n = II (n : Int)) (hdg : decode cc pc = .ok (.arraylength, 1)) (kk : W p l e Rm s m args below meth c H locs cells slots Q (F0 m (pc + 1) ls (.int (II (n : Int)) :: rest))) : W p l e Rm s m args below meth c H locs cells slots Q (F0 m pc ls (.ref a :: rest)) := by
  obtain ⟨cell, h1, h2, h3, h4, h5, h6, h7⟩ := h.kept hS.2.1
  exact W.alen B.1 B.2.1 h1 h2 (h5.trans hn) rfl rfl hdg kk
theorem c_slld {f : Nat → Int64} (B : Cx D dA p s m args meth c cc own nL ret) (h : va_T .long a n (fun j => .long (f j)) A s s.heap) (hS : va_S A s.heap H locs) (h1 : 0 ≤ z) (h2 : z < n) (hn : n ≤ 1000) (hdg : decode cc pc = .ok (.laload, 1)) (kk : ∀ v : Int64, W p l e Rm s m args below meth c H locs cells slots Q (F0 m (pc + 1) ls (.long v :: rest))) : W p l e Rm s m args below meth c H locs cells slots Q (F0 m pc ls (.int (II z) :: .ref a :: rest)) :=
  va_tl B.1 B.2.1 h hS (II_in h1 h2 (by omega)) rfl hdg (kk _)
end ST
