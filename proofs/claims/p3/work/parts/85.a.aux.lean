theorem T0_x {m ex : List Nat} {T N T1 N1 : Nat → Nat} {I I1 : Nat → Nat → Int} {J J1 : Nat → Nat → Int64} {R R1 : Nat → Nat → Nat} {q : Nat} (hF : Fr m ex T N I J R T1 N1 I1 J1 R1) (h : T1 q = 0) (hq : q ∉ ex) : T q = 0 := by
  by_cases e : T q = 0
  · exact e
  · exact absurd ((hF q e hq).1.symm.trans h) e
