/-! what a read gives -/
section CGT
variable {T N : Nat → Nat} {I : Nat → Nat → Int} {R : Nat → Nat → Nat} {a k : Nat}
theorem kd2 : kd 2 = (0, 13, [2, 2, 2, 2, 2, 2, 2, 0, 0, 0]) := rfl
theorem g2_0 (h : CT T N I R) (hT : T a = 2) : ∃ b, R a 0 = b + 1 ∧ T b = 60 := h.ro hT (by decide) (by decide) (by decide)
theorem g2_1 (h : CT T N I R) (hT : T a = 2) : ∃ b, R a 1 = b + 1 ∧ T b = 3 := h.ro hT (by decide) (by decide) (by decide)
theorem g2_2 (h : CT T N I R) (hT : T a = 2) : ∃ b, R a 2 = b + 1 ∧ T b = 4 := h.ro hT (by decide) (by decide) (by decide)
theorem g2_3 (h : CT T N I R) (hT : T a = 2) : ∃ b, R a 3 = b + 1 ∧ T b = 5 := h.ro hT (by decide) (by decide) (by decide)
theorem g2_4 (h : CT T N I R) (hT : T a = 2) : ∃ b, R a 4 = b + 1 ∧ T b = 22 := h.ro hT (by decide) (by decide) (by decide)
theorem g2_5 (h : CT T N I R) (hT : T a = 2) : ∃ b, R a 5 = b + 1 ∧ T b = 14 := h.ro hT (by decide) (by decide) (by decide)
theorem g2_6 (h : CT T N I R) (hT : T a = 2) : ∃ b, R a 6 = b + 1 ∧ T b = 6 := h.ro hT (by decide) (by decide) (by decide)
theorem g2_7 (h : CT T N I R) (hT : T a = 2) : (0 : Int) ≤ I a 7 ∧ I a 7 ≤ 3000 := h.io hT (by decide) (by decide)
theorem g2_8 (h : CT T N I R) (hT : T a = 2) : (-2147483648 : Int) ≤ I a 8 ∧ I a 8 ≤ 2147483647 := h.io hT (by decide) (by decide)
theorem g2_9 (h : CT T N I R) (hT : T a = 2) : (-2147483648 : Int) ≤ I a 9 ∧ I a 9 ≤ 2147483647 := h.io hT (by decide) (by decide)
theorem kd3 : kd 3 = (0, 11, [2, 2, 2]) := rfl
theorem g3_0 (h : CT T N I R) (hT : T a = 3) : ∃ b, R a 0 = b + 1 ∧ T b = 62 := h.ro hT (by decide) (by decide) (by decide)
theorem g3_1 (h : CT T N I R) (hT : T a = 3) : ∃ b, R a 1 = b + 1 ∧ T b = 63 := h.ro hT (by decide) (by decide) (by decide)
theorem g3_2 (h : CT T N I R) (hT : T a = 3) : ∃ b, R a 2 = b + 1 ∧ T b = 64 := h.ro hT (by decide) (by decide) (by decide)
theorem kd4 : kd 4 = (0, 6, [2, 0, 2, 2, 2, 0, 0, 2, 2]) := rfl
theorem g4_0 (h : CT T N I R) (hT : T a = 4) : ∃ b, R a 0 = b + 1 ∧ T b = 79 := h.ro hT (by decide) (by decide) (by decide)
theorem g4_1 (h : CT T N I R) (hT : T a = 4) : (0 : Int) ≤ I a 1 ∧ I a 1 ≤ 200 := h.io hT (by decide) (by decide)
theorem g4_2 (h : CT T N I R) (hT : T a = 4) : R a 2 = 0 ∨ ∃ b, R a 2 = b + 1 ∧ T b = 6 := h.rn hT (by decide) (by decide) (by decide)
theorem g4_3 (h : CT T N I R) (hT : T a = 4) : R a 3 = 0 ∨ ∃ b, R a 3 = b + 1 ∧ T b = 11 := h.rn hT (by decide) (by decide) (by decide)
theorem g4_4 (h : CT T N I R) (hT : T a = 4) : R a 4 = 0 ∨ ∃ b, R a 4 = b + 1 ∧ T b = 10 := h.rn hT (by decide) (by decide) (by decide)
theorem g4_5 (h : CT T N I R) (hT : T a = 4) : (-2147483648 : Int) ≤ I a 5 ∧ I a 5 ≤ 2147483647 := h.io hT (by decide) (by decide)
theorem g4_6 (h : CT T N I R) (hT : T a = 4) : (-2147483648 : Int) ≤ I a 6 ∧ I a 6 ≤ 2147483647 := h.io hT (by decide) (by decide)
theorem g4_7 (h : CT T N I R) (hT : T a = 4) : ∃ b, R a 7 = b + 1 ∧ T b = 81 := h.ro hT (by decide) (by decide) (by decide)
theorem g4_8 (h : CT T N I R) (hT : T a = 4) : ∃ b, R a 8 = b + 1 ∧ T b = 82 := h.ro hT (by decide) (by decide) (by decide)
theorem kd5 : kd 5 = (0, 3, [0, 0, 2, 0, 2, 2, 2, 0, 0, 0, 0, 0, 0, 2, 2, 2, 2, 2, 2, 0]) := rfl
theorem g5_0 (h : CT T N I R) (hT : T a = 5) : (0 : Int) ≤ I a 0 ∧ I a 0 ≤ 5000 := h.io hT (by decide) (by decide)
theorem g5_1 (h : CT T N I R) (hT : T a = 5) : (-2147483648 : Int) ≤ I a 1 ∧ I a 1 ≤ 2147483647 := h.io hT (by decide) (by decide)
theorem g5_2 (h : CT T N I R) (hT : T a = 5) : ∃ b, R a 2 = b + 1 ∧ T b = 89 := h.ro hT (by decide) (by decide) (by decide)
theorem g5_3 (h : CT T N I R) (hT : T a = 5) : (0 : Int) ≤ I a 3 ∧ I a 3 ≤ 60 := h.io hT (by decide) (by decide)
theorem g5_4 (h : CT T N I R) (hT : T a = 5) : R a 4 = 0 ∨ ∃ b, R a 4 = b + 1 ∧ T b = 6 := h.rn hT (by decide) (by decide) (by decide)
theorem g5_5 (h : CT T N I R) (hT : T a = 5) : ∃ b, R a 5 = b + 1 ∧ T b = 22 := h.ro hT (by decide) (by decide) (by decide)
theorem g5_6 (h : CT T N I R) (hT : T a = 5) : ∃ b, R a 6 = b + 1 ∧ T b = 23 := h.ro hT (by decide) (by decide) (by decide)
theorem g5_7 (h : CT T N I R) (hT : T a = 5) : (0 : Int) ≤ I a 7 ∧ I a 7 ≤ 1 := h.io hT (by decide) (by decide)
theorem g5_8 (h : CT T N I R) (hT : T a = 5) : (0 : Int) ≤ I a 8 ∧ I a 8 ≤ 1 := h.io hT (by decide) (by decide)
theorem g5_9 (h : CT T N I R) (hT : T a = 5) : (0 : Int) ≤ I a 9 ∧ I a 9 ≤ 5000 := h.io hT (by decide) (by decide)
theorem g5_10 (h : CT T N I R) (hT : T a = 5) : (-2147483648 : Int) ≤ I a 10 ∧ I a 10 ≤ 2147483647 := h.io hT (by decide) (by decide)
theorem g5_11 (h : CT T N I R) (hT : T a = 5) : (-2147483648 : Int) ≤ I a 11 ∧ I a 11 ≤ 2147483647 := h.io hT (by decide) (by decide)
theorem g5_12 (h : CT T N I R) (hT : T a = 5) : (-2147483648 : Int) ≤ I a 12 ∧ I a 12 ≤ 2147483647 := h.io hT (by decide) (by decide)
theorem g5_13 (h : CT T N I R) (hT : T a = 5) : ∃ b, R a 13 = b + 1 ∧ T b = 90 := h.ro hT (by decide) (by decide) (by decide)
theorem g5_14 (h : CT T N I R) (hT : T a = 5) : ∃ b, R a 14 = b + 1 ∧ T b = 91 := h.ro hT (by decide) (by decide) (by decide)
theorem g5_15 (h : CT T N I R) (hT : T a = 5) : ∃ b, R a 15 = b + 1 ∧ T b = 92 := h.ro hT (by decide) (by decide) (by decide)
theorem g5_16 (h : CT T N I R) (hT : T a = 5) : ∃ b, R a 16 = b + 1 ∧ T b = 93 := h.ro hT (by decide) (by decide) (by decide)
theorem g5_17 (h : CT T N I R) (hT : T a = 5) : ∃ b, R a 17 = b + 1 ∧ T b = 94 := h.ro hT (by decide) (by decide) (by decide)
theorem g5_18 (h : CT T N I R) (hT : T a = 5) : ∃ b, R a 18 = b + 1 ∧ T b = 95 := h.ro hT (by decide) (by decide) (by decide)
theorem g5_19 (h : CT T N I R) (hT : T a = 5) : (0 : Int) ≤ I a 19 ∧ I a 19 ≤ 1600 := h.io hT (by decide) (by decide)
theorem kd6 : kd 6 = (0, 2, [2, 2, 2, 2, 2, 0, 0, 2, 2, 2, 2, 0]) := rfl
theorem g6_0 (h : CT T N I R) (hT : T a = 6) : ∃ b, R a 0 = b + 1 ∧ T b = 15 := h.ro hT (by decide) (by decide) (by decide)
theorem g6_1 (h : CT T N I R) (hT : T a = 6) : ∃ b, R a 1 = b + 1 ∧ T b = 16 := h.ro hT (by decide) (by decide) (by decide)
theorem g6_2 (h : CT T N I R) (hT : T a = 6) : ∃ b, R a 2 = b + 1 ∧ T b = 17 := h.ro hT (by decide) (by decide) (by decide)
theorem g6_3 (h : CT T N I R) (hT : T a = 6) : ∃ b, R a 3 = b + 1 ∧ T b = 18 := h.ro hT (by decide) (by decide) (by decide)
theorem g6_4 (h : CT T N I R) (hT : T a = 6) : ∃ b, R a 4 = b + 1 ∧ T b = 68 := h.ro hT (by decide) (by decide) (by decide)
theorem g6_5 (h : CT T N I R) (hT : T a = 6) : (0 : Int) ≤ I a 5 ∧ I a 5 ≤ 6 := h.io hT (by decide) (by decide)
theorem g6_6 (h : CT T N I R) (hT : T a = 6) : (1 : Int) ≤ I a 6 ∧ I a 6 ≤ 8 := h.io hT (by decide) (by decide)
theorem g6_7 (h : CT T N I R) (hT : T a = 6) : R a 7 = 0 ∨ ∃ b, R a 7 = b + 1 ∧ T b = 61 := h.rn hT (by decide) (by decide) (by decide)
theorem g6_8 (h : CT T N I R) (hT : T a = 6) : ∃ b, R a 8 = b + 1 ∧ T b = 70 := h.ro hT (by decide) (by decide) (by decide)
theorem g6_9 (h : CT T N I R) (hT : T a = 6) : ∃ b, R a 9 = b + 1 ∧ T b = 71 := h.ro hT (by decide) (by decide) (by decide)
theorem g6_10 (h : CT T N I R) (hT : T a = 6) : ∃ b, R a 10 = b + 1 ∧ T b = 72 := h.ro hT (by decide) (by decide) (by decide)
theorem g6_11 (h : CT T N I R) (hT : T a = 6) : (0 : Int) ≤ I a 11 ∧ I a 11 ≤ 62 := h.io hT (by decide) (by decide)
theorem kd7 : kd 7 = (0, 8, [2, 0, 0, 2, 2, 0, 0, 1, 2, 0, 2, 2, 0]) := rfl
theorem g7_0 (h : CT T N I R) (hT : T a = 7) : ∃ b, R a 0 = b + 1 ∧ T b = 6 := h.ro hT (by decide) (by decide) (by decide)
theorem g7_1 (h : CT T N I R) (hT : T a = 7) : (-2147483648 : Int) ≤ I a 1 ∧ I a 1 ≤ 2147483647 := h.io hT (by decide) (by decide)
theorem g7_2 (h : CT T N I R) (hT : T a = 7) : (-2147483648 : Int) ≤ I a 2 ∧ I a 2 ≤ 2147483647 := h.io hT (by decide) (by decide)
theorem g7_3 (h : CT T N I R) (hT : T a = 7) : ∃ b, R a 3 = b + 1 ∧ T b = 3 := h.ro hT (by decide) (by decide) (by decide)
theorem g7_4 (h : CT T N I R) (hT : T a = 7) : R a 4 = 0 ∨ ∃ b, R a 4 = b + 1 ∧ T b = 6 := h.rn hT (by decide) (by decide) (by decide)
theorem g7_5 (h : CT T N I R) (hT : T a = 7) : (0 : Int) ≤ I a 5 ∧ I a 5 ≤ 3000 := h.io hT (by decide) (by decide)
theorem g7_6 (h : CT T N I R) (hT : T a = 7) : (-2147483648 : Int) ≤ I a 6 ∧ I a 6 ≤ 2147483647 := h.io hT (by decide) (by decide)
theorem g7_8 (h : CT T N I R) (hT : T a = 7) : ∃ b, R a 8 = b + 1 ∧ T b = 65 := h.ro hT (by decide) (by decide) (by decide)
theorem g7_9 (h : CT T N I R) (hT : T a = 7) : (0 : Int) ≤ I a 9 ∧ I a 9 ≤ 8 := h.io hT (by decide) (by decide)
theorem g7_10 (h : CT T N I R) (hT : T a = 7) : ∃ b, R a 10 = b + 1 ∧ T b = 66 := h.ro hT (by decide) (by decide) (by decide)
theorem g7_11 (h : CT T N I R) (hT : T a = 7) : ∃ b, R a 11 = b + 1 ∧ T b = 67 := h.ro hT (by decide) (by decide) (by decide)
theorem g7_12 (h : CT T N I R) (hT : T a = 7) : (0 : Int) ≤ I a 12 ∧ I a 12 ≤ 40 := h.io hT (by decide) (by decide)
theorem kd8 : kd 8 = (0, 9, [0, 2, 2, 2, 2, 0, 0, 0, 0, 0, 2]) := rfl
theorem g8_0 (h : CT T N I R) (hT : T a = 8) : (-2147483648 : Int) ≤ I a 0 ∧ I a 0 ≤ 2147483647 := h.io hT (by decide) (by decide)
theorem g8_1 (h : CT T N I R) (hT : T a = 8) : ∃ b, R a 1 = b + 1 ∧ T b = 73 := h.ro hT (by decide) (by decide) (by decide)
theorem g8_2 (h : CT T N I R) (hT : T a = 8) : ∃ b, R a 2 = b + 1 ∧ T b = 73 := h.ro hT (by decide) (by decide) (by decide)
theorem g8_3 (h : CT T N I R) (hT : T a = 8) : ∃ b, R a 3 = b + 1 ∧ T b = 73 := h.ro hT (by decide) (by decide) (by decide)
theorem g8_4 (h : CT T N I R) (hT : T a = 8) : ∃ b, R a 4 = b + 1 ∧ T b = 73 := h.ro hT (by decide) (by decide) (by decide)
theorem g8_5 (h : CT T N I R) (hT : T a = 8) : (-2147483648 : Int) ≤ I a 5 ∧ I a 5 ≤ 2147483647 := h.io hT (by decide) (by decide)
theorem g8_6 (h : CT T N I R) (hT : T a = 8) : (-2147483648 : Int) ≤ I a 6 ∧ I a 6 ≤ 2147483647 := h.io hT (by decide) (by decide)
theorem g8_7 (h : CT T N I R) (hT : T a = 8) : (-2147483648 : Int) ≤ I a 7 ∧ I a 7 ≤ 2147483647 := h.io hT (by decide) (by decide)
theorem g8_8 (h : CT T N I R) (hT : T a = 8) : (-2147483648 : Int) ≤ I a 8 ∧ I a 8 ≤ 2147483647 := h.io hT (by decide) (by decide)
theorem g8_9 (h : CT T N I R) (hT : T a = 8) : (-2147483648 : Int) ≤ I a 9 ∧ I a 9 ≤ 2147483647 := h.io hT (by decide) (by decide)
theorem g8_10 (h : CT T N I R) (hT : T a = 8) : ∃ b, R a 10 = b + 1 ∧ T b = 74 := h.ro hT (by decide) (by decide) (by decide)
theorem kd9 : kd 9 = (0, 12, [0, 0, 2, 2, 2, 0, 0, 0, 0, 0, 0]) := rfl
theorem g9_0 (h : CT T N I R) (hT : T a = 9) : (-2147483648 : Int) ≤ I a 0 ∧ I a 0 ≤ 2147483647 := h.io hT (by decide) (by decide)
theorem g9_1 (h : CT T N I R) (hT : T a = 9) : (-2147483648 : Int) ≤ I a 1 ∧ I a 1 ≤ 2147483647 := h.io hT (by decide) (by decide)
theorem g9_2 (h : CT T N I R) (hT : T a = 9) : R a 2 = 0 ∨ ∃ b, R a 2 = b + 1 ∧ T b = 75 := h.rn hT (by decide) (by decide) (by decide)
theorem g9_3 (h : CT T N I R) (hT : T a = 9) : R a 3 = 0 ∨ ∃ b, R a 3 = b + 1 ∧ T b = 76 := h.rn hT (by decide) (by decide) (by decide)
theorem g9_4 (h : CT T N I R) (hT : T a = 9) : R a 4 = 0 ∨ ∃ b, R a 4 = b + 1 ∧ T b = 77 := h.rn hT (by decide) (by decide) (by decide)
theorem g9_5 (h : CT T N I R) (hT : T a = 9) : (-2147483648 : Int) ≤ I a 5 ∧ I a 5 ≤ 2147483647 := h.io hT (by decide) (by decide)
theorem g9_6 (h : CT T N I R) (hT : T a = 9) : (-2147483648 : Int) ≤ I a 6 ∧ I a 6 ≤ 2147483647 := h.io hT (by decide) (by decide)
theorem g9_7 (h : CT T N I R) (hT : T a = 9) : (0 : Int) ≤ I a 7 ∧ I a 7 ≤ 1 := h.io hT (by decide) (by decide)
theorem g9_8 (h : CT T N I R) (hT : T a = 9) : (-2147483648 : Int) ≤ I a 8 ∧ I a 8 ≤ 2147483647 := h.io hT (by decide) (by decide)
theorem g9_9 (h : CT T N I R) (hT : T a = 9) : (-2147483648 : Int) ≤ I a 9 ∧ I a 9 ≤ 2147483647 := h.io hT (by decide) (by decide)
theorem g9_10 (h : CT T N I R) (hT : T a = 9) : (-2147483648 : Int) ≤ I a 10 ∧ I a 10 ≤ 2147483647 := h.io hT (by decide) (by decide)
theorem kd10 : kd 10 = (0, 10, [1, 0, 0, 2, 2, 0]) := rfl
theorem g10_1 (h : CT T N I R) (hT : T a = 10) : (-2147483648 : Int) ≤ I a 1 ∧ I a 1 ≤ 2147483647 := h.io hT (by decide) (by decide)
theorem g10_2 (h : CT T N I R) (hT : T a = 10) : (-2147483648 : Int) ≤ I a 2 ∧ I a 2 ≤ 2147483647 := h.io hT (by decide) (by decide)
theorem g10_3 (h : CT T N I R) (hT : T a = 10) : ∃ b, R a 3 = b + 1 ∧ T b = 20 := h.ro hT (by decide) (by decide) (by decide)
theorem g10_4 (h : CT T N I R) (hT : T a = 10) : ∃ b, R a 4 = b + 1 ∧ T b = 21 := h.ro hT (by decide) (by decide) (by decide)
theorem g10_5 (h : CT T N I R) (hT : T a = 10) : (0 : Int) ≤ I a 5 ∧ I a 5 ≤ 1 := h.io hT (by decide) (by decide)
theorem kd11 : kd 11 = (0, 5, [0, 0, 2, 2, 0, 2]) := rfl
theorem g11_0 (h : CT T N I R) (hT : T a = 11) : (0 : Int) ≤ I a 0 ∧ I a 0 ≤ 15 := h.io hT (by decide) (by decide)
theorem g11_1 (h : CT T N I R) (hT : T a = 11) : (-2147483648 : Int) ≤ I a 1 ∧ I a 1 ≤ 2147483647 := h.io hT (by decide) (by decide)
theorem g11_2 (h : CT T N I R) (hT : T a = 11) : ∃ b, R a 2 = b + 1 ∧ T b = 78 := h.ro hT (by decide) (by decide) (by decide)
theorem g11_3 (h : CT T N I R) (hT : T a = 11) : ∃ b, R a 3 = b + 1 ∧ T b = 19 := h.ro hT (by decide) (by decide) (by decide)
theorem g11_4 (h : CT T N I R) (hT : T a = 11) : (0 : Int) ≤ I a 4 ∧ I a 4 ≤ 12 := h.io hT (by decide) (by decide)
theorem g11_5 (h : CT T N I R) (hT : T a = 11) : ∃ b, R a 5 = b + 1 ∧ T b = 10 := h.ro hT (by decide) (by decide) (by decide)
theorem kd12 : kd 12 = (0, 7, [2, 0, 2, 2, 2, 2]) := rfl
theorem g12_0 (h : CT T N I R) (hT : T a = 12) : ∃ b, R a 0 = b + 1 ∧ T b = 11 := h.ro hT (by decide) (by decide) (by decide)
theorem g12_1 (h : CT T N I R) (hT : T a = 12) : (-2147483648 : Int) ≤ I a 1 ∧ I a 1 ≤ 2147483647 := h.io hT (by decide) (by decide)
theorem g12_2 (h : CT T N I R) (hT : T a = 12) : ∃ b, R a 2 = b + 1 ∧ T b = 84 := h.ro hT (by decide) (by decide) (by decide)
theorem g12_3 (h : CT T N I R) (hT : T a = 12) : ∃ b, R a 3 = b + 1 ∧ T b = 85 := h.ro hT (by decide) (by decide) (by decide)
theorem g12_4 (h : CT T N I R) (hT : T a = 12) : ∃ b, R a 4 = b + 1 ∧ T b = 86 := h.ro hT (by decide) (by decide) (by decide)
theorem g12_5 (h : CT T N I R) (hT : T a = 12) : ∃ b, R a 5 = b + 1 ∧ T b = 88 := h.ro hT (by decide) (by decide) (by decide)
theorem kd13 : kd 13 = (0, 4, [2, 0, 0, 0, 0, 0, 0, 0, 0]) := rfl
theorem g13_0 (h : CT T N I R) (hT : T a = 13) : R a 0 = 0 ∨ ∃ b, R a 0 = b + 1 ∧ T b = 9 := h.rn hT (by decide) (by decide) (by decide)
theorem g13_1 (h : CT T N I R) (hT : T a = 13) : (0 : Int) ≤ I a 1 ∧ I a 1 ≤ 1599 := h.io hT (by decide) (by decide)
theorem g13_2 (h : CT T N I R) (hT : T a = 13) : (-2147483648 : Int) ≤ I a 2 ∧ I a 2 ≤ 2147483647 := h.io hT (by decide) (by decide)
theorem g13_3 (h : CT T N I R) (hT : T a = 13) : (-2147483648 : Int) ≤ I a 3 ∧ I a 3 ≤ 2147483647 := h.io hT (by decide) (by decide)
theorem g13_4 (h : CT T N I R) (hT : T a = 13) : (-2147483648 : Int) ≤ I a 4 ∧ I a 4 ≤ 2147483647 := h.io hT (by decide) (by decide)
theorem g13_5 (h : CT T N I R) (hT : T a = 13) : (-2147483648 : Int) ≤ I a 5 ∧ I a 5 ≤ 2147483647 := h.io hT (by decide) (by decide)
theorem g13_6 (h : CT T N I R) (hT : T a = 13) : (0 : Int) ≤ I a 6 ∧ I a 6 ≤ 1 := h.io hT (by decide) (by decide)
theorem g13_7 (h : CT T N I R) (hT : T a = 13) : (-2147483648 : Int) ≤ I a 7 ∧ I a 7 ≤ 2147483647 := h.io hT (by decide) (by decide)
theorem g13_8 (h : CT T N I R) (hT : T a = 13) : (0 : Int) ≤ I a 8 ∧ I a 8 ≤ 1 := h.io hT (by decide) (by decide)
theorem kd14 : kd 14 = (0, 0, [2, 0, 0, 0]) := rfl
theorem g14_0 (h : CT T N I R) (hT : T a = 14) : ∃ b, R a 0 = b + 1 ∧ T b = 96 := h.ro hT (by decide) (by decide) (by decide)
theorem g14_1 (h : CT T N I R) (hT : T a = 14) : (0 : Int) ≤ I a 1 ∧ I a 1 ≤ 0 := h.io hT (by decide) (by decide)
theorem g14_2 (h : CT T N I R) (hT : T a = 14) : (0 : Int) ≤ I a 2 ∧ I a 2 ≤ 1 := h.io hT (by decide) (by decide)
theorem g14_3 (h : CT T N I R) (hT : T a = 14) : (0 : Int) ≤ I a 3 ∧ I a 3 ≤ 40000 := h.io hT (by decide) (by decide)
theorem kd15 : kd 15 = (0, 1, [0, 2, 0]) := rfl
theorem g15_0 (h : CT T N I R) (hT : T a = 15) : (-2147483648 : Int) ≤ I a 0 ∧ I a 0 ≤ 2147483647 := h.io hT (by decide) (by decide)
theorem g15_2 (h : CT T N I R) (hT : T a = 15) : (0 : Int) ≤ I a 2 ∧ I a 2 ≤ 16 := h.io hT (by decide) (by decide)
theorem kd16 : kd 16 = (0, 1, [0, 2, 0]) := rfl
theorem g16_0 (h : CT T N I R) (hT : T a = 16) : (-2147483648 : Int) ≤ I a 0 ∧ I a 0 ≤ 2147483647 := h.io hT (by decide) (by decide)
theorem g16_2 (h : CT T N I R) (hT : T a = 16) : (0 : Int) ≤ I a 2 ∧ I a 2 ≤ 16 := h.io hT (by decide) (by decide)
theorem kd17 : kd 17 = (0, 1, [0, 2, 0]) := rfl
theorem g17_0 (h : CT T N I R) (hT : T a = 17) : (-2147483648 : Int) ≤ I a 0 ∧ I a 0 ≤ 2147483647 := h.io hT (by decide) (by decide)
theorem g17_2 (h : CT T N I R) (hT : T a = 17) : (0 : Int) ≤ I a 2 ∧ I a 2 ≤ 16 := h.io hT (by decide) (by decide)
theorem kd18 : kd 18 = (0, 1, [0, 2, 0]) := rfl
theorem g18_0 (h : CT T N I R) (hT : T a = 18) : (-2147483648 : Int) ≤ I a 0 ∧ I a 0 ≤ 2147483647 := h.io hT (by decide) (by decide)
theorem g18_2 (h : CT T N I R) (hT : T a = 18) : (0 : Int) ≤ I a 2 ∧ I a 2 ≤ 16 := h.io hT (by decide) (by decide)
theorem kd19 : kd 19 = (0, 1, [0, 2, 0]) := rfl
theorem g19_0 (h : CT T N I R) (hT : T a = 19) : (-2147483648 : Int) ≤ I a 0 ∧ I a 0 ≤ 2147483647 := h.io hT (by decide) (by decide)
theorem g19_2 (h : CT T N I R) (hT : T a = 19) : (0 : Int) ≤ I a 2 ∧ I a 2 ≤ 12 := h.io hT (by decide) (by decide)
theorem kd20 : kd 20 = (0, 1, [0, 2, 0]) := rfl
theorem g20_0 (h : CT T N I R) (hT : T a = 20) : (-2147483648 : Int) ≤ I a 0 ∧ I a 0 ≤ 2147483647 := h.io hT (by decide) (by decide)
theorem g20_2 (h : CT T N I R) (hT : T a = 20) : (0 : Int) ≤ I a 2 ∧ I a 2 ≤ 8 := h.io hT (by decide) (by decide)
theorem kd21 : kd 21 = (0, 1, [0, 2, 0]) := rfl
theorem g21_0 (h : CT T N I R) (hT : T a = 21) : (-2147483648 : Int) ≤ I a 0 ∧ I a 0 ≤ 2147483647 := h.io hT (by decide) (by decide)
theorem g21_2 (h : CT T N I R) (hT : T a = 21) : (0 : Int) ≤ I a 2 ∧ I a 2 ≤ 40 := h.io hT (by decide) (by decide)
theorem kd22 : kd 22 = (0, 1, [0, 2, 0]) := rfl
theorem g22_0 (h : CT T N I R) (hT : T a = 22) : (-2147483648 : Int) ≤ I a 0 ∧ I a 0 ≤ 2147483647 := h.io hT (by decide) (by decide)
theorem g22_2 (h : CT T N I R) (hT : T a = 22) : (0 : Int) ≤ I a 2 ∧ I a 2 ≤ 200 := h.io hT (by decide) (by decide)
theorem kd23 : kd 23 = (0, 1, [0, 2, 0]) := rfl
theorem g23_0 (h : CT T N I R) (hT : T a = 23) : (-2147483648 : Int) ≤ I a 0 ∧ I a 0 ≤ 2147483647 := h.io hT (by decide) (by decide)
theorem g23_2 (h : CT T N I R) (hT : T a = 23) : (0 : Int) ≤ I a 2 ∧ I a 2 ≤ 500 := h.io hT (by decide) (by decide)
theorem kd30 : kd 30 = (0, 13, [2, 2, 2, 2, 2, 2, 2, 0, 0, 0]) := rfl
theorem kd31 : kd 31 = (0, 11, [2, 2, 2]) := rfl
theorem kd32 : kd 32 = (0, 6, [2, 0, 2, 2, 2, 0, 0, 2, 2]) := rfl
theorem kd33 : kd 33 = (0, 3, [0, 0, 2, 0, 2, 2, 2, 0, 0, 0, 0, 0, 0, 2, 2, 2, 2, 2, 2, 0]) := rfl
theorem kd34 : kd 34 = (0, 2, [2, 2, 2, 2, 2, 0, 0, 2, 2, 2, 2, 0]) := rfl
theorem kd35 : kd 35 = (0, 8, [2, 0, 0, 2, 2, 0, 0, 1, 2, 0, 2, 2, 0]) := rfl
theorem kd36 : kd 36 = (0, 9, [0, 2, 2, 2, 2, 0, 0, 0, 0, 0, 2]) := rfl
theorem kd37 : kd 37 = (0, 12, [0, 0, 2, 2, 2, 0, 0, 0, 0, 0, 0]) := rfl
theorem kd38 : kd 38 = (0, 10, [1, 0, 0, 2, 2, 0]) := rfl
theorem kd39 : kd 39 = (0, 5, [0, 0, 2, 2, 0, 2]) := rfl
theorem kd40 : kd 40 = (0, 7, [2, 0, 2, 2, 2, 2]) := rfl
theorem kd41 : kd 41 = (0, 4, [2, 0, 0, 0, 0, 0, 0, 0, 0]) := rfl
theorem kd42 : kd 42 = (0, 0, [2, 0, 0, 0]) := rfl
theorem kd43 : kd 43 = (0, 1, [0, 2, 0]) := rfl
theorem kd50 : kd 50 = (1, 5, [2]) := rfl
theorem gn50 (h : CT T N I R) (hT : T a = 50) : 10 ≤ N a ∧ N a ≤ 24 := h.n hT (by decide)
theorem ga50 (h : CT T N I R) (hT : T a = 50) (hk : k < N a) : R a k = 0 ∨ ∃ b, R a k = b + 1 ∧ T b = 8 := h.rna hT (by decide) hk (by rw [rF_arr (by decide)]; decide)
theorem kd51 : kd 51 = (1, 5, [2]) := rfl
theorem gn51 (h : CT T N I R) (hT : T a = 51) : 10 ≤ N a ∧ N a ≤ 24 := h.n hT (by decide)
theorem ga51 (h : CT T N I R) (hT : T a = 51) (hk : k < N a) : R a k = 0 ∨ ∃ b, R a k = b + 1 ∧ T b = 8 := h.rna hT (by decide) hk (by rw [rF_arr (by decide)]; decide)
theorem kd52 : kd 52 = (1, 5, [2]) := rfl
theorem gn52 (h : CT T N I R) (hT : T a = 52) : 10 ≤ N a ∧ N a ≤ 24 := h.n hT (by decide)
theorem ga52 (h : CT T N I R) (hT : T a = 52) (hk : k < N a) : R a k = 0 ∨ ∃ b, R a k = b + 1 ∧ T b = 10 := h.rna hT (by decide) hk (by rw [rF_arr (by decide)]; decide)
theorem kd53 : kd 53 = (1, 5, [2]) := rfl
theorem gn53 (h : CT T N I R) (hT : T a = 53) : 10 ≤ N a ∧ N a ≤ 24 := h.n hT (by decide)
theorem ga53 (h : CT T N I R) (hT : T a = 53) (hk : k < N a) : R a k = 0 ∨ ∃ b, R a k = b + 1 ∧ T b = 11 := h.rna hT (by decide) hk (by rw [rF_arr (by decide)]; decide)
theorem kd54 : kd 54 = (1, 5, [2]) := rfl
theorem gn54 (h : CT T N I R) (hT : T a = 54) : 10 ≤ N a ∧ N a ≤ 18 := h.n hT (by decide)
theorem ga54 (h : CT T N I R) (hT : T a = 54) (hk : k < N a) : R a k = 0 ∨ ∃ b, R a k = b + 1 ∧ T b = 10 := h.rna hT (by decide) hk (by rw [rF_arr (by decide)]; decide)
theorem kd55 : kd 55 = (1, 5, [2]) := rfl
theorem gn55 (h : CT T N I R) (hT : T a = 55) : 10 ≤ N a ∧ N a ≤ 12 := h.n hT (by decide)
theorem ga55 (h : CT T N I R) (hT : T a = 55) (hk : k < N a) : R a k = 0 ∨ ∃ b, R a k = b + 1 ∧ T b = 9 := h.rna hT (by decide) hk (by rw [rF_arr (by decide)]; decide)
theorem kd56 : kd 56 = (1, 5, [2]) := rfl
theorem gn56 (h : CT T N I R) (hT : T a = 56) : 10 ≤ N a ∧ N a ≤ 60 := h.n hT (by decide)
theorem ga56 (h : CT T N I R) (hT : T a = 56) (hk : k < N a) : R a k = 0 ∨ ∃ b, R a k = b + 1 ∧ T b = 9 := h.rna hT (by decide) hk (by rw [rF_arr (by decide)]; decide)
theorem kd57 : kd 57 = (1, 5, [2]) := rfl
theorem gn57 (h : CT T N I R) (hT : T a = 57) : 10 ≤ N a ∧ N a ≤ 300 := h.n hT (by decide)
theorem ga57 (h : CT T N I R) (hT : T a = 57) (hk : k < N a) : R a k = 0 ∨ ∃ b, R a k = b + 1 ∧ T b = 12 := h.rna hT (by decide) hk (by rw [rF_arr (by decide)]; decide)
theorem kd58 : kd 58 = (1, 5, [2]) := rfl
theorem gn58 (h : CT T N I R) (hT : T a = 58) : 10 ≤ N a ∧ N a ≤ 750 := h.n hT (by decide)
theorem ga58 (h : CT T N I R) (hT : T a = 58) (hk : k < N a) : R a k = 0 ∨ ∃ b, R a k = b + 1 ∧ T b = 13 := h.rna hT (by decide) hk (by rw [rF_arr (by decide)]; decide)
theorem kd60 : kd 60 = (1, 1, [0]) := rfl
theorem gn60 (h : CT T N I R) (hT : T a = 60) : 3000 ≤ N a ∧ N a ≤ 3000 := h.n hT (by decide)
theorem ga60 (h : CT T N I R) (hT : T a = 60) (hk : k < N a) : (-128 : Int) ≤ I a k ∧ I a k ≤ 127 := by
  have := h.i hT (by decide) hk
  rw [iR_arr (by decide)] at this
  exact this
theorem kd61 : kd 61 = (1, 1, [0]) := rfl
theorem gn61 (h : CT T N I R) (hT : T a = 61) : 0 ≤ N a ∧ N a ≤ 3000 := h.n hT (by decide)
theorem ga61 (h : CT T N I R) (hT : T a = 61) (hk : k < N a) : (0 : Int) ≤ I a k ∧ I a k ≤ 127 := by
  have := h.i hT (by decide) hk
  rw [iR_arr (by decide)] at this
  exact this
theorem kd62 : kd 62 = (1, 0, [0]) := rfl
theorem gn62 (h : CT T N I R) (hT : T a = 62) : 3001 ≤ N a ∧ N a ≤ 3001 := h.n hT (by decide)
theorem ga62 (h : CT T N I R) (hT : T a = 62) (hk : k < N a) : (-2147483648 : Int) ≤ I a k ∧ I a k ≤ 2147483647 := by
  have := h.i hT (by decide) hk
  rw [iR_arr (by decide)] at this
  exact this
theorem kd63 : kd 63 = (1, 0, [0]) := rfl
theorem gn63 (h : CT T N I R) (hT : T a = 63) : 3001 ≤ N a ∧ N a ≤ 3001 := h.n hT (by decide)
theorem ga63 (h : CT T N I R) (hT : T a = 63) (hk : k < N a) : (-2147483648 : Int) ≤ I a k ∧ I a k ≤ 2147483647 := by
  have := h.i hT (by decide) hk
  rw [iR_arr (by decide)] at this
  exact this
theorem kd64 : kd 64 = (1, 3, [1]) := rfl
theorem gn64 (h : CT T N I R) (hT : T a = 64) : 3001 ≤ N a ∧ N a ≤ 3001 := h.n hT (by decide)
theorem kd65 : kd 65 = (1, 0, [0]) := rfl
theorem gn65 (h : CT T N I R) (hT : T a = 65) : 8 ≤ N a ∧ N a ≤ 8 := h.n hT (by decide)
theorem ga65 (h : CT T N I R) (hT : T a = 65) (hk : k < N a) : (-2147483648 : Int) ≤ I a k ∧ I a k ≤ 2147483647 := by
  have := h.i hT (by decide) hk
  rw [iR_arr (by decide)] at this
  exact this
theorem kd66 : kd 66 = (1, 0, [0]) := rfl
theorem gn66 (h : CT T N I R) (hT : T a = 66) : 40 ≤ N a ∧ N a ≤ 40 := h.n hT (by decide)
theorem ga66 (h : CT T N I R) (hT : T a = 66) (hk : k < N a) : (-2147483648 : Int) ≤ I a k ∧ I a k ≤ 2147483647 := by
  have := h.i hT (by decide) hk
  rw [iR_arr (by decide)] at this
  exact this
theorem kd67 : kd 67 = (1, 0, [0]) := rfl
theorem gn67 (h : CT T N I R) (hT : T a = 67) : 40 ≤ N a ∧ N a ≤ 40 := h.n hT (by decide)
theorem ga67 (h : CT T N I R) (hT : T a = 67) (hk : k < N a) : (-2147483648 : Int) ≤ I a k ∧ I a k ≤ 2147483647 := by
  have := h.i hT (by decide) hk
  rw [iR_arr (by decide)] at this
  exact this
theorem kd68 : kd 68 = (1, 4, [2]) := rfl
theorem gn68 (h : CT T N I R) (hT : T a = 68) : 6 ≤ N a ∧ N a ≤ 6 := h.n hT (by decide)
theorem ga68 (h : CT T N I R) (hT : T a = 68) (hk : k < N a) : R a k = 0 ∨ ∃ b, R a k = b + 1 ∧ T b = 69 := h.rna hT (by decide) hk (by rw [rF_arr (by decide)]; decide)
theorem kd69 : kd 69 = (1, 0, [0]) := rfl
theorem gn69 (h : CT T N I R) (hT : T a = 69) : 0 ≤ N a ∧ N a ≤ 8 := h.n hT (by decide)
theorem ga69 (h : CT T N I R) (hT : T a = 69) (hk : k < N a) : (-2147483648 : Int) ≤ I a k ∧ I a k ≤ 2147483647 := by
  have := h.i hT (by decide) hk
  rw [iR_arr (by decide)] at this
  exact this
theorem kd70 : kd 70 = (1, 0, [0]) := rfl
theorem gn70 (h : CT T N I R) (hT : T a = 70) : 8 ≤ N a ∧ N a ≤ 8 := h.n hT (by decide)
theorem ga70 (h : CT T N I R) (hT : T a = 70) (hk : k < N a) : (-2147483648 : Int) ≤ I a k ∧ I a k ≤ 2147483647 := by
  have := h.i hT (by decide) hk
  rw [iR_arr (by decide)] at this
  exact this
theorem kd71 : kd 71 = (1, 3, [1]) := rfl
theorem gn71 (h : CT T N I R) (hT : T a = 71) : 62 ≤ N a ∧ N a ≤ 62 := h.n hT (by decide)
theorem kd72 : kd 72 = (1, 0, [0]) := rfl
theorem gn72 (h : CT T N I R) (hT : T a = 72) : 62 ≤ N a ∧ N a ≤ 62 := h.n hT (by decide)
theorem ga72 (h : CT T N I R) (hT : T a = 72) (hk : k < N a) : (-2147483648 : Int) ≤ I a k ∧ I a k ≤ 2147483647 := by
  have := h.i hT (by decide) hk
  rw [iR_arr (by decide)] at this
  exact this
theorem kd73 : kd 73 = (1, 0, [0]) := rfl
theorem gn73 (h : CT T N I R) (hT : T a = 73) : 0 ≤ N a ∧ N a ≤ 40 := h.n hT (by decide)
theorem ga73 (h : CT T N I R) (hT : T a = 73) (hk : k < N a) : (-2147483648 : Int) ≤ I a k ∧ I a k ≤ 2147483647 := by
  have := h.i hT (by decide) hk
  rw [iR_arr (by decide)] at this
  exact this
theorem kd74 : kd 74 = (1, 0, [0]) := rfl
theorem gn74 (h : CT T N I R) (hT : T a = 74) : 16 ≤ N a ∧ N a ≤ 16 := h.n hT (by decide)
theorem ga74 (h : CT T N I R) (hT : T a = 74) (hk : k < N a) : (-2147483648 : Int) ≤ I a k ∧ I a k ≤ 2147483647 := by
  have := h.i hT (by decide) hk
  rw [iR_arr (by decide)] at this
  exact this
theorem kd75 : kd 75 = (1, 0, [0]) := rfl
theorem gn75 (h : CT T N I R) (hT : T a = 75) : 4 ≤ N a ∧ N a ≤ 4 := h.n hT (by decide)
theorem ga75 (h : CT T N I R) (hT : T a = 75) (hk : k < N a) : (-2147483648 : Int) ≤ I a k ∧ I a k ≤ 2147483647 := by
  have := h.i hT (by decide) hk
  rw [iR_arr (by decide)] at this
  exact this
theorem kd76 : kd 76 = (1, 3, [1]) := rfl
theorem gn76 (h : CT T N I R) (hT : T a = 76) : 4 ≤ N a ∧ N a ≤ 4 := h.n hT (by decide)
theorem kd77 : kd 77 = (1, 0, [0]) := rfl
theorem gn77 (h : CT T N I R) (hT : T a = 77) : 2 ≤ N a ∧ N a ≤ 3 := h.n hT (by decide)
theorem ga77 (h : CT T N I R) (hT : T a = 77) (hk : k < N a) : (-2147483648 : Int) ≤ I a k ∧ I a k ≤ 2147483647 := by
  have := h.i hT (by decide) hk
  rw [iR_arr (by decide)] at this
  exact this
theorem kd78 : kd 78 = (1, 0, [0]) := rfl
theorem gn78 (h : CT T N I R) (hT : T a = 78) : 1 ≤ N a ∧ N a ≤ 16 := h.n hT (by decide)
theorem ga78 (h : CT T N I R) (hT : T a = 78) (hk : k < N a) : (-2147483648 : Int) ≤ I a k ∧ I a k ≤ 2147483647 := by
  have := h.i hT (by decide) hk
  rw [iR_arr (by decide)] at this
  exact this
theorem kd79 : kd 79 = (1, 4, [2]) := rfl
theorem gn79 (h : CT T N I R) (hT : T a = 79) : 200 ≤ N a ∧ N a ≤ 200 := h.n hT (by decide)
theorem ga79 (h : CT T N I R) (hT : T a = 79) (hk : k < N a) : ∃ b, R a k = b + 1 ∧ T b = 80 := h.ra hT (by decide) hk (by rw [rF_arr (by decide)]; decide)
theorem kd80 : kd 80 = (1, 0, [0]) := rfl
theorem gn80 (h : CT T N I R) (hT : T a = 80) : 4 ≤ N a ∧ N a ≤ 4 := h.n hT (by decide)
theorem ga80 (h : CT T N I R) (hT : T a = 80) (hk : k < N a) : (-2147483648 : Int) ≤ I a k ∧ I a k ≤ 2147483647 := by
  have := h.i hT (by decide) hk
  rw [iR_arr (by decide)] at this
  exact this
theorem kd81 : kd 81 = (1, 0, [0]) := rfl
theorem gn81 (h : CT T N I R) (hT : T a = 81) : 16 ≤ N a ∧ N a ≤ 16 := h.n hT (by decide)
theorem ga81 (h : CT T N I R) (hT : T a = 81) (hk : k < N a) : (-2147483648 : Int) ≤ I a k ∧ I a k ≤ 2147483647 := by
  have := h.i hT (by decide) hk
  rw [iR_arr (by decide)] at this
  exact this
theorem kd82 : kd 82 = (1, 4, [2]) := rfl
theorem gn82 (h : CT T N I R) (hT : T a = 82) : 18 ≤ N a ∧ N a ≤ 18 := h.n hT (by decide)
theorem ga82 (h : CT T N I R) (hT : T a = 82) (hk : k < N a) : ∃ b, R a k = b + 1 ∧ T b = 83 := h.ra hT (by decide) hk (by rw [rF_arr (by decide)]; decide)
theorem kd83 : kd 83 = (1, 0, [0]) := rfl
theorem gn83 (h : CT T N I R) (hT : T a = 83) : 6 ≤ N a ∧ N a ≤ 6 := h.n hT (by decide)
theorem ga83 (h : CT T N I R) (hT : T a = 83) (hk : k < N a) : (-2147483648 : Int) ≤ I a k ∧ I a k ≤ 2147483647 := by
  have := h.i hT (by decide) hk
  rw [iR_arr (by decide)] at this
  exact this
theorem kd84 : kd 84 = (1, 0, [0]) := rfl
theorem gn84 (h : CT T N I R) (hT : T a = 84) : 0 ≤ N a ∧ N a ≤ 12 := h.n hT (by decide)
theorem ga84 (h : CT T N I R) (hT : T a = 84) (hk : k < N a) : (-2147483648 : Int) ≤ I a k ∧ I a k ≤ 2147483647 := by
  have := h.i hT (by decide) hk
  rw [iR_arr (by decide)] at this
  exact this
theorem kd85 : kd 85 = (1, 2, [0]) := rfl
theorem gn85 (h : CT T N I R) (hT : T a = 85) : 0 ≤ N a ∧ N a ≤ 12 := h.n hT (by decide)
theorem ga85 (h : CT T N I R) (hT : T a = 85) (hk : k < N a) : (0 : Int) ≤ I a k ∧ I a k ≤ 1 := by
  have := h.i hT (by decide) hk
  rw [iR_arr (by decide)] at this
  exact this
theorem kd86 : kd 86 = (1, 4, [2]) := rfl
theorem gn86 (h : CT T N I R) (hT : T a = 86) : 0 ≤ N a ∧ N a ≤ 12 := h.n hT (by decide)
theorem ga86 (h : CT T N I R) (hT : T a = 86) (hk : k < N a) : R a k = 0 ∨ ∃ b, R a k = b + 1 ∧ T b = 87 := h.rna hT (by decide) hk (by rw [rF_arr (by decide)]; decide)
theorem kd87 : kd 87 = (1, 0, [0]) := rfl
theorem gn87 (h : CT T N I R) (hT : T a = 87) : 20 ≤ N a ∧ N a ≤ 20 := h.n hT (by decide)
theorem ga87 (h : CT T N I R) (hT : T a = 87) (hk : k < N a) : (-2147483648 : Int) ≤ I a k ∧ I a k ≤ 2147483647 := by
  have := h.i hT (by decide) hk
  rw [iR_arr (by decide)] at this
  exact this
theorem kd88 : kd 88 = (1, 0, [0]) := rfl
theorem gn88 (h : CT T N I R) (hT : T a = 88) : 0 ≤ N a ∧ N a ≤ 12 := h.n hT (by decide)
theorem ga88 (h : CT T N I R) (hT : T a = 88) (hk : k < N a) : (-2147483648 : Int) ≤ I a k ∧ I a k ≤ 2147483647 := by
  have := h.i hT (by decide) hk
  rw [iR_arr (by decide)] at this
  exact this
theorem kd89 : kd 89 = (1, 0, [0]) := rfl
theorem gn89 (h : CT T N I R) (hT : T a = 89) : 60 ≤ N a ∧ N a ≤ 60 := h.n hT (by decide)
theorem ga89 (h : CT T N I R) (hT : T a = 89) (hk : k < N a) : (-2147483648 : Int) ≤ I a k ∧ I a k ≤ 2147483647 := by
  have := h.i hT (by decide) hk
  rw [iR_arr (by decide)] at this
  exact this
theorem kd90 : kd 90 = (1, 0, [0]) := rfl
theorem gn90 (h : CT T N I R) (hT : T a = 90) : 1600 ≤ N a ∧ N a ≤ 1600 := h.n hT (by decide)
theorem ga90 (h : CT T N I R) (hT : T a = 90) (hk : k < N a) : (0 : Int) ≤ I a k ∧ I a k ≤ 199 := by
  have := h.i hT (by decide) hk
  rw [iR_arr (by decide)] at this
  exact this
theorem kd91 : kd 91 = (1, 0, [0]) := rfl
theorem gn91 (h : CT T N I R) (hT : T a = 91) : 1600 ≤ N a ∧ N a ≤ 1600 := h.n hT (by decide)
theorem ga91 (h : CT T N I R) (hT : T a = 91) (hk : k < N a) : (-1 : Int) ≤ I a k ∧ I a k ≤ 1599 := by
  have := h.i hT (by decide) hk
  rw [iR_arr (by decide)] at this
  exact this
theorem kd92 : kd 92 = (1, 0, [0]) := rfl
theorem gn92 (h : CT T N I R) (hT : T a = 92) : 1600 ≤ N a ∧ N a ≤ 1600 := h.n hT (by decide)
theorem ga92 (h : CT T N I R) (hT : T a = 92) (hk : k < N a) : (-2147483648 : Int) ≤ I a k ∧ I a k ≤ 2147483647 := by
  have := h.i hT (by decide) hk
  rw [iR_arr (by decide)] at this
  exact this
theorem kd93 : kd 93 = (1, 0, [0]) := rfl
theorem gn93 (h : CT T N I R) (hT : T a = 93) : 1600 ≤ N a ∧ N a ≤ 1600 := h.n hT (by decide)
theorem ga93 (h : CT T N I R) (hT : T a = 93) (hk : k < N a) : (-2147483648 : Int) ≤ I a k ∧ I a k ≤ 2147483647 := by
  have := h.i hT (by decide) hk
  rw [iR_arr (by decide)] at this
  exact this
theorem kd94 : kd 94 = (1, 0, [0]) := rfl
theorem gn94 (h : CT T N I R) (hT : T a = 94) : 1600 ≤ N a ∧ N a ≤ 1600 := h.n hT (by decide)
theorem ga94 (h : CT T N I R) (hT : T a = 94) (hk : k < N a) : (-1 : Int) ≤ I a k ∧ I a k ≤ 2147483647 := by
  have := h.i hT (by decide) hk
  rw [iR_arr (by decide)] at this
  exact this
theorem kd95 : kd 95 = (1, 0, [0]) := rfl
theorem gn95 (h : CT T N I R) (hT : T a = 95) : 1600 ≤ N a ∧ N a ≤ 1600 := h.n hT (by decide)
theorem ga95 (h : CT T N I R) (hT : T a = 95) (hk : k < N a) : (-2147483648 : Int) ≤ I a k ∧ I a k ≤ 2147483647 := by
  have := h.i hT (by decide) hk
  rw [iR_arr (by decide)] at this
  exact this
theorem kd96 : kd 96 = (1, 1, [0]) := rfl
theorem gn96 (h : CT T N I R) (hT : T a = 96) : 16 ≤ N a ∧ N a ≤ 70000 := h.n hT (by decide)
theorem ga96 (h : CT T N I R) (hT : T a = 96) (hk : k < N a) : (-128 : Int) ≤ I a k ∧ I a k ≤ 127 := by
  have := h.i hT (by decide) hk
  rw [iR_arr (by decide)] at this
  exact this
theorem kd97 : kd 97 = (1, 0, [0]) := rfl
theorem gn97 (h : CT T N I R) (hT : T a = 97) : 0 ≤ N a ∧ N a ≤ 100000 := h.n hT (by decide)
theorem ga97 (h : CT T N I R) (hT : T a = 97) (hk : k < N a) : (-2147483648 : Int) ≤ I a k ∧ I a k ≤ 2147483647 := by
  have := h.i hT (by decide) hk
  rw [iR_arr (by decide)] at this
  exact this
theorem kd98 : kd 98 = (1, 1, [0]) := rfl
theorem gn98 (h : CT T N I R) (hT : T a = 98) : 0 ≤ N a ∧ N a ≤ 100000 := h.n hT (by decide)
theorem ga98 (h : CT T N I R) (hT : T a = 98) (hk : k < N a) : (-128 : Int) ≤ I a k ∧ I a k ≤ 127 := by
  have := h.i hT (by decide) hk
  rw [iR_arr (by decide)] at this
  exact this
theorem kd99 : kd 99 = (1, 5, [2]) := rfl
theorem gn99 (h : CT T N I R) (hT : T a = 99) : 0 ≤ N a ∧ N a ≤ 1000 := h.n hT (by decide)
end CGT
theorem df_J4 : ∀ j, j < 4 → defaultValue (tyJ4 j) = vp_V (fl [2, 0, 0, 0] (fun _ => 0) (fun _ => 0) (fun _ => 0)) j := by decide +kernel
theorem df_Jx4a65c : ∀ j, j < 3 → defaultValue (tyJx4a65c j) = vp_V (fl [0, 2, 0] (fun _ => 0) (fun _ => 0) (fun _ => 0)) j := by decide +kernel
theorem df_X0 : ∀ j, j < 12 → defaultValue (tyX0 j) = vp_V (fl [2, 2, 2, 2, 2, 0, 0, 2, 2, 2, 2, 0] (fun _ => 0) (fun _ => 0) (fun _ => 0)) j := by decide +kernel
theorem df_X1 : ∀ j, j < 20 → defaultValue (tyX1 j) = vp_V (fl [0, 0, 2, 0, 2, 2, 2, 0, 0, 0, 0, 0, 0, 2, 2, 2, 2, 2, 2, 0] (fun _ => 0) (fun _ => 0) (fun _ => 0)) j := by decide +kernel
theorem df_X2 : ∀ j, j < 9 → defaultValue (tyX2 j) = vp_V (fl [2, 0, 0, 0, 0, 0, 0, 0, 0] (fun _ => 0) (fun _ => 0) (fun _ => 0)) j := by decide +kernel
theorem df_X3 : ∀ j, j < 6 → defaultValue (tyX3 j) = vp_V (fl [0, 0, 2, 2, 0, 2] (fun _ => 0) (fun _ => 0) (fun _ => 0)) j := by decide +kernel
theorem df_X4 : ∀ j, j < 9 → defaultValue (tyX4 j) = vp_V (fl [2, 0, 2, 2, 2, 0, 0, 2, 2] (fun _ => 0) (fun _ => 0) (fun _ => 0)) j := by decide +kernel
theorem df_X5 : ∀ j, j < 6 → defaultValue (tyX5 j) = vp_V (fl [2, 0, 2, 2, 2, 2] (fun _ => 0) (fun _ => 0) (fun _ => 0)) j := by decide +kernel
theorem df_X6 : ∀ j, j < 13 → defaultValue (tyX6 j) = vp_V (fl [2, 0, 0, 2, 2, 0, 0, 1, 2, 0, 2, 2, 0] (fun _ => 0) (fun _ => 0) (fun _ => 0)) j := by decide +kernel
theorem df_X7 : ∀ j, j < 11 → defaultValue (tyX7 j) = vp_V (fl [0, 2, 2, 2, 2, 0, 0, 0, 0, 0, 2] (fun _ => 0) (fun _ => 0) (fun _ => 0)) j := by decide +kernel
theorem df_X8 : ∀ j, j < 6 → defaultValue (tyX8 j) = vp_V (fl [1, 0, 0, 2, 2, 0] (fun _ => 0) (fun _ => 0) (fun _ => 0)) j := by decide +kernel
theorem df_X9 : ∀ j, j < 3 → defaultValue (tyX9 j) = vp_V (fl [2, 2, 2] (fun _ => 0) (fun _ => 0) (fun _ => 0)) j := by decide +kernel
theorem df_X10 : ∀ j, j < 11 → defaultValue (tyX10 j) = vp_V (fl [0, 0, 2, 2, 2, 0, 0, 0, 0, 0, 0] (fun _ => 0) (fun _ => 0) (fun _ => 0)) j := by decide +kernel
theorem df_X11 : ∀ j, j < 10 → defaultValue (tyX11 j) = vp_V (fl [2, 2, 2, 2, 2, 2, 2, 0, 0, 0] (fun _ => 0) (fun _ => 0) (fun _ => 0)) j := by decide +kernel
