theorem an50 : (nR 50).2 ≤ 2147483647 := by decide +kernel
theorem an51 : (nR 51).2 ≤ 2147483647 := by decide +kernel
theorem an52 : (nR 52).2 ≤ 2147483647 := by decide +kernel
theorem an53 : (nR 53).2 ≤ 2147483647 := by decide +kernel
theorem an54 : (nR 54).2 ≤ 2147483647 := by decide +kernel
theorem an55 : (nR 55).2 ≤ 2147483647 := by decide +kernel
theorem an56 : (nR 56).2 ≤ 2147483647 := by decide +kernel
theorem an57 : (nR 57).2 ≤ 2147483647 := by decide +kernel
theorem an58 : (nR 58).2 ≤ 2147483647 := by decide +kernel
theorem aq60 : 50 ≤ 60 ∧ (nR 60).2 ≤ 2147483647 ∧ xI 60 0 = false ∧ iR 60 0 = (-128, 127) := by decide +kernel
theorem an60 : (nR 60).2 ≤ 2147483647 := by decide +kernel
theorem aw60 : 50 ≤ 60 ∧ xT 60 = false ∧ ((iR 60 0).1 ≤ 0 ∧ 0 ≤ (iR 60 0).2) ∧ (rF 60 0).1 ≤ 1 ∧ (nR 60).2 ≤ 10000000 := by decide +kernel
theorem an61 : (nR 61).2 ≤ 2147483647 := by decide +kernel
theorem aw61 : 50 ≤ 61 ∧ xT 61 = false ∧ ((iR 61 0).1 ≤ 0 ∧ 0 ≤ (iR 61 0).2) ∧ (rF 61 0).1 ≤ 1 ∧ (nR 61).2 ≤ 10000000 := by decide +kernel
theorem aq62 : 50 ≤ 62 ∧ (nR 62).2 ≤ 2147483647 ∧ xI 62 0 = false := by decide +kernel
theorem an62 : (nR 62).2 ≤ 2147483647 := by decide +kernel
theorem aw62 : 50 ≤ 62 ∧ xT 62 = false ∧ ((iR 62 0).1 ≤ 0 ∧ 0 ≤ (iR 62 0).2) ∧ (rF 62 0).1 ≤ 1 ∧ (nR 62).2 ≤ 10000000 := by decide +kernel
theorem aq63 : 50 ≤ 63 ∧ (nR 63).2 ≤ 2147483647 ∧ xI 63 0 = false := by decide +kernel
theorem an63 : (nR 63).2 ≤ 2147483647 := by decide +kernel
theorem aw63 : 50 ≤ 63 ∧ xT 63 = false ∧ ((iR 63 0).1 ≤ 0 ∧ 0 ≤ (iR 63 0).2) ∧ (rF 63 0).1 ≤ 1 ∧ (nR 63).2 ≤ 10000000 := by decide +kernel
theorem an64 : (nR 64).2 ≤ 2147483647 := by decide +kernel
theorem aw64 : 50 ≤ 64 ∧ xT 64 = false ∧ ((iR 64 0).1 ≤ 0 ∧ 0 ≤ (iR 64 0).2) ∧ (rF 64 0).1 ≤ 1 ∧ (nR 64).2 ≤ 10000000 := by decide +kernel
theorem aq65 : 50 ≤ 65 ∧ (nR 65).2 ≤ 2147483647 ∧ xI 65 0 = false := by decide +kernel
theorem an65 : (nR 65).2 ≤ 2147483647 := by decide +kernel
theorem aw65 : 50 ≤ 65 ∧ xT 65 = false ∧ ((iR 65 0).1 ≤ 0 ∧ 0 ≤ (iR 65 0).2) ∧ (rF 65 0).1 ≤ 1 ∧ (nR 65).2 ≤ 10000000 := by decide +kernel
theorem aq66 : 50 ≤ 66 ∧ (nR 66).2 ≤ 2147483647 ∧ xI 66 0 = false := by decide +kernel
theorem an66 : (nR 66).2 ≤ 2147483647 := by decide +kernel
theorem aw66 : 50 ≤ 66 ∧ xT 66 = false ∧ ((iR 66 0).1 ≤ 0 ∧ 0 ≤ (iR 66 0).2) ∧ (rF 66 0).1 ≤ 1 ∧ (nR 66).2 ≤ 10000000 := by decide +kernel
theorem aq67 : 50 ≤ 67 ∧ (nR 67).2 ≤ 2147483647 ∧ xI 67 0 = false := by decide +kernel
theorem an67 : (nR 67).2 ≤ 2147483647 := by decide +kernel
theorem aw67 : 50 ≤ 67 ∧ xT 67 = false ∧ ((iR 67 0).1 ≤ 0 ∧ 0 ≤ (iR 67 0).2) ∧ (rF 67 0).1 ≤ 1 ∧ (nR 67).2 ≤ 10000000 := by decide +kernel
theorem an68 : (nR 68).2 ≤ 2147483647 := by decide +kernel
theorem aq69 : 50 ≤ 69 ∧ (nR 69).2 ≤ 2147483647 ∧ xI 69 0 = false := by decide +kernel
theorem an69 : (nR 69).2 ≤ 2147483647 := by decide +kernel
theorem aw69 : 50 ≤ 69 ∧ xT 69 = false ∧ ((iR 69 0).1 ≤ 0 ∧ 0 ≤ (iR 69 0).2) ∧ (rF 69 0).1 ≤ 1 ∧ (nR 69).2 ≤ 10000000 := by decide +kernel
theorem aq70 : 50 ≤ 70 ∧ (nR 70).2 ≤ 2147483647 ∧ xI 70 0 = false := by decide +kernel
theorem an70 : (nR 70).2 ≤ 2147483647 := by decide +kernel
theorem aw70 : 50 ≤ 70 ∧ xT 70 = false ∧ ((iR 70 0).1 ≤ 0 ∧ 0 ≤ (iR 70 0).2) ∧ (rF 70 0).1 ≤ 1 ∧ (nR 70).2 ≤ 10000000 := by decide +kernel
theorem an71 : (nR 71).2 ≤ 2147483647 := by decide +kernel
theorem aw71 : 50 ≤ 71 ∧ xT 71 = false ∧ ((iR 71 0).1 ≤ 0 ∧ 0 ≤ (iR 71 0).2) ∧ (rF 71 0).1 ≤ 1 ∧ (nR 71).2 ≤ 10000000 := by decide +kernel
theorem aq72 : 50 ≤ 72 ∧ (nR 72).2 ≤ 2147483647 ∧ xI 72 0 = false := by decide +kernel
theorem an72 : (nR 72).2 ≤ 2147483647 := by decide +kernel
theorem aw72 : 50 ≤ 72 ∧ xT 72 = false ∧ ((iR 72 0).1 ≤ 0 ∧ 0 ≤ (iR 72 0).2) ∧ (rF 72 0).1 ≤ 1 ∧ (nR 72).2 ≤ 10000000 := by decide +kernel
theorem aq73 : 50 ≤ 73 ∧ (nR 73).2 ≤ 2147483647 ∧ xI 73 0 = false := by decide +kernel
theorem an73 : (nR 73).2 ≤ 2147483647 := by decide +kernel
theorem aw73 : 50 ≤ 73 ∧ xT 73 = false ∧ ((iR 73 0).1 ≤ 0 ∧ 0 ≤ (iR 73 0).2) ∧ (rF 73 0).1 ≤ 1 ∧ (nR 73).2 ≤ 10000000 := by decide +kernel
theorem aq74 : 50 ≤ 74 ∧ (nR 74).2 ≤ 2147483647 ∧ xI 74 0 = false := by decide +kernel
theorem an74 : (nR 74).2 ≤ 2147483647 := by decide +kernel
theorem aw74 : 50 ≤ 74 ∧ xT 74 = false ∧ ((iR 74 0).1 ≤ 0 ∧ 0 ≤ (iR 74 0).2) ∧ (rF 74 0).1 ≤ 1 ∧ (nR 74).2 ≤ 10000000 := by decide +kernel
theorem aq75 : 50 ≤ 75 ∧ (nR 75).2 ≤ 2147483647 ∧ xI 75 0 = false := by decide +kernel
theorem an75 : (nR 75).2 ≤ 2147483647 := by decide +kernel
theorem aw75 : 50 ≤ 75 ∧ xT 75 = false ∧ ((iR 75 0).1 ≤ 0 ∧ 0 ≤ (iR 75 0).2) ∧ (rF 75 0).1 ≤ 1 ∧ (nR 75).2 ≤ 10000000 := by decide +kernel
theorem an76 : (nR 76).2 ≤ 2147483647 := by decide +kernel
theorem aw76 : 50 ≤ 76 ∧ xT 76 = false ∧ ((iR 76 0).1 ≤ 0 ∧ 0 ≤ (iR 76 0).2) ∧ (rF 76 0).1 ≤ 1 ∧ (nR 76).2 ≤ 10000000 := by decide +kernel
theorem aq77 : 50 ≤ 77 ∧ (nR 77).2 ≤ 2147483647 ∧ xI 77 0 = false := by decide +kernel
theorem an77 : (nR 77).2 ≤ 2147483647 := by decide +kernel
theorem aw77 : 50 ≤ 77 ∧ xT 77 = false ∧ ((iR 77 0).1 ≤ 0 ∧ 0 ≤ (iR 77 0).2) ∧ (rF 77 0).1 ≤ 1 ∧ (nR 77).2 ≤ 10000000 := by decide +kernel
theorem aq78 : 50 ≤ 78 ∧ (nR 78).2 ≤ 2147483647 ∧ xI 78 0 = false := by decide +kernel
theorem an78 : (nR 78).2 ≤ 2147483647 := by decide +kernel
theorem aw78 : 50 ≤ 78 ∧ xT 78 = false ∧ ((iR 78 0).1 ≤ 0 ∧ 0 ≤ (iR 78 0).2) ∧ (rF 78 0).1 ≤ 1 ∧ (nR 78).2 ≤ 10000000 := by decide +kernel
theorem an79 : (nR 79).2 ≤ 2147483647 := by decide +kernel
theorem aq80 : 50 ≤ 80 ∧ (nR 80).2 ≤ 2147483647 ∧ xI 80 0 = false := by decide +kernel
theorem an80 : (nR 80).2 ≤ 2147483647 := by decide +kernel
theorem aw80 : 50 ≤ 80 ∧ xT 80 = false ∧ ((iR 80 0).1 ≤ 0 ∧ 0 ≤ (iR 80 0).2) ∧ (rF 80 0).1 ≤ 1 ∧ (nR 80).2 ≤ 10000000 := by decide +kernel
theorem aq81 : 50 ≤ 81 ∧ (nR 81).2 ≤ 2147483647 ∧ xI 81 0 = false := by decide +kernel
theorem an81 : (nR 81).2 ≤ 2147483647 := by decide +kernel
theorem aw81 : 50 ≤ 81 ∧ xT 81 = false ∧ ((iR 81 0).1 ≤ 0 ∧ 0 ≤ (iR 81 0).2) ∧ (rF 81 0).1 ≤ 1 ∧ (nR 81).2 ≤ 10000000 := by decide +kernel
theorem an82 : (nR 82).2 ≤ 2147483647 := by decide +kernel
theorem aq83 : 50 ≤ 83 ∧ (nR 83).2 ≤ 2147483647 ∧ xI 83 0 = false := by decide +kernel
theorem an83 : (nR 83).2 ≤ 2147483647 := by decide +kernel
theorem aw83 : 50 ≤ 83 ∧ xT 83 = false ∧ ((iR 83 0).1 ≤ 0 ∧ 0 ≤ (iR 83 0).2) ∧ (rF 83 0).1 ≤ 1 ∧ (nR 83).2 ≤ 10000000 := by decide +kernel
theorem aq84 : 50 ≤ 84 ∧ (nR 84).2 ≤ 2147483647 ∧ xI 84 0 = false := by decide +kernel
theorem an84 : (nR 84).2 ≤ 2147483647 := by decide +kernel
theorem aw84 : 50 ≤ 84 ∧ xT 84 = false ∧ ((iR 84 0).1 ≤ 0 ∧ 0 ≤ (iR 84 0).2) ∧ (rF 84 0).1 ≤ 1 ∧ (nR 84).2 ≤ 10000000 := by decide +kernel
theorem aq85 : 50 ≤ 85 ∧ (nR 85).2 ≤ 2147483647 ∧ xI 85 0 = false ∧ iR 85 0 = (0, 1) := by decide +kernel
theorem an85 : (nR 85).2 ≤ 2147483647 := by decide +kernel
theorem aw85 : 50 ≤ 85 ∧ xT 85 = false ∧ ((iR 85 0).1 ≤ 0 ∧ 0 ≤ (iR 85 0).2) ∧ (rF 85 0).1 ≤ 1 ∧ (nR 85).2 ≤ 10000000 := by decide +kernel
theorem an86 : (nR 86).2 ≤ 2147483647 := by decide +kernel
theorem aq87 : 50 ≤ 87 ∧ (nR 87).2 ≤ 2147483647 ∧ xI 87 0 = false := by decide +kernel
theorem an87 : (nR 87).2 ≤ 2147483647 := by decide +kernel
theorem aw87 : 50 ≤ 87 ∧ xT 87 = false ∧ ((iR 87 0).1 ≤ 0 ∧ 0 ≤ (iR 87 0).2) ∧ (rF 87 0).1 ≤ 1 ∧ (nR 87).2 ≤ 10000000 := by decide +kernel
theorem aq88 : 50 ≤ 88 ∧ (nR 88).2 ≤ 2147483647 ∧ xI 88 0 = false := by decide +kernel
theorem an88 : (nR 88).2 ≤ 2147483647 := by decide +kernel
theorem aw88 : 50 ≤ 88 ∧ xT 88 = false ∧ ((iR 88 0).1 ≤ 0 ∧ 0 ≤ (iR 88 0).2) ∧ (rF 88 0).1 ≤ 1 ∧ (nR 88).2 ≤ 10000000 := by decide +kernel
theorem aq89 : 50 ≤ 89 ∧ (nR 89).2 ≤ 2147483647 ∧ xI 89 0 = false := by decide +kernel
theorem an89 : (nR 89).2 ≤ 2147483647 := by decide +kernel
theorem aw89 : 50 ≤ 89 ∧ xT 89 = false ∧ ((iR 89 0).1 ≤ 0 ∧ 0 ≤ (iR 89 0).2) ∧ (rF 89 0).1 ≤ 1 ∧ (nR 89).2 ≤ 10000000 := by decide +kernel
theorem aq90 : 50 ≤ 90 ∧ (nR 90).2 ≤ 2147483647 ∧ xI 90 0 = false := by decide +kernel
theorem an90 : (nR 90).2 ≤ 2147483647 := by decide +kernel
theorem aw90 : 50 ≤ 90 ∧ xT 90 = false ∧ ((iR 90 0).1 ≤ 0 ∧ 0 ≤ (iR 90 0).2) ∧ (rF 90 0).1 ≤ 1 ∧ (nR 90).2 ≤ 10000000 := by decide +kernel
theorem aq91 : 50 ≤ 91 ∧ (nR 91).2 ≤ 2147483647 ∧ xI 91 0 = false := by decide +kernel
theorem an91 : (nR 91).2 ≤ 2147483647 := by decide +kernel
theorem aw91 : 50 ≤ 91 ∧ xT 91 = false ∧ ((iR 91 0).1 ≤ 0 ∧ 0 ≤ (iR 91 0).2) ∧ (rF 91 0).1 ≤ 1 ∧ (nR 91).2 ≤ 10000000 := by decide +kernel
theorem aq92 : 50 ≤ 92 ∧ (nR 92).2 ≤ 2147483647 ∧ xI 92 0 = false := by decide +kernel
theorem an92 : (nR 92).2 ≤ 2147483647 := by decide +kernel
theorem aw92 : 50 ≤ 92 ∧ xT 92 = false ∧ ((iR 92 0).1 ≤ 0 ∧ 0 ≤ (iR 92 0).2) ∧ (rF 92 0).1 ≤ 1 ∧ (nR 92).2 ≤ 10000000 := by decide +kernel
theorem aq93 : 50 ≤ 93 ∧ (nR 93).2 ≤ 2147483647 ∧ xI 93 0 = false := by decide +kernel
theorem an93 : (nR 93).2 ≤ 2147483647 := by decide +kernel
theorem aw93 : 50 ≤ 93 ∧ xT 93 = false ∧ ((iR 93 0).1 ≤ 0 ∧ 0 ≤ (iR 93 0).2) ∧ (rF 93 0).1 ≤ 1 ∧ (nR 93).2 ≤ 10000000 := by decide +kernel
theorem aq94 : 50 ≤ 94 ∧ (nR 94).2 ≤ 2147483647 ∧ xI 94 0 = false := by decide +kernel
theorem an94 : (nR 94).2 ≤ 2147483647 := by decide +kernel
theorem aw94 : 50 ≤ 94 ∧ xT 94 = false ∧ ((iR 94 0).1 ≤ 0 ∧ 0 ≤ (iR 94 0).2) ∧ (rF 94 0).1 ≤ 1 ∧ (nR 94).2 ≤ 10000000 := by decide +kernel
theorem aq95 : 50 ≤ 95 ∧ (nR 95).2 ≤ 2147483647 ∧ xI 95 0 = false := by decide +kernel
theorem an95 : (nR 95).2 ≤ 2147483647 := by decide +kernel
theorem aw95 : 50 ≤ 95 ∧ xT 95 = false ∧ ((iR 95 0).1 ≤ 0 ∧ 0 ≤ (iR 95 0).2) ∧ (rF 95 0).1 ≤ 1 ∧ (nR 95).2 ≤ 10000000 := by decide +kernel
theorem aq96 : 50 ≤ 96 ∧ (nR 96).2 ≤ 2147483647 ∧ xI 96 0 = false ∧ iR 96 0 = (-128, 127) := by decide +kernel
theorem an96 : (nR 96).2 ≤ 2147483647 := by decide +kernel
theorem aw96 : 50 ≤ 96 ∧ xT 96 = false ∧ ((iR 96 0).1 ≤ 0 ∧ 0 ≤ (iR 96 0).2) ∧ (rF 96 0).1 ≤ 1 ∧ (nR 96).2 ≤ 10000000 := by decide +kernel
theorem aq97 : 50 ≤ 97 ∧ (nR 97).2 ≤ 2147483647 ∧ xI 97 0 = false := by decide +kernel
theorem an97 : (nR 97).2 ≤ 2147483647 := by decide +kernel
theorem aw97 : 50 ≤ 97 ∧ xT 97 = false ∧ ((iR 97 0).1 ≤ 0 ∧ 0 ≤ (iR 97 0).2) ∧ (rF 97 0).1 ≤ 1 ∧ (nR 97).2 ≤ 10000000 := by decide +kernel
theorem aq98 : 50 ≤ 98 ∧ (nR 98).2 ≤ 2147483647 ∧ xI 98 0 = false ∧ iR 98 0 = (-128, 127) := by decide +kernel
theorem an98 : (nR 98).2 ≤ 2147483647 := by decide +kernel
theorem aw98 : 50 ≤ 98 ∧ xT 98 = false ∧ ((iR 98 0).1 ≤ 0 ∧ 0 ≤ (iR 98 0).2) ∧ (rF 98 0).1 ≤ 1 ∧ (nR 98).2 ≤ 10000000 := by decide +kernel
theorem an99 : (nR 99).2 ≤ 2147483647 := by decide +kernel
