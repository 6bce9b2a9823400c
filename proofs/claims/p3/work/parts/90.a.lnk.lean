theorem ml_J0_505 : okC RJ0 505 yJ0_length_8abf5 cJ0_length_8abf5 1 (some .int) := ⟨(mt2 (List.mem_of_getElem? (i := 144) (by decide +kernel)) rfl), (mt2 (List.mem_of_getElem? (i := 145) (by decide +kernel)) rfl), (mt2 (List.mem_of_getElem? (i := 146) (by decide +kernel)) rfl), (mt1 (List.mem_of_getElem? (i := 10) (by decide +kernel)) rfl), (mt2 (List.mem_of_getElem? (i := 147) (by decide +kernel)) rfl)⟩
theorem nm_J0_length_8abf5 : nmC yJ0_length_8abf5 0 := by unfold nmC; decide +kernel
theorem dJ0_length_8abf5_0 : decode cJ0_length_8abf5 0 = .ok (.aload_n 0, 1) := by decide +kernel
theorem dJ0_length_8abf5_1 : decode cJ0_length_8abf5 1 = .ok (.getfield 9, 3) := by decide +kernel
theorem dJ0_length_8abf5_4 : decode cJ0_length_8abf5 4 = .ok (.arraylength, 1) := by decide +kernel
theorem dJ0_length_8abf5_5 : decode cJ0_length_8abf5 5 = .ok (.aload_n 0, 1) := by decide +kernel
theorem dJ0_length_8abf5_6 : decode cJ0_length_8abf5 6 = .ok (.invokevirtual 335, 3) := by decide +kernel
theorem dJ0_length_8abf5_9 : decode cJ0_length_8abf5 9 = .ok (.ishr, 1) := by decide +kernel
theorem dJ0_length_8abf5_10 : decode cJ0_length_8abf5 10 = .ok (.ireturn, 1) := by decide +kernel
theorem ml_J0_335 : okC RJ0 335 yJ0_coder_7d493 cJ0_coder_7d493 1 (some .byte) := ⟨(mt2 (List.mem_of_getElem? (i := 148) (by decide +kernel)) rfl), (mt2 (List.mem_of_getElem? (i := 149) (by decide +kernel)) rfl), (mt2 (List.mem_of_getElem? (i := 150) (by decide +kernel)) rfl), (mt1 (List.mem_of_getElem? (i := 10) (by decide +kernel)) rfl), (mt2 (List.mem_of_getElem? (i := 151) (by decide +kernel)) rfl)⟩
theorem nm_J0_coder_7d493 : nmC yJ0_coder_7d493 0 := by unfold nmC; decide +kernel
theorem dJ0_coder_7d493_0 : decode cJ0_coder_7d493 0 = .ok (.getstatic 38, 3) := by decide +kernel
theorem dJ0_coder_7d493_3 : decode cJ0_coder_7d493 3 = .ok (.ifCond .eq 10, 3) := by decide +kernel
theorem dJ0_coder_7d493_6 : decode cJ0_coder_7d493 6 = .ok (.aload_n 0, 1) := by decide +kernel
theorem dJ0_coder_7d493_7 : decode cJ0_coder_7d493 7 = .ok (.getfield 15, 3) := by decide +kernel
theorem dJ0_coder_7d493_10 : decode cJ0_coder_7d493 10 = .ok (.goto 4, 3) := by decide +kernel
theorem dJ0_coder_7d493_13 : decode cJ0_coder_7d493 13 = .ok (.iconst 1, 1) := by decide +kernel
theorem dJ0_coder_7d493_14 : decode cJ0_coder_7d493 14 = .ok (.ireturn, 1) := by decide +kernel
