theorem ml_X1_254 : okC RX1 254 yX10_proposes cX10_proposes 1 (some .boolean) := ⟨(mt6 (List.mem_of_getElem? (i := 61) (by decide +kernel)) rfl), (mt6 (List.mem_of_getElem? (i := 62) (by decide +kernel)) rfl), (mt6 (List.mem_of_getElem? (i := 63) (by decide +kernel)) rfl), (mt1 (List.mem_of_getElem? (i := 24) (by decide +kernel)) rfl), (mt6 (List.mem_of_getElem? (i := 64) (by decide +kernel)) rfl)⟩
theorem fl_X1_258 : Cond.fieldLink RX1 258 (TX2 6).1 (TX2 6).2.1 (TX2 6).2.2.1 ∈ lw_g := (mt6 (List.mem_of_getElem? (i := 32) (by decide +kernel)) rfl)
theorem ml_X1_261 : okC RX1 261 yX10_nearest cX10_nearest 8 (some .int) := ⟨(mt6 (List.mem_of_getElem? (i := 65) (by decide +kernel)) rfl), (mt6 (List.mem_of_getElem? (i := 66) (by decide +kernel)) rfl), (mt6 (List.mem_of_getElem? (i := 67) (by decide +kernel)) rfl), (mt1 (List.mem_of_getElem? (i := 24) (by decide +kernel)) rfl), (mt6 (List.mem_of_getElem? (i := 68) (by decide +kernel)) rfl)⟩
theorem fl_X1_264 : Cond.fieldLink RX1 264 (TX2 7).1 (TX2 7).2.1 (TX2 7).2.2.1 ∈ lw_g := (mt6 (List.mem_of_getElem? (i := 34) (by decide +kernel)) rfl)
theorem ml_X1_267 : okC RX1 267 yX5_isFirstProposal cX5_isFirstProposal 3 (some .boolean) := ⟨(mt6 (List.mem_of_getElem? (i := 72) (by decide +kernel)) rfl), (mt6 (List.mem_of_getElem? (i := 73) (by decide +kernel)) rfl), (mt6 (List.mem_of_getElem? (i := 74) (by decide +kernel)) rfl), (mt1 (List.mem_of_getElem? (i := 27) (by decide +kernel)) rfl), (mt6 (List.mem_of_getElem? (i := 75) (by decide +kernel)) rfl)⟩
theorem fl_X1_271 : Cond.fieldLink RX1 271 (TX2 8).1 (TX2 8).2.1 (TX2 8).2.2.1 ∈ lw_g := (mt6 (List.mem_of_getElem? (i := 36) (by decide +kernel)) rfl)
theorem nm_X2_init : nmC yX2_init 0 := by unfold nmC; decide +kernel
theorem ol_X2_1 : Cond.methodLink RX2 1 Lib.objectInit ∈ lw_g := (mt6 (List.mem_of_getElem? (i := 19) (by decide +kernel)) rfl)
theorem nm_X5_shown : nmC yX5_shown 1 := by unfold nmC; decide +kernel
theorem nm_X10_proposes : nmC yX10_proposes 0 := by unfold nmC; decide +kernel
theorem nm_X10_nearest : nmC yX10_nearest 1 := by unfold nmC; decide +kernel
theorem ml_X10_46 : okT RX10 46 yJ9_abs_067f4 cJ9_abs_067f4 2 (some .long) := ⟨(mt6 (List.mem_of_getElem? (i := 69) (by decide +kernel)) rfl), (mt6 (List.mem_of_getElem? (i := 70) (by decide +kernel)) rfl), (mt1 (List.mem_of_getElem? (i := 15) (by decide +kernel)) rfl), (mt6 (List.mem_of_getElem? (i := 71) (by decide +kernel)) rfl)⟩
theorem nm_X5_isFirstProposal : nmC yX5_isFirstProposal 2 := by unfold nmC; decide +kernel
theorem nm_X1_holds : nmC yX1_holds 3 := by unfold nmC; decide +kernel
theorem ml_X1_205 : okC RX1 205 yX5_typeOf cX5_typeOf 2 (some .int) := ⟨(mt6 (List.mem_of_getElem? (i := 80) (by decide +kernel)) rfl), (mt5 (List.mem_of_getElem? (i := 141) (by decide +kernel)) rfl), (mt5 (List.mem_of_getElem? (i := 142) (by decide +kernel)) rfl), (mt1 (List.mem_of_getElem? (i := 27) (by decide +kernel)) rfl), (mt5 (List.mem_of_getElem? (i := 143) (by decide +kernel)) rfl)⟩
theorem ml_X1_208 : okC RX1 208 yX10_read cX10_read 2 (some .int) := ⟨(mt6 (List.mem_of_getElem? (i := 81) (by decide +kernel)) rfl), (mt6 (List.mem_of_getElem? (i := 82) (by decide +kernel)) rfl), (mt6 (List.mem_of_getElem? (i := 83) (by decide +kernel)) rfl), (mt1 (List.mem_of_getElem? (i := 24) (by decide +kernel)) rfl), (mt6 (List.mem_of_getElem? (i := 84) (by decide +kernel)) rfl)⟩
theorem ml_X1_211 : okC RX1 211 yX1_sum cX1_sum 9 (some .long) := ⟨(mt6 (List.mem_of_getElem? (i := 85) (by decide +kernel)) rfl), (mt6 (List.mem_of_getElem? (i := 87) (by decide +kernel)) rfl), (mem_s (List.mem_of_getElem? (i := 48) (by decide +kernel)) rfl), (mt1 (List.mem_of_getElem? (i := 7) (by decide +kernel)) rfl), (mt6 (List.mem_of_getElem? (i := 88) (by decide +kernel)) rfl)⟩
theorem ml_X1_215 : okC RX1 215 yX10_lets cX10_lets 4 (some .boolean) := ⟨(mt6 (List.mem_of_getElem? (i := 94) (by decide +kernel)) rfl), (mt6 (List.mem_of_getElem? (i := 95) (by decide +kernel)) rfl), (mt6 (List.mem_of_getElem? (i := 96) (by decide +kernel)) rfl), (mt1 (List.mem_of_getElem? (i := 24) (by decide +kernel)) rfl), (mt6 (List.mem_of_getElem? (i := 97) (by decide +kernel)) rfl)⟩
theorem nm_X10_read : nmC yX10_read 1 := by unfold nmC; decide +kernel
theorem fl_X10_35 : Cond.fieldLink RX10 35 (TX10 4).1 (TX10 4).2.1 (TX10 4).2.2.1 ∈ lw_g := (mt4 (List.mem_of_getElem? (i := 81) (by decide +kernel)) rfl)
theorem nm_X1_sum : nmC yX1_sum 3 := by unfold nmC; decide +kernel
theorem ml_X1_218 : okT RX1 218 yJ9_min_7cf53 cJ9_min_7cf53 2 (some .int) := ⟨(mt6 (List.mem_of_getElem? (i := 89) (by decide +kernel)) rfl), (mt2 (List.mem_of_getElem? (i := 162) (by decide +kernel)) rfl), (mt1 (List.mem_of_getElem? (i := 15) (by decide +kernel)) rfl), (mt2 (List.mem_of_getElem? (i := 163) (by decide +kernel)) rfl)⟩
theorem ml_X1_138 : okC RX1 138 yX5_target cX5_target 3 (some .int) := ⟨(mt6 (List.mem_of_getElem? (i := 90) (by decide +kernel)) rfl), (mt6 (List.mem_of_getElem? (i := 91) (by decide +kernel)) rfl), (mt6 (List.mem_of_getElem? (i := 92) (by decide +kernel)) rfl), (mt1 (List.mem_of_getElem? (i := 27) (by decide +kernel)) rfl), (mt6 (List.mem_of_getElem? (i := 93) (by decide +kernel)) rfl)⟩
theorem nm_X5_target : nmC yX5_target 2 := by unfold nmC; decide +kernel
theorem nm_X10_lets : nmC yX10_lets 1 := by unfold nmC; decide +kernel
theorem ml_X10_42 : okC RX10 42 yX10_arg cX10_arg 2 (some .int) := ⟨(mt6 (List.mem_of_getElem? (i := 98) (by decide +kernel)) rfl), (mt6 (List.mem_of_getElem? (i := 7) (by decide +kernel)) rfl), (mt6 (List.mem_of_getElem? (i := 8) (by decide +kernel)) rfl), (mt1 (List.mem_of_getElem? (i := 24) (by decide +kernel)) rfl), (mt6 (List.mem_of_getElem? (i := 9) (by decide +kernel)) rfl)⟩
theorem nm_X1_goOn : nmC yX1_goOn 1 := by unfold nmC; decide +kernel
theorem fl_X1_132 : Cond.fieldLink RX1 132 (TX8 5).1 (TX8 5).2.1 (TX8 5).2.2.1 ∈ lw_g := (mt4 (List.mem_of_getElem? (i := 34) (by decide +kernel)) rfl)
theorem ml_X1_135 : okC RX1 135 yX5_countTargets cX5_countTargets 3 (some .int) := ⟨(mt6 (List.mem_of_getElem? (i := 104) (by decide +kernel)) rfl), (mt6 (List.mem_of_getElem? (i := 105) (by decide +kernel)) rfl), (mt6 (List.mem_of_getElem? (i := 106) (by decide +kernel)) rfl), (mt1 (List.mem_of_getElem? (i := 27) (by decide +kernel)) rfl), (mt6 (List.mem_of_getElem? (i := 107) (by decide +kernel)) rfl)⟩
theorem ml_X1_142 : okC RX1 142 yX1_keepCut cX1_keepCut 2 none := ⟨(mt6 (List.mem_of_getElem? (i := 108) (by decide +kernel)) rfl), (mt6 (List.mem_of_getElem? (i := 110) (by decide +kernel)) rfl), (mem_s (List.mem_of_getElem? (i := 50) (by decide +kernel)) rfl), (mt1 (List.mem_of_getElem? (i := 7) (by decide +kernel)) rfl), (mt6 (List.mem_of_getElem? (i := 111) (by decide +kernel)) rfl)⟩
theorem nm_X5_countTargets : nmC yX5_countTargets 1 := by unfold nmC; decide +kernel
theorem nm_X1_keepCut : nmC yX1_keepCut 1 := by unfold nmC; decide +kernel
theorem nm_X11_found : nmC yX11_found 2 := by unfold nmC; decide +kernel
theorem ml_X11_206 : okC RX11 206 yX1_foundAt cX1_foundAt 2 (some (.object "CustomsDesk$Found")) := ⟨(mt6 (List.mem_of_getElem? (i := 116) (by decide +kernel)) rfl), (mt6 (List.mem_of_getElem? (i := 117) (by decide +kernel)) rfl), (mt6 (List.mem_of_getElem? (i := 118) (by decide +kernel)) rfl), (mt1 (List.mem_of_getElem? (i := 7) (by decide +kernel)) rfl), (mt6 (List.mem_of_getElem? (i := 119) (by decide +kernel)) rfl)⟩
theorem fl_X11_210 : Cond.fieldLink RX11 210 (TX2 0).1 (TX2 0).2.1 (TX2 0).2.2.1 ∈ lw_g := (mt6 (List.mem_of_getElem? (i := 22) (by decide +kernel)) rfl)
theorem fl_X11_216 : Cond.fieldLink RX11 216 (TX10 0).1 (TX10 0).2.1 (TX10 0).2.2.1 ∈ lw_g := (mt4 (List.mem_of_getElem? (i := 71) (by decide +kernel)) rfl)
theorem fl_X11_221 : Cond.fieldLink RX11 221 (TX10 5).1 (TX10 5).2.1 (TX10 5).2.2.1 ∈ lw_g := (mt4 (List.mem_of_getElem? (i := 86) (by decide +kernel)) rfl)
theorem fl_X11_224 : Cond.fieldLink RX11 224 (TX10 8).1 (TX10 8).2.1 (TX10 8).2.2.1 ∈ lw_g := (mt4 (List.mem_of_getElem? (i := 95) (by decide +kernel)) rfl)
theorem fl_X11_227 : Cond.fieldLink RX11 227 (TX2 2).1 (TX2 2).2.1 (TX2 2).2.2.1 ∈ lw_g := (mt6 (List.mem_of_getElem? (i := 25) (by decide +kernel)) rfl)
theorem fl_X11_230 : Cond.fieldLink RX11 230 (TX2 3).1 (TX2 3).2.1 (TX2 3).2.2.1 ∈ lw_g := (mt6 (List.mem_of_getElem? (i := 27) (by decide +kernel)) rfl)
theorem fl_X11_233 : Cond.fieldLink RX11 233 (TX2 4).1 (TX2 4).2.1 (TX2 4).2.2.1 ∈ lw_g := (mt6 (List.mem_of_getElem? (i := 29) (by decide +kernel)) rfl)
theorem ml_X11_236 : okC RX11 236 yX1_wayLength cX1_wayLength 2 (some .int) := ⟨(mt6 (List.mem_of_getElem? (i := 120) (by decide +kernel)) rfl), (mt6 (List.mem_of_getElem? (i := 121) (by decide +kernel)) rfl), (mt6 (List.mem_of_getElem? (i := 122) (by decide +kernel)) rfl), (mt1 (List.mem_of_getElem? (i := 7) (by decide +kernel)) rfl), (mt6 (List.mem_of_getElem? (i := 123) (by decide +kernel)) rfl)⟩
theorem ml_X11_240 : okC RX11 240 yX11_composeText cX11_composeText 2 (some .int) := ⟨(mt6 (List.mem_of_getElem? (i := 124) (by decide +kernel)) rfl), (mt6 (List.mem_of_getElem? (i := 126) (by decide +kernel)) rfl), (mem_s (List.mem_of_getElem? (i := 51) (by decide +kernel)) rfl), (mt1 (List.mem_of_getElem? (i := 1) (by decide +kernel)) rfl), (mt6 (List.mem_of_getElem? (i := 127) (by decide +kernel)) rfl)⟩
theorem fl_X11_243 : Cond.fieldLink RX11 243 (TX2 6).1 (TX2 6).2.1 (TX2 6).2.2.1 ∈ lw_g := (mt6 (List.mem_of_getElem? (i := 33) (by decide +kernel)) rfl)
theorem fl_X11_247 : Cond.fieldLink RX11 247 (TX2 7).1 (TX2 7).2.1 (TX2 7).2.2.1 ∈ lw_g := (mt6 (List.mem_of_getElem? (i := 35) (by decide +kernel)) rfl)
theorem nm_X1_foundAt : nmC yX1_foundAt 1 := by unfold nmC; decide +kernel
theorem nm_X1_wayLength : nmC yX1_wayLength 1 := by unfold nmC; decide +kernel
theorem nm_X11_composeText : nmC yX11_composeText 1 := by unfold nmC; decide +kernel
theorem ml_X11_258 : okC RX11 258 yJ4_setLength_d00df cJ4_setLength_d00df 2 none := ⟨(mt6 (List.mem_of_getElem? (i := 128) (by decide +kernel)) rfl), (mt6 (List.mem_of_getElem? (i := 129) (by decide +kernel)) rfl), (mt6 (List.mem_of_getElem? (i := 130) (by decide +kernel)) rfl), (mt1 (List.mem_of_getElem? (i := 9) (by decide +kernel)) rfl), (mt6 (List.mem_of_getElem? (i := 131) (by decide +kernel)) rfl)⟩
theorem ml_X11_261 : okC RX11 261 yX2_compose cX2_compose 8 none := ⟨(mt6 (List.mem_of_getElem? (i := 164) (by decide +kernel)) rfl), (mt6 (List.mem_of_getElem? (i := 165) (by decide +kernel)) rfl), (mt6 (List.mem_of_getElem? (i := 166) (by decide +kernel)) rfl), (mt1 (List.mem_of_getElem? (i := 28) (by decide +kernel)) rfl), (mt6 (List.mem_of_getElem? (i := 167) (by decide +kernel)) rfl)⟩
theorem ml_X11_265 : okC RX11 265 yJ4_length_8abf5 cJ4_length_8abf5 1 (some .int) := ⟨(mt6 (List.mem_of_getElem? (i := 237) (by decide +kernel)) rfl), (mt6 (List.mem_of_getElem? (i := 238) (by decide +kernel)) rfl), (mt6 (List.mem_of_getElem? (i := 239) (by decide +kernel)) rfl), (mt1 (List.mem_of_getElem? (i := 9) (by decide +kernel)) rfl), (mt7 (List.mem_of_getElem? (i := 0) (by decide +kernel)) rfl)⟩
theorem ml_X11_267 : okT RX11 267 yJ9_min_7cf53 cJ9_min_7cf53 2 (some .int) := ⟨(mt7 (List.mem_of_getElem? (i := 4) (by decide +kernel)) rfl), (mt2 (List.mem_of_getElem? (i := 162) (by decide +kernel)) rfl), (mt1 (List.mem_of_getElem? (i := 15) (by decide +kernel)) rfl), (mt2 (List.mem_of_getElem? (i := 163) (by decide +kernel)) rfl)⟩
theorem nm_X2_compose : nmC yX2_compose 2 := by unfold nmC; decide +kernel
theorem fl_X2_7 : Cond.fieldLink RX2 7 (TX2 0).1 (TX2 0).2.1 (TX2 0).2.2.1 ∈ lw_g := (mt6 (List.mem_of_getElem? (i := 20) (by decide +kernel)) rfl)
theorem fl_X2_13 : Cond.fieldLink RX2 13 (TX10 9).1 (TX10 9).2.1 (TX10 9).2.2.1 ∈ lw_g := (mt4 (List.mem_of_getElem? (i := 98) (by decide +kernel)) rfl)
theorem fl_X2_19 : Cond.fieldLink RX2 19 (TX10 10).1 (TX10 10).2.1 (TX10 10).2.2.1 ∈ lw_g := (mt4 (List.mem_of_getElem? (i := 101) (by decide +kernel)) rfl)
theorem ml_X2_22 : okT RX2 22 yJ9_min_7cf53 cJ9_min_7cf53 2 (some .int) := ⟨(mt6 (List.mem_of_getElem? (i := 168) (by decide +kernel)) rfl), (mt2 (List.mem_of_getElem? (i := 162) (by decide +kernel)) rfl), (mt1 (List.mem_of_getElem? (i := 15) (by decide +kernel)) rfl), (mt2 (List.mem_of_getElem? (i := 163) (by decide +kernel)) rfl)⟩
theorem fl_X2_28 : Cond.fieldLink RX2 28 (TX2 5).1 (TX2 5).2.1 (TX2 5).2.2.1 ∈ lw_g := (mt6 (List.mem_of_getElem? (i := 30) (by decide +kernel)) rfl)
theorem ml_X2_31 : okC RX2 31 yX10_arg cX10_arg 2 (some .int) := ⟨(mt6 (List.mem_of_getElem? (i := 169) (by decide +kernel)) rfl), (mt6 (List.mem_of_getElem? (i := 7) (by decide +kernel)) rfl), (mt6 (List.mem_of_getElem? (i := 8) (by decide +kernel)) rfl), (mt1 (List.mem_of_getElem? (i := 24) (by decide +kernel)) rfl), (mt6 (List.mem_of_getElem? (i := 9) (by decide +kernel)) rfl)⟩
theorem ml_X2_35 : okC RX2 35 yJ4_append_bf812 cJ4_append_bf812 2 (some (.object "java/lang/StringBuilder")) := ⟨(mt6 (List.mem_of_getElem? (i := 170) (by decide +kernel)) rfl), (mt6 (List.mem_of_getElem? (i := 171) (by decide +kernel)) rfl), (mt6 (List.mem_of_getElem? (i := 172) (by decide +kernel)) rfl), (mt1 (List.mem_of_getElem? (i := 9) (by decide +kernel)) rfl), (mt6 (List.mem_of_getElem? (i := 173) (by decide +kernel)) rfl)⟩
theorem ml_X2_41 : okC RX2 41 yJ4_append_cf468 cJ4_append_cf468 2 (some (.object "java/lang/StringBuilder")) := ⟨(mt6 (List.mem_of_getElem? (i := 198) (by decide +kernel)) rfl), (mt6 (List.mem_of_getElem? (i := 199) (by decide +kernel)) rfl), (mt6 (List.mem_of_getElem? (i := 200) (by decide +kernel)) rfl), (mt1 (List.mem_of_getElem? (i := 9) (by decide +kernel)) rfl), (mt6 (List.mem_of_getElem? (i := 201) (by decide +kernel)) rfl)⟩
theorem nm_X11_way : nmC yX11_way 2 := by unfold nmC; decide +kernel
theorem ml_X11_250 : okC RX11 250 yX1_wayStep cX1_wayStep 6 (some .int) := ⟨(mt7 (List.mem_of_getElem? (i := 9) (by decide +kernel)) rfl), (mt7 (List.mem_of_getElem? (i := 10) (by decide +kernel)) rfl), (mt7 (List.mem_of_getElem? (i := 11) (by decide +kernel)) rfl), (mt1 (List.mem_of_getElem? (i := 7) (by decide +kernel)) rfl), (mt7 (List.mem_of_getElem? (i := 12) (by decide +kernel)) rfl)⟩
theorem nm_X1_wayStep : nmC yX1_wayStep 2 := by unfold nmC; decide +kernel
theorem nm_X11_text : nmC yX11_text 2 := by unfold nmC; decide +kernel
theorem ml_X11_254 : okC RX11 254 yJ4_charAt_5068e cJ4_charAt_5068e 2 (some .char) := ⟨(mt7 (List.mem_of_getElem? (i := 17) (by decide +kernel)) rfl), (mt7 (List.mem_of_getElem? (i := 18) (by decide +kernel)) rfl), (mt7 (List.mem_of_getElem? (i := 19) (by decide +kernel)) rfl), (mt1 (List.mem_of_getElem? (i := 9) (by decide +kernel)) rfl), (mt7 (List.mem_of_getElem? (i := 20) (by decide +kernel)) rfl)⟩
theorem nm_X11_failed : nmC yX11_failed 2 := by unfold nmC; decide +kernel
theorem fl_X11_272 : Cond.fieldLink RX11 272 (TX0 1).1 (TX0 1).2.1 (TX0 1).2.2.1 ∈ lw_g := (mt2 (List.mem_of_getElem? (i := 2) (by decide +kernel)) rfl)
theorem cl_X11_275 : Cond.classLink RX11 275 "CustomsDesk$Rule" ∈ lw_g := (mt7 (List.mem_of_getElem? (i := 31) (by decide +kernel)) rfl)
theorem fl_X11_277 : Cond.fieldLink RX11 277 (TX7 0).1 (TX7 0).2.1 (TX7 0).2.2.1 ∈ lw_g := (mt3 (List.mem_of_getElem? (i := 121) (by decide +kernel)) rfl)
theorem fl_X11_280 : Cond.fieldLink RX11 280 (TX7 6).1 (TX7 6).2.1 (TX7 6).2.2.1 ∈ lw_g := (mt3 (List.mem_of_getElem? (i := 133) (by decide +kernel)) rfl)
theorem nm_X11_asked : nmC yX11_asked 2 := by unfold nmC; decide +kernel
theorem ml_X11_281 : okC RX11 281 yX0_ruleAt cX0_ruleAt 2 (some (.object "CustomsDesk$Rule")) := ⟨(mt7 (List.mem_of_getElem? (i := 36) (by decide +kernel)) rfl), (mt5 (List.mem_of_getElem? (i := 223) (by decide +kernel)) rfl), (mt5 (List.mem_of_getElem? (i := 224) (by decide +kernel)) rfl), (mt1 (List.mem_of_getElem? (i := 12) (by decide +kernel)) rfl), (mt5 (List.mem_of_getElem? (i := 225) (by decide +kernel)) rfl)⟩
theorem fl_X11_285 : Cond.fieldLink RX11 285 (TX7 8).1 (TX7 8).2.1 (TX7 8).2.2.1 ∈ lw_g := (mt3 (List.mem_of_getElem? (i := 136) (by decide +kernel)) rfl)
theorem fl_X11_288 : Cond.fieldLink RX11 288 (TX7 5).1 (TX7 5).2.1 (TX7 5).2.2.1 ∈ lw_g := (mt3 (List.mem_of_getElem? (i := 131) (by decide +kernel)) rfl)
theorem nm_X11_cut : nmC yX11_cut 1 := by unfold nmC; decide +kernel
theorem fl_X11_291 : Cond.fieldLink RX11 291 (TX1 3).1 (TX1 3).2.1 (TX1 3).2.2.1 ∈ lw_g := (mt1 (List.mem_of_getElem? (i := 139) (by decide +kernel)) rfl)
theorem fl_X11_294 : Cond.fieldLink RX11 294 (TX1 2).1 (TX1 2).2.1 (TX1 2).2.2.1 ∈ lw_g := (mt1 (List.mem_of_getElem? (i := 137) (by decide +kernel)) rfl)
theorem nm_X11_groups : nmC yX11_groups 0 := by unfold nmC; decide +kernel
theorem fl_X11_298 : Cond.fieldLink RX11 298 (TX1 1).1 (TX1 1).2.1 (TX1 1).2.2.1 ∈ lw_g := (mt1 (List.mem_of_getElem? (i := 135) (by decide +kernel)) rfl)
theorem nm_X11_wouldBe : nmC yX11_wouldBe 3 := by unfold nmC; decide +kernel
theorem cl_X11_301 : Cond.classLink RX11 301 "CustomsDesk$Spot" ∈ lw_g := (mt7 (List.mem_of_getElem? (i := 49) (by decide +kernel)) rfl)
theorem ml_X11_303 : okC RX11 303 yX0_countAgainst cX0_countAgainst 7 (some .int) := ⟨(mt7 (List.mem_of_getElem? (i := 50) (by decide +kernel)) rfl), (mt7 (List.mem_of_getElem? (i := 51) (by decide +kernel)) rfl), (mt7 (List.mem_of_getElem? (i := 52) (by decide +kernel)) rfl), (mt1 (List.mem_of_getElem? (i := 12) (by decide +kernel)) rfl), (mt7 (List.mem_of_getElem? (i := 53) (by decide +kernel)) rfl)⟩
theorem nm_X0_countAgainst : nmC yX0_countAgainst 2 := by unfold nmC; decide +kernel
theorem fl_X0_111 : Cond.fieldLink RX0 111 (TX8 4).1 (TX8 4).2.1 (TX8 4).2.2.1 ∈ lw_g := (mt4 (List.mem_of_getElem? (i := 33) (by decide +kernel)) rfl)
theorem cl_X0_97 : Cond.classLink RX0 97 "CustomsDesk$Use" ∈ lw_g := (mt7 (List.mem_of_getElem? (i := 54) (by decide +kernel)) rfl)
theorem fl_X0_116 : Cond.fieldLink RX0 116 (TX10 0).1 (TX10 0).2.1 (TX10 0).2.2.1 ∈ lw_g := (mt4 (List.mem_of_getElem? (i := 70) (by decide +kernel)) rfl)
theorem ml_X0_119 : okC RX0 119 yX10_lets cX10_lets 4 (some .boolean) := ⟨(mt7 (List.mem_of_getElem? (i := 55) (by decide +kernel)) rfl), (mt6 (List.mem_of_getElem? (i := 95) (by decide +kernel)) rfl), (mt6 (List.mem_of_getElem? (i := 96) (by decide +kernel)) rfl), (mt1 (List.mem_of_getElem? (i := 24) (by decide +kernel)) rfl), (mt6 (List.mem_of_getElem? (i := 97) (by decide +kernel)) rfl)⟩
theorem ml_X0_123 : okC RX0 123 yX0_ruleAt cX0_ruleAt 2 (some (.object "CustomsDesk$Rule")) := ⟨(mt7 (List.mem_of_getElem? (i := 56) (by decide +kernel)) rfl), (mt5 (List.mem_of_getElem? (i := 223) (by decide +kernel)) rfl), (mt5 (List.mem_of_getElem? (i := 224) (by decide +kernel)) rfl), (mt1 (List.mem_of_getElem? (i := 12) (by decide +kernel)) rfl), (mt5 (List.mem_of_getElem? (i := 225) (by decide +kernel)) rfl)⟩
theorem ml_X0_127 : okC RX0 127 yX0_judge cX0_judge 5 (some .boolean) := ⟨(mt7 (List.mem_of_getElem? (i := 57) (by decide +kernel)) rfl), (mt6 (List.mem_of_getElem? (i := 3) (by decide +kernel)) rfl), (mt6 (List.mem_of_getElem? (i := 4) (by decide +kernel)) rfl), (mt1 (List.mem_of_getElem? (i := 12) (by decide +kernel)) rfl), (mt6 (List.mem_of_getElem? (i := 5) (by decide +kernel)) rfl)⟩
theorem nm_X11_correct : nmC yX11_correct 0 := by unfold nmC; decide +kernel
theorem ml_X11_307 : okC RX11 307 yX1_setProposals cX1_setProposals 5 (some .int) := ⟨(mt7 (List.mem_of_getElem? (i := 62) (by decide +kernel)) rfl), (mt7 (List.mem_of_getElem? (i := 63) (by decide +kernel)) rfl), (mt7 (List.mem_of_getElem? (i := 64) (by decide +kernel)) rfl), (mt1 (List.mem_of_getElem? (i := 7) (by decide +kernel)) rfl), (mt7 (List.mem_of_getElem? (i := 65) (by decide +kernel)) rfl)⟩
theorem nm_X1_setProposals : nmC yX1_setProposals 0 := by unfold nmC; decide +kernel
theorem ml_X1_274 : okC RX1 274 yX0_isRead cX0_isRead 8 (some .boolean) := ⟨(mt7 (List.mem_of_getElem? (i := 66) (by decide +kernel)) rfl), (mt7 (List.mem_of_getElem? (i := 67) (by decide +kernel)) rfl), (mt7 (List.mem_of_getElem? (i := 68) (by decide +kernel)) rfl), (mt1 (List.mem_of_getElem? (i := 12) (by decide +kernel)) rfl), (mt7 (List.mem_of_getElem? (i := 69) (by decide +kernel)) rfl)⟩
theorem ml_X1_278 : okC RX1 278 yX5_put cX5_put 4 none := ⟨(mt7 (List.mem_of_getElem? (i := 85) (by decide +kernel)) rfl), (mt5 (List.mem_of_getElem? (i := 147) (by decide +kernel)) rfl), (mt5 (List.mem_of_getElem? (i := 148) (by decide +kernel)) rfl), (mt1 (List.mem_of_getElem? (i := 27) (by decide +kernel)) rfl), (mt5 (List.mem_of_getElem? (i := 149) (by decide +kernel)) rfl)⟩
theorem nm_X0_isRead : nmC yX0_isRead 2 := by unfold nmC; decide +kernel
theorem ml_X0_131 : okC RX0 131 yX3_isOf cX3_isOf 3 (some .boolean) := ⟨(mt7 (List.mem_of_getElem? (i := 70) (by decide +kernel)) rfl), (mt5 (List.mem_of_getElem? (i := 166) (by decide +kernel)) rfl), (mt5 (List.mem_of_getElem? (i := 167) (by decide +kernel)) rfl), (mt1 (List.mem_of_getElem? (i := 25) (by decide +kernel)) rfl), (mt5 (List.mem_of_getElem? (i := 168) (by decide +kernel)) rfl)⟩
theorem fl_X0_134 : Cond.fieldLink RX0 134 (TX3 5).1 (TX3 5).2.1 (TX3 5).2.2.1 ∈ lw_g := (mt4 (List.mem_of_getElem? (i := 186) (by decide +kernel)) rfl)
theorem ml_X0_138 : okC RX0 138 yX10_readsHere cX10_readsHere 2 (some .boolean) := ⟨(mt7 (List.mem_of_getElem? (i := 71) (by decide +kernel)) rfl), (mt7 (List.mem_of_getElem? (i := 72) (by decide +kernel)) rfl), (mt7 (List.mem_of_getElem? (i := 73) (by decide +kernel)) rfl), (mt1 (List.mem_of_getElem? (i := 24) (by decide +kernel)) rfl), (mt7 (List.mem_of_getElem? (i := 74) (by decide +kernel)) rfl)⟩
theorem ml_X0_141 : okC RX0 141 yX10_readsInList cX10_readsInList 2 (some .boolean) := ⟨(mt7 (List.mem_of_getElem? (i := 76) (by decide +kernel)) rfl), (mt7 (List.mem_of_getElem? (i := 77) (by decide +kernel)) rfl), (mt7 (List.mem_of_getElem? (i := 78) (by decide +kernel)) rfl), (mt1 (List.mem_of_getElem? (i := 24) (by decide +kernel)) rfl), (mt7 (List.mem_of_getElem? (i := 79) (by decide +kernel)) rfl)⟩
theorem ml_X0_144 : okC RX0 144 yX3_listKind cX3_listKind 3 (some .int) := ⟨(mt7 (List.mem_of_getElem? (i := 80) (by decide +kernel)) rfl), (mt7 (List.mem_of_getElem? (i := 81) (by decide +kernel)) rfl), (mt7 (List.mem_of_getElem? (i := 82) (by decide +kernel)) rfl), (mt1 (List.mem_of_getElem? (i := 25) (by decide +kernel)) rfl), (mt7 (List.mem_of_getElem? (i := 83) (by decide +kernel)) rfl)⟩
theorem nm_X10_readsHere : nmC yX10_readsHere 1 := by unfold nmC; decide +kernel
theorem ml_X10_52 : okC RX10 52 yX10_read cX10_read 2 (some .int) := ⟨(mt7 (List.mem_of_getElem? (i := 75) (by decide +kernel)) rfl), (mt6 (List.mem_of_getElem? (i := 82) (by decide +kernel)) rfl), (mt6 (List.mem_of_getElem? (i := 83) (by decide +kernel)) rfl), (mt1 (List.mem_of_getElem? (i := 24) (by decide +kernel)) rfl), (mt6 (List.mem_of_getElem? (i := 84) (by decide +kernel)) rfl)⟩
theorem nm_X10_readsInList : nmC yX10_readsInList 1 := by unfold nmC; decide +kernel
theorem nm_X3_listKind : nmC yX3_listKind 1 := by unfold nmC; decide +kernel
theorem ml_X3_70 : okC RX3 70 yX10_read cX10_read 2 (some .int) := ⟨(mt7 (List.mem_of_getElem? (i := 84) (by decide +kernel)) rfl), (mt6 (List.mem_of_getElem? (i := 82) (by decide +kernel)) rfl), (mt6 (List.mem_of_getElem? (i := 83) (by decide +kernel)) rfl), (mt1 (List.mem_of_getElem? (i := 24) (by decide +kernel)) rfl), (mt6 (List.mem_of_getElem? (i := 84) (by decide +kernel)) rfl)⟩
theorem fl_X3_76 : Cond.fieldLink RX3 76 (TX8 2).1 (TX8 2).2.1 (TX8 2).2.2.1 ∈ lw_g := (mt4 (List.mem_of_getElem? (i := 24) (by decide +kernel)) rfl)
theorem nm_J0_indexOf_0f7a4 : nmC yJ0_indexOf_0f7a4 1 := by unfold nmC; decide +kernel
theorem ml_J0_633 : okC RJ0 633 yJ0_indexOf_7cf53 cJ0_indexOf_7cf53 3 (some .int) := ⟨(mt2 (List.mem_of_getElem? (i := 135) (by decide +kernel)) rfl), (mt2 (List.mem_of_getElem? (i := 136) (by decide +kernel)) rfl), (mt2 (List.mem_of_getElem? (i := 137) (by decide +kernel)) rfl), (mt1 (List.mem_of_getElem? (i := 10) (by decide +kernel)) rfl), (mt2 (List.mem_of_getElem? (i := 138) (by decide +kernel)) rfl)⟩
theorem nm_J0_indexOf_7cf53 : nmC yJ0_indexOf_7cf53 2 := by unfold nmC; decide +kernel
theorem ml_J0_492 : okC RJ0 492 yJ0_isLatin1_aae02 cJ0_isLatin1_aae02 1 (some .boolean) := ⟨(mt2 (List.mem_of_getElem? (i := 139) (by decide +kernel)) rfl), (mt2 (List.mem_of_getElem? (i := 140) (by decide +kernel)) rfl), (mt2 (List.mem_of_getElem? (i := 141) (by decide +kernel)) rfl), (mt1 (List.mem_of_getElem? (i := 10) (by decide +kernel)) rfl), (mt2 (List.mem_of_getElem? (i := 142) (by decide +kernel)) rfl)⟩
theorem fl_J0_9 : Cond.fieldLink RJ0 9 "java/lang/String" "value" "[B" ∈ lw_g := (mt10 (List.mem_of_getElem? (i := 225) (by decide +kernel)) rfl)
theorem ml_J0_637 : okT RJ0 637 yJ1_indexOf_4cfef cJ1_indexOf_4cfef 4 (some .int) := ⟨(mt2 (List.mem_of_getElem? (i := 152) (by decide +kernel)) rfl), (mt2 (List.mem_of_getElem? (i := 153) (by decide +kernel)) rfl), (mt1 (List.mem_of_getElem? (i := 14) (by decide +kernel)) rfl), (mt2 (List.mem_of_getElem? (i := 154) (by decide +kernel)) rfl)⟩
theorem nm_J0_isLatin1_aae02 : nmC yJ0_isLatin1_aae02 0 := by unfold nmC; decide +kernel
theorem fl_J0_38 : Cond.fieldLink RJ0 38 "java/lang/String" "COMPACT_STRINGS" "Z" ∈ lw_g := (mt2 (List.mem_of_getElem? (i := 143) (by decide +kernel)) rfl)
theorem fl_J0_15 : Cond.fieldLink RJ0 15 "java/lang/String" "coder" "B" ∈ lw_g := (mt10 (List.mem_of_getElem? (i := 224) (by decide +kernel)) rfl)
theorem nm_J0_checkIndex_df160 : nmC yJ0_checkIndex_df160 2 := by unfold nmC; decide +kernel
theorem fl_J0_1053 : Cond.fieldLink RJ0 1053 "jdk/internal/util/Preconditions" "SIOOBE_FORMATTER" "Ljava/util/function/BiFunction;" ∈ lw_g := (mt2 (List.mem_of_getElem? (i := 185) (by decide +kernel)) rfl)
theorem ml_J0_1059 : okT RJ0 1059 yJ3_checkIndex_8e157 cJ3_checkIndex_8e157 3 (some .int) := ⟨(mt6 (List.mem_of_getElem? (i := 236) (by decide +kernel)) rfl), (mt4 (List.mem_of_getElem? (i := 150) (by decide +kernel)) rfl), (mt1 (List.mem_of_getElem? (i := 16) (by decide +kernel)) rfl), (mt4 (List.mem_of_getElem? (i := 151) (by decide +kernel)) rfl)⟩
theorem nm_J1_canEncode_9a6ad : nmC yJ1_canEncode_9a6ad 1 := by unfold nmC; decide +kernel
theorem nm_J1_canEncode_fc78d : nmC yJ1_canEncode_fc78d 1 := by unfold nmC; decide +kernel
theorem nm_J1_indexOfChar_4cfef : nmC yJ1_indexOfChar_4cfef 4 := by unfold nmC; decide +kernel
theorem nm_J1_indexOf_4cfef : nmC yJ1_indexOf_4cfef 4 := by unfold nmC; decide +kernel
theorem ml_J1_88 : okT RJ1 88 yJ1_canEncode_9a6ad cJ1_canEncode_9a6ad 1 (some .boolean) := ⟨(mt2 (List.mem_of_getElem? (i := 155) (by decide +kernel)) rfl), (mt2 (List.mem_of_getElem? (i := 156) (by decide +kernel)) rfl), (mt1 (List.mem_of_getElem? (i := 14) (by decide +kernel)) rfl), (mt2 (List.mem_of_getElem? (i := 157) (by decide +kernel)) rfl)⟩
theorem ml_J1_92 : okT RJ1 92 yJ9_max_7cf53 cJ9_max_7cf53 2 (some .int) := ⟨(mt2 (List.mem_of_getElem? (i := 158) (by decide +kernel)) rfl), (mt2 (List.mem_of_getElem? (i := 159) (by decide +kernel)) rfl), (mt1 (List.mem_of_getElem? (i := 15) (by decide +kernel)) rfl), (mt2 (List.mem_of_getElem? (i := 160) (by decide +kernel)) rfl)⟩
theorem ml_J1_38 : okT RJ1 38 yJ9_min_7cf53 cJ9_min_7cf53 2 (some .int) := ⟨(mt2 (List.mem_of_getElem? (i := 161) (by decide +kernel)) rfl), (mt2 (List.mem_of_getElem? (i := 162) (by decide +kernel)) rfl), (mt1 (List.mem_of_getElem? (i := 15) (by decide +kernel)) rfl), (mt2 (List.mem_of_getElem? (i := 163) (by decide +kernel)) rfl)⟩
theorem ml_J1_95 : okT RJ1 95 yJ1_indexOfChar_4cfef cJ1_indexOfChar_4cfef 6 (some .int) := ⟨(mt2 (List.mem_of_getElem? (i := 164) (by decide +kernel)) rfl), (mt2 (List.mem_of_getElem? (i := 165) (by decide +kernel)) rfl), (mt1 (List.mem_of_getElem? (i := 14) (by decide +kernel)) rfl), (mt2 (List.mem_of_getElem? (i := 166) (by decide +kernel)) rfl)⟩
theorem nm_J3_checkIndex_8e157 : nmC yJ3_checkIndex_8e157 3 := by unfold nmC; decide +kernel
theorem nm_J15_checkIndex_7cf53 : nmC yJ15_checkIndex_7cf53 2 := by unfold nmC; decide +kernel
theorem ml_J15_105 : okT RJ15 105 yJ3_checkIndex_8e157 cJ3_checkIndex_8e157 3 (some .int) := ⟨(mt4 (List.mem_of_getElem? (i := 149) (by decide +kernel)) rfl), (mt4 (List.mem_of_getElem? (i := 150) (by decide +kernel)) rfl), (mt1 (List.mem_of_getElem? (i := 16) (by decide +kernel)) rfl), (mt4 (List.mem_of_getElem? (i := 151) (by decide +kernel)) rfl)⟩
theorem nm_J4_append_bf812 : nmC yJ4_append_bf812 1 := by unfold nmC; decide +kernel
theorem nm_J4_append_cf468 : nmC yJ4_append_cf468 1 := by unfold nmC; decide +kernel
theorem nm_J4_charAt_5068e : nmC yJ4_charAt_5068e 1 := by unfold nmC; decide +kernel
theorem nm_J4_init_da8c8 : nmC yJ4_init_da8c8 0 := by unfold nmC; decide +kernel
theorem ml_J4_1 : okI RJ4 1 yJ5_init_d00df cJ5_init_d00df 2 := ⟨(mt1 (List.mem_of_getElem? (i := 202) (by decide +kernel)) rfl), (mt1 (List.mem_of_getElem? (i := 203) (by decide +kernel)) rfl), (mt1 (List.mem_of_getElem? (i := 8) (by decide +kernel)) rfl), (mt1 (List.mem_of_getElem? (i := 204) (by decide +kernel)) rfl), rfl⟩
theorem nm_J4_length_8abf5 : nmC yJ4_length_8abf5 0 := by unfold nmC; decide +kernel
theorem nm_J4_setLength_d00df : nmC yJ4_setLength_d00df 1 := by unfold nmC; decide +kernel
theorem nm_J5_append_3fe6f : nmC yJ5_append_3fe6f 1 := by unfold nmC; decide +kernel
theorem fl_J5_79 : Cond.fieldLink RJ5 79 (TJ4 3).1 (TJ4 3).2.1 (TJ4 3).2.2.1 ∈ lw_g := (mt1 (List.mem_of_getElem? (i := 218) (by decide +kernel)) rfl)
theorem ml_J5_191 : okT RJ5 191 yJ1_canEncode_fc78d cJ1_canEncode_fc78d 1 (some .boolean) := ⟨(mt6 (List.mem_of_getElem? (i := 205) (by decide +kernel)) rfl), (mt6 (List.mem_of_getElem? (i := 206) (by decide +kernel)) rfl), (mt1 (List.mem_of_getElem? (i := 14) (by decide +kernel)) rfl), (mt6 (List.mem_of_getElem? (i := 207) (by decide +kernel)) rfl)⟩
theorem fl_J5_15 : Cond.fieldLink RJ5 15 (TJ4 0).1 (TJ4 0).2.1 (TJ4 0).2.2.1 ∈ lw_g := (mt1 (List.mem_of_getElem? (i := 215) (by decide +kernel)) rfl)
theorem nm_J5_append_c97b9 : nmC yJ5_append_c97b9 1 := by unfold nmC; decide +kernel
theorem ml_J5_245 : okT RJ5 245 yJ6_stringSize_0f7a4 cJ6_stringSize_0f7a4 4 (some .int) := ⟨(mt6 (List.mem_of_getElem? (i := 177) (by decide +kernel)) rfl), (mt6 (List.mem_of_getElem? (i := 178) (by decide +kernel)) rfl), (mt1 (List.mem_of_getElem? (i := 29) (by decide +kernel)) rfl), (mt6 (List.mem_of_getElem? (i := 179) (by decide +kernel)) rfl)⟩
theorem ml_J5_248 : okT RJ5 248 yJ6_getChars_ba4f3 cJ6_getChars_ba4f3 7 (some .int) := ⟨(mt6 (List.mem_of_getElem? (i := 180) (by decide +kernel)) rfl), (mt6 (List.mem_of_getElem? (i := 181) (by decide +kernel)) rfl), (mt1 (List.mem_of_getElem? (i := 29) (by decide +kernel)) rfl), (mt6 (List.mem_of_getElem? (i := 182) (by decide +kernel)) rfl)⟩
theorem nm_J5_charAt_5068e : nmC yJ5_charAt_5068e 1 := by unfold nmC; decide +kernel
theorem fl_J5_22 : Cond.fieldLink RJ5 22 (TJ4 1).1 (TJ4 1).2.1 (TJ4 1).2.2.1 ∈ lw_g := (mt1 (List.mem_of_getElem? (i := 216) (by decide +kernel)) rfl)
theorem ml_J5_138 : okT RJ5 138 yJ9_min_7cf53 cJ9_min_7cf53 2 (some .int) := ⟨(mt7 (List.mem_of_getElem? (i := 24) (by decide +kernel)) rfl), (mt2 (List.mem_of_getElem? (i := 162) (by decide +kernel)) rfl), (mt1 (List.mem_of_getElem? (i := 15) (by decide +kernel)) rfl), (mt2 (List.mem_of_getElem? (i := 163) (by decide +kernel)) rfl)⟩
theorem ml_J5_144 : okT RJ5 144 yJ0_checkIndex_df160 cJ0_checkIndex_df160 2 none := ⟨(mt7 (List.mem_of_getElem? (i := 25) (by decide +kernel)) rfl), (mt6 (List.mem_of_getElem? (i := 234) (by decide +kernel)) rfl), (mt1 (List.mem_of_getElem? (i := 10) (by decide +kernel)) rfl), (mt6 (List.mem_of_getElem? (i := 235) (by decide +kernel)) rfl)⟩
theorem nm_J5_ensureCapacityInternal_d00df : nmC yJ5_ensureCapacityInternal_d00df 1 := by unfold nmC; decide +kernel
theorem ml_J5_108 : okT RJ5 108 yJ7_copyOf_9075b cJ7_copyOf_9075b 3 (some (.array .byte)) := ⟨(mt6 (List.mem_of_getElem? (i := 145) (by decide +kernel)) rfl), (mt4 (List.mem_of_getElem? (i := 219) (by decide +kernel)) rfl), (mt1 (List.mem_of_getElem? (i := 19) (by decide +kernel)) rfl), (mt4 (List.mem_of_getElem? (i := 220) (by decide +kernel)) rfl)⟩
theorem nm_J5_init_d00df : nmC yJ5_init_d00df 1 := by unfold nmC; decide +kernel
theorem ol_J5_3 : Cond.methodLink RJ5 3 Lib.objectInit ∈ lw_g := (mt1 (List.mem_of_getElem? (i := 205) (by decide +kernel)) rfl)
theorem fl_J5_18 : Cond.fieldLink RJ5 18 "java/lang/String" "COMPACT_STRINGS" "Z" ∈ lw_g := (mt1 (List.mem_of_getElem? (i := 206) (by decide +kernel)) rfl)
theorem nm_J5_isLatin1_aae02 : nmC yJ5_isLatin1_aae02 0 := by unfold nmC; decide +kernel
theorem nm_J5_length_8abf5 : nmC yJ5_length_8abf5 0 := by unfold nmC; decide +kernel
theorem nm_J5_newCapacity_0f7a4 : nmC yJ5_newCapacity_0f7a4 1 := by unfold nmC; decide +kernel
theorem ml_J5_114 : okT RJ5 114 yJ8_newLength_cabcc cJ8_newLength_cabcc 4 (some .int) := ⟨(mt6 (List.mem_of_getElem? (i := 143) (by decide +kernel)) rfl), (mt3 (List.mem_of_getElem? (i := 181) (by decide +kernel)) rfl), (mt1 (List.mem_of_getElem? (i := 22) (by decide +kernel)) rfl), (mt3 (List.mem_of_getElem? (i := 182) (by decide +kernel)) rfl)⟩
theorem ic_J5_39 : Cond.constant RJ5 39 (2147483647 : Int32) ∈ lw_g := (mt6 (List.mem_of_getElem? (i := 144) (by decide +kernel)) rfl)
theorem nm_J5_setLength_d00df : nmC yJ5_setLength_d00df 1 := by unfold nmC; decide +kernel
theorem fl_J5_73 : Cond.fieldLink RJ5 73 (TJ4 2).1 (TJ4 2).2.1 (TJ4 2).2.2.1 ∈ lw_g := (mt1 (List.mem_of_getElem? (i := 217) (by decide +kernel)) rfl)
theorem nm_J6_getChars_ba4f3 : nmC yJ6_getChars_ba4f3 3 := by unfold nmC; decide +kernel
theorem fl_J6_83 : Cond.fieldLink RJ6 83 "java/lang/Integer" "DigitOnes" "[B" ∈ lw_g := (mt6 (List.mem_of_getElem? (i := 183) (by decide +kernel)) rfl)
theorem fl_J6_87 : Cond.fieldLink RJ6 87 "java/lang/Integer" "DigitTens" "[B" ∈ lw_g := (mt6 (List.mem_of_getElem? (i := 185) (by decide +kernel)) rfl)
theorem nm_J6_stringSize_0f7a4 : nmC yJ6_stringSize_0f7a4 1 := by unfold nmC; decide +kernel
theorem nm_J7_copyOf_1904c : nmC yJ7_copyOf_1904c 2 := by unfold nmC; decide +kernel
theorem ml_J7_300 : okT RJ7 300 yJ7_copyOf_6403c cJ7_copyOf_6403c 4 (some (.array (.object "java/lang/Object"))) := ⟨(mt3 (List.mem_of_getElem? (i := 210) (by decide +kernel)) rfl), (mt3 (List.mem_of_getElem? (i := 211) (by decide +kernel)) rfl), (mt1 (List.mem_of_getElem? (i := 19) (by decide +kernel)) rfl), (mt3 (List.mem_of_getElem? (i := 212) (by decide +kernel)) rfl)⟩
theorem nm_J7_copyOf_59c91 : nmC yJ7_copyOf_59c91 2 := by unfold nmC; decide +kernel
theorem cl_J7_317 : Cond.classLink RJ7 317 "[I" ∈ lw_g := (mt3 (List.mem_of_getElem? (i := 101) (by decide +kernel)) rfl)
theorem ml_J7_304 : okT RJ7 304 yJ9_min_7cf53 cJ9_min_7cf53 2 (some .int) := ⟨(mt3 (List.mem_of_getElem? (i := 102) (by decide +kernel)) rfl), (mt2 (List.mem_of_getElem? (i := 162) (by decide +kernel)) rfl), (mt1 (List.mem_of_getElem? (i := 15) (by decide +kernel)) rfl), (mt2 (List.mem_of_getElem? (i := 163) (by decide +kernel)) rfl)⟩
theorem nm_J7_copyOf_6403c : nmC yJ7_copyOf_6403c 3 := by unfold nmC; decide +kernel
theorem cl_J7_2 : Cond.classLink RJ7 2 "java/lang/Object" ∈ lw_g := (mt3 (List.mem_of_getElem? (i := 215) (by decide +kernel)) rfl)
theorem cl_J7_110 : Cond.classLink RJ7 110 "[Ljava/lang/Object;" ∈ lw_g := (mt3 (List.mem_of_getElem? (i := 213) (by decide +kernel)) rfl)
theorem nm_J7_copyOf_9075b : nmC yJ7_copyOf_9075b 2 := by unfold nmC; decide +kernel
theorem cl_J7_311 : Cond.classLink RJ7 311 "[B" ∈ lw_g := (mt4 (List.mem_of_getElem? (i := 225) (by decide +kernel)) rfl)
theorem nm_J7_fill_53178 : nmC yJ7_fill_53178 2 := by unfold nmC; decide +kernel
theorem nm_J8_newLength_cabcc : nmC yJ8_newLength_cabcc 3 := by unfold nmC; decide +kernel
theorem ml_J8_194 : okT RJ8 194 yJ9_max_7cf53 cJ9_max_7cf53 2 (some .int) := ⟨(mt3 (List.mem_of_getElem? (i := 183) (by decide +kernel)) rfl), (mt2 (List.mem_of_getElem? (i := 159) (by decide +kernel)) rfl), (mt1 (List.mem_of_getElem? (i := 15) (by decide +kernel)) rfl), (mt2 (List.mem_of_getElem? (i := 160) (by decide +kernel)) rfl)⟩
theorem ic_J8_200 : Cond.constant RJ8 200 (2147483639 : Int32) ∈ lw_g := (mt3 (List.mem_of_getElem? (i := 184) (by decide +kernel)) rfl)
theorem nm_J9_abs_067f4 : nmC yJ9_abs_067f4 1 := by unfold nmC; decide +kernel
theorem nm_J9_max_7cf53 : nmC yJ9_max_7cf53 2 := by unfold nmC; decide +kernel
theorem nm_J9_min_7cf53 : nmC yJ9_min_7cf53 2 := by unfold nmC; decide +kernel
theorem nm_Jx4a65c_add_72be8 : nmC yJx4a65c_add_72be8 3 := by unfold nmC; decide +kernel
theorem ml_Jx4a65c_129 : okC RJx4a65c 129 yJx4a65c_grow_d5877 cJx4a65c_grow_d5877 1 (some (.array (.object "java/lang/Object"))) := ⟨(mt3 (List.mem_of_getElem? (i := 172) (by decide +kernel)) rfl), (mt3 (List.mem_of_getElem? (i := 174) (by decide +kernel)) rfl), (mem_s (List.mem_of_getElem? (i := 17) (by decide +kernel)) rfl), (mt1 (List.mem_of_getElem? (i := 6) (by decide +kernel)) rfl), (mt3 (List.mem_of_getElem? (i := 175) (by decide +kernel)) rfl)⟩
theorem fl_Jx4a65c_48 : Cond.fieldLink RJx4a65c 48 (TJx4a65c 2).1 (TJx4a65c 2).2.1 (TJx4a65c 2).2.2.1 ∈ lw_g := (mt1 (List.mem_of_getElem? (i := 113) (by decide +kernel)) rfl)
theorem nm_Jx4a65c_add_9ea2d : nmC yJx4a65c_add_9ea2d 1 := by unfold nmC; decide +kernel
theorem fl_Jx4a65c_63 : Cond.fieldLink RJx4a65c 63 "java/util/ArrayList" "modCount" "I" ∈ lw_g := (mt1 (List.mem_of_getElem? (i := 115) (by decide +kernel)) rfl)
theorem fl_Jx4a65c_9 : Cond.fieldLink RJx4a65c 9 (TJx4a65c 1).1 (TJx4a65c 1).2.1 (TJx4a65c 1).2.2.1 ∈ lw_g := (mt1 (List.mem_of_getElem? (i := 112) (by decide +kernel)) rfl)
theorem ml_Jx4a65c_131 : okC RJx4a65c 131 yJx4a65c_add_72be8 cJx4a65c_add_72be8 4 none := ⟨(mt3 (List.mem_of_getElem? (i := 168) (by decide +kernel)) rfl), (mt3 (List.mem_of_getElem? (i := 170) (by decide +kernel)) rfl), (mem_s (List.mem_of_getElem? (i := 16) (by decide +kernel)) rfl), (mt1 (List.mem_of_getElem? (i := 6) (by decide +kernel)) rfl), (mt3 (List.mem_of_getElem? (i := 171) (by decide +kernel)) rfl)⟩
theorem nm_Jx4a65c_clear_da8c8 : nmC yJx4a65c_clear_da8c8 0 := by unfold nmC; decide +kernel
theorem nm_Jx4a65c_elementData_915e3 : nmC yJx4a65c_elementData_915e3 1 := by unfold nmC; decide +kernel
theorem nm_Jx4a65c_get_915e3 : nmC yJx4a65c_get_915e3 1 := by unfold nmC; decide +kernel
theorem ml_Jx4a65c_118 : okT RJx4a65c 118 yJ15_checkIndex_7cf53 cJ15_checkIndex_7cf53 2 (some .int) := ⟨(mt4 (List.mem_of_getElem? (i := 146) (by decide +kernel)) rfl), (mt4 (List.mem_of_getElem? (i := 147) (by decide +kernel)) rfl), (mt1 (List.mem_of_getElem? (i := 26) (by decide +kernel)) rfl), (mt4 (List.mem_of_getElem? (i := 148) (by decide +kernel)) rfl)⟩
theorem ml_Jx4a65c_123 : okC RJx4a65c 123 yJx4a65c_elementData_915e3 cJx4a65c_elementData_915e3 2 (some (.object "java/lang/Object")) := ⟨(mt4 (List.mem_of_getElem? (i := 152) (by decide +kernel)) rfl), (mt4 (List.mem_of_getElem? (i := 153) (by decide +kernel)) rfl), (mt4 (List.mem_of_getElem? (i := 154) (by decide +kernel)) rfl), (mt1 (List.mem_of_getElem? (i := 6) (by decide +kernel)) rfl), (mt4 (List.mem_of_getElem? (i := 155) (by decide +kernel)) rfl)⟩
theorem nm_Jx4a65c_grow_92f84 : nmC yJx4a65c_grow_92f84 1 := by unfold nmC; decide +kernel
theorem fl_Jx4a65c_39 : Cond.fieldLink RJx4a65c 39 "java/util/ArrayList" "DEFAULTCAPACITY_EMPTY_ELEMENTDATA" "[Ljava/lang/Object;" ∈ lw_g := (mt1 (List.mem_of_getElem? (i := 110) (by decide +kernel)) rfl)
theorem ml_Jx4a65c_73 : okT RJx4a65c 73 yJ8_newLength_cabcc cJ8_newLength_cabcc 4 (some .int) := ⟨(mt3 (List.mem_of_getElem? (i := 180) (by decide +kernel)) rfl), (mt3 (List.mem_of_getElem? (i := 181) (by decide +kernel)) rfl), (mt1 (List.mem_of_getElem? (i := 22) (by decide +kernel)) rfl), (mt3 (List.mem_of_getElem? (i := 182) (by decide +kernel)) rfl)⟩
theorem ml_Jx4a65c_66 : okT RJx4a65c 66 yJ7_copyOf_1904c cJ7_copyOf_1904c 2 (some (.array (.object "java/lang/Object"))) := ⟨(mt3 (List.mem_of_getElem? (i := 188) (by decide +kernel)) rfl), (mt3 (List.mem_of_getElem? (i := 189) (by decide +kernel)) rfl), (mt1 (List.mem_of_getElem? (i := 19) (by decide +kernel)) rfl), (mt3 (List.mem_of_getElem? (i := 190) (by decide +kernel)) rfl)⟩
theorem ml_Jx4a65c_79 : okT RJx4a65c 79 yJ9_max_7cf53 cJ9_max_7cf53 2 (some .int) := ⟨(mt3 (List.mem_of_getElem? (i := 216) (by decide +kernel)) rfl), (mt2 (List.mem_of_getElem? (i := 159) (by decide +kernel)) rfl), (mt1 (List.mem_of_getElem? (i := 15) (by decide +kernel)) rfl), (mt2 (List.mem_of_getElem? (i := 160) (by decide +kernel)) rfl)⟩
theorem cl_Jx4a65c_7 : Cond.classLink RJx4a65c 7 "java/lang/Object" ∈ lw_g := (mt3 (List.mem_of_getElem? (i := 217) (by decide +kernel)) rfl)
theorem nm_Jx4a65c_grow_d5877 : nmC yJx4a65c_grow_d5877 0 := by unfold nmC; decide +kernel
theorem ml_Jx4a65c_69 : okC RJx4a65c 69 yJx4a65c_grow_92f84 cJx4a65c_grow_92f84 4 (some (.array (.object "java/lang/Object"))) := ⟨(mt3 (List.mem_of_getElem? (i := 176) (by decide +kernel)) rfl), (mt3 (List.mem_of_getElem? (i := 178) (by decide +kernel)) rfl), (mem_s (List.mem_of_getElem? (i := 18) (by decide +kernel)) rfl), (mt1 (List.mem_of_getElem? (i := 6) (by decide +kernel)) rfl), (mt3 (List.mem_of_getElem? (i := 179) (by decide +kernel)) rfl)⟩
theorem nm_Jx4a65c_init_da8c8 : nmC yJx4a65c_init_da8c8 0 := by unfold nmC; decide +kernel
theorem ml_Jx4a65c_1 : okI RJx4a65c 1 yJxc12de_init_da8c8 cJxc12de_init_da8c8 1 := ⟨(mt1 (List.mem_of_getElem? (i := 103) (by decide +kernel)) rfl), (mt1 (List.mem_of_getElem? (i := 104) (by decide +kernel)) rfl), (mt1 (List.mem_of_getElem? (i := 5) (by decide +kernel)) rfl), (mt1 (List.mem_of_getElem? (i := 105) (by decide +kernel)) rfl), rfl⟩
theorem nm_Jx4a65c_size_8abf5 : nmC yJx4a65c_size_8abf5 0 := by unfold nmC; decide +kernel
theorem nm_Jxa1e45_init_da8c8 : nmC yJxa1e45_init_da8c8 0 := by unfold nmC; decide +kernel
theorem ol_Jxa1e45_1 : Cond.methodLink RJxa1e45 1 Lib.objectInit ∈ lw_g := (mt1 (List.mem_of_getElem? (i := 109) (by decide +kernel)) rfl)
theorem nm_Jxc12de_init_da8c8 : nmC yJxc12de_init_da8c8 0 := by unfold nmC; decide +kernel
theorem ml_Jxc12de_1 : okI RJxc12de 1 yJxa1e45_init_da8c8 cJxa1e45_init_da8c8 1 := ⟨(mt1 (List.mem_of_getElem? (i := 106) (by decide +kernel)) rfl), (mt1 (List.mem_of_getElem? (i := 107) (by decide +kernel)) rfl), (mt1 (List.mem_of_getElem? (i := 4) (by decide +kernel)) rfl), (mt1 (List.mem_of_getElem? (i := 108) (by decide +kernel)) rfl), rfl⟩
theorem fl_Jxc12de_7 : Cond.fieldLink RJxc12de 7 (TJx4a65c 0).1 (TJx4a65c 0).2.1 (TJx4a65c 0).2.2.1 ∈ lw_g := (mt1 (List.mem_of_getElem? (i := 114) (by decide +kernel)) rfl)
theorem in_J4 : Cond.instantiable RJ4 4 ∈ lw_g := (mt1 (List.mem_of_getElem? (i := 198) (by decide +kernel)) rfl)
theorem ini_J4 : Cond.initialized RJ4 ∈ lw_g := (mt1 (List.mem_of_getElem? (i := 9) (by decide +kernel)) rfl)
theorem in_Jx4a65c : Cond.instantiable RJx4a65c 3 ∈ lw_g := (mt1 (List.mem_of_getElem? (i := 99) (by decide +kernel)) rfl)
theorem ini_Jx4a65c : Cond.initialized RJx4a65c ∈ lw_g := (mt1 (List.mem_of_getElem? (i := 6) (by decide +kernel)) rfl)
theorem in_X0 : Cond.instantiable RX0 12 ∈ lw_g := (mt1 (List.mem_of_getElem? (i := 229) (by decide +kernel)) rfl)
theorem ini_X0 : Cond.initialized RX0 ∈ lw_g := (mt1 (List.mem_of_getElem? (i := 12) (by decide +kernel)) rfl)
theorem in_X1 : Cond.instantiable RX1 20 ∈ lw_g := (mt1 (List.mem_of_getElem? (i := 125) (by decide +kernel)) rfl)
theorem ini_X1 : Cond.initialized RX1 ∈ lw_g := (mt1 (List.mem_of_getElem? (i := 7) (by decide +kernel)) rfl)
theorem in_X2 : Cond.instantiable RX2 9 ∈ lw_g := (mt6 (List.mem_of_getElem? (i := 15) (by decide +kernel)) rfl)
theorem ini_X2 : Cond.initialized RX2 ∈ lw_g := (mt1 (List.mem_of_getElem? (i := 28) (by decide +kernel)) rfl)
theorem in_X3 : Cond.instantiable RX3 6 ∈ lw_g := (mt4 (List.mem_of_getElem? (i := 136) (by decide +kernel)) rfl)
theorem ini_X3 : Cond.initialized RX3 ∈ lw_g := (mt1 (List.mem_of_getElem? (i := 25) (by decide +kernel)) rfl)
theorem in_X4 : Cond.instantiable RX4 9 ∈ lw_g := (mt1 (List.mem_of_getElem? (i := 61) (by decide +kernel)) rfl)
theorem ini_X4 : Cond.initialized RX4 ∈ lw_g := (mt1 (List.mem_of_getElem? (i := 3) (by decide +kernel)) rfl)
theorem in_X5 : Cond.instantiable RX5 6 ∈ lw_g := (mt5 (List.mem_of_getElem? (i := 101) (by decide +kernel)) rfl)
theorem ini_X5 : Cond.initialized RX5 ∈ lw_g := (mt1 (List.mem_of_getElem? (i := 27) (by decide +kernel)) rfl)
theorem in_X6 : Cond.instantiable RX6 13 ∈ lw_g := (mt2 (List.mem_of_getElem? (i := 217) (by decide +kernel)) rfl)
theorem ini_X6 : Cond.initialized RX6 ∈ lw_g := (mt1 (List.mem_of_getElem? (i := 18) (by decide +kernel)) rfl)
theorem in_X7 : Cond.instantiable RX7 11 ∈ lw_g := (mt3 (List.mem_of_getElem? (i := 115) (by decide +kernel)) rfl)
theorem ini_X7 : Cond.initialized RX7 ∈ lw_g := (mt1 (List.mem_of_getElem? (i := 21) (by decide +kernel)) rfl)
theorem in_X8 : Cond.instantiable RX8 6 ∈ lw_g := (mt4 (List.mem_of_getElem? (i := 8) (by decide +kernel)) rfl)
theorem ini_X8 : Cond.initialized RX8 ∈ lw_g := (mt1 (List.mem_of_getElem? (i := 23) (by decide +kernel)) rfl)
theorem in_X9 : Cond.instantiable RX9 3 ∈ lw_g := (mt1 (List.mem_of_getElem? (i := 39) (by decide +kernel)) rfl)
theorem ini_X9 : Cond.initialized RX9 ∈ lw_g := (mt1 (List.mem_of_getElem? (i := 2) (by decide +kernel)) rfl)
theorem in_X10 : Cond.instantiable RX10 11 ∈ lw_g := (mt4 (List.mem_of_getElem? (i := 62) (by decide +kernel)) rfl)
theorem ini_X10 : Cond.initialized RX10 ∈ lw_g := (mt1 (List.mem_of_getElem? (i := 24) (by decide +kernel)) rfl)
theorem in_X11 : Cond.instantiable RX11 10 ∈ lw_g := (mt1 (List.mem_of_getElem? (i := 31) (by decide +kernel)) rfl)
theorem ini_X11 : Cond.initialized RX11 ∈ lw_g := (mt1 (List.mem_of_getElem? (i := 1) (by decide +kernel)) rfl)
theorem olc : Cond.code Lib.objectInit ⟨#[0xb1]⟩ 1 none ∈ lw_g := (mt1 (List.mem_of_getElem? (i := 37) (by decide +kernel)) rfl)
theorem oli : Cond.instanceMethod Lib.objectInit ∈ lw_g := (mt1 (List.mem_of_getElem? (i := 36) (by decide +kernel)) rfl)
theorem acc_byte : Cond.arrayClass .byte ∈ lw_g := (mt1 (List.mem_of_getElem? (i := 57) (by decide +kernel)) rfl)
theorem acc_int : Cond.arrayClass .int ∈ lw_g := (mt1 (List.mem_of_getElem? (i := 58) (by decide +kernel)) rfl)
theorem acc_long : Cond.arrayClass .long ∈ lw_g := (mt1 (List.mem_of_getElem? (i := 59) (by decide +kernel)) rfl)
theorem acc_boolean : Cond.arrayClass .boolean ∈ lw_g := (mt5 (List.mem_of_getElem? (i := 129) (by decide +kernel)) rfl)
