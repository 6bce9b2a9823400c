theorem nm_X11_init : nmC yX11_init 0 := by unfold nmC; decide +kernel
theorem ol_X11_3 : Cond.methodLink RX11 3 Lib.objectInit ∈ lw_g := (mt1 (List.mem_of_getElem? (i := 35) (by decide +kernel)) rfl)
theorem fl_X11_9 : Cond.fieldLink RX11 9 (TX11 0).1 (TX11 0).2.1 (TX11 0).2.2.1 ∈ lw_g := (mt2 (List.mem_of_getElem? (i := 55) (by decide +kernel)) rfl)
theorem cl_X11_13 : Cond.classLink RX11 13 "CustomsDesk$Tokens" ∈ lw_g := (mt1 (List.mem_of_getElem? (i := 38) (by decide +kernel)) rfl)
theorem ml_X11_15 : okI RX11 15 yX9_init cX9_init 1 := ⟨(mt1 (List.mem_of_getElem? (i := 40) (by decide +kernel)) rfl), (mt1 (List.mem_of_getElem? (i := 41) (by decide +kernel)) rfl), (mt1 (List.mem_of_getElem? (i := 2) (by decide +kernel)) rfl), (mt1 (List.mem_of_getElem? (i := 42) (by decide +kernel)) rfl), rfl⟩
theorem fl_X11_16 : Cond.fieldLink RX11 16 (TX11 1).1 (TX11 1).2.1 (TX11 1).2.2.1 ∈ lw_g := (mt2 (List.mem_of_getElem? (i := 56) (by decide +kernel)) rfl)
theorem cl_X11_20 : Cond.classLink RX11 20 "CustomsDesk$Opener" ∈ lw_g := (mt1 (List.mem_of_getElem? (i := 60) (by decide +kernel)) rfl)
theorem ml_X11_22 : okI RX11 22 yX4_init cX4_init 1 := ⟨(mt1 (List.mem_of_getElem? (i := 62) (by decide +kernel)) rfl), (mt1 (List.mem_of_getElem? (i := 63) (by decide +kernel)) rfl), (mt1 (List.mem_of_getElem? (i := 3) (by decide +kernel)) rfl), (mt1 (List.mem_of_getElem? (i := 64) (by decide +kernel)) rfl), rfl⟩
theorem fl_X11_23 : Cond.fieldLink RX11 23 (TX11 2).1 (TX11 2).2.1 (TX11 2).2.2.1 ∈ lw_g := (mt2 (List.mem_of_getElem? (i := 57) (by decide +kernel)) rfl)
theorem cl_X11_27 : Cond.classLink RX11 27 "java/util/ArrayList" ∈ lw_g := (mt1 (List.mem_of_getElem? (i := 98) (by decide +kernel)) rfl)
theorem ml_X11_29 : okI RX11 29 yJx4a65c_init_da8c8 cJx4a65c_init_da8c8 1 := ⟨(mt1 (List.mem_of_getElem? (i := 100) (by decide +kernel)) rfl), (mt1 (List.mem_of_getElem? (i := 101) (by decide +kernel)) rfl), (mt1 (List.mem_of_getElem? (i := 6) (by decide +kernel)) rfl), (mt1 (List.mem_of_getElem? (i := 102) (by decide +kernel)) rfl), rfl⟩
theorem fl_X11_30 : Cond.fieldLink RX11 30 (TX11 4).1 (TX11 4).2.1 (TX11 4).2.2.1 ∈ lw_g := (mt2 (List.mem_of_getElem? (i := 59) (by decide +kernel)) rfl)
theorem cl_X11_34 : Cond.classLink RX11 34 "CustomsDesk$Check" ∈ lw_g := (mt1 (List.mem_of_getElem? (i := 124) (by decide +kernel)) rfl)
theorem ml_X11_36 : okI RX11 36 yX1_init cX1_init 2 := ⟨(mt1 (List.mem_of_getElem? (i := 126) (by decide +kernel)) rfl), (mt1 (List.mem_of_getElem? (i := 127) (by decide +kernel)) rfl), (mt1 (List.mem_of_getElem? (i := 7) (by decide +kernel)) rfl), (mt1 (List.mem_of_getElem? (i := 128) (by decide +kernel)) rfl), rfl⟩
theorem fl_X11_39 : Cond.fieldLink RX11 39 (TX11 3).1 (TX11 3).2.1 (TX11 3).2.2.1 ∈ lw_g := (mt2 (List.mem_of_getElem? (i := 58) (by decide +kernel)) rfl)
theorem cl_X11_43 : Cond.classLink RX11 43 "java/lang/StringBuilder" ∈ lw_g := (mt1 (List.mem_of_getElem? (i := 197) (by decide +kernel)) rfl)
theorem ml_X11_45 : okI RX11 45 yJ4_init_da8c8 cJ4_init_da8c8 1 := ⟨(mt1 (List.mem_of_getElem? (i := 199) (by decide +kernel)) rfl), (mt1 (List.mem_of_getElem? (i := 200) (by decide +kernel)) rfl), (mt1 (List.mem_of_getElem? (i := 9) (by decide +kernel)) rfl), (mt1 (List.mem_of_getElem? (i := 201) (by decide +kernel)) rfl), rfl⟩
theorem fl_X11_46 : Cond.fieldLink RX11 46 (TX11 5).1 (TX11 5).2.1 (TX11 5).2.2.1 ∈ lw_g := (mt2 (List.mem_of_getElem? (i := 60) (by decide +kernel)) rfl)
theorem cl_X11_50 : Cond.classLink RX11 50 "CustomsDesk$Book" ∈ lw_g := (mt1 (List.mem_of_getElem? (i := 228) (by decide +kernel)) rfl)
theorem ml_X11_52 : okI RX11 52 yX0_init cX0_init 1 := ⟨(mt1 (List.mem_of_getElem? (i := 230) (by decide +kernel)) rfl), (mt1 (List.mem_of_getElem? (i := 231) (by decide +kernel)) rfl), (mt1 (List.mem_of_getElem? (i := 12) (by decide +kernel)) rfl), (mt1 (List.mem_of_getElem? (i := 232) (by decide +kernel)) rfl), rfl⟩
theorem fl_X11_53 : Cond.fieldLink RX11 53 (TX11 6).1 (TX11 6).2.1 (TX11 6).2.2.1 ∈ lw_g := (mt2 (List.mem_of_getElem? (i := 61) (by decide +kernel)) rfl)
theorem ml_X11_57 : okC RX11 57 yX1_forget cX1_forget 2 none := ⟨(mt2 (List.mem_of_getElem? (i := 47) (by decide +kernel)) rfl), (mt2 (List.mem_of_getElem? (i := 48) (by decide +kernel)) rfl), (mt2 (List.mem_of_getElem? (i := 49) (by decide +kernel)) rfl), (mt1 (List.mem_of_getElem? (i := 7) (by decide +kernel)) rfl), (mt2 (List.mem_of_getElem? (i := 50) (by decide +kernel)) rfl)⟩
theorem fl_X11_61 : Cond.fieldLink RX11 61 (TX11 9).1 (TX11 9).2.1 (TX11 9).2.2.1 ∈ lw_g := (mt2 (List.mem_of_getElem? (i := 64) (by decide +kernel)) rfl)
theorem nm_X9_init : nmC yX9_init 0 := by unfold nmC; decide +kernel
theorem ol_X9_3 : Cond.methodLink RX9 3 Lib.objectInit ∈ lw_g := (mt1 (List.mem_of_getElem? (i := 43) (by decide +kernel)) rfl)
theorem fl_X9_9 : Cond.fieldLink RX9 9 (TX9 0).1 (TX9 0).2.1 (TX9 0).2.2.1 ∈ lw_g := (mt1 (List.mem_of_getElem? (i := 44) (by decide +kernel)) rfl)
theorem fl_X9_15 : Cond.fieldLink RX9 15 (TX9 1).1 (TX9 1).2.1 (TX9 1).2.2.1 ∈ lw_g := (mt1 (List.mem_of_getElem? (i := 46) (by decide +kernel)) rfl)
theorem fl_X9_18 : Cond.fieldLink RX9 18 (TX9 2).1 (TX9 2).2.1 (TX9 2).2.2.1 ∈ lw_g := (mt1 (List.mem_of_getElem? (i := 48) (by decide +kernel)) rfl)
theorem nm_X4_init : nmC yX4_init 0 := by unfold nmC; decide +kernel
theorem ol_X4_3 : Cond.methodLink RX4 3 Lib.objectInit ∈ lw_g := (mt1 (List.mem_of_getElem? (i := 65) (by decide +kernel)) rfl)
theorem cl_X4_9 : Cond.classLink RX4 9 "[[I" ∈ lw_g := (mt1 (List.mem_of_getElem? (i := 66) (by decide +kernel)) rfl)
theorem fl_X4_11 : Cond.fieldLink RX4 11 (TX4 0).1 (TX4 0).2.1 (TX4 0).2.2.1 ∈ lw_g := (mt1 (List.mem_of_getElem? (i := 68) (by decide +kernel)) rfl)
theorem fl_X4_16 : Cond.fieldLink RX4 16 (TX4 7).1 (TX4 7).2.1 (TX4 7).2.2.1 ∈ lw_g := (mt1 (List.mem_of_getElem? (i := 77) (by decide +kernel)) rfl)
theorem fl_X4_20 : Cond.fieldLink RX4 20 (TX4 8).1 (TX4 8).2.1 (TX4 8).2.2.1 ∈ lw_g := (mt1 (List.mem_of_getElem? (i := 78) (by decide +kernel)) rfl)
theorem nm_X1_init : nmC yX1_init 1 := by unfold nmC; decide +kernel
theorem ol_X1_3 : Cond.methodLink RX1 3 Lib.objectInit ∈ lw_g := (mt1 (List.mem_of_getElem? (i := 129) (by decide +kernel)) rfl)
theorem fl_X1_9 : Cond.fieldLink RX1 9 (TX1 5).1 (TX1 5).2.1 (TX1 5).2.2.1 ∈ lw_g := (mt1 (List.mem_of_getElem? (i := 141) (by decide +kernel)) rfl)
theorem cl_X1_15 : Cond.classLink RX1 15 "java/util/ArrayList" ∈ lw_g := (mt1 (List.mem_of_getElem? (i := 130) (by decide +kernel)) rfl)
theorem ml_X1_17 : okI RX1 17 yJx4a65c_init_da8c8 cJx4a65c_init_da8c8 1 := ⟨(mt1 (List.mem_of_getElem? (i := 131) (by decide +kernel)) rfl), (mt1 (List.mem_of_getElem? (i := 101) (by decide +kernel)) rfl), (mt1 (List.mem_of_getElem? (i := 6) (by decide +kernel)) rfl), (mt1 (List.mem_of_getElem? (i := 102) (by decide +kernel)) rfl), rfl⟩
theorem fl_X1_18 : Cond.fieldLink RX1 18 (TX1 6).1 (TX1 6).2.1 (TX1 6).2.2.1 ∈ lw_g := (mt1 (List.mem_of_getElem? (i := 142) (by decide +kernel)) rfl)
theorem fl_X1_21 : Cond.fieldLink RX1 21 (TX1 2).1 (TX1 2).2.1 (TX1 2).2.2.1 ∈ lw_g := (mt1 (List.mem_of_getElem? (i := 136) (by decide +kernel)) rfl)
theorem fl_X1_25 : Cond.fieldLink RX1 25 (TX1 13).1 (TX1 13).2.1 (TX1 13).2.2.1 ∈ lw_g := (mt1 (List.mem_of_getElem? (i := 149) (by decide +kernel)) rfl)
theorem fl_X1_28 : Cond.fieldLink RX1 28 (TX1 14).1 (TX1 14).2.1 (TX1 14).2.2.1 ∈ lw_g := (mt1 (List.mem_of_getElem? (i := 150) (by decide +kernel)) rfl)
theorem fl_X1_31 : Cond.fieldLink RX1 31 (TX1 15).1 (TX1 15).2.1 (TX1 15).2.2.1 ∈ lw_g := (mt1 (List.mem_of_getElem? (i := 151) (by decide +kernel)) rfl)
theorem fl_X1_34 : Cond.fieldLink RX1 34 (TX1 16).1 (TX1 16).2.1 (TX1 16).2.2.1 ∈ lw_g := (mt1 (List.mem_of_getElem? (i := 152) (by decide +kernel)) rfl)
theorem fl_X1_37 : Cond.fieldLink RX1 37 (TX1 17).1 (TX1 17).2.1 (TX1 17).2.2.1 ∈ lw_g := (mt1 (List.mem_of_getElem? (i := 153) (by decide +kernel)) rfl)
theorem fl_X1_40 : Cond.fieldLink RX1 40 (TX1 18).1 (TX1 18).2.1 (TX1 18).2.2.1 ∈ lw_g := (mt1 (List.mem_of_getElem? (i := 154) (by decide +kernel)) rfl)
theorem nm_X0_init : nmC yX0_init 0 := by unfold nmC; decide +kernel
theorem ol_X0_3 : Cond.methodLink RX0 3 Lib.objectInit ∈ lw_g := (mt1 (List.mem_of_getElem? (i := 233) (by decide +kernel)) rfl)
theorem cl_X0_9 : Cond.classLink RX0 9 "java/util/ArrayList" ∈ lw_g := (mt1 (List.mem_of_getElem? (i := 234) (by decide +kernel)) rfl)
theorem ml_X0_11 : okI RX0 11 yJx4a65c_init_da8c8 cJx4a65c_init_da8c8 1 := ⟨(mt1 (List.mem_of_getElem? (i := 235) (by decide +kernel)) rfl), (mt1 (List.mem_of_getElem? (i := 101) (by decide +kernel)) rfl), (mt1 (List.mem_of_getElem? (i := 6) (by decide +kernel)) rfl), (mt1 (List.mem_of_getElem? (i := 102) (by decide +kernel)) rfl), rfl⟩
theorem fl_X0_12 : Cond.fieldLink RX0 12 (TX0 0).1 (TX0 0).2.1 (TX0 0).2.2.1 ∈ lw_g := (mt1 (List.mem_of_getElem? (i := 238) (by decide +kernel)) rfl)
theorem fl_X0_18 : Cond.fieldLink RX0 18 (TX0 1).1 (TX0 1).2.1 (TX0 1).2.2.1 ∈ lw_g := (mt2 (List.mem_of_getElem? (i := 1) (by decide +kernel)) rfl)
theorem fl_X0_21 : Cond.fieldLink RX0 21 (TX0 2).1 (TX0 2).2.1 (TX0 2).2.2.1 ∈ lw_g := (mt2 (List.mem_of_getElem? (i := 3) (by decide +kernel)) rfl)
theorem fl_X0_24 : Cond.fieldLink RX0 24 (TX0 3).1 (TX0 3).2.1 (TX0 3).2.2.1 ∈ lw_g := (mt2 (List.mem_of_getElem? (i := 6) (by decide +kernel)) rfl)
theorem cl_X0_27 : Cond.classLink RX0 27 "[I" ∈ lw_g := (mt1 (List.mem_of_getElem? (i := 236) (by decide +kernel)) rfl)
theorem fl_X0_29 : Cond.fieldLink RX0 29 (TX0 4).1 (TX0 4).2.1 (TX0 4).2.2.1 ∈ lw_g := (mt2 (List.mem_of_getElem? (i := 10) (by decide +kernel)) rfl)
theorem fl_X0_33 : Cond.fieldLink RX0 33 (TX0 8).1 (TX0 8).2.1 (TX0 8).2.2.1 ∈ lw_g := (mt2 (List.mem_of_getElem? (i := 18) (by decide +kernel)) rfl)
theorem fl_X0_36 : Cond.fieldLink RX0 36 (TX0 9).1 (TX0 9).2.1 (TX0 9).2.2.1 ∈ lw_g := (mt2 (List.mem_of_getElem? (i := 19) (by decide +kernel)) rfl)
theorem fl_X0_40 : Cond.fieldLink RX0 40 (TX0 10).1 (TX0 10).2.1 (TX0 10).2.2.1 ∈ lw_g := (mt2 (List.mem_of_getElem? (i := 20) (by decide +kernel)) rfl)
theorem fl_X0_43 : Cond.fieldLink RX0 43 (TX0 6).1 (TX0 6).2.1 (TX0 6).2.2.1 ∈ lw_g := (mt2 (List.mem_of_getElem? (i := 15) (by decide +kernel)) rfl)
theorem lc_X0_47 : Cond.constantLong RX0 47 6384748 ∈ lw_g := (mt1 (List.mem_of_getElem? (i := 237) (by decide +kernel)) rfl)
theorem fl_X0_49 : Cond.fieldLink RX0 49 (TX0 11).1 (TX0 11).2.1 (TX0 11).2.2.1 ∈ lw_g := (mt2 (List.mem_of_getElem? (i := 21) (by decide +kernel)) rfl)
theorem nm_X1_forget : nmC yX1_forget 1 := by unfold nmC; decide +kernel
theorem ml_X1_63 : okC RX1 63 yX1_clear cX1_clear 1 none := ⟨(mt2 (List.mem_of_getElem? (i := 51) (by decide +kernel)) rfl), (mt2 (List.mem_of_getElem? (i := 53) (by decide +kernel)) rfl), (mem_s (List.mem_of_getElem? (i := 0) (by decide +kernel)) rfl), (mt1 (List.mem_of_getElem? (i := 7) (by decide +kernel)) rfl), (mt2 (List.mem_of_getElem? (i := 54) (by decide +kernel)) rfl)⟩
theorem fl_X1_66 : Cond.fieldLink RX1 66 (TX1 4).1 (TX1 4).2.1 (TX1 4).2.2.1 ∈ lw_g := (mt1 (List.mem_of_getElem? (i := 140) (by decide +kernel)) rfl)
theorem fl_X1_70 : Cond.fieldLink RX1 70 (TX1 1).1 (TX1 1).2.1 (TX1 1).2.2.1 ∈ lw_g := (mt1 (List.mem_of_getElem? (i := 134) (by decide +kernel)) rfl)
theorem nm_X1_clear : nmC yX1_clear 0 := by unfold nmC; decide +kernel
theorem fl_X1_43 : Cond.fieldLink RX1 43 (TX1 0).1 (TX1 0).2.1 (TX1 0).2.2.1 ∈ lw_g := (mt1 (List.mem_of_getElem? (i := 132) (by decide +kernel)) rfl)
theorem fl_X1_47 : Cond.fieldLink RX1 47 (TX1 3).1 (TX1 3).2.1 (TX1 3).2.2.1 ∈ lw_g := (mt1 (List.mem_of_getElem? (i := 138) (by decide +kernel)) rfl)
theorem fl_X1_50 : Cond.fieldLink RX1 50 (TX1 19).1 (TX1 19).2.1 (TX1 19).2.2.1 ∈ lw_g := (mt1 (List.mem_of_getElem? (i := 155) (by decide +kernel)) rfl)
theorem fl_X1_53 : Cond.fieldLink RX1 53 (TX1 9).1 (TX1 9).2.1 (TX1 9).2.2.1 ∈ lw_g := (mt1 (List.mem_of_getElem? (i := 145) (by decide +kernel)) rfl)
theorem fl_X1_56 : Cond.fieldLink RX1 56 (TX1 7).1 (TX1 7).2.1 (TX1 7).2.2.1 ∈ lw_g := (mt1 (List.mem_of_getElem? (i := 143) (by decide +kernel)) rfl)
theorem fl_X1_60 : Cond.fieldLink RX1 60 (TX1 8).1 (TX1 8).2.1 (TX1 8).2.2.1 ∈ lw_g := (mt1 (List.mem_of_getElem? (i := 144) (by decide +kernel)) rfl)
theorem nm_X11_feed : nmC yX11_feed 5 := by unfold nmC; decide +kernel
theorem fl_X11_65 : Cond.fieldLink RX11 65 (TX11 7).1 (TX11 7).2.1 (TX11 7).2.2.1 ∈ lw_g := (mt2 (List.mem_of_getElem? (i := 62) (by decide +kernel)) rfl)
theorem ml_X11_68 : okC RX11 68 yX11_putBytes cX11_putBytes 3 none := ⟨(mt2 (List.mem_of_getElem? (i := 90) (by decide +kernel)) rfl), (mt2 (List.mem_of_getElem? (i := 92) (by decide +kernel)) rfl), (mem_s (List.mem_of_getElem? (i := 1) (by decide +kernel)) rfl), (mt1 (List.mem_of_getElem? (i := 1) (by decide +kernel)) rfl), (mt2 (List.mem_of_getElem? (i := 93) (by decide +kernel)) rfl)⟩
theorem nm_X11_putBytes : nmC yX11_putBytes 1 := by unfold nmC; decide +kernel
theorem nm_X11_end : nmC yX11_end 1 := by unfold nmC; decide +kernel
theorem nm_X11_take : nmC yX11_take 0 := by unfold nmC; decide +kernel
theorem ml_X11_72 : okC RX11 72 yX9_scan cX9_scan 6 none := ⟨(mt2 (List.mem_of_getElem? (i := 102) (by decide +kernel)) rfl), (mt2 (List.mem_of_getElem? (i := 103) (by decide +kernel)) rfl), (mt2 (List.mem_of_getElem? (i := 104) (by decide +kernel)) rfl), (mt1 (List.mem_of_getElem? (i := 2) (by decide +kernel)) rfl), (mt2 (List.mem_of_getElem? (i := 105) (by decide +kernel)) rfl)⟩
theorem cl_X11_76 : Cond.classLink RX11 76 "CustomsDesk$Reader" ∈ lw_g := (mt2 (List.mem_of_getElem? (i := 216) (by decide +kernel)) rfl)
theorem ml_X11_78 : okI RX11 78 yX6_init cX6_init 3 := ⟨(mt2 (List.mem_of_getElem? (i := 218) (by decide +kernel)) rfl), (mt2 (List.mem_of_getElem? (i := 219) (by decide +kernel)) rfl), (mt1 (List.mem_of_getElem? (i := 18) (by decide +kernel)) rfl), (mt2 (List.mem_of_getElem? (i := 220) (by decide +kernel)) rfl), rfl⟩
theorem ml_X11_81 : okC RX11 81 yX6_read cX6_read 3 none := ⟨(mt3 (List.mem_of_getElem? (i := 27) (by decide +kernel)) rfl), (mt3 (List.mem_of_getElem? (i := 28) (by decide +kernel)) rfl), (mt3 (List.mem_of_getElem? (i := 29) (by decide +kernel)) rfl), (mt1 (List.mem_of_getElem? (i := 18) (by decide +kernel)) rfl), (mt3 (List.mem_of_getElem? (i := 30) (by decide +kernel)) rfl)⟩
theorem fl_X11_84 : Cond.fieldLink RX11 84 (TX6 1).1 (TX6 1).2.1 (TX6 1).2.2.1 ∈ lw_g := (mt2 (List.mem_of_getElem? (i := 227) (by decide +kernel)) rfl)
theorem fl_X11_87 : Cond.fieldLink RX11 87 (TX6 0).1 (TX6 0).2.1 (TX6 0).2.2.1 ∈ lw_g := (mt2 (List.mem_of_getElem? (i := 225) (by decide +kernel)) rfl)
theorem fl_X11_88 : Cond.fieldLink RX11 88 (TX11 8).1 (TX11 8).2.1 (TX11 8).2.2.1 ∈ lw_g := (mt2 (List.mem_of_getElem? (i := 63) (by decide +kernel)) rfl)
theorem fl_X11_91 : Cond.fieldLink RX11 91 (TX6 2).1 (TX6 2).2.1 (TX6 2).2.2.1 ∈ lw_g := (mt2 (List.mem_of_getElem? (i := 229) (by decide +kernel)) rfl)
theorem ml_X11_94 : okT RX11 94 yJ7_copyOf_9075b cJ7_copyOf_9075b 3 (some (.array .byte)) := ⟨(mt4 (List.mem_of_getElem? (i := 218) (by decide +kernel)) rfl), (mt4 (List.mem_of_getElem? (i := 219) (by decide +kernel)) rfl), (mt1 (List.mem_of_getElem? (i := 19) (by decide +kernel)) rfl), (mt4 (List.mem_of_getElem? (i := 220) (by decide +kernel)) rfl)⟩
theorem fl_X11_100 : Cond.fieldLink RX11 100 (TX0 7).1 (TX0 7).2.1 (TX0 7).2.2.1 ∈ lw_g := (mt2 (List.mem_of_getElem? (i := 17) (by decide +kernel)) rfl)
theorem ml_X11_103 : okC RX11 103 yX4_open cX4_open 4 none := ⟨(mt4 (List.mem_of_getElem? (i := 226) (by decide +kernel)) rfl), (mt4 (List.mem_of_getElem? (i := 227) (by decide +kernel)) rfl), (mt4 (List.mem_of_getElem? (i := 228) (by decide +kernel)) rfl), (mt1 (List.mem_of_getElem? (i := 3) (by decide +kernel)) rfl), (mt4 (List.mem_of_getElem? (i := 229) (by decide +kernel)) rfl)⟩
theorem ml_X11_106 : okC RX11 106 yJx4a65c_clear_da8c8 cJx4a65c_clear_da8c8 4 none := ⟨(mt5 (List.mem_of_getElem? (i := 64) (by decide +kernel)) rfl), (mt5 (List.mem_of_getElem? (i := 65) (by decide +kernel)) rfl), (mt5 (List.mem_of_getElem? (i := 66) (by decide +kernel)) rfl), (mt1 (List.mem_of_getElem? (i := 6) (by decide +kernel)) rfl), (mt5 (List.mem_of_getElem? (i := 67) (by decide +kernel)) rfl)⟩
theorem fl_X11_109 : Cond.fieldLink RX11 109 (TX0 3).1 (TX0 3).2.1 (TX0 3).2.2.1 ∈ lw_g := (mt2 (List.mem_of_getElem? (i := 8) (by decide +kernel)) rfl)
theorem ml_X11_112 : okC RX11 112 yJx4a65c_size_8abf5 cJx4a65c_size_8abf5 1 (some .int) := ⟨(mt5 (List.mem_of_getElem? (i := 68) (by decide +kernel)) rfl), (mt3 (List.mem_of_getElem? (i := 111) (by decide +kernel)) rfl), (mt3 (List.mem_of_getElem? (i := 112) (by decide +kernel)) rfl), (mt1 (List.mem_of_getElem? (i := 6) (by decide +kernel)) rfl), (mt3 (List.mem_of_getElem? (i := 113) (by decide +kernel)) rfl)⟩
theorem nm_X9_scan : nmC yX9_scan 2 := by unfold nmC; decide +kernel
theorem ml_X9_22 : okC RX9 22 yX9_readOne cX9_readOne 7 (some .int) := ⟨(mt2 (List.mem_of_getElem? (i := 106) (by decide +kernel)) rfl), (mt2 (List.mem_of_getElem? (i := 108) (by decide +kernel)) rfl), (mem_s (List.mem_of_getElem? (i := 2) (by decide +kernel)) rfl), (mt1 (List.mem_of_getElem? (i := 2) (by decide +kernel)) rfl), (mt2 (List.mem_of_getElem? (i := 109) (by decide +kernel)) rfl)⟩
theorem nm_X9_readOne : nmC yX9_readOne 4 := by unfold nmC; decide +kernel
theorem ml_X9_26 : okT RX9 26 yX9_isLetter cX9_isLetter 1 (some .boolean) := ⟨(mt2 (List.mem_of_getElem? (i := 110) (by decide +kernel)) rfl), (mt2 (List.mem_of_getElem? (i := 111) (by decide +kernel)) rfl), (mt1 (List.mem_of_getElem? (i := 2) (by decide +kernel)) rfl), (mt2 (List.mem_of_getElem? (i := 112) (by decide +kernel)) rfl)⟩
theorem ml_X9_30 : okC RX9 30 yX9_readName cX9_readName 9 (some .int) := ⟨(mt2 (List.mem_of_getElem? (i := 113) (by decide +kernel)) rfl), (mt2 (List.mem_of_getElem? (i := 115) (by decide +kernel)) rfl), (mem_s (List.mem_of_getElem? (i := 3) (by decide +kernel)) rfl), (mt1 (List.mem_of_getElem? (i := 2) (by decide +kernel)) rfl), (mt2 (List.mem_of_getElem? (i := 116) (by decide +kernel)) rfl)⟩
theorem ml_X9_33 : okC RX9 33 yX9_readString cX9_readString 7 (some .int) := ⟨(mt2 (List.mem_of_getElem? (i := 122) (by decide +kernel)) rfl), (mt2 (List.mem_of_getElem? (i := 124) (by decide +kernel)) rfl), (mem_s (List.mem_of_getElem? (i := 4) (by decide +kernel)) rfl), (mt1 (List.mem_of_getElem? (i := 2) (by decide +kernel)) rfl), (mt2 (List.mem_of_getElem? (i := 125) (by decide +kernel)) rfl)⟩
theorem ml_X9_36 : okC RX9 36 yX9_readNumber cX9_readNumber 8 (some .int) := ⟨(mt2 (List.mem_of_getElem? (i := 126) (by decide +kernel)) rfl), (mt2 (List.mem_of_getElem? (i := 128) (by decide +kernel)) rfl), (mem_s (List.mem_of_getElem? (i := 5) (by decide +kernel)) rfl), (mt1 (List.mem_of_getElem? (i := 2) (by decide +kernel)) rfl), (mt2 (List.mem_of_getElem? (i := 129) (by decide +kernel)) rfl)⟩
theorem ml_X9_41 : okC RX9 41 yJ0_indexOf_0f7a4 cJ0_indexOf_0f7a4 2 (some .int) := ⟨(mt2 (List.mem_of_getElem? (i := 131) (by decide +kernel)) rfl), (mt2 (List.mem_of_getElem? (i := 132) (by decide +kernel)) rfl), (mt2 (List.mem_of_getElem? (i := 133) (by decide +kernel)) rfl), (mt1 (List.mem_of_getElem? (i := 10) (by decide +kernel)) rfl), (mt2 (List.mem_of_getElem? (i := 134) (by decide +kernel)) rfl)⟩
theorem nm_X9_isLetter : nmC yX9_isLetter 1 := by unfold nmC; decide +kernel
theorem nm_X9_readName : nmC yX9_readName 4 := by unfold nmC; decide +kernel
theorem ml_X9_47 : okT RX9 47 yX9_isDigit cX9_isDigit 1 (some .boolean) := ⟨(mt2 (List.mem_of_getElem? (i := 117) (by decide +kernel)) rfl), (mt2 (List.mem_of_getElem? (i := 118) (by decide +kernel)) rfl), (mt1 (List.mem_of_getElem? (i := 2) (by decide +kernel)) rfl), (mt2 (List.mem_of_getElem? (i := 119) (by decide +kernel)) rfl)⟩
theorem nm_X9_isDigit : nmC yX9_isDigit 1 := by unfold nmC; decide +kernel
theorem nm_X9_readString : nmC yX9_readString 4 := by unfold nmC; decide +kernel
theorem nm_X9_readNumber : nmC yX9_readNumber 4 := by unfold nmC; decide +kernel
theorem nm_X6_init : nmC yX6_init 2 := by unfold nmC; decide +kernel
theorem ol_X6_3 : Cond.methodLink RX6 3 Lib.objectInit ∈ lw_g := (mt2 (List.mem_of_getElem? (i := 221) (by decide +kernel)) rfl)
theorem fl_X6_9 : Cond.fieldLink RX6 9 (TX6 3).1 (TX6 3).2.1 (TX6 3).2.2.1 ∈ lw_g := (mt2 (List.mem_of_getElem? (i := 230) (by decide +kernel)) rfl)
theorem fl_X6_15 : Cond.fieldLink RX6 15 (TX6 4).1 (TX6 4).2.1 (TX6 4).2.2.1 ∈ lw_g := (mt2 (List.mem_of_getElem? (i := 231) (by decide +kernel)) rfl)
theorem cl_X6_19 : Cond.classLink RX6 19 "CustomsDesk$Book" ∈ lw_g := (mt2 (List.mem_of_getElem? (i := 222) (by decide +kernel)) rfl)
theorem ml_X6_21 : okI RX6 21 yX0_init cX0_init 1 := ⟨(mt2 (List.mem_of_getElem? (i := 223) (by decide +kernel)) rfl), (mt1 (List.mem_of_getElem? (i := 231) (by decide +kernel)) rfl), (mt1 (List.mem_of_getElem? (i := 12) (by decide +kernel)) rfl), (mt1 (List.mem_of_getElem? (i := 232) (by decide +kernel)) rfl), rfl⟩
theorem fl_X6_22 : Cond.fieldLink RX6 22 (TX6 0).1 (TX6 0).2.1 (TX6 0).2.2.1 ∈ lw_g := (mt2 (List.mem_of_getElem? (i := 224) (by decide +kernel)) rfl)
theorem fl_X6_25 : Cond.fieldLink RX6 25 (TX6 8).1 (TX6 8).2.1 (TX6 8).2.2.1 ∈ lw_g := (mt2 (List.mem_of_getElem? (i := 235) (by decide +kernel)) rfl)
theorem fl_X6_29 : Cond.fieldLink RX6 29 (TX6 10).1 (TX6 10).2.1 (TX6 10).2.2.1 ∈ lw_g := (mt2 (List.mem_of_getElem? (i := 237) (by decide +kernel)) rfl)
theorem fl_X6_32 : Cond.fieldLink RX6 32 (TX6 11).1 (TX6 11).2.1 (TX6 11).2.2.1 ∈ lw_g := (mt2 (List.mem_of_getElem? (i := 238) (by decide +kernel)) rfl)
theorem fl_X6_35 : Cond.fieldLink RX6 35 (TX6 2).1 (TX6 2).2.1 (TX6 2).2.2.1 ∈ lw_g := (mt2 (List.mem_of_getElem? (i := 228) (by decide +kernel)) rfl)
theorem fl_X6_39 : Cond.fieldLink RX6 39 (TX6 5).1 (TX6 5).2.1 (TX6 5).2.2.1 ∈ lw_g := (mt2 (List.mem_of_getElem? (i := 232) (by decide +kernel)) rfl)
theorem fl_X6_42 : Cond.fieldLink RX6 42 (TX9 0).1 (TX9 0).2.1 (TX9 0).2.2.1 ∈ lw_g := (mt1 (List.mem_of_getElem? (i := 45) (by decide +kernel)) rfl)
theorem fl_X6_47 : Cond.fieldLink RX6 47 (TX6 6).1 (TX6 6).2.1 (TX6 6).2.2.1 ∈ lw_g := (mt2 (List.mem_of_getElem? (i := 233) (by decide +kernel)) rfl)
theorem fl_X6_50 : Cond.fieldLink RX6 50 (TX9 2).1 (TX9 2).2.1 (TX9 2).2.2.1 ∈ lw_g := (mt1 (List.mem_of_getElem? (i := 49) (by decide +kernel)) rfl)
theorem fl_X6_54 : Cond.fieldLink RX6 54 (TX6 7).1 (TX6 7).2.1 (TX6 7).2.2.1 ∈ lw_g := (mt2 (List.mem_of_getElem? (i := 234) (by decide +kernel)) rfl)
theorem nm_X6_read : nmC yX6_read 0 := by unfold nmC; decide +kernel
theorem ml_X6_64 : okC RX6 64 yX6_isWord cX6_isWord 2 (some .boolean) := ⟨(mt3 (List.mem_of_getElem? (i := 31) (by decide +kernel)) rfl), (mt3 (List.mem_of_getElem? (i := 33) (by decide +kernel)) rfl), (mem_s (List.mem_of_getElem? (i := 6) (by decide +kernel)) rfl), (mt1 (List.mem_of_getElem? (i := 18) (by decide +kernel)) rfl), (mt3 (List.mem_of_getElem? (i := 34) (by decide +kernel)) rfl)⟩
theorem ml_X6_68 : okC RX6 68 yX6_readGroup cX6_readGroup 2 (some .boolean) := ⟨(mt3 (List.mem_of_getElem? (i := 35) (by decide +kernel)) rfl), (mt3 (List.mem_of_getElem? (i := 37) (by decide +kernel)) rfl), (mem_s (List.mem_of_getElem? (i := 7) (by decide +kernel)) rfl), (mt1 (List.mem_of_getElem? (i := 18) (by decide +kernel)) rfl), (mt3 (List.mem_of_getElem? (i := 38) (by decide +kernel)) rfl)⟩
theorem ml_X6_72 : okC RX6 72 yX6_readChain cX6_readChain 1 (some .boolean) := ⟨(mt3 (List.mem_of_getElem? (i := 84) (by decide +kernel)) rfl), (mt3 (List.mem_of_getElem? (i := 86) (by decide +kernel)) rfl), (mem_s (List.mem_of_getElem? (i := 14) (by decide +kernel)) rfl), (mt1 (List.mem_of_getElem? (i := 18) (by decide +kernel)) rfl), (mt3 (List.mem_of_getElem? (i := 87) (by decide +kernel)) rfl)⟩
theorem ml_X6_75 : okC RX6 75 yX6_readRule cX6_readRule 3 (some .boolean) := ⟨(mt3 (List.mem_of_getElem? (i := 106) (by decide +kernel)) rfl), (mt3 (List.mem_of_getElem? (i := 108) (by decide +kernel)) rfl), (mem_s (List.mem_of_getElem? (i := 15) (by decide +kernel)) rfl), (mt1 (List.mem_of_getElem? (i := 18) (by decide +kernel)) rfl), (mt3 (List.mem_of_getElem? (i := 109) (by decide +kernel)) rfl)⟩
theorem ml_X6_78 : okC RX6 78 yX6_readMark cX6_readMark 2 (some .boolean) := ⟨(mt4 (List.mem_of_getElem? (i := 3) (by decide +kernel)) rfl), (mt4 (List.mem_of_getElem? (i := 5) (by decide +kernel)) rfl), (mem_s (List.mem_of_getElem? (i := 23) (by decide +kernel)) rfl), (mt1 (List.mem_of_getElem? (i := 18) (by decide +kernel)) rfl), (mt4 (List.mem_of_getElem? (i := 6) (by decide +kernel)) rfl)⟩
theorem ml_X6_81 : okC RX6 81 yX6_readKind cX6_readKind 5 (some .boolean) := ⟨(mt4 (List.mem_of_getElem? (i := 131) (by decide +kernel)) rfl), (mt4 (List.mem_of_getElem? (i := 133) (by decide +kernel)) rfl), (mem_s (List.mem_of_getElem? (i := 28) (by decide +kernel)) rfl), (mt1 (List.mem_of_getElem? (i := 18) (by decide +kernel)) rfl), (mt4 (List.mem_of_getElem? (i := 134) (by decide +kernel)) rfl)⟩
theorem ml_X6_84 : okC RX6 84 yX6_wrong cX6_wrong 2 (some .boolean) := ⟨(mt3 (List.mem_of_getElem? (i := 43) (by decide +kernel)) rfl), (mt3 (List.mem_of_getElem? (i := 45) (by decide +kernel)) rfl), (mem_s (List.mem_of_getElem? (i := 9) (by decide +kernel)) rfl), (mt1 (List.mem_of_getElem? (i := 18) (by decide +kernel)) rfl), (mt3 (List.mem_of_getElem? (i := 46) (by decide +kernel)) rfl)⟩
theorem nm_X6_isWord : nmC yX6_isWord 1 := by unfold nmC; decide +kernel
theorem nm_X6_readGroup : nmC yX6_readGroup 0 := by unfold nmC; decide +kernel
theorem fl_X6_108 : Cond.fieldLink RX6 108 (TX0 6).1 (TX0 6).2.1 (TX0 6).2.2.1 ∈ lw_g := (mt2 (List.mem_of_getElem? (i := 16) (by decide +kernel)) rfl)
theorem ml_X6_111 : okC RX6 111 yX6_readHead cX6_readHead 4 (some .boolean) := ⟨(mt3 (List.mem_of_getElem? (i := 39) (by decide +kernel)) rfl), (mt3 (List.mem_of_getElem? (i := 41) (by decide +kernel)) rfl), (mem_s (List.mem_of_getElem? (i := 8) (by decide +kernel)) rfl), (mt1 (List.mem_of_getElem? (i := 18) (by decide +kernel)) rfl), (mt3 (List.mem_of_getElem? (i := 42) (by decide +kernel)) rfl)⟩
theorem fl_X6_101 : Cond.fieldLink RX6 101 (TX6 9).1 (TX6 9).2.1 (TX6 9).2.2.1 ∈ lw_g := (mt2 (List.mem_of_getElem? (i := 236) (by decide +kernel)) rfl)
theorem ml_X6_87 : okC RX6 87 yX6_advance cX6_advance 1 none := ⟨(mt3 (List.mem_of_getElem? (i := 47) (by decide +kernel)) rfl), (mt3 (List.mem_of_getElem? (i := 49) (by decide +kernel)) rfl), (mem_s (List.mem_of_getElem? (i := 10) (by decide +kernel)) rfl), (mt1 (List.mem_of_getElem? (i := 18) (by decide +kernel)) rfl), (mt3 (List.mem_of_getElem? (i := 50) (by decide +kernel)) rfl)⟩
theorem ml_X6_115 : okC RX6 115 yX6_readRow cX6_readRow 4 (some .boolean) := ⟨(mt3 (List.mem_of_getElem? (i := 64) (by decide +kernel)) rfl), (mt3 (List.mem_of_getElem? (i := 66) (by decide +kernel)) rfl), (mem_s (List.mem_of_getElem? (i := 11) (by decide +kernel)) rfl), (mt1 (List.mem_of_getElem? (i := 18) (by decide +kernel)) rfl), (mt3 (List.mem_of_getElem? (i := 67) (by decide +kernel)) rfl)⟩
theorem ml_X6_118 : okC RX6 118 yX0_addGroup cX0_addGroup 5 none := ⟨(mt3 (List.mem_of_getElem? (i := 72) (by decide +kernel)) rfl), (mt3 (List.mem_of_getElem? (i := 73) (by decide +kernel)) rfl), (mt3 (List.mem_of_getElem? (i := 74) (by decide +kernel)) rfl), (mt1 (List.mem_of_getElem? (i := 12) (by decide +kernel)) rfl), (mt3 (List.mem_of_getElem? (i := 75) (by decide +kernel)) rfl)⟩
theorem ml_X6_122 : okC RX6 122 yX6_readSign cX6_readSign 2 (some .boolean) := ⟨(mt3 (List.mem_of_getElem? (i := 80) (by decide +kernel)) rfl), (mt3 (List.mem_of_getElem? (i := 82) (by decide +kernel)) rfl), (mem_s (List.mem_of_getElem? (i := 13) (by decide +kernel)) rfl), (mt1 (List.mem_of_getElem? (i := 18) (by decide +kernel)) rfl), (mt3 (List.mem_of_getElem? (i := 83) (by decide +kernel)) rfl)⟩
theorem nm_X6_readHead : nmC yX6_readHead 3 := by unfold nmC; decide +kernel
theorem ml_X6_90 : okT RX6 90 yX0_builtIn cX0_builtIn 3 (some .int) := ⟨(mt3 (List.mem_of_getElem? (i := 51) (by decide +kernel)) rfl), (mt3 (List.mem_of_getElem? (i := 52) (by decide +kernel)) rfl), (mt1 (List.mem_of_getElem? (i := 12) (by decide +kernel)) rfl), (mt3 (List.mem_of_getElem? (i := 53) (by decide +kernel)) rfl)⟩
theorem ml_X6_94 : okC RX6 94 yX0_find cX0_find 4 (some .int) := ⟨(mt3 (List.mem_of_getElem? (i := 56) (by decide +kernel)) rfl), (mt3 (List.mem_of_getElem? (i := 57) (by decide +kernel)) rfl), (mt3 (List.mem_of_getElem? (i := 58) (by decide +kernel)) rfl), (mt1 (List.mem_of_getElem? (i := 12) (by decide +kernel)) rfl), (mt3 (List.mem_of_getElem? (i := 59) (by decide +kernel)) rfl)⟩
theorem ml_X6_97 : okC RX6 97 yX0_tell cX0_tell 4 none := ⟨(mt3 (List.mem_of_getElem? (i := 60) (by decide +kernel)) rfl), (mt3 (List.mem_of_getElem? (i := 61) (by decide +kernel)) rfl), (mt3 (List.mem_of_getElem? (i := 62) (by decide +kernel)) rfl), (mt1 (List.mem_of_getElem? (i := 12) (by decide +kernel)) rfl), (mt3 (List.mem_of_getElem? (i := 63) (by decide +kernel)) rfl)⟩
theorem nm_X6_wrong : nmC yX6_wrong 1 := by unfold nmC; decide +kernel
theorem fl_X6_58 : Cond.fieldLink RX6 58 (TX6 1).1 (TX6 1).2.1 (TX6 1).2.2.1 ∈ lw_g := (mt2 (List.mem_of_getElem? (i := 226) (by decide +kernel)) rfl)
theorem fl_X6_61 : Cond.fieldLink RX6 61 (TX9 1).1 (TX9 1).2.1 (TX9 1).2.2.1 ∈ lw_g := (mt1 (List.mem_of_getElem? (i := 47) (by decide +kernel)) rfl)
theorem nm_X6_advance : nmC yX6_advance 0 := by unfold nmC; decide +kernel
theorem nm_X0_builtIn : nmC yX0_builtIn 1 := by unfold nmC; decide +kernel
theorem nm_X0_find : nmC yX0_find 1 := by unfold nmC; decide +kernel
theorem nm_X0_tell : nmC yX0_tell 2 := by unfold nmC; decide +kernel
theorem nm_X6_readRow : nmC yX6_readRow 1 := by unfold nmC; decide +kernel
theorem ml_X6_104 : okC RX6 104 yX6_readReference cX6_readReference 4 (some .int) := ⟨(mt3 (List.mem_of_getElem? (i := 68) (by decide +kernel)) rfl), (mt3 (List.mem_of_getElem? (i := 70) (by decide +kernel)) rfl), (mem_s (List.mem_of_getElem? (i := 12) (by decide +kernel)) rfl), (mt1 (List.mem_of_getElem? (i := 18) (by decide +kernel)) rfl), (mt3 (List.mem_of_getElem? (i := 71) (by decide +kernel)) rfl)⟩
theorem nm_X6_readReference : nmC yX6_readReference 1 := by unfold nmC; decide +kernel
theorem nm_X0_addGroup : nmC yX0_addGroup 2 := by unfold nmC; decide +kernel
theorem ml_X0_57 : okC RX0 57 yX0_maskOf cX0_maskOf 2 (some .int) := ⟨(mt3 (List.mem_of_getElem? (i := 76) (by decide +kernel)) rfl), (mt3 (List.mem_of_getElem? (i := 77) (by decide +kernel)) rfl), (mt3 (List.mem_of_getElem? (i := 78) (by decide +kernel)) rfl), (mt1 (List.mem_of_getElem? (i := 12) (by decide +kernel)) rfl), (mt3 (List.mem_of_getElem? (i := 79) (by decide +kernel)) rfl)⟩
theorem nm_X0_maskOf : nmC yX0_maskOf 1 := by unfold nmC; decide +kernel
theorem nm_X6_readSign : nmC yX6_readSign 1 := by unfold nmC; decide +kernel
theorem nm_X6_readChain : nmC yX6_readChain 0 := by unfold nmC; decide +kernel
theorem fl_X6_125 : Cond.fieldLink RX6 125 (TX0 5).1 (TX0 5).2.1 (TX0 5).2.2.1 ∈ lw_g := (mt2 (List.mem_of_getElem? (i := 13) (by decide +kernel)) rfl)
theorem ml_X6_128 : okC RX6 128 yX0_addChain cX0_addChain 3 none := ⟨(mt3 (List.mem_of_getElem? (i := 88) (by decide +kernel)) rfl), (mt3 (List.mem_of_getElem? (i := 89) (by decide +kernel)) rfl), (mt3 (List.mem_of_getElem? (i := 90) (by decide +kernel)) rfl), (mt1 (List.mem_of_getElem? (i := 12) (by decide +kernel)) rfl), (mt3 (List.mem_of_getElem? (i := 91) (by decide +kernel)) rfl)⟩
theorem nm_X0_addChain : nmC yX0_addChain 2 := by unfold nmC; decide +kernel
theorem fl_X0_61 : Cond.fieldLink RX0 61 (TX0 5).1 (TX0 5).2.1 (TX0 5).2.2.1 ∈ lw_g := (mt2 (List.mem_of_getElem? (i := 12) (by decide +kernel)) rfl)
theorem ml_X0_64 : okT RX0 64 yJ7_copyOf_59c91 cJ7_copyOf_59c91 3 (some (.array .int)) := ⟨(mt3 (List.mem_of_getElem? (i := 92) (by decide +kernel)) rfl), (mt3 (List.mem_of_getElem? (i := 93) (by decide +kernel)) rfl), (mt1 (List.mem_of_getElem? (i := 19) (by decide +kernel)) rfl), (mt3 (List.mem_of_getElem? (i := 94) (by decide +kernel)) rfl)⟩
theorem nm_X6_readRule : nmC yX6_readRule 0 := by unfold nmC; decide +kernel
theorem fl_X6_131 : Cond.fieldLink RX6 131 (TX0 0).1 (TX0 0).2.1 (TX0 0).2.2.1 ∈ lw_g := (mt2 (List.mem_of_getElem? (i := 0) (by decide +kernel)) rfl)
theorem ml_X6_135 : okC RX6 135 yJx4a65c_size_8abf5 cJx4a65c_size_8abf5 1 (some .int) := ⟨(mt3 (List.mem_of_getElem? (i := 110) (by decide +kernel)) rfl), (mt3 (List.mem_of_getElem? (i := 111) (by decide +kernel)) rfl), (mt3 (List.mem_of_getElem? (i := 112) (by decide +kernel)) rfl), (mt1 (List.mem_of_getElem? (i := 6) (by decide +kernel)) rfl), (mt3 (List.mem_of_getElem? (i := 113) (by decide +kernel)) rfl)⟩
theorem cl_X6_141 : Cond.classLink RX6 141 "CustomsDesk$Rule" ∈ lw_g := (mt3 (List.mem_of_getElem? (i := 114) (by decide +kernel)) rfl)
theorem ml_X6_143 : okI RX6 143 yX7_init cX7_init 2 := ⟨(mt3 (List.mem_of_getElem? (i := 116) (by decide +kernel)) rfl), (mt3 (List.mem_of_getElem? (i := 117) (by decide +kernel)) rfl), (mt1 (List.mem_of_getElem? (i := 21) (by decide +kernel)) rfl), (mt3 (List.mem_of_getElem? (i := 118) (by decide +kernel)) rfl), rfl⟩
theorem ml_X6_146 : okC RX6 146 yJx4a65c_add_9ea2d cJx4a65c_add_9ea2d 2 (some .boolean) := ⟨(mt3 (List.mem_of_getElem? (i := 164) (by decide +kernel)) rfl), (mt3 (List.mem_of_getElem? (i := 165) (by decide +kernel)) rfl), (mt3 (List.mem_of_getElem? (i := 166) (by decide +kernel)) rfl), (mt1 (List.mem_of_getElem? (i := 6) (by decide +kernel)) rfl), (mt3 (List.mem_of_getElem? (i := 167) (by decide +kernel)) rfl)⟩
theorem fl_X6_150 : Cond.fieldLink RX6 150 (TX6 12).1 (TX6 12).2.1 (TX6 12).2.2.1 ∈ lw_g := (mt2 (List.mem_of_getElem? (i := 239) (by decide +kernel)) rfl)
theorem ml_X6_153 : okC RX6 153 yX6_readSteps cX6_readSteps 5 (some .boolean) := ⟨(mt3 (List.mem_of_getElem? (i := 218) (by decide +kernel)) rfl), (mt3 (List.mem_of_getElem? (i := 220) (by decide +kernel)) rfl), (mem_s (List.mem_of_getElem? (i := 19) (by decide +kernel)) rfl), (mt1 (List.mem_of_getElem? (i := 18) (by decide +kernel)) rfl), (mt3 (List.mem_of_getElem? (i := 221) (by decide +kernel)) rfl)⟩
theorem ml_X6_157 : okT RX6 157 yJ7_copyOf_59c91 cJ7_copyOf_59c91 3 (some (.array .int)) := ⟨(mt4 (List.mem_of_getElem? (i := 2) (by decide +kernel)) rfl), (mt3 (List.mem_of_getElem? (i := 93) (by decide +kernel)) rfl), (mt1 (List.mem_of_getElem? (i := 19) (by decide +kernel)) rfl), (mt3 (List.mem_of_getElem? (i := 94) (by decide +kernel)) rfl)⟩
theorem fl_X6_163 : Cond.fieldLink RX6 163 (TX7 1).1 (TX7 1).2.1 (TX7 1).2.2.1 ∈ lw_g := (mt3 (List.mem_of_getElem? (i := 123) (by decide +kernel)) rfl)
theorem fl_X6_166 : Cond.fieldLink RX6 166 (TX7 2).1 (TX7 2).2.1 (TX7 2).2.2.1 ∈ lw_g := (mt3 (List.mem_of_getElem? (i := 125) (by decide +kernel)) rfl)
theorem fl_X6_169 : Cond.fieldLink RX6 169 (TX7 3).1 (TX7 3).2.1 (TX7 3).2.2.1 ∈ lw_g := (mt3 (List.mem_of_getElem? (i := 127) (by decide +kernel)) rfl)
theorem fl_X6_172 : Cond.fieldLink RX6 172 (TX7 4).1 (TX7 4).2.1 (TX7 4).2.2.1 ∈ lw_g := (mt3 (List.mem_of_getElem? (i := 129) (by decide +kernel)) rfl)
theorem nm_X7_init : nmC yX7_init 1 := by unfold nmC; decide +kernel
theorem ol_X7_3 : Cond.methodLink RX7 3 Lib.objectInit ∈ lw_g := (mt3 (List.mem_of_getElem? (i := 119) (by decide +kernel)) rfl)
theorem fl_X7_9 : Cond.fieldLink RX7 9 (TX7 0).1 (TX7 0).2.1 (TX7 0).2.2.1 ∈ lw_g := (mt3 (List.mem_of_getElem? (i := 120) (by decide +kernel)) rfl)
theorem fl_X7_15 : Cond.fieldLink RX7 15 (TX7 1).1 (TX7 1).2.1 (TX7 1).2.2.1 ∈ lw_g := (mt3 (List.mem_of_getElem? (i := 122) (by decide +kernel)) rfl)
theorem fl_X7_19 : Cond.fieldLink RX7 19 (TX7 2).1 (TX7 2).2.1 (TX7 2).2.2.1 ∈ lw_g := (mt3 (List.mem_of_getElem? (i := 124) (by decide +kernel)) rfl)
theorem fl_X7_22 : Cond.fieldLink RX7 22 (TX7 3).1 (TX7 3).2.1 (TX7 3).2.2.1 ∈ lw_g := (mt3 (List.mem_of_getElem? (i := 126) (by decide +kernel)) rfl)
theorem fl_X7_25 : Cond.fieldLink RX7 25 (TX7 4).1 (TX7 4).2.1 (TX7 4).2.2.1 ∈ lw_g := (mt3 (List.mem_of_getElem? (i := 128) (by decide +kernel)) rfl)
theorem fl_X7_28 : Cond.fieldLink RX7 28 (TX7 10).1 (TX7 10).2.1 (TX7 10).2.2.1 ∈ lw_g := (mt3 (List.mem_of_getElem? (i := 140) (by decide +kernel)) rfl)
theorem nm_X6_readSteps : nmC yX6_readSteps 1 := by unfold nmC; decide +kernel
theorem ml_X6_175 : okC RX6 175 yX6_twoEquals cX6_twoEquals 1 (some .boolean) := ⟨(mt3 (List.mem_of_getElem? (i := 222) (by decide +kernel)) rfl), (mt3 (List.mem_of_getElem? (i := 224) (by decide +kernel)) rfl), (mem_s (List.mem_of_getElem? (i := 20) (by decide +kernel)) rfl), (mt1 (List.mem_of_getElem? (i := 18) (by decide +kernel)) rfl), (mt3 (List.mem_of_getElem? (i := 225) (by decide +kernel)) rfl)⟩
theorem ml_X6_178 : okC RX6 178 yX6_endSteps cX6_endSteps 3 (some .boolean) := ⟨(mt3 (List.mem_of_getElem? (i := 226) (by decide +kernel)) rfl), (mt3 (List.mem_of_getElem? (i := 228) (by decide +kernel)) rfl), (mem_s (List.mem_of_getElem? (i := 21) (by decide +kernel)) rfl), (mt1 (List.mem_of_getElem? (i := 18) (by decide +kernel)) rfl), (mt3 (List.mem_of_getElem? (i := 229) (by decide +kernel)) rfl)⟩
theorem ml_X6_182 : okC RX6 182 yX6_opHere cX6_opHere 1 (some .int) := ⟨(mt3 (List.mem_of_getElem? (i := 230) (by decide +kernel)) rfl), (mt3 (List.mem_of_getElem? (i := 232) (by decide +kernel)) rfl), (mem_s (List.mem_of_getElem? (i := 22) (by decide +kernel)) rfl), (mt1 (List.mem_of_getElem? (i := 18) (by decide +kernel)) rfl), (mt3 (List.mem_of_getElem? (i := 233) (by decide +kernel)) rfl)⟩
theorem ml_X6_185 : okT RX6 185 yX6_depthBehind cX6_depthBehind 4 (some .int) := ⟨(mt3 (List.mem_of_getElem? (i := 239) (by decide +kernel)) rfl), (mt4 (List.mem_of_getElem? (i := 0) (by decide +kernel)) rfl), (mt1 (List.mem_of_getElem? (i := 18) (by decide +kernel)) rfl), (mt4 (List.mem_of_getElem? (i := 1) (by decide +kernel)) rfl)⟩
theorem nm_X6_twoEquals : nmC yX6_twoEquals 0 := by unfold nmC; decide +kernel
theorem nm_X6_endSteps : nmC yX6_endSteps 2 := by unfold nmC; decide +kernel
theorem nm_X6_opHere : nmC yX6_opHere 0 := by unfold nmC; decide +kernel
theorem lc_X6_189 : Cond.constantLong RX6 189 118 ∈ lw_g := (mt3 (List.mem_of_getElem? (i := 234) (by decide +kernel)) rfl)
theorem lc_X6_191 : Cond.constantLong RX6 191 97 ∈ lw_g := (mt3 (List.mem_of_getElem? (i := 235) (by decide +kernel)) rfl)
theorem lc_X6_193 : Cond.constantLong RX6 193 98 ∈ lw_g := (mt3 (List.mem_of_getElem? (i := 236) (by decide +kernel)) rfl)
theorem ml_X6_197 : okC RX6 197 yJ0_indexOf_0f7a4 cJ0_indexOf_0f7a4 2 (some .int) := ⟨(mt3 (List.mem_of_getElem? (i := 238) (by decide +kernel)) rfl), (mt2 (List.mem_of_getElem? (i := 132) (by decide +kernel)) rfl), (mt2 (List.mem_of_getElem? (i := 133) (by decide +kernel)) rfl), (mt1 (List.mem_of_getElem? (i := 10) (by decide +kernel)) rfl), (mt2 (List.mem_of_getElem? (i := 134) (by decide +kernel)) rfl)⟩
theorem nm_X6_depthBehind : nmC yX6_depthBehind 3 := by unfold nmC; decide +kernel
theorem nm_X6_readMark : nmC yX6_readMark 0 := by unfold nmC; decide +kernel
theorem fl_X6_202 : Cond.fieldLink RX6 202 (TX0 2).1 (TX0 2).2.1 (TX0 2).2.2.1 ∈ lw_g := (mt2 (List.mem_of_getElem? (i := 5) (by decide +kernel)) rfl)
theorem cl_X6_205 : Cond.classLink RX6 205 "CustomsDesk$Spot" ∈ lw_g := (mt4 (List.mem_of_getElem? (i := 7) (by decide +kernel)) rfl)
theorem ml_X6_207 : okI RX6 207 yX8_init cX8_init 4 := ⟨(mt4 (List.mem_of_getElem? (i := 9) (by decide +kernel)) rfl), (mt4 (List.mem_of_getElem? (i := 10) (by decide +kernel)) rfl), (mt1 (List.mem_of_getElem? (i := 23) (by decide +kernel)) rfl), (mt4 (List.mem_of_getElem? (i := 11) (by decide +kernel)) rfl), rfl⟩
theorem ml_X6_209 : okC RX6 209 yX6_readUses cX6_readUses 3 (some .boolean) := ⟨(mt4 (List.mem_of_getElem? (i := 49) (by decide +kernel)) rfl), (mt4 (List.mem_of_getElem? (i := 51) (by decide +kernel)) rfl), (mem_s (List.mem_of_getElem? (i := 24) (by decide +kernel)) rfl), (mt1 (List.mem_of_getElem? (i := 18) (by decide +kernel)) rfl), (mt4 (List.mem_of_getElem? (i := 52) (by decide +kernel)) rfl)⟩
theorem nm_X8_init : nmC yX8_init 2 := by unfold nmC; decide +kernel
theorem ol_X8_3 : Cond.methodLink RX8 3 Lib.objectInit ∈ lw_g := (mt4 (List.mem_of_getElem? (i := 12) (by decide +kernel)) rfl)
theorem fl_X8_9 : Cond.fieldLink RX8 9 (TX8 0).1 (TX8 0).2.1 (TX8 0).2.2.1 ∈ lw_g := (mt4 (List.mem_of_getElem? (i := 15) (by decide +kernel)) rfl)
theorem fl_X8_15 : Cond.fieldLink RX8 15 (TX8 1).1 (TX8 1).2.1 (TX8 1).2.2.1 ∈ lw_g := (mt4 (List.mem_of_getElem? (i := 17) (by decide +kernel)) rfl)
theorem fl_X8_19 : Cond.fieldLink RX8 19 (TX8 2).1 (TX8 2).2.1 (TX8 2).2.2.1 ∈ lw_g := (mt4 (List.mem_of_getElem? (i := 22) (by decide +kernel)) rfl)
theorem cl_X8_22 : Cond.classLink RX8 22 "java/util/ArrayList" ∈ lw_g := (mt4 (List.mem_of_getElem? (i := 13) (by decide +kernel)) rfl)
theorem ml_X8_24 : okI RX8 24 yJx4a65c_init_da8c8 cJx4a65c_init_da8c8 1 := ⟨(mt4 (List.mem_of_getElem? (i := 14) (by decide +kernel)) rfl), (mt1 (List.mem_of_getElem? (i := 101) (by decide +kernel)) rfl), (mt1 (List.mem_of_getElem? (i := 6) (by decide +kernel)) rfl), (mt1 (List.mem_of_getElem? (i := 102) (by decide +kernel)) rfl), rfl⟩
theorem fl_X8_25 : Cond.fieldLink RX8 25 (TX8 3).1 (TX8 3).2.1 (TX8 3).2.2.1 ∈ lw_g := (mt4 (List.mem_of_getElem? (i := 27) (by decide +kernel)) rfl)
theorem fl_X8_29 : Cond.fieldLink RX8 29 (TX8 4).1 (TX8 4).2.1 (TX8 4).2.2.1 ∈ lw_g := (mt4 (List.mem_of_getElem? (i := 30) (by decide +kernel)) rfl)
theorem nm_X6_readUses : nmC yX6_readUses 1 := by unfold nmC; decide +kernel
theorem fl_X6_251 : Cond.fieldLink RX6 251 (TX8 3).1 (TX8 3).2.1 (TX8 3).2.2.1 ∈ lw_g := (mt4 (List.mem_of_getElem? (i := 29) (by decide +kernel)) rfl)
theorem ml_X6_254 : okC RX6 254 yX6_readUse cX6_readUse 4 (some .boolean) := ⟨(mt4 (List.mem_of_getElem? (i := 53) (by decide +kernel)) rfl), (mt4 (List.mem_of_getElem? (i := 55) (by decide +kernel)) rfl), (mem_s (List.mem_of_getElem? (i := 25) (by decide +kernel)) rfl), (mt1 (List.mem_of_getElem? (i := 18) (by decide +kernel)) rfl), (mt4 (List.mem_of_getElem? (i := 56) (by decide +kernel)) rfl)⟩
theorem nm_X6_readUse : nmC yX6_readUse 1 := by unfold nmC; decide +kernel
theorem ml_X6_257 : okC RX6 257 yX6_readUseName cX6_readUseName 3 (some .int) := ⟨(mt4 (List.mem_of_getElem? (i := 57) (by decide +kernel)) rfl), (mt4 (List.mem_of_getElem? (i := 59) (by decide +kernel)) rfl), (mem_s (List.mem_of_getElem? (i := 26) (by decide +kernel)) rfl), (mt1 (List.mem_of_getElem? (i := 18) (by decide +kernel)) rfl), (mt4 (List.mem_of_getElem? (i := 60) (by decide +kernel)) rfl)⟩
theorem cl_X6_260 : Cond.classLink RX6 260 "CustomsDesk$Use" ∈ lw_g := (mt4 (List.mem_of_getElem? (i := 61) (by decide +kernel)) rfl)
theorem ml_X6_262 : okI RX6 262 yX10_init cX10_init 2 := ⟨(mt4 (List.mem_of_getElem? (i := 63) (by decide +kernel)) rfl), (mt4 (List.mem_of_getElem? (i := 64) (by decide +kernel)) rfl), (mt1 (List.mem_of_getElem? (i := 24) (by decide +kernel)) rfl), (mt4 (List.mem_of_getElem? (i := 65) (by decide +kernel)) rfl), rfl⟩
theorem ml_X6_263 : okC RX6 263 yX6_readArgs cX6_readArgs 3 (some .boolean) := ⟨(mt4 (List.mem_of_getElem? (i := 127) (by decide +kernel)) rfl), (mt4 (List.mem_of_getElem? (i := 129) (by decide +kernel)) rfl), (mem_s (List.mem_of_getElem? (i := 27) (by decide +kernel)) rfl), (mt1 (List.mem_of_getElem? (i := 18) (by decide +kernel)) rfl), (mt4 (List.mem_of_getElem? (i := 130) (by decide +kernel)) rfl)⟩
theorem fl_X6_267 : Cond.fieldLink RX6 267 (TX10 5).1 (TX10 5).2.1 (TX10 5).2.2.1 ∈ lw_g := (mt4 (List.mem_of_getElem? (i := 87) (by decide +kernel)) rfl)
theorem fl_X6_270 : Cond.fieldLink RX6 270 (TX10 6).1 (TX10 6).2.1 (TX10 6).2.2.1 ∈ lw_g := (mt4 (List.mem_of_getElem? (i := 91) (by decide +kernel)) rfl)
theorem fl_X6_273 : Cond.fieldLink RX6 273 (TX10 7).1 (TX10 7).2.1 (TX10 7).2.2.1 ∈ lw_g := (mt4 (List.mem_of_getElem? (i := 93) (by decide +kernel)) rfl)
theorem fl_X6_277 : Cond.fieldLink RX6 277 (TX10 8).1 (TX10 8).2.1 (TX10 8).2.2.1 ∈ lw_g := (mt4 (List.mem_of_getElem? (i := 96) (by decide +kernel)) rfl)
theorem fl_X6_280 : Cond.fieldLink RX6 280 (TX10 9).1 (TX10 9).2.1 (TX10 9).2.2.1 ∈ lw_g := (mt4 (List.mem_of_getElem? (i := 100) (by decide +kernel)) rfl)
theorem fl_X6_283 : Cond.fieldLink RX6 283 (TX10 10).1 (TX10 10).2.1 (TX10 10).2.2.1 ∈ lw_g := (mt4 (List.mem_of_getElem? (i := 103) (by decide +kernel)) rfl)
theorem nm_X6_readUseName : nmC yX6_readUseName 0 := by unfold nmC; decide +kernel
theorem nm_X10_init : nmC yX10_init 1 := by unfold nmC; decide +kernel
theorem ol_X10_3 : Cond.methodLink RX10 3 Lib.objectInit ∈ lw_g := (mt4 (List.mem_of_getElem? (i := 66) (by decide +kernel)) rfl)
theorem fl_X10_9 : Cond.fieldLink RX10 9 (TX10 0).1 (TX10 0).2.1 (TX10 0).2.2.1 ∈ lw_g := (mt4 (List.mem_of_getElem? (i := 67) (by decide +kernel)) rfl)
theorem fl_X10_15 : Cond.fieldLink RX10 15 (TX10 5).1 (TX10 5).2.1 (TX10 5).2.2.1 ∈ lw_g := (mt4 (List.mem_of_getElem? (i := 83) (by decide +kernel)) rfl)
theorem fl_X10_18 : Cond.fieldLink RX10 18 (TX10 6).1 (TX10 6).2.1 (TX10 6).2.2.1 ∈ lw_g := (mt4 (List.mem_of_getElem? (i := 88) (by decide +kernel)) rfl)
theorem fl_X10_21 : Cond.fieldLink RX10 21 (TX10 9).1 (TX10 9).2.1 (TX10 9).2.2.1 ∈ lw_g := (mt4 (List.mem_of_getElem? (i := 97) (by decide +kernel)) rfl)
theorem nm_X6_readArgs : nmC yX6_readArgs 1 := by unfold nmC; decide +kernel
theorem fl_X6_286 : Cond.fieldLink RX6 286 (TX10 2).1 (TX10 2).2.1 (TX10 2).2.2.1 ∈ lw_g := (mt4 (List.mem_of_getElem? (i := 77) (by decide +kernel)) rfl)
theorem fl_X6_289 : Cond.fieldLink RX6 289 (TX10 3).1 (TX10 3).2.1 (TX10 3).2.2.1 ∈ lw_g := (mt4 (List.mem_of_getElem? (i := 80) (by decide +kernel)) rfl)
theorem fl_X6_292 : Cond.fieldLink RX6 292 (TX10 1).1 (TX10 1).2.1 (TX10 1).2.2.1 ∈ lw_g := (mt4 (List.mem_of_getElem? (i := 74) (by decide +kernel)) rfl)
theorem nm_X6_readKind : nmC yX6_readKind 0 := by unfold nmC; decide +kernel
theorem fl_X6_213 : Cond.fieldLink RX6 213 (TX0 3).1 (TX0 3).2.1 (TX0 3).2.2.1 ∈ lw_g := (mt2 (List.mem_of_getElem? (i := 9) (by decide +kernel)) rfl)
theorem cl_X6_216 : Cond.classLink RX6 216 "CustomsDesk$Kind" ∈ lw_g := (mt4 (List.mem_of_getElem? (i := 135) (by decide +kernel)) rfl)
theorem ml_X6_218 : okC RX6 218 yX0_kindAt cX0_kindAt 2 (some (.object "CustomsDesk$Kind")) := ⟨(mt4 (List.mem_of_getElem? (i := 137) (by decide +kernel)) rfl), (mt4 (List.mem_of_getElem? (i := 138) (by decide +kernel)) rfl), (mt4 (List.mem_of_getElem? (i := 139) (by decide +kernel)) rfl), (mt1 (List.mem_of_getElem? (i := 12) (by decide +kernel)) rfl), (mt4 (List.mem_of_getElem? (i := 140) (by decide +kernel)) rfl)⟩
theorem ml_X6_222 : okI RX6 222 yX3_init cX3_init 4 := ⟨(mt4 (List.mem_of_getElem? (i := 157) (by decide +kernel)) rfl), (mt4 (List.mem_of_getElem? (i := 158) (by decide +kernel)) rfl), (mt1 (List.mem_of_getElem? (i := 25) (by decide +kernel)) rfl), (mt4 (List.mem_of_getElem? (i := 159) (by decide +kernel)) rfl), rfl⟩
