/-! words of the class -/
theorem mt1 {w : Cond} (h : w ∈ tables_1_1) (hg : goodWord w = true) : w ∈ lw_g := mem_t (List.mem_append_left _ h) hg
theorem mt2 {w : Cond} (h : w ∈ tables_1_2) (hg : goodWord w = true) : w ∈ lw_g := mem_t (List.mem_append_right _ (List.mem_append_left _ h)) hg
theorem mt3 {w : Cond} (h : w ∈ tables_1_3) (hg : goodWord w = true) : w ∈ lw_g := mem_t (List.mem_append_right _ (List.mem_append_right _ (List.mem_append_left _ h))) hg
theorem mt4 {w : Cond} (h : w ∈ tables_1_4) (hg : goodWord w = true) : w ∈ lw_g := mem_t (List.mem_append_right _ (List.mem_append_right _ (List.mem_append_right _ (List.mem_append_left _ h)))) hg
theorem mt5 {w : Cond} (h : w ∈ tables_1_5) (hg : goodWord w = true) : w ∈ lw_g := mem_t (List.mem_append_right _ (List.mem_append_right _ (List.mem_append_right _ (List.mem_append_right _ (List.mem_append_left _ h))))) hg
theorem mt6 {w : Cond} (h : w ∈ tables_1_6) (hg : goodWord w = true) : w ∈ lw_g := mem_t (List.mem_append_right _ (List.mem_append_right _ (List.mem_append_right _ (List.mem_append_right _ (List.mem_append_right _ (List.mem_append_left _ h)))))) hg
theorem mt7 {w : Cond} (h : w ∈ tables_1_7) (hg : goodWord w = true) : w ∈ lw_g := mem_t (List.mem_append_right _ (List.mem_append_right _ (List.mem_append_right _ (List.mem_append_right _ (List.mem_append_right _ (List.mem_append_right _ (List.mem_append_left _ h))))))) hg
theorem mt8 {w : Cond} (h : w ∈ tables_1_8) (hg : goodWord w = true) : w ∈ lw_g := mem_t (List.mem_append_right _ (List.mem_append_right _ (List.mem_append_right _ (List.mem_append_right _ (List.mem_append_right _ (List.mem_append_right _ (List.mem_append_right _ (List.mem_append_left _ h)))))))) hg
theorem mt9 {w : Cond} (h : w ∈ tables_1_9) (hg : goodWord w = true) : w ∈ lw_g := mem_t (List.mem_append_right _ (List.mem_append_right _ (List.mem_append_right _ (List.mem_append_right _ (List.mem_append_right _ (List.mem_append_right _ (List.mem_append_right _ (List.mem_append_right _ (List.mem_append_left _ h))))))))) hg
theorem mt10 {w : Cond} (h : w ∈ tables_1_10) (hg : goodWord w = true) : w ∈ lw_g := mem_t (List.mem_append_right _ (List.mem_append_right _ (List.mem_append_right _ (List.mem_append_right _ (List.mem_append_right _ (List.mem_append_right _ (List.mem_append_right _ (List.mem_append_right _ (List.mem_append_right _ (h)))))))))) hg
theorem it_J4 : ∀ w ∈ u_ws RJ4 TJ4 4, w ∈ tables_1 := mem_places [219, 221, 223, 225] (by decide +kernel)
theorem ig_J4 : (u_ws RJ4 TJ4 4).all goodWord = true := by decide +kernel
theorem pk_J4 : PK 0 RJ4 TJ4 4 tyJ4 := ⟨rfl, fun w h => mem_t (it_J4 w h) (List.all_eq_true.mp ig_J4 w h), tyJ4_ok, nmJ4⟩
theorem it_Jx4a65c : ∀ w ∈ u_ws RJx4a65c TJx4a65c 3, w ∈ tables_1 := mem_places [121, 117, 119] (by decide +kernel)
theorem ig_Jx4a65c : (u_ws RJx4a65c TJx4a65c 3).all goodWord = true := by decide +kernel
theorem pk_Jx4a65c : PK 1 RJx4a65c TJx4a65c 3 tyJx4a65c := ⟨rfl, fun w h => mem_t (it_Jx4a65c w h) (List.all_eq_true.mp ig_Jx4a65c w h), tyJx4a65c_ok, nmJx4a65c⟩
theorem it_X0 : ∀ w ∈ u_ws RX0 TX0 12, w ∈ tables_1 := mem_places [262, 264, 266, 268, 270, 272, 274, 276, 278, 280, 282, 284] (by decide +kernel)
theorem ig_X0 : (u_ws RX0 TX0 12).all goodWord = true := by decide +kernel
theorem pk_X0 : PK 2 RX0 TX0 12 tyX0 := ⟨rfl, fun w h => mem_t (it_X0 w h) (List.all_eq_true.mp ig_X0 w h), tyX0_ok, nmX0⟩
theorem it_X1 : ∀ w ∈ u_ws RX1 TX1 20, w ∈ tables_1 := mem_places [156, 158, 160, 162, 164, 166, 168, 170, 172, 174, 176, 178, 180, 182, 184, 186, 188, 190, 192, 194] (by decide +kernel)
theorem ig_X1 : (u_ws RX1 TX1 20).all goodWord = true := by decide +kernel
theorem pk_X1 : PK 3 RX1 TX1 20 tyX1 := ⟨rfl, fun w h => mem_t (it_X1 w h) (List.all_eq_true.mp ig_X1 w h), tyX1_ok, nmX1⟩
theorem it_X2 : ∀ w ∈ u_ws RX2 TX2 9, w ∈ tables_1 := mem_places [1237, 1239, 1241, 1243, 1245, 1247, 1249, 1251, 1253] (by decide +kernel)
theorem ig_X2 : (u_ws RX2 TX2 9).all goodWord = true := by decide +kernel
theorem pk_X2 : PK 4 RX2 TX2 9 tyX2 := ⟨rfl, fun w h => mem_t (it_X2 w h) (List.all_eq_true.mp ig_X2 w h), tyX2_ok, nmX2⟩
theorem it_X3 : ∀ w ∈ u_ws RX3 TX3 6, w ∈ tables_1 := mem_places [908, 910, 912, 914, 916, 918] (by decide +kernel)
theorem ig_X3 : (u_ws RX3 TX3 6).all goodWord = true := by decide +kernel
theorem pk_X3 : PK 5 RX3 TX3 6 tyX3 := ⟨rfl, fun w h => mem_t (it_X3 w h) (List.all_eq_true.mp ig_X3 w h), tyX3_ok, nmX3⟩
theorem it_X4 : ∀ w ∈ u_ws RX4 TX4 9, w ∈ tables_1 := mem_places [79, 81, 83, 85, 87, 89, 91, 93, 95] (by decide +kernel)
theorem ig_X4 : (u_ws RX4 TX4 9).all goodWord = true := by decide +kernel
theorem pk_X4 : PK 6 RX4 TX4 9 tyX4 := ⟨rfl, fun w h => mem_t (it_X4 w h) (List.all_eq_true.mp ig_X4 w h), tyX4_ok, nmX4⟩
theorem it_X5 : ∀ w ∈ u_ws RX5 TX5 6, w ∈ tables_1 := mem_places [1076, 1078, 1080, 1082, 1084, 1086] (by decide +kernel)
theorem ig_X5 : (u_ws RX5 TX5 6).all goodWord = true := by decide +kernel
theorem pk_X5 : PK 7 RX5 TX5 6 tyX5 := ⟨rfl, fun w h => mem_t (it_X5 w h) (List.all_eq_true.mp ig_X5 w h), tyX5_ok, nmX5⟩
theorem it_X6 : ∀ w ∈ u_ws RX6 TX6 13, w ∈ tables_1 := mem_places [480, 482, 484, 486, 488, 490, 492, 494, 496, 498, 500, 502, 504] (by decide +kernel)
theorem ig_X6 : (u_ws RX6 TX6 13).all goodWord = true := by decide +kernel
theorem pk_X6 : PK 8 RX6 TX6 13 tyX6 := ⟨rfl, fun w h => mem_t (it_X6 w h) (List.all_eq_true.mp ig_X6 w h), tyX6_ok, nmX6⟩
theorem it_X7 : ∀ w ∈ u_ws RX7 TX7 11, w ∈ tables_1 := mem_places [621, 623, 625, 627, 629, 631, 633, 635, 637, 639, 641] (by decide +kernel)
theorem ig_X7 : (u_ws RX7 TX7 11).all goodWord = true := by decide +kernel
theorem pk_X7 : PK 9 RX7 TX7 11 tyX7 := ⟨rfl, fun w h => mem_t (it_X7 w h) (List.all_eq_true.mp ig_X7 w h), tyX7_ok, nmX7⟩
theorem it_X8 : ∀ w ∈ u_ws RX8 TX8 6, w ∈ tables_1 := mem_places [756, 758, 760, 762, 764, 766] (by decide +kernel)
theorem ig_X8 : (u_ws RX8 TX8 6).all goodWord = true := by decide +kernel
theorem pk_X8 : PK 10 RX8 TX8 6 tyX8 := ⟨rfl, fun w h => mem_t (it_X8 w h) (List.all_eq_true.mp ig_X8 w h), tyX8_ok, nmX8⟩
theorem it_X9 : ∀ w ∈ u_ws RX9 TX9 3, w ∈ tables_1 := mem_places [50, 52, 54] (by decide +kernel)
theorem ig_X9 : (u_ws RX9 TX9 3).all goodWord = true := by decide +kernel
theorem pk_X9 : PK 11 RX9 TX9 3 tyX9 := ⟨rfl, fun w h => mem_t (it_X9 w h) (List.all_eq_true.mp ig_X9 w h), tyX9_ok, nmX9⟩
theorem it_X10 : ∀ w ∈ u_ws RX10 TX10 11, w ∈ tables_1 := mem_places [824, 826, 828, 830, 832, 834, 836, 838, 840, 842, 844] (by decide +kernel)
theorem ig_X10 : (u_ws RX10 TX10 11).all goodWord = true := by decide +kernel
theorem pk_X10 : PK 12 RX10 TX10 11 tyX10 := ⟨rfl, fun w h => mem_t (it_X10 w h) (List.all_eq_true.mp ig_X10 w h), tyX10_ok, nmX10⟩
theorem it_X11 : ∀ w ∈ u_ws RX11 TX11 10, w ∈ tables_1 := mem_places [305, 307, 309, 311, 313, 315, 317, 319, 321, 323] (by decide +kernel)
theorem ig_X11 : (u_ws RX11 TX11 10).all goodWord = true := by decide +kernel
theorem pk_X11 : PK 13 RX11 TX11 10 tyX11 := ⟨rfl, fun w h => mem_t (it_X11 w h) (List.all_eq_true.mp ig_X11 w h), tyX11_ok, nmX11⟩
