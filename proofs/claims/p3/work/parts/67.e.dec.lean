theorem dX1_goOn_0 : decode cX1_goOn 0 = .ok (.aload_n 0, 1) := by decide +kernel
theorem dX1_goOn_1 : decode cX1_goOn 1 = .ok (.getfield 9, 3) := by decide +kernel
theorem dX1_goOn_4 : decode cX1_goOn 4 = .ok (.aload_n 0, 1) := by decide +kernel
theorem dX1_goOn_5 : decode cX1_goOn 5 = .ok (.getfield 25, 3) := by decide +kernel
theorem dX1_goOn_8 : decode cX1_goOn 8 = .ok (.iload_n 1, 1) := by decide +kernel
theorem dX1_goOn_9 : decode cX1_goOn 9 = .ok (.iaload, 1) := by decide +kernel
theorem dX1_goOn_10 : decode cX1_goOn 10 = .ok (.invokevirtual 85, 3) := by decide +kernel
theorem dX1_goOn_13 : decode cX1_goOn 13 = .ok (.checkcast 116, 3) := by decide +kernel
theorem dX1_goOn_16 : decode cX1_goOn 16 = .ok (.astore_n 2, 1) := by decide +kernel
theorem dX1_goOn_17 : decode cX1_goOn 17 = .ok (.aload_n 0, 1) := by decide +kernel
theorem dX1_goOn_18 : decode cX1_goOn 18 = .ok (.getfield 37, 3) := by decide +kernel
theorem dX1_goOn_21 : decode cX1_goOn 21 = .ok (.iload_n 1, 1) := by decide +kernel
theorem dX1_goOn_22 : decode cX1_goOn 22 = .ok (.iaload, 1) := by decide +kernel
theorem dX1_goOn_23 : decode cX1_goOn 23 = .ok (.istore_n 3, 1) := by decide +kernel
theorem dX1_goOn_24 : decode cX1_goOn 24 = .ok (.iload_n 3, 1) := by decide +kernel
theorem dX1_goOn_25 : decode cX1_goOn 25 = .ok (.aload_n 2, 1) := by decide +kernel
theorem dX1_goOn_26 : decode cX1_goOn 26 = .ok (.getfield 121, 3) := by decide +kernel
theorem dX1_goOn_29 : decode cX1_goOn 29 = .ok (.getfield 125, 3) := by decide +kernel
theorem dX1_goOn_32 : decode cX1_goOn 32 = .ok (.invokevirtual 81, 3) := by decide +kernel
theorem dX1_goOn_35 : decode cX1_goOn 35 = .ok (.if_icmp .lt 10, 3) := by decide +kernel
theorem dX1_goOn_38 : decode cX1_goOn 38 = .ok (.aload_n 0, 1) := by decide +kernel
theorem dX1_goOn_39 : decode cX1_goOn 39 = .ok (.getfield 28, 3) := by decide +kernel
theorem dX1_goOn_42 : decode cX1_goOn 42 = .ok (.iload_n 1, 1) := by decide +kernel
theorem dX1_goOn_43 : decode cX1_goOn 43 = .ok (.iaload, 1) := by decide +kernel
theorem dX1_goOn_44 : decode cX1_goOn 44 = .ok (.ireturn, 1) := by decide +kernel
theorem dX1_goOn_45 : decode cX1_goOn 45 = .ok (.aload_n 0, 1) := by decide +kernel
theorem dX1_goOn_46 : decode cX1_goOn 46 = .ok (.getfield 40, 3) := by decide +kernel
theorem dX1_goOn_49 : decode cX1_goOn 49 = .ok (.iload_n 1, 1) := by decide +kernel
theorem dX1_goOn_50 : decode cX1_goOn 50 = .ok (.iaload, 1) := by decide +kernel
theorem dX1_goOn_51 : decode cX1_goOn 51 = .ok (.istore 4, 2) := by decide +kernel
theorem dX1_goOn_53 : decode cX1_goOn 53 = .ok (.aload_n 2, 1) := by decide +kernel
theorem dX1_goOn_54 : decode cX1_goOn 54 = .ok (.getfield 121, 3) := by decide +kernel
theorem dX1_goOn_57 : decode cX1_goOn 57 = .ok (.getfield 125, 3) := by decide +kernel
theorem dX1_goOn_60 : decode cX1_goOn 60 = .ok (.iload_n 3, 1) := by decide +kernel
theorem dX1_goOn_61 : decode cX1_goOn 61 = .ok (.invokevirtual 85, 3) := by decide +kernel
theorem dX1_goOn_64 : decode cX1_goOn 64 = .ok (.checkcast 130, 3) := by decide +kernel
theorem dX1_goOn_67 : decode cX1_goOn 67 = .ok (.getfield 132, 3) := by decide +kernel
theorem dX1_goOn_70 : decode cX1_goOn 70 = .ok (.ifCond .eq 13, 3) := by decide +kernel
theorem dX1_goOn_73 : decode cX1_goOn 73 = .ok (.iload 4, 2) := by decide +kernel
theorem dX1_goOn_75 : decode cX1_goOn 75 = .ok (.aload_n 2, 1) := by decide +kernel
theorem dX1_goOn_76 : decode cX1_goOn 76 = .ok (.iload_n 3, 1) := by decide +kernel
theorem dX1_goOn_77 : decode cX1_goOn 77 = .ok (.invokevirtual 135, 3) := by decide +kernel
theorem dX1_goOn_80 : decode cX1_goOn 80 = .ok (.if_icmp .lt 21, 3) := by decide +kernel
theorem dX1_goOn_83 : decode cX1_goOn 83 = .ok (.aload_n 0, 1) := by decide +kernel
theorem dX1_goOn_84 : decode cX1_goOn 84 = .ok (.getfield 37, 3) := by decide +kernel
theorem dX1_goOn_87 : decode cX1_goOn 87 = .ok (.iload_n 1, 1) := by decide +kernel
theorem dX1_goOn_88 : decode cX1_goOn 88 = .ok (.iload_n 3, 1) := by decide +kernel
theorem dX1_goOn_89 : decode cX1_goOn 89 = .ok (.iconst 1, 1) := by decide +kernel
theorem dX1_goOn_90 : decode cX1_goOn 90 = .ok (.iadd, 1) := by decide +kernel
theorem dX1_goOn_91 : decode cX1_goOn 91 = .ok (.iastore, 1) := by decide +kernel
theorem dX1_goOn_92 : decode cX1_goOn 92 = .ok (.aload_n 0, 1) := by decide +kernel
theorem dX1_goOn_93 : decode cX1_goOn 93 = .ok (.getfield 40, 3) := by decide +kernel
theorem dX1_goOn_96 : decode cX1_goOn 96 = .ok (.iload_n 1, 1) := by decide +kernel
theorem dX1_goOn_97 : decode cX1_goOn 97 = .ok (.iconst 0, 1) := by decide +kernel
theorem dX1_goOn_98 : decode cX1_goOn 98 = .ok (.iastore, 1) := by decide +kernel
theorem dX1_goOn_99 : decode cX1_goOn 99 = .ok (.iload_n 1, 1) := by decide +kernel
theorem dX1_goOn_100 : decode cX1_goOn 100 = .ok (.ireturn, 1) := by decide +kernel
theorem dX1_goOn_101 : decode cX1_goOn 101 = .ok (.aload_n 0, 1) := by decide +kernel
theorem dX1_goOn_102 : decode cX1_goOn 102 = .ok (.getfield 40, 3) := by decide +kernel
theorem dX1_goOn_105 : decode cX1_goOn 105 = .ok (.iload_n 1, 1) := by decide +kernel
theorem dX1_goOn_106 : decode cX1_goOn 106 = .ok (.iload 4, 2) := by decide +kernel
theorem dX1_goOn_108 : decode cX1_goOn 108 = .ok (.iconst 1, 1) := by decide +kernel
theorem dX1_goOn_109 : decode cX1_goOn 109 = .ok (.iadd, 1) := by decide +kernel
theorem dX1_goOn_110 : decode cX1_goOn 110 = .ok (.iastore, 1) := by decide +kernel
theorem dX1_goOn_111 : decode cX1_goOn 111 = .ok (.aload_n 2, 1) := by decide +kernel
theorem dX1_goOn_112 : decode cX1_goOn 112 = .ok (.iload_n 3, 1) := by decide +kernel
theorem dX1_goOn_113 : decode cX1_goOn 113 = .ok (.iload 4, 2) := by decide +kernel
theorem dX1_goOn_115 : decode cX1_goOn 115 = .ok (.invokevirtual 138, 3) := by decide +kernel
theorem dX1_goOn_118 : decode cX1_goOn 118 = .ok (.istore 5, 2) := by decide +kernel
theorem dX1_goOn_120 : decode cX1_goOn 120 = .ok (.iload 5, 2) := by decide +kernel
theorem dX1_goOn_122 : decode cX1_goOn 122 = .ok (.ifCond .lt 15, 3) := by decide +kernel
theorem dX1_goOn_125 : decode cX1_goOn 125 = .ok (.iload 5, 2) := by decide +kernel
theorem dX1_goOn_127 : decode cX1_goOn 127 = .ok (.aload_n 0, 1) := by decide +kernel
theorem dX1_goOn_128 : decode cX1_goOn 128 = .ok (.getfield 9, 3) := by decide +kernel
theorem dX1_goOn_131 : decode cX1_goOn 131 = .ok (.invokevirtual 81, 3) := by decide +kernel
theorem dX1_goOn_134 : decode cX1_goOn 134 = .ok (.if_icmp .lt 5, 3) := by decide +kernel
theorem dX1_goOn_137 : decode cX1_goOn 137 = .ok (.iload_n 1, 1) := by decide +kernel
theorem dX1_goOn_138 : decode cX1_goOn 138 = .ok (.ireturn, 1) := by decide +kernel
theorem dX1_goOn_139 : decode cX1_goOn 139 = .ok (.aload_n 0, 1) := by decide +kernel
theorem dX1_goOn_140 : decode cX1_goOn 140 = .ok (.getfield 9, 3) := by decide +kernel
theorem dX1_goOn_143 : decode cX1_goOn 143 = .ok (.iload 5, 2) := by decide +kernel
theorem dX1_goOn_145 : decode cX1_goOn 145 = .ok (.invokevirtual 85, 3) := by decide +kernel
theorem dX1_goOn_148 : decode cX1_goOn 148 = .ok (.checkcast 116, 3) := by decide +kernel
theorem dX1_goOn_151 : decode cX1_goOn 151 = .ok (.getfield 118, 3) := by decide +kernel
theorem dX1_goOn_154 : decode cX1_goOn 154 = .ok (.aload_n 0, 1) := by decide +kernel
theorem dX1_goOn_155 : decode cX1_goOn 155 = .ok (.getfield 94, 3) := by decide +kernel
theorem dX1_goOn_158 : decode cX1_goOn 158 = .ok (.if_icmp .ne 11, 3) := by decide +kernel
theorem dX1_goOn_161 : decode cX1_goOn 161 = .ok (.aload_n 0, 1) := by decide +kernel
theorem dX1_goOn_162 : decode cX1_goOn 162 = .ok (.iload 5, 2) := by decide +kernel
theorem dX1_goOn_164 : decode cX1_goOn 164 = .ok (.invokevirtual 142, 3) := by decide +kernel
theorem dX1_goOn_167 : decode cX1_goOn 167 = .ok (.iload_n 1, 1) := by decide +kernel
theorem dX1_goOn_168 : decode cX1_goOn 168 = .ok (.ireturn, 1) := by decide +kernel
theorem dX1_goOn_169 : decode cX1_goOn 169 = .ok (.aload_n 0, 1) := by decide +kernel
theorem dX1_goOn_170 : decode cX1_goOn 170 = .ok (.iload 5, 2) := by decide +kernel
theorem dX1_goOn_172 : decode cX1_goOn 172 = .ok (.iload_n 1, 1) := by decide +kernel
theorem dX1_goOn_173 : decode cX1_goOn 173 = .ok (.iload_n 3, 1) := by decide +kernel
theorem dX1_goOn_174 : decode cX1_goOn 174 = .ok (.bipush 100, 2) := by decide +kernel
theorem dX1_goOn_176 : decode cX1_goOn 176 = .ok (.imul, 1) := by decide +kernel
theorem dX1_goOn_177 : decode cX1_goOn 177 = .ok (.iload 4, 2) := by decide +kernel
theorem dX1_goOn_179 : decode cX1_goOn 179 = .ok (.iadd, 1) := by decide +kernel
theorem dX1_goOn_180 : decode cX1_goOn 180 = .ok (.invokevirtual 104, 3) := by decide +kernel
theorem dX1_goOn_183 : decode cX1_goOn 183 = .ok (.istore 6, 2) := by decide +kernel
theorem dX1_goOn_185 : decode cX1_goOn 185 = .ok (.iload 6, 2) := by decide +kernel
theorem dX1_goOn_187 : decode cX1_goOn 187 = .ok (.iconst (-1), 1) := by decide +kernel
theorem dX1_goOn_188 : decode cX1_goOn 188 = .ok (.if_icmp .ne 7, 3) := by decide +kernel
theorem dX1_goOn_191 : decode cX1_goOn 191 = .ok (.iload_n 1, 1) := by decide +kernel
theorem dX1_goOn_192 : decode cX1_goOn 192 = .ok (.goto 5, 3) := by decide +kernel
theorem dX1_goOn_195 : decode cX1_goOn 195 = .ok (.iload 6, 2) := by decide +kernel
theorem dX1_goOn_197 : decode cX1_goOn 197 = .ok (.ireturn, 1) := by decide +kernel
theorem dX5_countTargets_0 : decode cX5_countTargets 0 = .ok (.aload_n 0, 1) := by decide +kernel
theorem dX5_countTargets_1 : decode cX5_countTargets 1 = .ok (.iload_n 1, 1) := by decide +kernel
theorem dX5_countTargets_2 : decode cX5_countTargets 2 = .ok (.invokevirtual 55, 3) := by decide +kernel
theorem dX5_countTargets_5 : decode cX5_countTargets 5 = .ok (.istore_n 2, 1) := by decide +kernel
theorem dX5_countTargets_6 : decode cX5_countTargets 6 = .ok (.iload_n 2, 1) := by decide +kernel
theorem dX5_countTargets_7 : decode cX5_countTargets 7 = .ok (.iconst 4, 1) := by decide +kernel
theorem dX5_countTargets_8 : decode cX5_countTargets 8 = .ok (.if_icmp .ne 10, 3) := by decide +kernel
theorem dX5_countTargets_11 : decode cX5_countTargets 11 = .ok (.aload_n 0, 1) := by decide +kernel
theorem dX5_countTargets_12 : decode cX5_countTargets 12 = .ok (.getfield 27, 3) := by decide +kernel
theorem dX5_countTargets_15 : decode cX5_countTargets 15 = .ok (.iload_n 1, 1) := by decide +kernel
theorem dX5_countTargets_16 : decode cX5_countTargets 16 = .ok (.iaload, 1) := by decide +kernel
theorem dX5_countTargets_17 : decode cX5_countTargets 17 = .ok (.ireturn, 1) := by decide +kernel
theorem dX5_countTargets_18 : decode cX5_countTargets 18 = .ok (.iload_n 2, 1) := by decide +kernel
theorem dX5_countTargets_19 : decode cX5_countTargets 19 = .ok (.iconst 3, 1) := by decide +kernel
theorem dX5_countTargets_20 : decode cX5_countTargets 20 = .ok (.if_icmp .ne 16, 3) := by decide +kernel
theorem dX5_countTargets_23 : decode cX5_countTargets 23 = .ok (.aload_n 0, 1) := by decide +kernel
theorem dX5_countTargets_24 : decode cX5_countTargets 24 = .ok (.getfield 31, 3) := by decide +kernel
theorem dX5_countTargets_27 : decode cX5_countTargets 27 = .ok (.iload_n 1, 1) := by decide +kernel
theorem dX5_countTargets_28 : decode cX5_countTargets 28 = .ok (.baload, 1) := by decide +kernel
theorem dX5_countTargets_29 : decode cX5_countTargets 29 = .ok (.ifCond .eq 7, 3) := by decide +kernel
theorem dX5_countTargets_32 : decode cX5_countTargets 32 = .ok (.iconst 1, 1) := by decide +kernel
theorem dX5_countTargets_33 : decode cX5_countTargets 33 = .ok (.goto 4, 3) := by decide +kernel
theorem dX5_countTargets_36 : decode cX5_countTargets 36 = .ok (.iconst 0, 1) := by decide +kernel
theorem dX5_countTargets_37 : decode cX5_countTargets 37 = .ok (.ireturn, 1) := by decide +kernel
theorem dX1_keepCut_0 : decode cX1_keepCut 0 = .ok (.aload_n 0, 1) := by decide +kernel
theorem dX1_keepCut_1 : decode cX1_keepCut 1 = .ok (.getfield 47, 3) := by decide +kernel
theorem dX1_keepCut_4 : decode cX1_keepCut 4 = .ok (.bipush 60, 2) := by decide +kernel
theorem dX1_keepCut_6 : decode cX1_keepCut 6 = .ok (.if_icmp .ge 23, 3) := by decide +kernel
theorem dX1_keepCut_9 : decode cX1_keepCut 9 = .ok (.aload_n 0, 1) := by decide +kernel
theorem dX1_keepCut_10 : decode cX1_keepCut 10 = .ok (.getfield 21, 3) := by decide +kernel
theorem dX1_keepCut_13 : decode cX1_keepCut 13 = .ok (.aload_n 0, 1) := by decide +kernel
theorem dX1_keepCut_14 : decode cX1_keepCut 14 = .ok (.getfield 47, 3) := by decide +kernel
theorem dX1_keepCut_17 : decode cX1_keepCut 17 = .ok (.iload_n 1, 1) := by decide +kernel
theorem dX1_keepCut_18 : decode cX1_keepCut 18 = .ok (.iastore, 1) := by decide +kernel
theorem dX1_keepCut_19 : decode cX1_keepCut 19 = .ok (.aload_n 0, 1) := by decide +kernel
theorem dX1_keepCut_20 : decode cX1_keepCut 20 = .ok (.dup, 1) := by decide +kernel
theorem dX1_keepCut_21 : decode cX1_keepCut 21 = .ok (.getfield 47, 3) := by decide +kernel
theorem dX1_keepCut_24 : decode cX1_keepCut 24 = .ok (.iconst 1, 1) := by decide +kernel
theorem dX1_keepCut_25 : decode cX1_keepCut 25 = .ok (.iadd, 1) := by decide +kernel
theorem dX1_keepCut_26 : decode cX1_keepCut 26 = .ok (.putfield 47, 3) := by decide +kernel
theorem dX1_keepCut_29 : decode cX1_keepCut 29 = .ok (.return_, 1) := by decide +kernel
theorem dX11_found_0 : decode cX11_found 0 = .ok (.aload_n 0, 1) := by decide +kernel
theorem dX11_found_1 : decode cX11_found 1 = .ok (.getfield 39, 3) := by decide +kernel
theorem dX11_found_4 : decode cX11_found 4 = .ok (.iload_n 1, 1) := by decide +kernel
theorem dX11_found_5 : decode cX11_found 5 = .ok (.invokevirtual 206, 3) := by decide +kernel
theorem dX11_found_8 : decode cX11_found 8 = .ok (.astore_n 3, 1) := by decide +kernel
theorem dX11_found_9 : decode cX11_found 9 = .ok (.aload_n 3, 1) := by decide +kernel
theorem dX11_found_10 : decode cX11_found 10 = .ok (.ifnonnull 5, 3) := by decide +kernel
theorem dX11_found_13 : decode cX11_found 13 = .ok (.iconst (-1), 1) := by decide +kernel
theorem dX11_found_14 : decode cX11_found 14 = .ok (.ireturn, 1) := by decide +kernel
theorem dX11_found_15 : decode cX11_found 15 = .ok (.iload_n 2, 1) := by decide +kernel
theorem dX11_found_16 : decode cX11_found 16 = .ok (.tableswitch 128 0 9 #[56, 64, 72, 80, 85, 90, 95, 104, 110, 123], 56) := by decide +kernel
theorem dX11_found_72 : decode cX11_found 72 = .ok (.aload_n 3, 1) := by decide +kernel
theorem dX11_found_73 : decode cX11_found 73 = .ok (.getfield 210, 3) := by decide +kernel
theorem dX11_found_76 : decode cX11_found 76 = .ok (.getfield 216, 3) := by decide +kernel
theorem dX11_found_79 : decode cX11_found 79 = .ok (.ireturn, 1) := by decide +kernel
theorem dX11_found_80 : decode cX11_found 80 = .ok (.aload_n 3, 1) := by decide +kernel
theorem dX11_found_81 : decode cX11_found 81 = .ok (.getfield 210, 3) := by decide +kernel
theorem dX11_found_84 : decode cX11_found 84 = .ok (.getfield 221, 3) := by decide +kernel
theorem dX11_found_87 : decode cX11_found 87 = .ok (.ireturn, 1) := by decide +kernel
theorem dX11_found_88 : decode cX11_found 88 = .ok (.aload_n 3, 1) := by decide +kernel
theorem dX11_found_89 : decode cX11_found 89 = .ok (.getfield 210, 3) := by decide +kernel
theorem dX11_found_92 : decode cX11_found 92 = .ok (.getfield 224, 3) := by decide +kernel
theorem dX11_found_95 : decode cX11_found 95 = .ok (.ireturn, 1) := by decide +kernel
theorem dX11_found_96 : decode cX11_found 96 = .ok (.aload_n 3, 1) := by decide +kernel
theorem dX11_found_97 : decode cX11_found 97 = .ok (.getfield 227, 3) := by decide +kernel
theorem dX11_found_100 : decode cX11_found 100 = .ok (.ireturn, 1) := by decide +kernel
theorem dX11_found_101 : decode cX11_found 101 = .ok (.aload_n 3, 1) := by decide +kernel
theorem dX11_found_102 : decode cX11_found 102 = .ok (.getfield 230, 3) := by decide +kernel
theorem dX11_found_105 : decode cX11_found 105 = .ok (.ireturn, 1) := by decide +kernel
theorem dX11_found_106 : decode cX11_found 106 = .ok (.aload_n 3, 1) := by decide +kernel
theorem dX11_found_107 : decode cX11_found 107 = .ok (.getfield 233, 3) := by decide +kernel
theorem dX11_found_110 : decode cX11_found 110 = .ok (.ireturn, 1) := by decide +kernel
theorem dX11_found_111 : decode cX11_found 111 = .ok (.aload_n 0, 1) := by decide +kernel
theorem dX11_found_112 : decode cX11_found 112 = .ok (.getfield 39, 3) := by decide +kernel
theorem dX11_found_115 : decode cX11_found 115 = .ok (.aload_n 3, 1) := by decide +kernel
theorem dX11_found_116 : decode cX11_found 116 = .ok (.invokevirtual 236, 3) := by decide +kernel
theorem dX11_found_119 : decode cX11_found 119 = .ok (.ireturn, 1) := by decide +kernel
theorem dX11_found_120 : decode cX11_found 120 = .ok (.aload_n 0, 1) := by decide +kernel
theorem dX11_found_121 : decode cX11_found 121 = .ok (.aload_n 3, 1) := by decide +kernel
theorem dX11_found_122 : decode cX11_found 122 = .ok (.invokevirtual 240, 3) := by decide +kernel
theorem dX11_found_125 : decode cX11_found 125 = .ok (.ireturn, 1) := by decide +kernel
theorem dX11_found_126 : decode cX11_found 126 = .ok (.aload_n 3, 1) := by decide +kernel
theorem dX11_found_127 : decode cX11_found 127 = .ok (.getfield 243, 3) := by decide +kernel
theorem dX11_found_130 : decode cX11_found 130 = .ok (.ifCond .eq 7, 3) := by decide +kernel
theorem dX11_found_133 : decode cX11_found 133 = .ok (.iconst 1, 1) := by decide +kernel
theorem dX11_found_134 : decode cX11_found 134 = .ok (.goto 4, 3) := by decide +kernel
theorem dX11_found_137 : decode cX11_found 137 = .ok (.iconst 0, 1) := by decide +kernel
theorem dX11_found_138 : decode cX11_found 138 = .ok (.ireturn, 1) := by decide +kernel
theorem dX11_found_139 : decode cX11_found 139 = .ok (.aload_n 3, 1) := by decide +kernel
theorem dX11_found_140 : decode cX11_found 140 = .ok (.getfield 247, 3) := by decide +kernel
theorem dX11_found_143 : decode cX11_found 143 = .ok (.ireturn, 1) := by decide +kernel
theorem dX11_found_144 : decode cX11_found 144 = .ok (.iconst (-1), 1) := by decide +kernel
theorem dX11_found_145 : decode cX11_found 145 = .ok (.ireturn, 1) := by decide +kernel
theorem dX1_foundAt_0 : decode cX1_foundAt 0 = .ok (.iload_n 1, 1) := by decide +kernel
theorem dX1_foundAt_1 : decode cX1_foundAt 1 = .ok (.ifCond .lt 36, 3) := by decide +kernel
theorem dX1_foundAt_4 : decode cX1_foundAt 4 = .ok (.iload_n 1, 1) := by decide +kernel
theorem dX1_foundAt_5 : decode cX1_foundAt 5 = .ok (.aload_n 0, 1) := by decide +kernel
theorem dX1_foundAt_6 : decode cX1_foundAt 6 = .ok (.getfield 43, 3) := by decide +kernel
theorem dX1_foundAt_9 : decode cX1_foundAt 9 = .ok (.if_icmp .ge 28, 3) := by decide +kernel
theorem dX1_foundAt_12 : decode cX1_foundAt 12 = .ok (.iload_n 1, 1) := by decide +kernel
theorem dX1_foundAt_13 : decode cX1_foundAt 13 = .ok (.aload_n 0, 1) := by decide +kernel
theorem dX1_foundAt_14 : decode cX1_foundAt 14 = .ok (.getfield 18, 3) := by decide +kernel
theorem dX1_foundAt_17 : decode cX1_foundAt 17 = .ok (.invokevirtual 81, 3) := by decide +kernel
theorem dX1_foundAt_20 : decode cX1_foundAt 20 = .ok (.if_icmp .ge 17, 3) := by decide +kernel
theorem dX1_foundAt_23 : decode cX1_foundAt 23 = .ok (.aload_n 0, 1) := by decide +kernel
theorem dX1_foundAt_24 : decode cX1_foundAt 24 = .ok (.getfield 18, 3) := by decide +kernel
theorem dX1_foundAt_27 : decode cX1_foundAt 27 = .ok (.iload_n 1, 1) := by decide +kernel
theorem dX1_foundAt_28 : decode cX1_foundAt 28 = .ok (.invokevirtual 85, 3) := by decide +kernel
theorem dX1_foundAt_31 : decode cX1_foundAt 31 = .ok (.checkcast 226, 3) := by decide +kernel
theorem dX1_foundAt_34 : decode cX1_foundAt 34 = .ok (.goto 4, 3) := by decide +kernel
theorem dX1_foundAt_37 : decode cX1_foundAt 37 = .ok (.aconst_null, 1) := by decide +kernel
theorem dX1_foundAt_38 : decode cX1_foundAt 38 = .ok (.areturn, 1) := by decide +kernel
theorem dX1_wayLength_0 : decode cX1_wayLength 0 = .ok (.aload_n 0, 1) := by decide +kernel
theorem dX1_wayLength_1 : decode cX1_wayLength 1 = .ok (.getfield 34, 3) := by decide +kernel
theorem dX1_wayLength_4 : decode cX1_wayLength 4 = .ok (.aload_n 1, 1) := by decide +kernel
theorem dX1_wayLength_5 : decode cX1_wayLength 5 = .ok (.getfield 237, 3) := by decide +kernel
theorem dX1_wayLength_8 : decode cX1_wayLength 8 = .ok (.iaload, 1) := by decide +kernel
theorem dX1_wayLength_9 : decode cX1_wayLength 9 = .ok (.ireturn, 1) := by decide +kernel
theorem dX11_composeText_0 : decode cX11_composeText 0 = .ok (.aload_n 0, 1) := by decide +kernel
theorem dX11_composeText_1 : decode cX11_composeText 1 = .ok (.getfield 46, 3) := by decide +kernel
theorem dX11_composeText_4 : decode cX11_composeText 4 = .ok (.iconst 0, 1) := by decide +kernel
theorem dX11_composeText_5 : decode cX11_composeText 5 = .ok (.invokevirtual 258, 3) := by decide +kernel
theorem dX11_composeText_8 : decode cX11_composeText 8 = .ok (.aload_n 1, 1) := by decide +kernel
theorem dX11_composeText_9 : decode cX11_composeText 9 = .ok (.aload_n 0, 1) := by decide +kernel
theorem dX11_composeText_10 : decode cX11_composeText 10 = .ok (.getfield 53, 3) := by decide +kernel
theorem dX11_composeText_13 : decode cX11_composeText 13 = .ok (.getfield 100, 3) := by decide +kernel
theorem dX11_composeText_16 : decode cX11_composeText 16 = .ok (.aload_n 0, 1) := by decide +kernel
theorem dX11_composeText_17 : decode cX11_composeText 17 = .ok (.getfield 46, 3) := by decide +kernel
theorem dX11_composeText_20 : decode cX11_composeText 20 = .ok (.invokevirtual 261, 3) := by decide +kernel
theorem dX11_composeText_23 : decode cX11_composeText 23 = .ok (.aload_n 0, 1) := by decide +kernel
theorem dX11_composeText_24 : decode cX11_composeText 24 = .ok (.getfield 46, 3) := by decide +kernel
theorem dX11_composeText_27 : decode cX11_composeText 27 = .ok (.invokevirtual 265, 3) := by decide +kernel
theorem dX11_composeText_30 : decode cX11_composeText 30 = .ok (.bipush 80, 2) := by decide +kernel
theorem dX11_composeText_32 : decode cX11_composeText 32 = .ok (.invokestatic 267, 3) := by decide +kernel
theorem dX11_composeText_35 : decode cX11_composeText 35 = .ok (.ireturn, 1) := by decide +kernel
theorem dX2_compose_0 : decode cX2_compose 0 = .ok (.aload_n 0, 1) := by decide +kernel
theorem dX2_compose_1 : decode cX2_compose 1 = .ok (.getfield 7, 3) := by decide +kernel
theorem dX2_compose_4 : decode cX2_compose 4 = .ok (.getfield 13, 3) := by decide +kernel
theorem dX2_compose_7 : decode cX2_compose 7 = .ok (.istore_n 3, 1) := by decide +kernel
theorem dX2_compose_8 : decode cX2_compose 8 = .ok (.iload_n 3, 1) := by decide +kernel
theorem dX2_compose_9 : decode cX2_compose 9 = .ok (.ifCond .lt 7, 3) := by decide +kernel
theorem dX2_compose_12 : decode cX2_compose 12 = .ok (.aload_n 1, 1) := by decide +kernel
theorem dX2_compose_13 : decode cX2_compose 13 = .ok (.ifnonnull 4, 3) := by decide +kernel
theorem dX2_compose_16 : decode cX2_compose 16 = .ok (.return_, 1) := by decide +kernel
theorem dX2_compose_17 : decode cX2_compose 17 = .ok (.iload_n 3, 1) := by decide +kernel
theorem dX2_compose_18 : decode cX2_compose 18 = .ok (.aload_n 0, 1) := by decide +kernel
theorem dX2_compose_19 : decode cX2_compose 19 = .ok (.getfield 7, 3) := by decide +kernel
theorem dX2_compose_22 : decode cX2_compose 22 = .ok (.getfield 19, 3) := by decide +kernel
theorem dX2_compose_25 : decode cX2_compose 25 = .ok (.iadd, 1) := by decide +kernel
theorem dX2_compose_26 : decode cX2_compose 26 = .ok (.aload_n 1, 1) := by decide +kernel
theorem dX2_compose_27 : decode cX2_compose 27 = .ok (.arraylength, 1) := by decide +kernel
theorem dX2_compose_28 : decode cX2_compose 28 = .ok (.invokestatic 22, 3) := by decide +kernel
theorem dX2_compose_31 : decode cX2_compose 31 = .ok (.istore 4, 2) := by decide +kernel
theorem dX2_compose_33 : decode cX2_compose 33 = .ok (.iload_n 3, 1) := by decide +kernel
theorem dX2_compose_34 : decode cX2_compose 34 = .ok (.istore 5, 2) := by decide +kernel
theorem dX2_compose_36 : decode cX2_compose 36 = .ok (.iload 5, 2) := by decide +kernel
theorem dX2_compose_38 : decode cX2_compose 38 = .ok (.iload 4, 2) := by decide +kernel
theorem dX2_compose_40 : decode cX2_compose 40 = .ok (.if_icmp .ge 130, 3) := by decide +kernel
theorem dX2_compose_43 : decode cX2_compose 43 = .ok (.aload_n 1, 1) := by decide +kernel
theorem dX2_compose_44 : decode cX2_compose 44 = .ok (.iload 5, 2) := by decide +kernel
theorem dX2_compose_46 : decode cX2_compose 46 = .ok (.baload, 1) := by decide +kernel
theorem dX2_compose_47 : decode cX2_compose 47 = .ok (.bipush 123, 2) := by decide +kernel
theorem dX2_compose_49 : decode cX2_compose 49 = .ok (.if_icmp .ne 27, 3) := by decide +kernel
theorem dX2_compose_52 : decode cX2_compose 52 = .ok (.iload 5, 2) := by decide +kernel
theorem dX2_compose_54 : decode cX2_compose 54 = .ok (.iconst 2, 1) := by decide +kernel
theorem dX2_compose_55 : decode cX2_compose 55 = .ok (.iadd, 1) := by decide +kernel
theorem dX2_compose_56 : decode cX2_compose 56 = .ok (.iload 4, 2) := by decide +kernel
theorem dX2_compose_58 : decode cX2_compose 58 = .ok (.if_icmp .ge 18, 3) := by decide +kernel
theorem dX2_compose_61 : decode cX2_compose 61 = .ok (.aload_n 1, 1) := by decide +kernel
theorem dX2_compose_62 : decode cX2_compose 62 = .ok (.iload 5, 2) := by decide +kernel
theorem dX2_compose_64 : decode cX2_compose 64 = .ok (.iconst 2, 1) := by decide +kernel
theorem dX2_compose_65 : decode cX2_compose 65 = .ok (.iadd, 1) := by decide +kernel
theorem dX2_compose_66 : decode cX2_compose 66 = .ok (.baload, 1) := by decide +kernel
theorem dX2_compose_67 : decode cX2_compose 67 = .ok (.bipush 125, 2) := by decide +kernel
theorem dX2_compose_69 : decode cX2_compose 69 = .ok (.if_icmp .ne 7, 3) := by decide +kernel
theorem dX2_compose_72 : decode cX2_compose 72 = .ok (.iconst 1, 1) := by decide +kernel
theorem dX2_compose_73 : decode cX2_compose 73 = .ok (.goto 4, 3) := by decide +kernel
theorem dX2_compose_76 : decode cX2_compose 76 = .ok (.iconst 0, 1) := by decide +kernel
theorem dX2_compose_77 : decode cX2_compose 77 = .ok (.istore 6, 2) := by decide +kernel
theorem dX2_compose_79 : decode cX2_compose 79 = .ok (.iload 6, 2) := by decide +kernel
theorem dX2_compose_81 : decode cX2_compose 81 = .ok (.ifCond .eq 12, 3) := by decide +kernel
theorem dX2_compose_84 : decode cX2_compose 84 = .ok (.aload_n 1, 1) := by decide +kernel
theorem dX2_compose_85 : decode cX2_compose 85 = .ok (.iload 5, 2) := by decide +kernel
theorem dX2_compose_87 : decode cX2_compose 87 = .ok (.iconst 1, 1) := by decide +kernel
theorem dX2_compose_88 : decode cX2_compose 88 = .ok (.iadd, 1) := by decide +kernel
theorem dX2_compose_89 : decode cX2_compose 89 = .ok (.baload, 1) := by decide +kernel
theorem dX2_compose_90 : decode cX2_compose 90 = .ok (.goto 4, 3) := by decide +kernel
theorem dX2_compose_93 : decode cX2_compose 93 = .ok (.iconst 0, 1) := by decide +kernel
theorem dX2_compose_94 : decode cX2_compose 94 = .ok (.istore 7, 2) := by decide +kernel
theorem dX2_compose_96 : decode cX2_compose 96 = .ok (.iload 7, 2) := by decide +kernel
theorem dX2_compose_98 : decode cX2_compose 98 = .ok (.bipush 118, 2) := by decide +kernel
theorem dX2_compose_100 : decode cX2_compose 100 = .ok (.if_icmp .eq 17, 3) := by decide +kernel
theorem dX2_compose_103 : decode cX2_compose 103 = .ok (.iload 7, 2) := by decide +kernel
theorem dX2_compose_105 : decode cX2_compose 105 = .ok (.bipush 97, 2) := by decide +kernel
theorem dX2_compose_107 : decode cX2_compose 107 = .ok (.if_icmp .eq 10, 3) := by decide +kernel
theorem dX2_compose_110 : decode cX2_compose 110 = .ok (.iload 7, 2) := by decide +kernel
theorem dX2_compose_112 : decode cX2_compose 112 = .ok (.bipush 98, 2) := by decide +kernel
theorem dX2_compose_114 : decode cX2_compose 114 = .ok (.if_icmp .ne 40, 3) := by decide +kernel
theorem dX2_compose_117 : decode cX2_compose 117 = .ok (.aload_n 2, 1) := by decide +kernel
theorem dX2_compose_118 : decode cX2_compose 118 = .ok (.iload 7, 2) := by decide +kernel
theorem dX2_compose_120 : decode cX2_compose 120 = .ok (.bipush 118, 2) := by decide +kernel
theorem dX2_compose_122 : decode cX2_compose 122 = .ok (.if_icmp .ne 10, 3) := by decide +kernel
theorem dX2_compose_125 : decode cX2_compose 125 = .ok (.aload_n 0, 1) := by decide +kernel
theorem dX2_compose_126 : decode cX2_compose 126 = .ok (.getfield 28, 3) := by decide +kernel
theorem dX2_compose_129 : decode cX2_compose 129 = .ok (.goto 15, 3) := by decide +kernel
theorem dX2_compose_132 : decode cX2_compose 132 = .ok (.aload_n 0, 1) := by decide +kernel
theorem dX2_compose_133 : decode cX2_compose 133 = .ok (.getfield 7, 3) := by decide +kernel
theorem dX2_compose_136 : decode cX2_compose 136 = .ok (.iload 7, 2) := by decide +kernel
theorem dX2_compose_138 : decode cX2_compose 138 = .ok (.bipush 97, 2) := by decide +kernel
theorem dX2_compose_140 : decode cX2_compose 140 = .ok (.isub, 1) := by decide +kernel
theorem dX2_compose_141 : decode cX2_compose 141 = .ok (.invokevirtual 31, 3) := by decide +kernel
theorem dX2_compose_144 : decode cX2_compose 144 = .ok (.invokevirtual 35, 3) := by decide +kernel
theorem dX2_compose_147 : decode cX2_compose 147 = .ok (.pop, 1) := by decide +kernel
theorem dX2_compose_148 : decode cX2_compose 148 = .ok (.iinc 5 2, 3) := by decide +kernel
theorem dX2_compose_151 : decode cX2_compose 151 = .ok (.goto 13, 3) := by decide +kernel
theorem dX2_compose_154 : decode cX2_compose 154 = .ok (.aload_n 2, 1) := by decide +kernel
theorem dX2_compose_155 : decode cX2_compose 155 = .ok (.aload_n 1, 1) := by decide +kernel
theorem dX2_compose_156 : decode cX2_compose 156 = .ok (.iload 5, 2) := by decide +kernel
theorem dX2_compose_158 : decode cX2_compose 158 = .ok (.baload, 1) := by decide +kernel
theorem dX2_compose_159 : decode cX2_compose 159 = .ok (.i2c, 1) := by decide +kernel
theorem dX2_compose_160 : decode cX2_compose 160 = .ok (.invokevirtual 41, 3) := by decide +kernel
theorem dX2_compose_163 : decode cX2_compose 163 = .ok (.pop, 1) := by decide +kernel
theorem dX2_compose_164 : decode cX2_compose 164 = .ok (.iinc 5 1, 3) := by decide +kernel
theorem dX2_compose_167 : decode cX2_compose 167 = .ok (.goto (-131), 3) := by decide +kernel
theorem dX2_compose_170 : decode cX2_compose 170 = .ok (.return_, 1) := by decide +kernel
theorem dX11_way_0 : decode cX11_way 0 = .ok (.aload_n 0, 1) := by decide +kernel
theorem dX11_way_1 : decode cX11_way 1 = .ok (.getfield 39, 3) := by decide +kernel
theorem dX11_way_4 : decode cX11_way 4 = .ok (.iload_n 1, 1) := by decide +kernel
theorem dX11_way_5 : decode cX11_way 5 = .ok (.invokevirtual 206, 3) := by decide +kernel
theorem dX11_way_8 : decode cX11_way 8 = .ok (.astore_n 3, 1) := by decide +kernel
theorem dX11_way_9 : decode cX11_way 9 = .ok (.aload_n 3, 1) := by decide +kernel
theorem dX11_way_10 : decode cX11_way 10 = .ok (.ifnonnull 7, 3) := by decide +kernel
theorem dX11_way_13 : decode cX11_way 13 = .ok (.iconst (-1), 1) := by decide +kernel
theorem dX11_way_14 : decode cX11_way 14 = .ok (.goto 12, 3) := by decide +kernel
theorem dX11_way_17 : decode cX11_way 17 = .ok (.aload_n 0, 1) := by decide +kernel
theorem dX11_way_18 : decode cX11_way 18 = .ok (.getfield 39, 3) := by decide +kernel
theorem dX11_way_21 : decode cX11_way 21 = .ok (.aload_n 3, 1) := by decide +kernel
theorem dX11_way_22 : decode cX11_way 22 = .ok (.iload_n 2, 1) := by decide +kernel
theorem dX11_way_23 : decode cX11_way 23 = .ok (.invokevirtual 250, 3) := by decide +kernel
theorem dX11_way_26 : decode cX11_way 26 = .ok (.ireturn, 1) := by decide +kernel
theorem dX1_wayStep_0 : decode cX1_wayStep 0 = .ok (.aload_n 1, 1) := by decide +kernel
theorem dX1_wayStep_1 : decode cX1_wayStep 1 = .ok (.getfield 237, 3) := by decide +kernel
theorem dX1_wayStep_4 : decode cX1_wayStep 4 = .ok (.istore_n 3, 1) := by decide +kernel
theorem dX1_wayStep_5 : decode cX1_wayStep 5 = .ok (.aload_n 0, 1) := by decide +kernel
theorem dX1_wayStep_6 : decode cX1_wayStep 6 = .ok (.getfield 34, 3) := by decide +kernel
theorem dX1_wayStep_9 : decode cX1_wayStep 9 = .ok (.iload_n 3, 1) := by decide +kernel
theorem dX1_wayStep_10 : decode cX1_wayStep 10 = .ok (.iaload, 1) := by decide +kernel
theorem dX1_wayStep_11 : decode cX1_wayStep 11 = .ok (.istore 4, 2) := by decide +kernel
theorem dX1_wayStep_13 : decode cX1_wayStep 13 = .ok (.iload_n 2, 1) := by decide +kernel
theorem dX1_wayStep_14 : decode cX1_wayStep 14 = .ok (.ifCond .lt 15, 3) := by decide +kernel
theorem dX1_wayStep_17 : decode cX1_wayStep 17 = .ok (.iload_n 2, 1) := by decide +kernel
theorem dX1_wayStep_18 : decode cX1_wayStep 18 = .ok (.iload 4, 2) := by decide +kernel
theorem dX1_wayStep_20 : decode cX1_wayStep 20 = .ok (.if_icmp .ge 9, 3) := by decide +kernel
theorem dX1_wayStep_23 : decode cX1_wayStep 23 = .ok (.iload_n 2, 1) := by decide +kernel
theorem dX1_wayStep_24 : decode cX1_wayStep 24 = .ok (.bipush 40, 2) := by decide +kernel
theorem dX1_wayStep_26 : decode cX1_wayStep 26 = .ok (.if_icmp .lt 5, 3) := by decide +kernel
theorem dX1_wayStep_29 : decode cX1_wayStep 29 = .ok (.iconst (-1), 1) := by decide +kernel
theorem dX1_wayStep_30 : decode cX1_wayStep 30 = .ok (.ireturn, 1) := by decide +kernel
theorem dX1_wayStep_31 : decode cX1_wayStep 31 = .ok (.iload 4, 2) := by decide +kernel
theorem dX1_wayStep_33 : decode cX1_wayStep 33 = .ok (.istore 5, 2) := by decide +kernel
theorem dX1_wayStep_35 : decode cX1_wayStep 35 = .ok (.iload 5, 2) := by decide +kernel
theorem dX1_wayStep_37 : decode cX1_wayStep 37 = .ok (.iload_n 2, 1) := by decide +kernel
theorem dX1_wayStep_38 : decode cX1_wayStep 38 = .ok (.iconst 1, 1) := by decide +kernel
theorem dX1_wayStep_39 : decode cX1_wayStep 39 = .ok (.iadd, 1) := by decide +kernel
theorem dX1_wayStep_40 : decode cX1_wayStep 40 = .ok (.if_icmp .le 26, 3) := by decide +kernel
theorem dX1_wayStep_43 : decode cX1_wayStep 43 = .ok (.aload_n 0, 1) := by decide +kernel
theorem dX1_wayStep_44 : decode cX1_wayStep 44 = .ok (.getfield 28, 3) := by decide +kernel
theorem dX1_wayStep_47 : decode cX1_wayStep 47 = .ok (.iload_n 3, 1) := by decide +kernel
theorem dX1_wayStep_48 : decode cX1_wayStep 48 = .ok (.iaload, 1) := by decide +kernel
theorem dX1_wayStep_49 : decode cX1_wayStep 49 = .ok (.iconst (-1), 1) := by decide +kernel
theorem dX1_wayStep_50 : decode cX1_wayStep 50 = .ok (.if_icmp .eq 16, 3) := by decide +kernel
theorem dX1_wayStep_53 : decode cX1_wayStep 53 = .ok (.aload_n 0, 1) := by decide +kernel
theorem dX1_wayStep_54 : decode cX1_wayStep 54 = .ok (.getfield 28, 3) := by decide +kernel
theorem dX1_wayStep_57 : decode cX1_wayStep 57 = .ok (.iload_n 3, 1) := by decide +kernel
theorem dX1_wayStep_58 : decode cX1_wayStep 58 = .ok (.iaload, 1) := by decide +kernel
theorem dX1_wayStep_59 : decode cX1_wayStep 59 = .ok (.istore_n 3, 1) := by decide +kernel
theorem dX1_wayStep_60 : decode cX1_wayStep 60 = .ok (.iinc 5 (-1), 3) := by decide +kernel
theorem dX1_wayStep_63 : decode cX1_wayStep 63 = .ok (.goto (-28), 3) := by decide +kernel
theorem dX1_wayStep_66 : decode cX1_wayStep 66 = .ok (.aload_n 0, 1) := by decide +kernel
theorem dX1_wayStep_67 : decode cX1_wayStep 67 = .ok (.getfield 31, 3) := by decide +kernel
theorem dX1_wayStep_70 : decode cX1_wayStep 70 = .ok (.iload_n 3, 1) := by decide +kernel
theorem dX1_wayStep_71 : decode cX1_wayStep 71 = .ok (.iaload, 1) := by decide +kernel
theorem dX1_wayStep_72 : decode cX1_wayStep 72 = .ok (.ireturn, 1) := by decide +kernel
theorem dX11_text_0 : decode cX11_text 0 = .ok (.aload_n 0, 1) := by decide +kernel
theorem dX11_text_1 : decode cX11_text 1 = .ok (.getfield 39, 3) := by decide +kernel
theorem dX11_text_4 : decode cX11_text 4 = .ok (.iload_n 1, 1) := by decide +kernel
theorem dX11_text_5 : decode cX11_text 5 = .ok (.invokevirtual 206, 3) := by decide +kernel
theorem dX11_text_8 : decode cX11_text 8 = .ok (.astore_n 3, 1) := by decide +kernel
theorem dX11_text_9 : decode cX11_text 9 = .ok (.aload_n 3, 1) := by decide +kernel
theorem dX11_text_10 : decode cX11_text 10 = .ok (.ifnull 16, 3) := by decide +kernel
theorem dX11_text_13 : decode cX11_text 13 = .ok (.iload_n 2, 1) := by decide +kernel
theorem dX11_text_14 : decode cX11_text 14 = .ok (.ifCond .lt 12, 3) := by decide +kernel
theorem dX11_text_17 : decode cX11_text 17 = .ok (.iload_n 2, 1) := by decide +kernel
theorem dX11_text_18 : decode cX11_text 18 = .ok (.aload_n 0, 1) := by decide +kernel
theorem dX11_text_19 : decode cX11_text 19 = .ok (.aload_n 3, 1) := by decide +kernel
theorem dX11_text_20 : decode cX11_text 20 = .ok (.invokevirtual 240, 3) := by decide +kernel
theorem dX11_text_23 : decode cX11_text 23 = .ok (.if_icmp .lt 5, 3) := by decide +kernel
theorem dX11_text_26 : decode cX11_text 26 = .ok (.iconst (-1), 1) := by decide +kernel
theorem dX11_text_27 : decode cX11_text 27 = .ok (.ireturn, 1) := by decide +kernel
theorem dX11_text_28 : decode cX11_text 28 = .ok (.aload_n 0, 1) := by decide +kernel
theorem dX11_text_29 : decode cX11_text 29 = .ok (.getfield 46, 3) := by decide +kernel
theorem dX11_text_32 : decode cX11_text 32 = .ok (.iload_n 2, 1) := by decide +kernel
theorem dX11_text_33 : decode cX11_text 33 = .ok (.invokevirtual 254, 3) := by decide +kernel
theorem dX11_text_36 : decode cX11_text 36 = .ok (.ireturn, 1) := by decide +kernel
theorem dX11_failed_0 : decode cX11_failed 0 = .ok (.iload_n 1, 1) := by decide +kernel
theorem dX11_failed_1 : decode cX11_failed 1 = .ok (.ifCond .lt 17, 3) := by decide +kernel
theorem dX11_failed_4 : decode cX11_failed 4 = .ok (.iload_n 1, 1) := by decide +kernel
theorem dX11_failed_5 : decode cX11_failed 5 = .ok (.aload_n 0, 1) := by decide +kernel
theorem dX11_failed_6 : decode cX11_failed 6 = .ok (.getfield 53, 3) := by decide +kernel
theorem dX11_failed_9 : decode cX11_failed 9 = .ok (.getfield 272, 3) := by decide +kernel
theorem dX11_failed_12 : decode cX11_failed 12 = .ok (.invokevirtual 112, 3) := by decide +kernel
theorem dX11_failed_15 : decode cX11_failed 15 = .ok (.if_icmp .lt 5, 3) := by decide +kernel
theorem dX11_failed_18 : decode cX11_failed 18 = .ok (.iconst (-1), 1) := by decide +kernel
theorem dX11_failed_19 : decode cX11_failed 19 = .ok (.ireturn, 1) := by decide +kernel
theorem dX11_failed_20 : decode cX11_failed 20 = .ok (.iload_n 2, 1) := by decide +kernel
theorem dX11_failed_21 : decode cX11_failed 21 = .ok (.ifCond .ne 21, 3) := by decide +kernel
theorem dX11_failed_24 : decode cX11_failed 24 = .ok (.aload_n 0, 1) := by decide +kernel
theorem dX11_failed_25 : decode cX11_failed 25 = .ok (.getfield 53, 3) := by decide +kernel
theorem dX11_failed_28 : decode cX11_failed 28 = .ok (.getfield 272, 3) := by decide +kernel
theorem dX11_failed_31 : decode cX11_failed 31 = .ok (.iload_n 1, 1) := by decide +kernel
theorem dX11_failed_32 : decode cX11_failed 32 = .ok (.invokevirtual 153, 3) := by decide +kernel
theorem dX11_failed_35 : decode cX11_failed 35 = .ok (.checkcast 275, 3) := by decide +kernel
theorem dX11_failed_38 : decode cX11_failed 38 = .ok (.getfield 277, 3) := by decide +kernel
theorem dX11_failed_41 : decode cX11_failed 41 = .ok (.ireturn, 1) := by decide +kernel
theorem dX11_failed_42 : decode cX11_failed 42 = .ok (.iload_n 2, 1) := by decide +kernel
theorem dX11_failed_43 : decode cX11_failed 43 = .ok (.iconst 1, 1) := by decide +kernel
theorem dX11_failed_44 : decode cX11_failed 44 = .ok (.if_icmp .ne 23, 3) := by decide +kernel
theorem dX11_failed_47 : decode cX11_failed 47 = .ok (.aload_n 0, 1) := by decide +kernel
theorem dX11_failed_48 : decode cX11_failed 48 = .ok (.getfield 53, 3) := by decide +kernel
theorem dX11_failed_51 : decode cX11_failed 51 = .ok (.getfield 272, 3) := by decide +kernel
theorem dX11_failed_54 : decode cX11_failed 54 = .ok (.iload_n 1, 1) := by decide +kernel
theorem dX11_failed_55 : decode cX11_failed 55 = .ok (.invokevirtual 153, 3) := by decide +kernel
theorem dX11_failed_58 : decode cX11_failed 58 = .ok (.checkcast 275, 3) := by decide +kernel
theorem dX11_failed_61 : decode cX11_failed 61 = .ok (.getfield 280, 3) := by decide +kernel
theorem dX11_failed_64 : decode cX11_failed 64 = .ok (.goto 4, 3) := by decide +kernel
theorem dX11_failed_67 : decode cX11_failed 67 = .ok (.iconst (-1), 1) := by decide +kernel
theorem dX11_failed_68 : decode cX11_failed 68 = .ok (.ireturn, 1) := by decide +kernel
theorem dX11_asked_0 : decode cX11_asked 0 = .ok (.aload_n 0, 1) := by decide +kernel
theorem dX11_asked_1 : decode cX11_asked 1 = .ok (.getfield 53, 3) := by decide +kernel
theorem dX11_asked_4 : decode cX11_asked 4 = .ok (.iload_n 1, 1) := by decide +kernel
theorem dX11_asked_5 : decode cX11_asked 5 = .ok (.invokevirtual 281, 3) := by decide +kernel
theorem dX11_asked_8 : decode cX11_asked 8 = .ok (.astore_n 3, 1) := by decide +kernel
theorem dX11_asked_9 : decode cX11_asked 9 = .ok (.aload_n 3, 1) := by decide +kernel
theorem dX11_asked_10 : decode cX11_asked 10 = .ok (.ifnonnull 5, 3) := by decide +kernel
theorem dX11_asked_13 : decode cX11_asked 13 = .ok (.iconst (-1), 1) := by decide +kernel
theorem dX11_asked_14 : decode cX11_asked 14 = .ok (.ireturn, 1) := by decide +kernel
theorem dX11_asked_15 : decode cX11_asked 15 = .ok (.iload_n 2, 1) := by decide +kernel
theorem dX11_asked_16 : decode cX11_asked 16 = .ok (.ifCond .ne 8, 3) := by decide +kernel
theorem dX11_asked_19 : decode cX11_asked 19 = .ok (.aload_n 3, 1) := by decide +kernel
theorem dX11_asked_20 : decode cX11_asked 20 = .ok (.getfield 285, 3) := by decide +kernel
theorem dX11_asked_23 : decode cX11_asked 23 = .ok (.ireturn, 1) := by decide +kernel
theorem dX11_asked_24 : decode cX11_asked 24 = .ok (.iload_n 2, 1) := by decide +kernel
theorem dX11_asked_25 : decode cX11_asked 25 = .ok (.iconst 1, 1) := by decide +kernel
theorem dX11_asked_26 : decode cX11_asked 26 = .ok (.if_icmp .ne 10, 3) := by decide +kernel
theorem dX11_asked_29 : decode cX11_asked 29 = .ok (.aload_n 3, 1) := by decide +kernel
theorem dX11_asked_30 : decode cX11_asked 30 = .ok (.getfield 288, 3) := by decide +kernel
theorem dX11_asked_33 : decode cX11_asked 33 = .ok (.goto 4, 3) := by decide +kernel
theorem dX11_asked_36 : decode cX11_asked 36 = .ok (.iconst (-1), 1) := by decide +kernel
theorem dX11_asked_37 : decode cX11_asked 37 = .ok (.ireturn, 1) := by decide +kernel
theorem dX11_cut_0 : decode cX11_cut 0 = .ok (.iload_n 1, 1) := by decide +kernel
theorem dX11_cut_1 : decode cX11_cut 1 = .ok (.ifCond .lt 26, 3) := by decide +kernel
theorem dX11_cut_4 : decode cX11_cut 4 = .ok (.iload_n 1, 1) := by decide +kernel
theorem dX11_cut_5 : decode cX11_cut 5 = .ok (.aload_n 0, 1) := by decide +kernel
theorem dX11_cut_6 : decode cX11_cut 6 = .ok (.getfield 39, 3) := by decide +kernel
theorem dX11_cut_9 : decode cX11_cut 9 = .ok (.getfield 291, 3) := by decide +kernel
theorem dX11_cut_12 : decode cX11_cut 12 = .ok (.if_icmp .ge 15, 3) := by decide +kernel
theorem dX11_cut_15 : decode cX11_cut 15 = .ok (.aload_n 0, 1) := by decide +kernel
theorem dX11_cut_16 : decode cX11_cut 16 = .ok (.getfield 39, 3) := by decide +kernel
theorem dX11_cut_19 : decode cX11_cut 19 = .ok (.getfield 294, 3) := by decide +kernel
theorem dX11_cut_22 : decode cX11_cut 22 = .ok (.iload_n 1, 1) := by decide +kernel
theorem dX11_cut_23 : decode cX11_cut 23 = .ok (.iaload, 1) := by decide +kernel
theorem dX11_cut_24 : decode cX11_cut 24 = .ok (.goto 4, 3) := by decide +kernel
theorem dX11_cut_27 : decode cX11_cut 27 = .ok (.iconst (-1), 1) := by decide +kernel
theorem dX11_cut_28 : decode cX11_cut 28 = .ok (.ireturn, 1) := by decide +kernel
theorem dX11_groups_0 : decode cX11_groups 0 = .ok (.aload_n 0, 1) := by decide +kernel
theorem dX11_groups_1 : decode cX11_groups 1 = .ok (.getfield 39, 3) := by decide +kernel
theorem dX11_groups_4 : decode cX11_groups 4 = .ok (.getfield 298, 3) := by decide +kernel
theorem dX11_groups_7 : decode cX11_groups 7 = .ok (.ireturn, 1) := by decide +kernel
theorem dX11_wouldBe_0 : decode cX11_wouldBe 0 = .ok (.aload_n 0, 1) := by decide +kernel
theorem dX11_wouldBe_1 : decode cX11_wouldBe 1 = .ok (.iload_n 1, 1) := by decide +kernel
theorem dX11_wouldBe_2 : decode cX11_wouldBe 2 = .ok (.invokevirtual 157, 3) := by decide +kernel
theorem dX11_wouldBe_5 : decode cX11_wouldBe 5 = .ok (.astore 4, 2) := by decide +kernel
theorem dX11_wouldBe_7 : decode cX11_wouldBe 7 = .ok (.aload 4, 2) := by decide +kernel
theorem dX11_wouldBe_9 : decode cX11_wouldBe 9 = .ok (.ifnull 13, 3) := by decide +kernel
theorem dX11_wouldBe_12 : decode cX11_wouldBe 12 = .ok (.aload 4, 2) := by decide +kernel
theorem dX11_wouldBe_14 : decode cX11_wouldBe 14 = .ok (.iload_n 2, 1) := by decide +kernel
theorem dX11_wouldBe_15 : decode cX11_wouldBe 15 = .ok (.invokevirtual 161, 3) := by decide +kernel
theorem dX11_wouldBe_18 : decode cX11_wouldBe 18 = .ok (.iconst 1, 1) := by decide +kernel
theorem dX11_wouldBe_19 : decode cX11_wouldBe 19 = .ok (.if_icmp .eq 5, 3) := by decide +kernel
theorem dX11_wouldBe_22 : decode cX11_wouldBe 22 = .ok (.iconst (-1), 1) := by decide +kernel
theorem dX11_wouldBe_23 : decode cX11_wouldBe 23 = .ok (.ireturn, 1) := by decide +kernel
theorem dX11_wouldBe_24 : decode cX11_wouldBe 24 = .ok (.aload_n 0, 1) := by decide +kernel
theorem dX11_wouldBe_25 : decode cX11_wouldBe 25 = .ok (.getfield 53, 3) := by decide +kernel
theorem dX11_wouldBe_28 : decode cX11_wouldBe 28 = .ok (.aload 4, 2) := by decide +kernel
theorem dX11_wouldBe_30 : decode cX11_wouldBe 30 = .ok (.getfield 172, 3) := by decide +kernel
theorem dX11_wouldBe_33 : decode cX11_wouldBe 33 = .ok (.getfield 128, 3) := by decide +kernel
theorem dX11_wouldBe_36 : decode cX11_wouldBe 36 = .ok (.iload_n 2, 1) := by decide +kernel
theorem dX11_wouldBe_37 : decode cX11_wouldBe 37 = .ok (.invokevirtual 153, 3) := by decide +kernel
theorem dX11_wouldBe_40 : decode cX11_wouldBe 40 = .ok (.checkcast 301, 3) := by decide +kernel
theorem dX11_wouldBe_43 : decode cX11_wouldBe 43 = .ok (.iload_n 3, 1) := by decide +kernel
theorem dX11_wouldBe_44 : decode cX11_wouldBe 44 = .ok (.invokevirtual 303, 3) := by decide +kernel
theorem dX11_wouldBe_47 : decode cX11_wouldBe 47 = .ok (.ireturn, 1) := by decide +kernel
theorem dX0_countAgainst_0 : decode cX0_countAgainst 0 = .ok (.iconst 0, 1) := by decide +kernel
theorem dX0_countAgainst_1 : decode cX0_countAgainst 1 = .ok (.istore_n 3, 1) := by decide +kernel
theorem dX0_countAgainst_2 : decode cX0_countAgainst 2 = .ok (.iconst 0, 1) := by decide +kernel
theorem dX0_countAgainst_3 : decode cX0_countAgainst 3 = .ok (.istore 4, 2) := by decide +kernel
theorem dX0_countAgainst_5 : decode cX0_countAgainst 5 = .ok (.iload 4, 2) := by decide +kernel
theorem dX0_countAgainst_7 : decode cX0_countAgainst 7 = .ok (.aload_n 1, 1) := by decide +kernel
theorem dX0_countAgainst_8 : decode cX0_countAgainst 8 = .ok (.getfield 111, 3) := by decide +kernel
theorem dX0_countAgainst_11 : decode cX0_countAgainst 11 = .ok (.invokevirtual 70, 3) := by decide +kernel
theorem dX0_countAgainst_14 : decode cX0_countAgainst 14 = .ok (.if_icmp .ge 104, 3) := by decide +kernel
theorem dX0_countAgainst_17 : decode cX0_countAgainst 17 = .ok (.aload_n 1, 1) := by decide +kernel
theorem dX0_countAgainst_18 : decode cX0_countAgainst 18 = .ok (.getfield 111, 3) := by decide +kernel
theorem dX0_countAgainst_21 : decode cX0_countAgainst 21 = .ok (.iload 4, 2) := by decide +kernel
theorem dX0_countAgainst_23 : decode cX0_countAgainst 23 = .ok (.invokevirtual 74, 3) := by decide +kernel
theorem dX0_countAgainst_26 : decode cX0_countAgainst 26 = .ok (.checkcast 97, 3) := by decide +kernel
theorem dX0_countAgainst_29 : decode cX0_countAgainst 29 = .ok (.astore 5, 2) := by decide +kernel
theorem dX0_countAgainst_31 : decode cX0_countAgainst 31 = .ok (.aload 5, 2) := by decide +kernel
theorem dX0_countAgainst_33 : decode cX0_countAgainst 33 = .ok (.getfield 116, 3) := by decide +kernel
theorem dX0_countAgainst_36 : decode cX0_countAgainst 36 = .ok (.bipush 100, 2) := by decide +kernel
theorem dX0_countAgainst_38 : decode cX0_countAgainst 38 = .ok (.if_icmp .ge 23, 3) := by decide +kernel
theorem dX0_countAgainst_41 : decode cX0_countAgainst 41 = .ok (.iload_n 3, 1) := by decide +kernel
theorem dX0_countAgainst_42 : decode cX0_countAgainst 42 = .ok (.aload 5, 2) := by decide +kernel
theorem dX0_countAgainst_44 : decode cX0_countAgainst 44 = .ok (.iload_n 2, 1) := by decide +kernel
theorem dX0_countAgainst_45 : decode cX0_countAgainst 45 = .ok (.invokevirtual 119, 3) := by decide +kernel
theorem dX0_countAgainst_48 : decode cX0_countAgainst 48 = .ok (.ifCond .eq 7, 3) := by decide +kernel
theorem dX0_countAgainst_51 : decode cX0_countAgainst 51 = .ok (.iconst 0, 1) := by decide +kernel
theorem dX0_countAgainst_52 : decode cX0_countAgainst 52 = .ok (.goto 4, 3) := by decide +kernel
theorem dX0_countAgainst_55 : decode cX0_countAgainst 55 = .ok (.iconst 1, 1) := by decide +kernel
theorem dX0_countAgainst_56 : decode cX0_countAgainst 56 = .ok (.iadd, 1) := by decide +kernel
theorem dX0_countAgainst_57 : decode cX0_countAgainst 57 = .ok (.istore_n 3, 1) := by decide +kernel
theorem dX0_countAgainst_58 : decode cX0_countAgainst 58 = .ok (.goto 54, 3) := by decide +kernel
theorem dX0_countAgainst_61 : decode cX0_countAgainst 61 = .ok (.aload_n 0, 1) := by decide +kernel
theorem dX0_countAgainst_62 : decode cX0_countAgainst 62 = .ok (.aload 5, 2) := by decide +kernel
theorem dX0_countAgainst_64 : decode cX0_countAgainst 64 = .ok (.getfield 116, 3) := by decide +kernel
theorem dX0_countAgainst_67 : decode cX0_countAgainst 67 = .ok (.bipush 100, 2) := by decide +kernel
theorem dX0_countAgainst_69 : decode cX0_countAgainst 69 = .ok (.isub, 1) := by decide +kernel
theorem dX0_countAgainst_70 : decode cX0_countAgainst 70 = .ok (.invokevirtual 123, 3) := by decide +kernel
theorem dX0_countAgainst_73 : decode cX0_countAgainst 73 = .ok (.astore 6, 2) := by decide +kernel
theorem dX0_countAgainst_75 : decode cX0_countAgainst 75 = .ok (.aload 6, 2) := by decide +kernel
theorem dX0_countAgainst_77 : decode cX0_countAgainst 77 = .ok (.ifnull 35, 3) := by decide +kernel
theorem dX0_countAgainst_80 : decode cX0_countAgainst 80 = .ok (.aload 6, 2) := by decide +kernel
theorem dX0_countAgainst_82 : decode cX0_countAgainst 82 = .ok (.getfield 82, 3) := by decide +kernel
theorem dX0_countAgainst_85 : decode cX0_countAgainst 85 = .ok (.iconst 1, 1) := by decide +kernel
theorem dX0_countAgainst_86 : decode cX0_countAgainst 86 = .ok (.if_icmp .ne 26, 3) := by decide +kernel
theorem dX0_countAgainst_89 : decode cX0_countAgainst 89 = .ok (.aload_n 0, 1) := by decide +kernel
theorem dX0_countAgainst_90 : decode cX0_countAgainst 90 = .ok (.aload 6, 2) := by decide +kernel
theorem dX0_countAgainst_92 : decode cX0_countAgainst 92 = .ok (.iload_n 2, 1) := by decide +kernel
theorem dX0_countAgainst_93 : decode cX0_countAgainst 93 = .ok (.aload 5, 2) := by decide +kernel
theorem dX0_countAgainst_95 : decode cX0_countAgainst 95 = .ok (.invokevirtual 127, 3) := by decide +kernel
theorem dX0_countAgainst_98 : decode cX0_countAgainst 98 = .ok (.ifCond .eq 14, 3) := by decide +kernel
theorem dX0_countAgainst_101 : decode cX0_countAgainst 101 = .ok (.aload 6, 2) := by decide +kernel
theorem dX0_countAgainst_103 : decode cX0_countAgainst 103 = .ok (.getfield 89, 3) := by decide +kernel
theorem dX0_countAgainst_106 : decode cX0_countAgainst 106 = .ok (.ifCond .ne 6, 3) := by decide +kernel
theorem dX0_countAgainst_109 : decode cX0_countAgainst 109 = .ok (.iinc 3 1, 3) := by decide +kernel
theorem dX0_countAgainst_112 : decode cX0_countAgainst 112 = .ok (.iinc 4 1, 3) := by decide +kernel
theorem dX0_countAgainst_115 : decode cX0_countAgainst 115 = .ok (.goto (-110), 3) := by decide +kernel
theorem dX0_countAgainst_118 : decode cX0_countAgainst 118 = .ok (.iload_n 3, 1) := by decide +kernel
theorem dX0_countAgainst_119 : decode cX0_countAgainst 119 = .ok (.ireturn, 1) := by decide +kernel
theorem dX11_correct_0 : decode cX11_correct 0 = .ok (.aload_n 0, 1) := by decide +kernel
theorem dX11_correct_1 : decode cX11_correct 1 = .ok (.getfield 39, 3) := by decide +kernel
theorem dX11_correct_4 : decode cX11_correct 4 = .ok (.invokevirtual 307, 3) := by decide +kernel
theorem dX11_correct_7 : decode cX11_correct 7 = .ok (.ireturn, 1) := by decide +kernel
theorem dX1_setProposals_0 : decode cX1_setProposals 0 = .ok (.aload_n 0, 1) := by decide +kernel
theorem dX1_setProposals_1 : decode cX1_setProposals 1 = .ok (.getfield 70, 3) := by decide +kernel
theorem dX1_setProposals_4 : decode cX1_setProposals 4 = .ok (.iconst (-1), 1) := by decide +kernel
theorem dX1_setProposals_5 : decode cX1_setProposals 5 = .ok (.if_icmp .eq 10, 3) := by decide +kernel
theorem dX1_setProposals_8 : decode cX1_setProposals 8 = .ok (.aload_n 0, 1) := by decide +kernel
theorem dX1_setProposals_9 : decode cX1_setProposals 9 = .ok (.getfield 60, 3) := by decide +kernel
theorem dX1_setProposals_12 : decode cX1_setProposals 12 = .ok (.ifCond .eq 5, 3) := by decide +kernel
theorem dX1_setProposals_15 : decode cX1_setProposals 15 = .ok (.iconst (-1), 1) := by decide +kernel
theorem dX1_setProposals_16 : decode cX1_setProposals 16 = .ok (.ireturn, 1) := by decide +kernel
theorem dX1_setProposals_17 : decode cX1_setProposals 17 = .ok (.aload_n 0, 1) := by decide +kernel
theorem dX1_setProposals_18 : decode cX1_setProposals 18 = .ok (.iconst 1, 1) := by decide +kernel
theorem dX1_setProposals_19 : decode cX1_setProposals 19 = .ok (.putfield 60, 3) := by decide +kernel
theorem dX1_setProposals_22 : decode cX1_setProposals 22 = .ok (.iconst 0, 1) := by decide +kernel
theorem dX1_setProposals_23 : decode cX1_setProposals 23 = .ok (.istore_n 1, 1) := by decide +kernel
theorem dX1_setProposals_24 : decode cX1_setProposals 24 = .ok (.iconst 0, 1) := by decide +kernel
theorem dX1_setProposals_25 : decode cX1_setProposals 25 = .ok (.istore_n 2, 1) := by decide +kernel
theorem dX1_setProposals_26 : decode cX1_setProposals 26 = .ok (.iload_n 2, 1) := by decide +kernel
theorem dX1_setProposals_27 : decode cX1_setProposals 27 = .ok (.aload_n 0, 1) := by decide +kernel
theorem dX1_setProposals_28 : decode cX1_setProposals 28 = .ok (.getfield 43, 3) := by decide +kernel
theorem dX1_setProposals_31 : decode cX1_setProposals 31 = .ok (.if_icmp .ge 112, 3) := by decide +kernel
theorem dX1_setProposals_34 : decode cX1_setProposals 34 = .ok (.iload_n 2, 1) := by decide +kernel
theorem dX1_setProposals_35 : decode cX1_setProposals 35 = .ok (.aload_n 0, 1) := by decide +kernel
theorem dX1_setProposals_36 : decode cX1_setProposals 36 = .ok (.getfield 18, 3) := by decide +kernel
theorem dX1_setProposals_39 : decode cX1_setProposals 39 = .ok (.invokevirtual 81, 3) := by decide +kernel
theorem dX1_setProposals_42 : decode cX1_setProposals 42 = .ok (.if_icmp .ge 101, 3) := by decide +kernel
theorem dX1_setProposals_45 : decode cX1_setProposals 45 = .ok (.aload_n 0, 1) := by decide +kernel
theorem dX1_setProposals_46 : decode cX1_setProposals 46 = .ok (.getfield 18, 3) := by decide +kernel
theorem dX1_setProposals_49 : decode cX1_setProposals 49 = .ok (.iload_n 2, 1) := by decide +kernel
theorem dX1_setProposals_50 : decode cX1_setProposals 50 = .ok (.invokevirtual 85, 3) := by decide +kernel
theorem dX1_setProposals_53 : decode cX1_setProposals 53 = .ok (.checkcast 226, 3) := by decide +kernel
theorem dX1_setProposals_56 : decode cX1_setProposals 56 = .ok (.astore_n 3, 1) := by decide +kernel
theorem dX1_setProposals_57 : decode cX1_setProposals 57 = .ok (.aload_n 3, 1) := by decide +kernel
theorem dX1_setProposals_58 : decode cX1_setProposals 58 = .ok (.getfield 271, 3) := by decide +kernel
theorem dX1_setProposals_61 : decode cX1_setProposals 61 = .ok (.ifCond .eq 76, 3) := by decide +kernel
theorem dX1_setProposals_64 : decode cX1_setProposals 64 = .ok (.aload_n 3, 1) := by decide +kernel
theorem dX1_setProposals_65 : decode cX1_setProposals 65 = .ok (.getfield 240, 3) := by decide +kernel
theorem dX1_setProposals_68 : decode cX1_setProposals 68 = .ok (.ifCond .lt 69, 3) := by decide +kernel
theorem dX1_setProposals_71 : decode cX1_setProposals 71 = .ok (.aload_n 3, 1) := by decide +kernel
theorem dX1_setProposals_72 : decode cX1_setProposals 72 = .ok (.getfield 240, 3) := by decide +kernel
theorem dX1_setProposals_75 : decode cX1_setProposals 75 = .ok (.aload_n 0, 1) := by decide +kernel
theorem dX1_setProposals_76 : decode cX1_setProposals 76 = .ok (.getfield 9, 3) := by decide +kernel
theorem dX1_setProposals_79 : decode cX1_setProposals 79 = .ok (.invokevirtual 81, 3) := by decide +kernel
theorem dX1_setProposals_82 : decode cX1_setProposals 82 = .ok (.if_icmp .ge 55, 3) := by decide +kernel
theorem dX1_setProposals_85 : decode cX1_setProposals 85 = .ok (.aload_n 0, 1) := by decide +kernel
theorem dX1_setProposals_86 : decode cX1_setProposals 86 = .ok (.getfield 9, 3) := by decide +kernel
theorem dX1_setProposals_89 : decode cX1_setProposals 89 = .ok (.aload_n 3, 1) := by decide +kernel
theorem dX1_setProposals_90 : decode cX1_setProposals 90 = .ok (.getfield 240, 3) := by decide +kernel
theorem dX1_setProposals_93 : decode cX1_setProposals 93 = .ok (.invokevirtual 85, 3) := by decide +kernel
theorem dX1_setProposals_96 : decode cX1_setProposals 96 = .ok (.checkcast 116, 3) := by decide +kernel
theorem dX1_setProposals_99 : decode cX1_setProposals 99 = .ok (.astore 4, 2) := by decide +kernel
theorem dX1_setProposals_101 : decode cX1_setProposals 101 = .ok (.aload_n 0, 1) := by decide +kernel
theorem dX1_setProposals_102 : decode cX1_setProposals 102 = .ok (.getfield 66, 3) := by decide +kernel
theorem dX1_setProposals_105 : decode cX1_setProposals 105 = .ok (.aload 4, 2) := by decide +kernel
theorem dX1_setProposals_107 : decode cX1_setProposals 107 = .ok (.getfield 121, 3) := by decide +kernel
theorem dX1_setProposals_110 : decode cX1_setProposals 110 = .ok (.aload_n 3, 1) := by decide +kernel
theorem dX1_setProposals_111 : decode cX1_setProposals 111 = .ok (.getfield 243, 3) := by decide +kernel
theorem dX1_setProposals_114 : decode cX1_setProposals 114 = .ok (.invokevirtual 274, 3) := by decide +kernel
theorem dX1_setProposals_117 : decode cX1_setProposals 117 = .ok (.ifCond .ne 20, 3) := by decide +kernel
theorem dX1_setProposals_120 : decode cX1_setProposals 120 = .ok (.aload 4, 2) := by decide +kernel
theorem dX1_setProposals_122 : decode cX1_setProposals 122 = .ok (.aload_n 3, 1) := by decide +kernel
theorem dX1_setProposals_123 : decode cX1_setProposals 123 = .ok (.getfield 243, 3) := by decide +kernel
theorem dX1_setProposals_126 : decode cX1_setProposals 126 = .ok (.aload_n 3, 1) := by decide +kernel
theorem dX1_setProposals_127 : decode cX1_setProposals 127 = .ok (.getfield 264, 3) := by decide +kernel
theorem dX1_setProposals_130 : decode cX1_setProposals 130 = .ok (.iconst 1, 1) := by decide +kernel
theorem dX1_setProposals_131 : decode cX1_setProposals 131 = .ok (.invokevirtual 278, 3) := by decide +kernel
theorem dX1_setProposals_134 : decode cX1_setProposals 134 = .ok (.iinc 1 1, 3) := by decide +kernel
theorem dX1_setProposals_137 : decode cX1_setProposals 137 = .ok (.iinc 2 1, 3) := by decide +kernel
theorem dX1_setProposals_140 : decode cX1_setProposals 140 = .ok (.goto (-114), 3) := by decide +kernel
theorem dX1_setProposals_143 : decode cX1_setProposals 143 = .ok (.iload_n 1, 1) := by decide +kernel
theorem dX1_setProposals_144 : decode cX1_setProposals 144 = .ok (.ireturn, 1) := by decide +kernel
theorem dX0_isRead_0 : decode cX0_isRead 0 = .ok (.iconst 0, 1) := by decide +kernel
theorem dX0_isRead_1 : decode cX0_isRead 1 = .ok (.istore_n 3, 1) := by decide +kernel
theorem dX0_isRead_2 : decode cX0_isRead 2 = .ok (.iload_n 3, 1) := by decide +kernel
theorem dX0_isRead_3 : decode cX0_isRead 3 = .ok (.aload_n 0, 1) := by decide +kernel
theorem dX0_isRead_4 : decode cX0_isRead 4 = .ok (.getfield 24, 3) := by decide +kernel
theorem dX0_isRead_7 : decode cX0_isRead 7 = .ok (.invokevirtual 70, 3) := by decide +kernel
theorem dX0_isRead_10 : decode cX0_isRead 10 = .ok (.if_icmp .ge 113, 3) := by decide +kernel
theorem dX0_isRead_13 : decode cX0_isRead 13 = .ok (.aload_n 0, 1) := by decide +kernel
theorem dX0_isRead_14 : decode cX0_isRead 14 = .ok (.getfield 24, 3) := by decide +kernel
theorem dX0_isRead_17 : decode cX0_isRead 17 = .ok (.iload_n 3, 1) := by decide +kernel
theorem dX0_isRead_18 : decode cX0_isRead 18 = .ok (.invokevirtual 74, 3) := by decide +kernel
theorem dX0_isRead_21 : decode cX0_isRead 21 = .ok (.checkcast 78, 3) := by decide +kernel
theorem dX0_isRead_24 : decode cX0_isRead 24 = .ok (.astore 4, 2) := by decide +kernel
theorem dX0_isRead_26 : decode cX0_isRead 26 = .ok (.aload_n 1, 1) := by decide +kernel
theorem dX0_isRead_27 : decode cX0_isRead 27 = .ok (.iload_n 3, 1) := by decide +kernel
theorem dX0_isRead_28 : decode cX0_isRead 28 = .ok (.invokevirtual 131, 3) := by decide +kernel
theorem dX0_isRead_31 : decode cX0_isRead 31 = .ok (.istore 5, 2) := by decide +kernel
theorem dX0_isRead_33 : decode cX0_isRead 33 = .ok (.iconst 0, 1) := by decide +kernel
theorem dX0_isRead_34 : decode cX0_isRead 34 = .ok (.istore 6, 2) := by decide +kernel
theorem dX0_isRead_36 : decode cX0_isRead 36 = .ok (.iload 6, 2) := by decide +kernel
theorem dX0_isRead_38 : decode cX0_isRead 38 = .ok (.aload 4, 2) := by decide +kernel
theorem dX0_isRead_40 : decode cX0_isRead 40 = .ok (.getfield 134, 3) := by decide +kernel
theorem dX0_isRead_43 : decode cX0_isRead 43 = .ok (.getfield 111, 3) := by decide +kernel
theorem dX0_isRead_46 : decode cX0_isRead 46 = .ok (.invokevirtual 70, 3) := by decide +kernel
theorem dX0_isRead_49 : decode cX0_isRead 49 = .ok (.if_icmp .ge 68, 3) := by decide +kernel
theorem dX0_isRead_52 : decode cX0_isRead 52 = .ok (.aload 4, 2) := by decide +kernel
theorem dX0_isRead_54 : decode cX0_isRead 54 = .ok (.getfield 134, 3) := by decide +kernel
theorem dX0_isRead_57 : decode cX0_isRead 57 = .ok (.getfield 111, 3) := by decide +kernel
theorem dX0_isRead_60 : decode cX0_isRead 60 = .ok (.iload 6, 2) := by decide +kernel
theorem dX0_isRead_62 : decode cX0_isRead 62 = .ok (.invokevirtual 74, 3) := by decide +kernel
theorem dX0_isRead_65 : decode cX0_isRead 65 = .ok (.checkcast 97, 3) := by decide +kernel
theorem dX0_isRead_68 : decode cX0_isRead 68 = .ok (.astore 7, 2) := by decide +kernel
theorem dX0_isRead_70 : decode cX0_isRead 70 = .ok (.iload 5, 2) := by decide +kernel
theorem dX0_isRead_72 : decode cX0_isRead 72 = .ok (.ifCond .eq 14, 3) := by decide +kernel
theorem dX0_isRead_75 : decode cX0_isRead 75 = .ok (.aload 7, 2) := by decide +kernel
theorem dX0_isRead_77 : decode cX0_isRead 77 = .ok (.iload_n 2, 1) := by decide +kernel
theorem dX0_isRead_78 : decode cX0_isRead 78 = .ok (.invokevirtual 138, 3) := by decide +kernel
theorem dX0_isRead_81 : decode cX0_isRead 81 = .ok (.ifCond .eq 5, 3) := by decide +kernel
theorem dX0_isRead_84 : decode cX0_isRead 84 = .ok (.iconst 1, 1) := by decide +kernel
theorem dX0_isRead_85 : decode cX0_isRead 85 = .ok (.ireturn, 1) := by decide +kernel
theorem dX0_isRead_86 : decode cX0_isRead 86 = .ok (.aload 7, 2) := by decide +kernel
theorem dX0_isRead_88 : decode cX0_isRead 88 = .ok (.iload_n 2, 1) := by decide +kernel
theorem dX0_isRead_89 : decode cX0_isRead 89 = .ok (.invokevirtual 141, 3) := by decide +kernel
theorem dX0_isRead_92 : decode cX0_isRead 92 = .ok (.ifCond .eq 19, 3) := by decide +kernel
theorem dX0_isRead_95 : decode cX0_isRead 95 = .ok (.aload_n 1, 1) := by decide +kernel
theorem dX0_isRead_96 : decode cX0_isRead 96 = .ok (.aload 4, 2) := by decide +kernel
theorem dX0_isRead_98 : decode cX0_isRead 98 = .ok (.aload 7, 2) := by decide +kernel
theorem dX0_isRead_100 : decode cX0_isRead 100 = .ok (.invokevirtual 144, 3) := by decide +kernel
theorem dX0_isRead_103 : decode cX0_isRead 103 = .ok (.invokevirtual 131, 3) := by decide +kernel
theorem dX0_isRead_106 : decode cX0_isRead 106 = .ok (.ifCond .eq 5, 3) := by decide +kernel
theorem dX0_isRead_109 : decode cX0_isRead 109 = .ok (.iconst 1, 1) := by decide +kernel
theorem dX0_isRead_110 : decode cX0_isRead 110 = .ok (.ireturn, 1) := by decide +kernel
theorem dX0_isRead_111 : decode cX0_isRead 111 = .ok (.iinc 6 1, 3) := by decide +kernel
theorem dX0_isRead_114 : decode cX0_isRead 114 = .ok (.goto (-78), 3) := by decide +kernel
theorem dX0_isRead_117 : decode cX0_isRead 117 = .ok (.iinc 3 1, 3) := by decide +kernel
theorem dX0_isRead_120 : decode cX0_isRead 120 = .ok (.goto (-118), 3) := by decide +kernel
theorem dX0_isRead_123 : decode cX0_isRead 123 = .ok (.iconst 0, 1) := by decide +kernel
theorem dX0_isRead_124 : decode cX0_isRead 124 = .ok (.ireturn, 1) := by decide +kernel
theorem dX10_readsHere_0 : decode cX10_readsHere 0 = .ok (.aload_n 0, 1) := by decide +kernel
theorem dX10_readsHere_1 : decode cX10_readsHere 1 = .ok (.getfield 9, 3) := by decide +kernel
theorem dX10_readsHere_4 : decode cX10_readsHere 4 = .ok (.bipush 7, 2) := by decide +kernel
theorem dX10_readsHere_6 : decode cX10_readsHere 6 = .ok (.if_icmp .ne 27, 3) := by decide +kernel
theorem dX10_readsHere_9 : decode cX10_readsHere 9 = .ok (.aload_n 0, 1) := by decide +kernel
theorem dX10_readsHere_10 : decode cX10_readsHere 10 = .ok (.iconst 0, 1) := by decide +kernel
theorem dX10_readsHere_11 : decode cX10_readsHere 11 = .ok (.invokevirtual 52, 3) := by decide +kernel
theorem dX10_readsHere_14 : decode cX10_readsHere 14 = .ok (.iload_n 1, 1) := by decide +kernel
theorem dX10_readsHere_15 : decode cX10_readsHere 15 = .ok (.if_icmp .eq 12, 3) := by decide +kernel
theorem dX10_readsHere_18 : decode cX10_readsHere 18 = .ok (.aload_n 0, 1) := by decide +kernel
theorem dX10_readsHere_19 : decode cX10_readsHere 19 = .ok (.iconst 1, 1) := by decide +kernel
theorem dX10_readsHere_20 : decode cX10_readsHere 20 = .ok (.invokevirtual 52, 3) := by decide +kernel
theorem dX10_readsHere_23 : decode cX10_readsHere 23 = .ok (.iload_n 1, 1) := by decide +kernel
theorem dX10_readsHere_24 : decode cX10_readsHere 24 = .ok (.if_icmp .ne 7, 3) := by decide +kernel
theorem dX10_readsHere_27 : decode cX10_readsHere 27 = .ok (.iconst 1, 1) := by decide +kernel
theorem dX10_readsHere_28 : decode cX10_readsHere 28 = .ok (.goto 4, 3) := by decide +kernel
theorem dX10_readsHere_31 : decode cX10_readsHere 31 = .ok (.iconst 0, 1) := by decide +kernel
theorem dX10_readsHere_32 : decode cX10_readsHere 32 = .ok (.ireturn, 1) := by decide +kernel
theorem dX10_readsHere_33 : decode cX10_readsHere 33 = .ok (.aload_n 0, 1) := by decide +kernel
theorem dX10_readsHere_34 : decode cX10_readsHere 34 = .ok (.getfield 9, 3) := by decide +kernel
theorem dX10_readsHere_37 : decode cX10_readsHere 37 = .ok (.bipush 8, 2) := by decide +kernel
theorem dX10_readsHere_39 : decode cX10_readsHere 39 = .ok (.if_icmp .ne 16, 3) := by decide +kernel
theorem dX10_readsHere_42 : decode cX10_readsHere 42 = .ok (.aload_n 0, 1) := by decide +kernel
theorem dX10_readsHere_43 : decode cX10_readsHere 43 = .ok (.iconst 2, 1) := by decide +kernel
theorem dX10_readsHere_44 : decode cX10_readsHere 44 = .ok (.invokevirtual 52, 3) := by decide +kernel
theorem dX10_readsHere_47 : decode cX10_readsHere 47 = .ok (.iload_n 1, 1) := by decide +kernel
theorem dX10_readsHere_48 : decode cX10_readsHere 48 = .ok (.if_icmp .ne 7, 3) := by decide +kernel
theorem dX10_readsHere_51 : decode cX10_readsHere 51 = .ok (.iconst 1, 1) := by decide +kernel
theorem dX10_readsHere_52 : decode cX10_readsHere 52 = .ok (.goto 4, 3) := by decide +kernel
theorem dX10_readsHere_55 : decode cX10_readsHere 55 = .ok (.iconst 0, 1) := by decide +kernel
theorem dX10_readsHere_56 : decode cX10_readsHere 56 = .ok (.ireturn, 1) := by decide +kernel
theorem dX10_readsInList_0 : decode cX10_readsInList 0 = .ok (.aload_n 0, 1) := by decide +kernel
theorem dX10_readsInList_1 : decode cX10_readsInList 1 = .ok (.getfield 9, 3) := by decide +kernel
theorem dX10_readsInList_4 : decode cX10_readsInList 4 = .ok (.bipush 8, 2) := by decide +kernel
theorem dX10_readsInList_6 : decode cX10_readsInList 6 = .ok (.if_icmp .ne 16, 3) := by decide +kernel
theorem dX10_readsInList_9 : decode cX10_readsInList 9 = .ok (.aload_n 0, 1) := by decide +kernel
theorem dX10_readsInList_10 : decode cX10_readsInList 10 = .ok (.iconst 1, 1) := by decide +kernel
theorem dX10_readsInList_11 : decode cX10_readsInList 11 = .ok (.invokevirtual 52, 3) := by decide +kernel
theorem dX10_readsInList_14 : decode cX10_readsInList 14 = .ok (.iload_n 1, 1) := by decide +kernel
theorem dX10_readsInList_15 : decode cX10_readsInList 15 = .ok (.if_icmp .ne 7, 3) := by decide +kernel
theorem dX10_readsInList_18 : decode cX10_readsInList 18 = .ok (.iconst 1, 1) := by decide +kernel
theorem dX10_readsInList_19 : decode cX10_readsInList 19 = .ok (.goto 4, 3) := by decide +kernel
theorem dX10_readsInList_22 : decode cX10_readsInList 22 = .ok (.iconst 0, 1) := by decide +kernel
theorem dX10_readsInList_23 : decode cX10_readsInList 23 = .ok (.ireturn, 1) := by decide +kernel
theorem dX3_listKind_0 : decode cX3_listKind 0 = .ok (.aload_n 1, 1) := by decide +kernel
theorem dX3_listKind_1 : decode cX3_listKind 1 = .ok (.iconst 0, 1) := by decide +kernel
theorem dX3_listKind_2 : decode cX3_listKind 2 = .ok (.invokevirtual 70, 3) := by decide +kernel
theorem dX3_listKind_5 : decode cX3_listKind 5 = .ok (.istore_n 2, 1) := by decide +kernel
theorem dX3_listKind_6 : decode cX3_listKind 6 = .ok (.iload_n 2, 1) := by decide +kernel
theorem dX3_listKind_7 : decode cX3_listKind 7 = .ok (.ifCond .lt 31, 3) := by decide +kernel
theorem dX3_listKind_10 : decode cX3_listKind 10 = .ok (.iload_n 2, 1) := by decide +kernel
theorem dX3_listKind_11 : decode cX3_listKind 11 = .ok (.aload_n 0, 1) := by decide +kernel
theorem dX3_listKind_12 : decode cX3_listKind 12 = .ok (.getfield 18, 3) := by decide +kernel
theorem dX3_listKind_15 : decode cX3_listKind 15 = .ok (.invokevirtual 44, 3) := by decide +kernel
theorem dX3_listKind_18 : decode cX3_listKind 18 = .ok (.if_icmp .ge 20, 3) := by decide +kernel
theorem dX3_listKind_21 : decode cX3_listKind 21 = .ok (.aload_n 0, 1) := by decide +kernel
theorem dX3_listKind_22 : decode cX3_listKind 22 = .ok (.getfield 18, 3) := by decide +kernel
theorem dX3_listKind_25 : decode cX3_listKind 25 = .ok (.iload_n 2, 1) := by decide +kernel
theorem dX3_listKind_26 : decode cX3_listKind 26 = .ok (.invokevirtual 48, 3) := by decide +kernel
theorem dX3_listKind_29 : decode cX3_listKind 29 = .ok (.checkcast 22, 3) := by decide +kernel
theorem dX3_listKind_32 : decode cX3_listKind 32 = .ok (.getfield 76, 3) := by decide +kernel
theorem dX3_listKind_35 : decode cX3_listKind 35 = .ok (.goto 4, 3) := by decide +kernel
theorem dX3_listKind_38 : decode cX3_listKind 38 = .ok (.iconst (-1), 1) := by decide +kernel
theorem dX3_listKind_39 : decode cX3_listKind 39 = .ok (.ireturn, 1) := by decide +kernel
theorem dJ0_indexOf_0f7a4_0 : decode cJ0_indexOf_0f7a4 0 = .ok (.aload_n 0, 1) := by decide +kernel
theorem dJ0_indexOf_0f7a4_1 : decode cJ0_indexOf_0f7a4 1 = .ok (.iload_n 1, 1) := by decide +kernel
theorem dJ0_indexOf_0f7a4_2 : decode cJ0_indexOf_0f7a4 2 = .ok (.iconst 0, 1) := by decide +kernel
theorem dJ0_indexOf_0f7a4_3 : decode cJ0_indexOf_0f7a4 3 = .ok (.invokevirtual 633, 3) := by decide +kernel
theorem dJ0_indexOf_0f7a4_6 : decode cJ0_indexOf_0f7a4 6 = .ok (.ireturn, 1) := by decide +kernel
theorem dJ0_indexOf_7cf53_0 : decode cJ0_indexOf_7cf53 0 = .ok (.aload_n 0, 1) := by decide +kernel
theorem dJ0_indexOf_7cf53_1 : decode cJ0_indexOf_7cf53 1 = .ok (.invokevirtual 492, 3) := by decide +kernel
theorem dJ0_indexOf_7cf53_4 : decode cJ0_indexOf_7cf53 4 = .ok (.ifCond .eq 19, 3) := by decide +kernel
theorem dJ0_indexOf_7cf53_7 : decode cJ0_indexOf_7cf53 7 = .ok (.aload_n 0, 1) := by decide +kernel
theorem dJ0_indexOf_7cf53_8 : decode cJ0_indexOf_7cf53 8 = .ok (.getfield 9, 3) := by decide +kernel
theorem dJ0_indexOf_7cf53_11 : decode cJ0_indexOf_7cf53 11 = .ok (.iload_n 1, 1) := by decide +kernel
theorem dJ0_indexOf_7cf53_12 : decode cJ0_indexOf_7cf53 12 = .ok (.iload_n 2, 1) := by decide +kernel
theorem dJ0_indexOf_7cf53_13 : decode cJ0_indexOf_7cf53 13 = .ok (.aload_n 0, 1) := by decide +kernel
theorem dJ0_indexOf_7cf53_14 : decode cJ0_indexOf_7cf53 14 = .ok (.invokevirtual 505, 3) := by decide +kernel
theorem dJ0_indexOf_7cf53_17 : decode cJ0_indexOf_7cf53 17 = .ok (.invokestatic 637, 3) := by decide +kernel
theorem dJ0_indexOf_7cf53_20 : decode cJ0_indexOf_7cf53 20 = .ok (.goto 16, 3) := by decide +kernel
theorem dJ0_indexOf_7cf53_23 : decode cJ0_indexOf_7cf53 23 = .ok (.aload_n 0, 1) := by decide +kernel
theorem dJ0_indexOf_7cf53_24 : decode cJ0_indexOf_7cf53 24 = .ok (.getfield 9, 3) := by decide +kernel
theorem dJ0_indexOf_7cf53_27 : decode cJ0_indexOf_7cf53 27 = .ok (.iload_n 1, 1) := by decide +kernel
theorem dJ0_indexOf_7cf53_28 : decode cJ0_indexOf_7cf53 28 = .ok (.iload_n 2, 1) := by decide +kernel
theorem dJ0_indexOf_7cf53_29 : decode cJ0_indexOf_7cf53 29 = .ok (.aload_n 0, 1) := by decide +kernel
theorem dJ0_indexOf_7cf53_30 : decode cJ0_indexOf_7cf53 30 = .ok (.invokevirtual 505, 3) := by decide +kernel
theorem dJ0_indexOf_7cf53_33 : decode cJ0_indexOf_7cf53 33 = .ok (.invokestatic 640, 3) := by decide +kernel
theorem dJ0_indexOf_7cf53_36 : decode cJ0_indexOf_7cf53 36 = .ok (.ireturn, 1) := by decide +kernel
theorem dJ0_isLatin1_aae02_0 : decode cJ0_isLatin1_aae02 0 = .ok (.getstatic 38, 3) := by decide +kernel
theorem dJ0_isLatin1_aae02_3 : decode cJ0_isLatin1_aae02 3 = .ok (.ifCond .eq 14, 3) := by decide +kernel
theorem dJ0_isLatin1_aae02_6 : decode cJ0_isLatin1_aae02 6 = .ok (.aload_n 0, 1) := by decide +kernel
theorem dJ0_isLatin1_aae02_7 : decode cJ0_isLatin1_aae02 7 = .ok (.getfield 15, 3) := by decide +kernel
theorem dJ0_isLatin1_aae02_10 : decode cJ0_isLatin1_aae02 10 = .ok (.ifCond .ne 7, 3) := by decide +kernel
theorem dJ0_isLatin1_aae02_13 : decode cJ0_isLatin1_aae02 13 = .ok (.iconst 1, 1) := by decide +kernel
theorem dJ0_isLatin1_aae02_14 : decode cJ0_isLatin1_aae02 14 = .ok (.goto 4, 3) := by decide +kernel
theorem dJ0_isLatin1_aae02_17 : decode cJ0_isLatin1_aae02 17 = .ok (.iconst 0, 1) := by decide +kernel
theorem dJ0_isLatin1_aae02_18 : decode cJ0_isLatin1_aae02 18 = .ok (.ireturn, 1) := by decide +kernel
theorem dJ0_checkIndex_df160_0 : decode cJ0_checkIndex_df160 0 = .ok (.iload_n 0, 1) := by decide +kernel
theorem dJ0_checkIndex_df160_1 : decode cJ0_checkIndex_df160 1 = .ok (.iload_n 1, 1) := by decide +kernel
theorem dJ0_checkIndex_df160_2 : decode cJ0_checkIndex_df160 2 = .ok (.getstatic 1053, 3) := by decide +kernel
theorem dJ0_checkIndex_df160_5 : decode cJ0_checkIndex_df160 5 = .ok (.invokestatic 1059, 3) := by decide +kernel
theorem dJ0_checkIndex_df160_8 : decode cJ0_checkIndex_df160 8 = .ok (.pop, 1) := by decide +kernel
theorem dJ0_checkIndex_df160_9 : decode cJ0_checkIndex_df160 9 = .ok (.return_, 1) := by decide +kernel
theorem dJ1_canEncode_9a6ad_0 : decode cJ1_canEncode_9a6ad 0 = .ok (.iload_n 0, 1) := by decide +kernel
theorem dJ1_canEncode_9a6ad_1 : decode cJ1_canEncode_9a6ad 1 = .ok (.ifCond .lt 14, 3) := by decide +kernel
theorem dJ1_canEncode_9a6ad_4 : decode cJ1_canEncode_9a6ad 4 = .ok (.iload_n 0, 1) := by decide +kernel
theorem dJ1_canEncode_9a6ad_5 : decode cJ1_canEncode_9a6ad 5 = .ok (.sipush 255, 3) := by decide +kernel
theorem dJ1_canEncode_9a6ad_8 : decode cJ1_canEncode_9a6ad 8 = .ok (.if_icmp .gt 7, 3) := by decide +kernel
theorem dJ1_canEncode_9a6ad_11 : decode cJ1_canEncode_9a6ad 11 = .ok (.iconst 1, 1) := by decide +kernel
theorem dJ1_canEncode_9a6ad_12 : decode cJ1_canEncode_9a6ad 12 = .ok (.goto 4, 3) := by decide +kernel
theorem dJ1_canEncode_9a6ad_15 : decode cJ1_canEncode_9a6ad 15 = .ok (.iconst 0, 1) := by decide +kernel
theorem dJ1_canEncode_9a6ad_16 : decode cJ1_canEncode_9a6ad 16 = .ok (.ireturn, 1) := by decide +kernel
theorem dJ1_canEncode_fc78d_0 : decode cJ1_canEncode_fc78d 0 = .ok (.iload_n 0, 1) := by decide +kernel
theorem dJ1_canEncode_fc78d_1 : decode cJ1_canEncode_fc78d 1 = .ok (.sipush 255, 3) := by decide +kernel
theorem dJ1_canEncode_fc78d_4 : decode cJ1_canEncode_fc78d 4 = .ok (.if_icmp .gt 7, 3) := by decide +kernel
theorem dJ1_canEncode_fc78d_7 : decode cJ1_canEncode_fc78d 7 = .ok (.iconst 1, 1) := by decide +kernel
theorem dJ1_canEncode_fc78d_8 : decode cJ1_canEncode_fc78d 8 = .ok (.goto 4, 3) := by decide +kernel
theorem dJ1_canEncode_fc78d_11 : decode cJ1_canEncode_fc78d 11 = .ok (.iconst 0, 1) := by decide +kernel
theorem dJ1_canEncode_fc78d_12 : decode cJ1_canEncode_fc78d 12 = .ok (.ireturn, 1) := by decide +kernel
theorem dJ1_indexOfChar_4cfef_0 : decode cJ1_indexOfChar_4cfef 0 = .ok (.iload_n 1, 1) := by decide +kernel
theorem dJ1_indexOfChar_4cfef_1 : decode cJ1_indexOfChar_4cfef 1 = .ok (.i2b, 1) := by decide +kernel
theorem dJ1_indexOfChar_4cfef_2 : decode cJ1_indexOfChar_4cfef 2 = .ok (.istore 4, 2) := by decide +kernel
theorem dJ1_indexOfChar_4cfef_4 : decode cJ1_indexOfChar_4cfef 4 = .ok (.iload_n 2, 1) := by decide +kernel
theorem dJ1_indexOfChar_4cfef_5 : decode cJ1_indexOfChar_4cfef 5 = .ok (.istore 5, 2) := by decide +kernel
theorem dJ1_indexOfChar_4cfef_7 : decode cJ1_indexOfChar_4cfef 7 = .ok (.iload 5, 2) := by decide +kernel
theorem dJ1_indexOfChar_4cfef_9 : decode cJ1_indexOfChar_4cfef 9 = .ok (.iload_n 3, 1) := by decide +kernel
theorem dJ1_indexOfChar_4cfef_10 : decode cJ1_indexOfChar_4cfef 10 = .ok (.if_icmp .ge 21, 3) := by decide +kernel
theorem dJ1_indexOfChar_4cfef_13 : decode cJ1_indexOfChar_4cfef 13 = .ok (.aload_n 0, 1) := by decide +kernel
theorem dJ1_indexOfChar_4cfef_14 : decode cJ1_indexOfChar_4cfef 14 = .ok (.iload 5, 2) := by decide +kernel
theorem dJ1_indexOfChar_4cfef_16 : decode cJ1_indexOfChar_4cfef 16 = .ok (.baload, 1) := by decide +kernel
theorem dJ1_indexOfChar_4cfef_17 : decode cJ1_indexOfChar_4cfef 17 = .ok (.iload 4, 2) := by decide +kernel
theorem dJ1_indexOfChar_4cfef_19 : decode cJ1_indexOfChar_4cfef 19 = .ok (.if_icmp .ne 6, 3) := by decide +kernel
theorem dJ1_indexOfChar_4cfef_22 : decode cJ1_indexOfChar_4cfef 22 = .ok (.iload 5, 2) := by decide +kernel
theorem dJ1_indexOfChar_4cfef_24 : decode cJ1_indexOfChar_4cfef 24 = .ok (.ireturn, 1) := by decide +kernel
theorem dJ1_indexOfChar_4cfef_25 : decode cJ1_indexOfChar_4cfef 25 = .ok (.iinc 5 1, 3) := by decide +kernel
theorem dJ1_indexOfChar_4cfef_28 : decode cJ1_indexOfChar_4cfef 28 = .ok (.goto (-21), 3) := by decide +kernel
theorem dJ1_indexOfChar_4cfef_31 : decode cJ1_indexOfChar_4cfef 31 = .ok (.iconst (-1), 1) := by decide +kernel
theorem dJ1_indexOfChar_4cfef_32 : decode cJ1_indexOfChar_4cfef 32 = .ok (.ireturn, 1) := by decide +kernel
theorem dJ1_indexOf_4cfef_0 : decode cJ1_indexOf_4cfef 0 = .ok (.iload_n 1, 1) := by decide +kernel
theorem dJ1_indexOf_4cfef_1 : decode cJ1_indexOf_4cfef 1 = .ok (.invokestatic 88, 3) := by decide +kernel
theorem dJ1_indexOf_4cfef_4 : decode cJ1_indexOf_4cfef 4 = .ok (.ifCond .ne 5, 3) := by decide +kernel
theorem dJ1_indexOf_4cfef_7 : decode cJ1_indexOf_4cfef 7 = .ok (.iconst (-1), 1) := by decide +kernel
theorem dJ1_indexOf_4cfef_8 : decode cJ1_indexOf_4cfef 8 = .ok (.ireturn, 1) := by decide +kernel
theorem dJ1_indexOf_4cfef_9 : decode cJ1_indexOf_4cfef 9 = .ok (.iload_n 2, 1) := by decide +kernel
theorem dJ1_indexOf_4cfef_10 : decode cJ1_indexOf_4cfef 10 = .ok (.iconst 0, 1) := by decide +kernel
theorem dJ1_indexOf_4cfef_11 : decode cJ1_indexOf_4cfef 11 = .ok (.invokestatic 92, 3) := by decide +kernel
theorem dJ1_indexOf_4cfef_14 : decode cJ1_indexOf_4cfef 14 = .ok (.istore_n 2, 1) := by decide +kernel
theorem dJ1_indexOf_4cfef_15 : decode cJ1_indexOf_4cfef 15 = .ok (.iload_n 3, 1) := by decide +kernel
theorem dJ1_indexOf_4cfef_16 : decode cJ1_indexOf_4cfef 16 = .ok (.aload_n 0, 1) := by decide +kernel
theorem dJ1_indexOf_4cfef_17 : decode cJ1_indexOf_4cfef 17 = .ok (.arraylength, 1) := by decide +kernel
theorem dJ1_indexOf_4cfef_18 : decode cJ1_indexOf_4cfef 18 = .ok (.invokestatic 38, 3) := by decide +kernel
theorem dJ1_indexOf_4cfef_21 : decode cJ1_indexOf_4cfef 21 = .ok (.istore_n 3, 1) := by decide +kernel
theorem dJ1_indexOf_4cfef_22 : decode cJ1_indexOf_4cfef 22 = .ok (.iload_n 2, 1) := by decide +kernel
theorem dJ1_indexOf_4cfef_23 : decode cJ1_indexOf_4cfef 23 = .ok (.iload_n 3, 1) := by decide +kernel
theorem dJ1_indexOf_4cfef_24 : decode cJ1_indexOf_4cfef 24 = .ok (.if_icmp .lt 5, 3) := by decide +kernel
theorem dJ1_indexOf_4cfef_27 : decode cJ1_indexOf_4cfef 27 = .ok (.iconst (-1), 1) := by decide +kernel
theorem dJ1_indexOf_4cfef_28 : decode cJ1_indexOf_4cfef 28 = .ok (.ireturn, 1) := by decide +kernel
theorem dJ1_indexOf_4cfef_29 : decode cJ1_indexOf_4cfef 29 = .ok (.aload_n 0, 1) := by decide +kernel
theorem dJ1_indexOf_4cfef_30 : decode cJ1_indexOf_4cfef 30 = .ok (.iload_n 1, 1) := by decide +kernel
theorem dJ1_indexOf_4cfef_31 : decode cJ1_indexOf_4cfef 31 = .ok (.iload_n 2, 1) := by decide +kernel
theorem dJ1_indexOf_4cfef_32 : decode cJ1_indexOf_4cfef 32 = .ok (.iload_n 3, 1) := by decide +kernel
theorem dJ1_indexOf_4cfef_33 : decode cJ1_indexOf_4cfef 33 = .ok (.invokestatic 95, 3) := by decide +kernel
theorem dJ1_indexOf_4cfef_36 : decode cJ1_indexOf_4cfef 36 = .ok (.ireturn, 1) := by decide +kernel
theorem dJ3_checkIndex_8e157_0 : decode cJ3_checkIndex_8e157 0 = .ok (.iload_n 0, 1) := by decide +kernel
theorem dJ3_checkIndex_8e157_1 : decode cJ3_checkIndex_8e157 1 = .ok (.ifCond .lt 8, 3) := by decide +kernel
theorem dJ3_checkIndex_8e157_4 : decode cJ3_checkIndex_8e157 4 = .ok (.iload_n 0, 1) := by decide +kernel
theorem dJ3_checkIndex_8e157_5 : decode cJ3_checkIndex_8e157 5 = .ok (.iload_n 1, 1) := by decide +kernel
theorem dJ3_checkIndex_8e157_6 : decode cJ3_checkIndex_8e157 6 = .ok (.if_icmp .lt 10, 3) := by decide +kernel
theorem dJ3_checkIndex_8e157_9 : decode cJ3_checkIndex_8e157 9 = .ok (.aload_n 2, 1) := by decide +kernel
theorem dJ3_checkIndex_8e157_10 : decode cJ3_checkIndex_8e157 10 = .ok (.iload_n 0, 1) := by decide +kernel
theorem dJ3_checkIndex_8e157_11 : decode cJ3_checkIndex_8e157 11 = .ok (.iload_n 1, 1) := by decide +kernel
theorem dJ3_checkIndex_8e157_12 : decode cJ3_checkIndex_8e157 12 = .ok (.invokestatic 95, 3) := by decide +kernel
theorem dJ3_checkIndex_8e157_15 : decode cJ3_checkIndex_8e157 15 = .ok (.athrow, 1) := by decide +kernel
theorem dJ3_checkIndex_8e157_16 : decode cJ3_checkIndex_8e157 16 = .ok (.iload_n 0, 1) := by decide +kernel
theorem dJ3_checkIndex_8e157_17 : decode cJ3_checkIndex_8e157 17 = .ok (.ireturn, 1) := by decide +kernel
theorem dJ15_checkIndex_7cf53_0 : decode cJ15_checkIndex_7cf53 0 = .ok (.iload_n 0, 1) := by decide +kernel
theorem dJ15_checkIndex_7cf53_1 : decode cJ15_checkIndex_7cf53 1 = .ok (.iload_n 1, 1) := by decide +kernel
theorem dJ15_checkIndex_7cf53_2 : decode cJ15_checkIndex_7cf53 2 = .ok (.aconst_null, 1) := by decide +kernel
theorem dJ15_checkIndex_7cf53_3 : decode cJ15_checkIndex_7cf53 3 = .ok (.invokestatic 105, 3) := by decide +kernel
theorem dJ15_checkIndex_7cf53_6 : decode cJ15_checkIndex_7cf53 6 = .ok (.ireturn, 1) := by decide +kernel
theorem dJ4_append_bf812_0 : decode cJ4_append_bf812 0 = .ok (.aload_n 0, 1) := by decide +kernel
theorem dJ4_append_bf812_1 : decode cJ4_append_bf812 1 = .ok (.iload_n 1, 1) := by decide +kernel
theorem dJ4_append_bf812_2 : decode cJ4_append_bf812 2 = .ok (.invokespecial 53, 3) := by decide +kernel
theorem dJ4_append_bf812_5 : decode cJ4_append_bf812 5 = .ok (.pop, 1) := by decide +kernel
theorem dJ4_append_bf812_6 : decode cJ4_append_bf812 6 = .ok (.aload_n 0, 1) := by decide +kernel
theorem dJ4_append_bf812_7 : decode cJ4_append_bf812 7 = .ok (.areturn, 1) := by decide +kernel
theorem dJ4_append_cf468_0 : decode cJ4_append_cf468 0 = .ok (.aload_n 0, 1) := by decide +kernel
theorem dJ4_append_cf468_1 : decode cJ4_append_cf468 1 = .ok (.iload_n 1, 1) := by decide +kernel
theorem dJ4_append_cf468_2 : decode cJ4_append_cf468 2 = .ok (.invokespecial 50, 3) := by decide +kernel
theorem dJ4_append_cf468_5 : decode cJ4_append_cf468 5 = .ok (.pop, 1) := by decide +kernel
theorem dJ4_append_cf468_6 : decode cJ4_append_cf468 6 = .ok (.aload_n 0, 1) := by decide +kernel
theorem dJ4_append_cf468_7 : decode cJ4_append_cf468 7 = .ok (.areturn, 1) := by decide +kernel
theorem dJ4_charAt_5068e_0 : decode cJ4_charAt_5068e 0 = .ok (.aload_n 0, 1) := by decide +kernel
theorem dJ4_charAt_5068e_1 : decode cJ4_charAt_5068e 1 = .ok (.iload_n 1, 1) := by decide +kernel
theorem dJ4_charAt_5068e_2 : decode cJ4_charAt_5068e 2 = .ok (.invokespecial 329, 3) := by decide +kernel
theorem dJ4_charAt_5068e_5 : decode cJ4_charAt_5068e 5 = .ok (.ireturn, 1) := by decide +kernel
theorem dJ4_init_da8c8_0 : decode cJ4_init_da8c8 0 = .ok (.aload_n 0, 1) := by decide +kernel
theorem dJ4_init_da8c8_1 : decode cJ4_init_da8c8 1 = .ok (.bipush 16, 2) := by decide +kernel
theorem dJ4_init_da8c8_3 : decode cJ4_init_da8c8 3 = .ok (.invokespecial 1, 3) := by decide +kernel
theorem dJ4_init_da8c8_6 : decode cJ4_init_da8c8 6 = .ok (.return_, 1) := by decide +kernel
theorem dJ4_length_8abf5_0 : decode cJ4_length_8abf5 0 = .ok (.aload_n 0, 1) := by decide +kernel
theorem dJ4_length_8abf5_1 : decode cJ4_length_8abf5 1 = .ok (.invokespecial 343, 3) := by decide +kernel
theorem dJ4_length_8abf5_4 : decode cJ4_length_8abf5 4 = .ok (.ireturn, 1) := by decide +kernel
theorem dJ4_setLength_d00df_0 : decode cJ4_setLength_d00df 0 = .ok (.aload_n 0, 1) := by decide +kernel
theorem dJ4_setLength_d00df_1 : decode cJ4_setLength_d00df 1 = .ok (.iload_n 1, 1) := by decide +kernel
theorem dJ4_setLength_d00df_2 : decode cJ4_setLength_d00df 2 = .ok (.invokespecial 333, 3) := by decide +kernel
theorem dJ4_setLength_d00df_5 : decode cJ4_setLength_d00df 5 = .ok (.return_, 1) := by decide +kernel
theorem dJ5_append_3fe6f_0 : decode cJ5_append_3fe6f 0 = .ok (.aload_n 0, 1) := by decide +kernel
theorem dJ5_append_3fe6f_1 : decode cJ5_append_3fe6f 1 = .ok (.aload_n 0, 1) := by decide +kernel
theorem dJ5_append_3fe6f_2 : decode cJ5_append_3fe6f 2 = .ok (.getfield 79, 3) := by decide +kernel
theorem dJ5_append_3fe6f_5 : decode cJ5_append_3fe6f 5 = .ok (.iconst 1, 1) := by decide +kernel
theorem dJ5_append_3fe6f_6 : decode cJ5_append_3fe6f 6 = .ok (.iadd, 1) := by decide +kernel
theorem dJ5_append_3fe6f_7 : decode cJ5_append_3fe6f 7 = .ok (.invokevirtual 100, 3) := by decide +kernel
theorem dJ5_append_3fe6f_10 : decode cJ5_append_3fe6f 10 = .ok (.aload_n 0, 1) := by decide +kernel
theorem dJ5_append_3fe6f_11 : decode cJ5_append_3fe6f 11 = .ok (.invokevirtual 83, 3) := by decide +kernel
theorem dJ5_append_3fe6f_14 : decode cJ5_append_3fe6f 14 = .ok (.ifCond .eq 31, 3) := by decide +kernel
theorem dJ5_append_3fe6f_17 : decode cJ5_append_3fe6f 17 = .ok (.iload_n 1, 1) := by decide +kernel
theorem dJ5_append_3fe6f_18 : decode cJ5_append_3fe6f 18 = .ok (.invokestatic 191, 3) := by decide +kernel
theorem dJ5_append_3fe6f_21 : decode cJ5_append_3fe6f 21 = .ok (.ifCond .eq 24, 3) := by decide +kernel
theorem dJ5_append_3fe6f_24 : decode cJ5_append_3fe6f 24 = .ok (.aload_n 0, 1) := by decide +kernel
theorem dJ5_append_3fe6f_25 : decode cJ5_append_3fe6f 25 = .ok (.getfield 15, 3) := by decide +kernel
theorem dJ5_append_3fe6f_28 : decode cJ5_append_3fe6f 28 = .ok (.aload_n 0, 1) := by decide +kernel
theorem dJ5_append_3fe6f_29 : decode cJ5_append_3fe6f 29 = .ok (.dup, 1) := by decide +kernel
theorem dJ5_append_3fe6f_30 : decode cJ5_append_3fe6f 30 = .ok (.getfield 79, 3) := by decide +kernel
theorem dJ5_append_3fe6f_33 : decode cJ5_append_3fe6f 33 = .ok (.dup_x1, 1) := by decide +kernel
theorem dJ5_append_3fe6f_34 : decode cJ5_append_3fe6f 34 = .ok (.iconst 1, 1) := by decide +kernel
theorem dJ5_append_3fe6f_35 : decode cJ5_append_3fe6f 35 = .ok (.iadd, 1) := by decide +kernel
theorem dJ5_append_3fe6f_36 : decode cJ5_append_3fe6f 36 = .ok (.putfield 79, 3) := by decide +kernel
theorem dJ5_append_3fe6f_39 : decode cJ5_append_3fe6f 39 = .ok (.iload_n 1, 1) := by decide +kernel
theorem dJ5_append_3fe6f_40 : decode cJ5_append_3fe6f 40 = .ok (.i2b, 1) := by decide +kernel
theorem dJ5_append_3fe6f_41 : decode cJ5_append_3fe6f 41 = .ok (.bastore, 1) := by decide +kernel
theorem dJ5_append_3fe6f_42 : decode cJ5_append_3fe6f 42 = .ok (.goto 33, 3) := by decide +kernel
theorem dJ5_append_3fe6f_45 : decode cJ5_append_3fe6f 45 = .ok (.aload_n 0, 1) := by decide +kernel
theorem dJ5_append_3fe6f_46 : decode cJ5_append_3fe6f 46 = .ok (.invokevirtual 83, 3) := by decide +kernel
theorem dJ5_append_3fe6f_49 : decode cJ5_append_3fe6f 49 = .ok (.ifCond .eq 7, 3) := by decide +kernel
theorem dJ5_append_3fe6f_52 : decode cJ5_append_3fe6f 52 = .ok (.aload_n 0, 1) := by decide +kernel
theorem dJ5_append_3fe6f_53 : decode cJ5_append_3fe6f 53 = .ok (.invokevirtual 195, 3) := by decide +kernel
theorem dJ5_append_3fe6f_56 : decode cJ5_append_3fe6f 56 = .ok (.aload_n 0, 1) := by decide +kernel
theorem dJ5_append_3fe6f_57 : decode cJ5_append_3fe6f 57 = .ok (.getfield 15, 3) := by decide +kernel
theorem dJ5_append_3fe6f_60 : decode cJ5_append_3fe6f 60 = .ok (.aload_n 0, 1) := by decide +kernel
theorem dJ5_append_3fe6f_61 : decode cJ5_append_3fe6f 61 = .ok (.dup, 1) := by decide +kernel
theorem dJ5_append_3fe6f_62 : decode cJ5_append_3fe6f 62 = .ok (.getfield 79, 3) := by decide +kernel
theorem dJ5_append_3fe6f_65 : decode cJ5_append_3fe6f 65 = .ok (.dup_x1, 1) := by decide +kernel
theorem dJ5_append_3fe6f_66 : decode cJ5_append_3fe6f 66 = .ok (.iconst 1, 1) := by decide +kernel
theorem dJ5_append_3fe6f_67 : decode cJ5_append_3fe6f 67 = .ok (.iadd, 1) := by decide +kernel
theorem dJ5_append_3fe6f_68 : decode cJ5_append_3fe6f 68 = .ok (.putfield 79, 3) := by decide +kernel
theorem dJ5_append_3fe6f_71 : decode cJ5_append_3fe6f 71 = .ok (.iload_n 1, 1) := by decide +kernel
theorem dJ5_append_3fe6f_72 : decode cJ5_append_3fe6f 72 = .ok (.invokestatic 197, 3) := by decide +kernel
theorem dJ5_append_3fe6f_75 : decode cJ5_append_3fe6f 75 = .ok (.aload_n 0, 1) := by decide +kernel
theorem dJ5_append_3fe6f_76 : decode cJ5_append_3fe6f 76 = .ok (.areturn, 1) := by decide +kernel
theorem dJ5_append_c97b9_0 : decode cJ5_append_c97b9 0 = .ok (.aload_n 0, 1) := by decide +kernel
theorem dJ5_append_c97b9_1 : decode cJ5_append_c97b9 1 = .ok (.getfield 79, 3) := by decide +kernel
theorem dJ5_append_c97b9_4 : decode cJ5_append_c97b9 4 = .ok (.istore_n 2, 1) := by decide +kernel
theorem dJ5_append_c97b9_5 : decode cJ5_append_c97b9 5 = .ok (.iload_n 2, 1) := by decide +kernel
theorem dJ5_append_c97b9_6 : decode cJ5_append_c97b9 6 = .ok (.iload_n 1, 1) := by decide +kernel
theorem dJ5_append_c97b9_7 : decode cJ5_append_c97b9 7 = .ok (.invokestatic 245, 3) := by decide +kernel
theorem dJ5_append_c97b9_10 : decode cJ5_append_c97b9 10 = .ok (.iadd, 1) := by decide +kernel
theorem dJ5_append_c97b9_11 : decode cJ5_append_c97b9 11 = .ok (.istore_n 3, 1) := by decide +kernel
theorem dJ5_append_c97b9_12 : decode cJ5_append_c97b9 12 = .ok (.aload_n 0, 1) := by decide +kernel
theorem dJ5_append_c97b9_13 : decode cJ5_append_c97b9 13 = .ok (.iload_n 3, 1) := by decide +kernel
theorem dJ5_append_c97b9_14 : decode cJ5_append_c97b9 14 = .ok (.invokevirtual 100, 3) := by decide +kernel
theorem dJ5_append_c97b9_17 : decode cJ5_append_c97b9 17 = .ok (.aload_n 0, 1) := by decide +kernel
theorem dJ5_append_c97b9_18 : decode cJ5_append_c97b9 18 = .ok (.invokevirtual 83, 3) := by decide +kernel
theorem dJ5_append_c97b9_21 : decode cJ5_append_c97b9 21 = .ok (.ifCond .eq 16, 3) := by decide +kernel
theorem dJ5_append_c97b9_24 : decode cJ5_append_c97b9 24 = .ok (.iload_n 1, 1) := by decide +kernel
theorem dJ5_append_c97b9_25 : decode cJ5_append_c97b9 25 = .ok (.iload_n 3, 1) := by decide +kernel
theorem dJ5_append_c97b9_26 : decode cJ5_append_c97b9 26 = .ok (.aload_n 0, 1) := by decide +kernel
theorem dJ5_append_c97b9_27 : decode cJ5_append_c97b9 27 = .ok (.getfield 15, 3) := by decide +kernel
theorem dJ5_append_c97b9_30 : decode cJ5_append_c97b9 30 = .ok (.invokestatic 248, 3) := by decide +kernel
theorem dJ5_append_c97b9_33 : decode cJ5_append_c97b9 33 = .ok (.pop, 1) := by decide +kernel
theorem dJ5_append_c97b9_34 : decode cJ5_append_c97b9 34 = .ok (.goto 14, 3) := by decide +kernel
theorem dJ5_append_c97b9_37 : decode cJ5_append_c97b9 37 = .ok (.iload_n 1, 1) := by decide +kernel
theorem dJ5_append_c97b9_38 : decode cJ5_append_c97b9 38 = .ok (.iload_n 2, 1) := by decide +kernel
theorem dJ5_append_c97b9_39 : decode cJ5_append_c97b9 39 = .ok (.iload_n 3, 1) := by decide +kernel
theorem dJ5_append_c97b9_40 : decode cJ5_append_c97b9 40 = .ok (.aload_n 0, 1) := by decide +kernel
theorem dJ5_append_c97b9_41 : decode cJ5_append_c97b9 41 = .ok (.getfield 15, 3) := by decide +kernel
theorem dJ5_append_c97b9_44 : decode cJ5_append_c97b9 44 = .ok (.invokestatic 251, 3) := by decide +kernel
theorem dJ5_append_c97b9_47 : decode cJ5_append_c97b9 47 = .ok (.pop, 1) := by decide +kernel
theorem dJ5_append_c97b9_48 : decode cJ5_append_c97b9 48 = .ok (.aload_n 0, 1) := by decide +kernel
theorem dJ5_append_c97b9_49 : decode cJ5_append_c97b9 49 = .ok (.iload_n 3, 1) := by decide +kernel
theorem dJ5_append_c97b9_50 : decode cJ5_append_c97b9 50 = .ok (.putfield 79, 3) := by decide +kernel
theorem dJ5_append_c97b9_53 : decode cJ5_append_c97b9 53 = .ok (.aload_n 0, 1) := by decide +kernel
theorem dJ5_append_c97b9_54 : decode cJ5_append_c97b9 54 = .ok (.areturn, 1) := by decide +kernel
theorem dJ5_charAt_5068e_0 : decode cJ5_charAt_5068e 0 = .ok (.aload_n 0, 1) := by decide +kernel
theorem dJ5_charAt_5068e_1 : decode cJ5_charAt_5068e 1 = .ok (.getfield 22, 3) := by decide +kernel
theorem dJ5_charAt_5068e_4 : decode cJ5_charAt_5068e 4 = .ok (.istore_n 2, 1) := by decide +kernel
theorem dJ5_charAt_5068e_5 : decode cJ5_charAt_5068e 5 = .ok (.aload_n 0, 1) := by decide +kernel
theorem dJ5_charAt_5068e_6 : decode cJ5_charAt_5068e 6 = .ok (.getfield 15, 3) := by decide +kernel
theorem dJ5_charAt_5068e_9 : decode cJ5_charAt_5068e 9 = .ok (.astore_n 3, 1) := by decide +kernel
theorem dJ5_charAt_5068e_10 : decode cJ5_charAt_5068e 10 = .ok (.aload_n 0, 1) := by decide +kernel
theorem dJ5_charAt_5068e_11 : decode cJ5_charAt_5068e 11 = .ok (.getfield 79, 3) := by decide +kernel
theorem dJ5_charAt_5068e_14 : decode cJ5_charAt_5068e 14 = .ok (.aload_n 3, 1) := by decide +kernel
theorem dJ5_charAt_5068e_15 : decode cJ5_charAt_5068e 15 = .ok (.arraylength, 1) := by decide +kernel
theorem dJ5_charAt_5068e_16 : decode cJ5_charAt_5068e 16 = .ok (.iload_n 2, 1) := by decide +kernel
theorem dJ5_charAt_5068e_17 : decode cJ5_charAt_5068e 17 = .ok (.ishr, 1) := by decide +kernel
theorem dJ5_charAt_5068e_18 : decode cJ5_charAt_5068e 18 = .ok (.invokestatic 138, 3) := by decide +kernel
theorem dJ5_charAt_5068e_21 : decode cJ5_charAt_5068e 21 = .ok (.istore 4, 2) := by decide +kernel
theorem dJ5_charAt_5068e_23 : decode cJ5_charAt_5068e 23 = .ok (.iload_n 1, 1) := by decide +kernel
theorem dJ5_charAt_5068e_24 : decode cJ5_charAt_5068e 24 = .ok (.iload 4, 2) := by decide +kernel
theorem dJ5_charAt_5068e_26 : decode cJ5_charAt_5068e 26 = .ok (.invokestatic 144, 3) := by decide +kernel
theorem dJ5_charAt_5068e_29 : decode cJ5_charAt_5068e 29 = .ok (.iload_n 2, 1) := by decide +kernel
theorem dJ5_charAt_5068e_30 : decode cJ5_charAt_5068e 30 = .ok (.ifCond .ne 12, 3) := by decide +kernel
theorem dJ5_charAt_5068e_33 : decode cJ5_charAt_5068e 33 = .ok (.aload_n 3, 1) := by decide +kernel
theorem dJ5_charAt_5068e_34 : decode cJ5_charAt_5068e 34 = .ok (.iload_n 1, 1) := by decide +kernel
theorem dJ5_charAt_5068e_35 : decode cJ5_charAt_5068e 35 = .ok (.baload, 1) := by decide +kernel
theorem dJ5_charAt_5068e_36 : decode cJ5_charAt_5068e 36 = .ok (.sipush 255, 3) := by decide +kernel
theorem dJ5_charAt_5068e_39 : decode cJ5_charAt_5068e 39 = .ok (.iand, 1) := by decide +kernel
theorem dJ5_charAt_5068e_40 : decode cJ5_charAt_5068e 40 = .ok (.i2c, 1) := by decide +kernel
theorem dJ5_charAt_5068e_41 : decode cJ5_charAt_5068e 41 = .ok (.ireturn, 1) := by decide +kernel
theorem dJ5_charAt_5068e_42 : decode cJ5_charAt_5068e 42 = .ok (.aload_n 3, 1) := by decide +kernel
theorem dJ5_charAt_5068e_43 : decode cJ5_charAt_5068e 43 = .ok (.iload_n 1, 1) := by decide +kernel
theorem dJ5_charAt_5068e_44 : decode cJ5_charAt_5068e 44 = .ok (.invokestatic 148, 3) := by decide +kernel
theorem dJ5_charAt_5068e_47 : decode cJ5_charAt_5068e 47 = .ok (.ireturn, 1) := by decide +kernel
theorem dJ5_ensureCapacityInternal_d00df_0 : decode cJ5_ensureCapacityInternal_d00df 0 = .ok (.aload_n 0, 1) := by decide +kernel
theorem dJ5_ensureCapacityInternal_d00df_1 : decode cJ5_ensureCapacityInternal_d00df 1 = .ok (.getfield 15, 3) := by decide +kernel
theorem dJ5_ensureCapacityInternal_d00df_4 : decode cJ5_ensureCapacityInternal_d00df 4 = .ok (.arraylength, 1) := by decide +kernel
theorem dJ5_ensureCapacityInternal_d00df_5 : decode cJ5_ensureCapacityInternal_d00df 5 = .ok (.aload_n 0, 1) := by decide +kernel
theorem dJ5_ensureCapacityInternal_d00df_6 : decode cJ5_ensureCapacityInternal_d00df 6 = .ok (.getfield 22, 3) := by decide +kernel
theorem dJ5_ensureCapacityInternal_d00df_9 : decode cJ5_ensureCapacityInternal_d00df 9 = .ok (.ishr, 1) := by decide +kernel
theorem dJ5_ensureCapacityInternal_d00df_10 : decode cJ5_ensureCapacityInternal_d00df 10 = .ok (.istore_n 2, 1) := by decide +kernel
theorem dJ5_ensureCapacityInternal_d00df_11 : decode cJ5_ensureCapacityInternal_d00df 11 = .ok (.iload_n 1, 1) := by decide +kernel
theorem dJ5_ensureCapacityInternal_d00df_12 : decode cJ5_ensureCapacityInternal_d00df 12 = .ok (.iload_n 2, 1) := by decide +kernel
theorem dJ5_ensureCapacityInternal_d00df_13 : decode cJ5_ensureCapacityInternal_d00df 13 = .ok (.isub, 1) := by decide +kernel
theorem dJ5_ensureCapacityInternal_d00df_14 : decode cJ5_ensureCapacityInternal_d00df 14 = .ok (.ifCond .le 24, 3) := by decide +kernel
theorem dJ5_ensureCapacityInternal_d00df_17 : decode cJ5_ensureCapacityInternal_d00df 17 = .ok (.aload_n 0, 1) := by decide +kernel
theorem dJ5_ensureCapacityInternal_d00df_18 : decode cJ5_ensureCapacityInternal_d00df 18 = .ok (.aload_n 0, 1) := by decide +kernel
theorem dJ5_ensureCapacityInternal_d00df_19 : decode cJ5_ensureCapacityInternal_d00df 19 = .ok (.getfield 15, 3) := by decide +kernel
theorem dJ5_ensureCapacityInternal_d00df_22 : decode cJ5_ensureCapacityInternal_d00df 22 = .ok (.aload_n 0, 1) := by decide +kernel
theorem dJ5_ensureCapacityInternal_d00df_23 : decode cJ5_ensureCapacityInternal_d00df 23 = .ok (.iload_n 1, 1) := by decide +kernel
theorem dJ5_ensureCapacityInternal_d00df_24 : decode cJ5_ensureCapacityInternal_d00df 24 = .ok (.invokevirtual 104, 3) := by decide +kernel
theorem dJ5_ensureCapacityInternal_d00df_27 : decode cJ5_ensureCapacityInternal_d00df 27 = .ok (.aload_n 0, 1) := by decide +kernel
theorem dJ5_ensureCapacityInternal_d00df_28 : decode cJ5_ensureCapacityInternal_d00df 28 = .ok (.getfield 22, 3) := by decide +kernel
theorem dJ5_ensureCapacityInternal_d00df_31 : decode cJ5_ensureCapacityInternal_d00df 31 = .ok (.ishl, 1) := by decide +kernel
theorem dJ5_ensureCapacityInternal_d00df_32 : decode cJ5_ensureCapacityInternal_d00df 32 = .ok (.invokestatic 108, 3) := by decide +kernel
theorem dJ5_ensureCapacityInternal_d00df_35 : decode cJ5_ensureCapacityInternal_d00df 35 = .ok (.putfield 15, 3) := by decide +kernel
theorem dJ5_ensureCapacityInternal_d00df_38 : decode cJ5_ensureCapacityInternal_d00df 38 = .ok (.return_, 1) := by decide +kernel
theorem dJ5_init_d00df_0 : decode cJ5_init_d00df 0 = .ok (.aload_n 0, 1) := by decide +kernel
theorem dJ5_init_d00df_1 : decode cJ5_init_d00df 1 = .ok (.invokespecial 3, 3) := by decide +kernel
theorem dJ5_init_d00df_4 : decode cJ5_init_d00df 4 = .ok (.getstatic 18, 3) := by decide +kernel
theorem dJ5_init_d00df_7 : decode cJ5_init_d00df 7 = .ok (.ifCond .eq 18, 3) := by decide +kernel
theorem dJ5_init_d00df_10 : decode cJ5_init_d00df 10 = .ok (.aload_n 0, 1) := by decide +kernel
theorem dJ5_init_d00df_11 : decode cJ5_init_d00df 11 = .ok (.iload_n 1, 1) := by decide +kernel
theorem dJ5_init_d00df_12 : decode cJ5_init_d00df 12 = .ok (.newarray .byte, 2) := by decide +kernel
theorem dJ5_init_d00df_14 : decode cJ5_init_d00df 14 = .ok (.putfield 15, 3) := by decide +kernel
theorem dJ5_init_d00df_17 : decode cJ5_init_d00df 17 = .ok (.aload_n 0, 1) := by decide +kernel
theorem dJ5_init_d00df_18 : decode cJ5_init_d00df 18 = .ok (.iconst 0, 1) := by decide +kernel
theorem dJ5_init_d00df_19 : decode cJ5_init_d00df 19 = .ok (.putfield 22, 3) := by decide +kernel
theorem dJ5_init_d00df_22 : decode cJ5_init_d00df 22 = .ok (.goto 16, 3) := by decide +kernel
theorem dJ5_init_d00df_25 : decode cJ5_init_d00df 25 = .ok (.aload_n 0, 1) := by decide +kernel
theorem dJ5_init_d00df_26 : decode cJ5_init_d00df 26 = .ok (.iload_n 1, 1) := by decide +kernel
theorem dJ5_init_d00df_27 : decode cJ5_init_d00df 27 = .ok (.invokestatic 26, 3) := by decide +kernel
theorem dJ5_init_d00df_30 : decode cJ5_init_d00df 30 = .ok (.putfield 15, 3) := by decide +kernel
theorem dJ5_init_d00df_33 : decode cJ5_init_d00df 33 = .ok (.aload_n 0, 1) := by decide +kernel
theorem dJ5_init_d00df_34 : decode cJ5_init_d00df 34 = .ok (.iconst 1, 1) := by decide +kernel
theorem dJ5_init_d00df_35 : decode cJ5_init_d00df 35 = .ok (.putfield 22, 3) := by decide +kernel
theorem dJ5_init_d00df_38 : decode cJ5_init_d00df 38 = .ok (.return_, 1) := by decide +kernel
theorem dJ5_isLatin1_aae02_0 : decode cJ5_isLatin1_aae02 0 = .ok (.getstatic 18, 3) := by decide +kernel
theorem dJ5_isLatin1_aae02_3 : decode cJ5_isLatin1_aae02 3 = .ok (.ifCond .eq 14, 3) := by decide +kernel
theorem dJ5_isLatin1_aae02_6 : decode cJ5_isLatin1_aae02 6 = .ok (.aload_n 0, 1) := by decide +kernel
theorem dJ5_isLatin1_aae02_7 : decode cJ5_isLatin1_aae02 7 = .ok (.getfield 22, 3) := by decide +kernel
theorem dJ5_isLatin1_aae02_10 : decode cJ5_isLatin1_aae02 10 = .ok (.ifCond .ne 7, 3) := by decide +kernel
theorem dJ5_isLatin1_aae02_13 : decode cJ5_isLatin1_aae02 13 = .ok (.iconst 1, 1) := by decide +kernel
theorem dJ5_isLatin1_aae02_14 : decode cJ5_isLatin1_aae02 14 = .ok (.goto 4, 3) := by decide +kernel
theorem dJ5_isLatin1_aae02_17 : decode cJ5_isLatin1_aae02 17 = .ok (.iconst 0, 1) := by decide +kernel
theorem dJ5_isLatin1_aae02_18 : decode cJ5_isLatin1_aae02 18 = .ok (.ireturn, 1) := by decide +kernel
theorem dJ5_length_8abf5_0 : decode cJ5_length_8abf5 0 = .ok (.aload_n 0, 1) := by decide +kernel
theorem dJ5_length_8abf5_1 : decode cJ5_length_8abf5 1 = .ok (.getfield 79, 3) := by decide +kernel
theorem dJ5_length_8abf5_4 : decode cJ5_length_8abf5 4 = .ok (.ireturn, 1) := by decide +kernel
theorem dJ5_newCapacity_0f7a4_0 : decode cJ5_newCapacity_0f7a4 0 = .ok (.aload_n 0, 1) := by decide +kernel
theorem dJ5_newCapacity_0f7a4_1 : decode cJ5_newCapacity_0f7a4 1 = .ok (.getfield 15, 3) := by decide +kernel
theorem dJ5_newCapacity_0f7a4_4 : decode cJ5_newCapacity_0f7a4 4 = .ok (.arraylength, 1) := by decide +kernel
theorem dJ5_newCapacity_0f7a4_5 : decode cJ5_newCapacity_0f7a4 5 = .ok (.istore_n 2, 1) := by decide +kernel
theorem dJ5_newCapacity_0f7a4_6 : decode cJ5_newCapacity_0f7a4 6 = .ok (.iload_n 1, 1) := by decide +kernel
theorem dJ5_newCapacity_0f7a4_7 : decode cJ5_newCapacity_0f7a4 7 = .ok (.aload_n 0, 1) := by decide +kernel
theorem dJ5_newCapacity_0f7a4_8 : decode cJ5_newCapacity_0f7a4 8 = .ok (.getfield 22, 3) := by decide +kernel
theorem dJ5_newCapacity_0f7a4_11 : decode cJ5_newCapacity_0f7a4 11 = .ok (.ishl, 1) := by decide +kernel
theorem dJ5_newCapacity_0f7a4_12 : decode cJ5_newCapacity_0f7a4 12 = .ok (.istore_n 3, 1) := by decide +kernel
theorem dJ5_newCapacity_0f7a4_13 : decode cJ5_newCapacity_0f7a4 13 = .ok (.iload_n 3, 1) := by decide +kernel
theorem dJ5_newCapacity_0f7a4_14 : decode cJ5_newCapacity_0f7a4 14 = .ok (.iload_n 2, 1) := by decide +kernel
theorem dJ5_newCapacity_0f7a4_15 : decode cJ5_newCapacity_0f7a4 15 = .ok (.isub, 1) := by decide +kernel
theorem dJ5_newCapacity_0f7a4_16 : decode cJ5_newCapacity_0f7a4 16 = .ok (.istore 4, 2) := by decide +kernel
theorem dJ5_newCapacity_0f7a4_18 : decode cJ5_newCapacity_0f7a4 18 = .ok (.iload_n 2, 1) := by decide +kernel
theorem dJ5_newCapacity_0f7a4_19 : decode cJ5_newCapacity_0f7a4 19 = .ok (.iload 4, 2) := by decide +kernel
theorem dJ5_newCapacity_0f7a4_21 : decode cJ5_newCapacity_0f7a4 21 = .ok (.iload_n 2, 1) := by decide +kernel
theorem dJ5_newCapacity_0f7a4_22 : decode cJ5_newCapacity_0f7a4 22 = .ok (.iconst 2, 1) := by decide +kernel
theorem dJ5_newCapacity_0f7a4_23 : decode cJ5_newCapacity_0f7a4 23 = .ok (.aload_n 0, 1) := by decide +kernel
theorem dJ5_newCapacity_0f7a4_24 : decode cJ5_newCapacity_0f7a4 24 = .ok (.getfield 22, 3) := by decide +kernel
theorem dJ5_newCapacity_0f7a4_27 : decode cJ5_newCapacity_0f7a4 27 = .ok (.ishl, 1) := by decide +kernel
theorem dJ5_newCapacity_0f7a4_28 : decode cJ5_newCapacity_0f7a4 28 = .ok (.iadd, 1) := by decide +kernel
theorem dJ5_newCapacity_0f7a4_29 : decode cJ5_newCapacity_0f7a4 29 = .ok (.invokestatic 114, 3) := by decide +kernel
theorem dJ5_newCapacity_0f7a4_32 : decode cJ5_newCapacity_0f7a4 32 = .ok (.istore 5, 2) := by decide +kernel
theorem dJ5_newCapacity_0f7a4_34 : decode cJ5_newCapacity_0f7a4 34 = .ok (.iload 5, 2) := by decide +kernel
theorem dJ5_newCapacity_0f7a4_36 : decode cJ5_newCapacity_0f7a4 36 = .ok (.ldc 39, 2) := by decide +kernel
theorem dJ5_newCapacity_0f7a4_38 : decode cJ5_newCapacity_0f7a4 38 = .ok (.if_icmp .ne 13, 3) := by decide +kernel
theorem dJ5_newCapacity_0f7a4_41 : decode cJ5_newCapacity_0f7a4 41 = .ok (.new 120, 3) := by decide +kernel
theorem dJ5_newCapacity_0f7a4_44 : decode cJ5_newCapacity_0f7a4 44 = .ok (.dup, 1) := by decide +kernel
theorem dJ5_newCapacity_0f7a4_45 : decode cJ5_newCapacity_0f7a4 45 = .ok (.ldc 122, 2) := by decide +kernel
theorem dJ5_newCapacity_0f7a4_47 : decode cJ5_newCapacity_0f7a4 47 = .ok (.invokespecial 124, 3) := by decide +kernel
theorem dJ5_newCapacity_0f7a4_50 : decode cJ5_newCapacity_0f7a4 50 = .ok (.athrow, 1) := by decide +kernel
theorem dJ5_newCapacity_0f7a4_51 : decode cJ5_newCapacity_0f7a4 51 = .ok (.iload 5, 2) := by decide +kernel
theorem dJ5_newCapacity_0f7a4_53 : decode cJ5_newCapacity_0f7a4 53 = .ok (.aload_n 0, 1) := by decide +kernel
theorem dJ5_newCapacity_0f7a4_54 : decode cJ5_newCapacity_0f7a4 54 = .ok (.getfield 22, 3) := by decide +kernel
theorem dJ5_newCapacity_0f7a4_57 : decode cJ5_newCapacity_0f7a4 57 = .ok (.ishr, 1) := by decide +kernel
theorem dJ5_newCapacity_0f7a4_58 : decode cJ5_newCapacity_0f7a4 58 = .ok (.ireturn, 1) := by decide +kernel
theorem dJ5_setLength_d00df_0 : decode cJ5_setLength_d00df 0 = .ok (.iload_n 1, 1) := by decide +kernel
theorem dJ5_setLength_d00df_1 : decode cJ5_setLength_d00df 1 = .ok (.ifCond .ge 12, 3) := by decide +kernel
theorem dJ5_setLength_d00df_4 : decode cJ5_setLength_d00df 4 = .ok (.new 129, 3) := by decide +kernel
theorem dJ5_setLength_d00df_7 : decode cJ5_setLength_d00df 7 = .ok (.dup, 1) := by decide +kernel
theorem dJ5_setLength_d00df_8 : decode cJ5_setLength_d00df 8 = .ok (.iload_n 1, 1) := by decide +kernel
theorem dJ5_setLength_d00df_9 : decode cJ5_setLength_d00df 9 = .ok (.invokespecial 131, 3) := by decide +kernel
theorem dJ5_setLength_d00df_12 : decode cJ5_setLength_d00df 12 = .ok (.athrow, 1) := by decide +kernel
theorem dJ5_setLength_d00df_13 : decode cJ5_setLength_d00df 13 = .ok (.aload_n 0, 1) := by decide +kernel
theorem dJ5_setLength_d00df_14 : decode cJ5_setLength_d00df 14 = .ok (.iload_n 1, 1) := by decide +kernel
theorem dJ5_setLength_d00df_15 : decode cJ5_setLength_d00df 15 = .ok (.invokevirtual 100, 3) := by decide +kernel
theorem dJ5_setLength_d00df_18 : decode cJ5_setLength_d00df 18 = .ok (.aload_n 0, 1) := by decide +kernel
theorem dJ5_setLength_d00df_19 : decode cJ5_setLength_d00df 19 = .ok (.getfield 79, 3) := by decide +kernel
theorem dJ5_setLength_d00df_22 : decode cJ5_setLength_d00df 22 = .ok (.iload_n 1, 1) := by decide +kernel
theorem dJ5_setLength_d00df_23 : decode cJ5_setLength_d00df 23 = .ok (.if_icmp .ge 40, 3) := by decide +kernel
theorem dJ5_setLength_d00df_26 : decode cJ5_setLength_d00df 26 = .ok (.aload_n 0, 1) := by decide +kernel
theorem dJ5_setLength_d00df_27 : decode cJ5_setLength_d00df 27 = .ok (.invokevirtual 83, 3) := by decide +kernel
theorem dJ5_setLength_d00df_30 : decode cJ5_setLength_d00df 30 = .ok (.ifCond .eq 18, 3) := by decide +kernel
theorem dJ5_setLength_d00df_33 : decode cJ5_setLength_d00df 33 = .ok (.aload_n 0, 1) := by decide +kernel
theorem dJ5_setLength_d00df_34 : decode cJ5_setLength_d00df 34 = .ok (.getfield 15, 3) := by decide +kernel
theorem dJ5_setLength_d00df_37 : decode cJ5_setLength_d00df 37 = .ok (.aload_n 0, 1) := by decide +kernel
theorem dJ5_setLength_d00df_38 : decode cJ5_setLength_d00df 38 = .ok (.getfield 79, 3) := by decide +kernel
theorem dJ5_setLength_d00df_41 : decode cJ5_setLength_d00df 41 = .ok (.iload_n 1, 1) := by decide +kernel
theorem dJ5_setLength_d00df_42 : decode cJ5_setLength_d00df 42 = .ok (.invokestatic 133, 3) := by decide +kernel
theorem dJ5_setLength_d00df_45 : decode cJ5_setLength_d00df 45 = .ok (.goto 31, 3) := by decide +kernel
theorem dJ5_setLength_d00df_48 : decode cJ5_setLength_d00df 48 = .ok (.aload_n 0, 1) := by decide +kernel
theorem dJ5_setLength_d00df_49 : decode cJ5_setLength_d00df 49 = .ok (.getfield 15, 3) := by decide +kernel
theorem dJ5_setLength_d00df_52 : decode cJ5_setLength_d00df 52 = .ok (.aload_n 0, 1) := by decide +kernel
theorem dJ5_setLength_d00df_53 : decode cJ5_setLength_d00df 53 = .ok (.getfield 79, 3) := by decide +kernel
theorem dJ5_setLength_d00df_56 : decode cJ5_setLength_d00df 56 = .ok (.iload_n 1, 1) := by decide +kernel
theorem dJ5_setLength_d00df_57 : decode cJ5_setLength_d00df 57 = .ok (.invokestatic 137, 3) := by decide +kernel
theorem dJ5_setLength_d00df_60 : decode cJ5_setLength_d00df 60 = .ok (.goto 16, 3) := by decide +kernel
theorem dJ5_setLength_d00df_63 : decode cJ5_setLength_d00df 63 = .ok (.aload_n 0, 1) := by decide +kernel
theorem dJ5_setLength_d00df_64 : decode cJ5_setLength_d00df 64 = .ok (.getfield 79, 3) := by decide +kernel
theorem dJ5_setLength_d00df_67 : decode cJ5_setLength_d00df 67 = .ok (.iload_n 1, 1) := by decide +kernel
theorem dJ5_setLength_d00df_68 : decode cJ5_setLength_d00df 68 = .ok (.if_icmp .le 8, 3) := by decide +kernel
theorem dJ5_setLength_d00df_71 : decode cJ5_setLength_d00df 71 = .ok (.aload_n 0, 1) := by decide +kernel
theorem dJ5_setLength_d00df_72 : decode cJ5_setLength_d00df 72 = .ok (.iconst 1, 1) := by decide +kernel
theorem dJ5_setLength_d00df_73 : decode cJ5_setLength_d00df 73 = .ok (.putfield 73, 3) := by decide +kernel
theorem dJ5_setLength_d00df_76 : decode cJ5_setLength_d00df 76 = .ok (.aload_n 0, 1) := by decide +kernel
theorem dJ5_setLength_d00df_77 : decode cJ5_setLength_d00df 77 = .ok (.iload_n 1, 1) := by decide +kernel
theorem dJ5_setLength_d00df_78 : decode cJ5_setLength_d00df 78 = .ok (.putfield 79, 3) := by decide +kernel
theorem dJ5_setLength_d00df_81 : decode cJ5_setLength_d00df 81 = .ok (.return_, 1) := by decide +kernel
theorem dJ6_getChars_ba4f3_0 : decode cJ6_getChars_ba4f3 0 = .ok (.iload_n 1, 1) := by decide +kernel
theorem dJ6_getChars_ba4f3_1 : decode cJ6_getChars_ba4f3 1 = .ok (.istore 5, 2) := by decide +kernel
theorem dJ6_getChars_ba4f3_3 : decode cJ6_getChars_ba4f3 3 = .ok (.iload_n 0, 1) := by decide +kernel
theorem dJ6_getChars_ba4f3_4 : decode cJ6_getChars_ba4f3 4 = .ok (.ifCond .ge 7, 3) := by decide +kernel
theorem dJ6_getChars_ba4f3_7 : decode cJ6_getChars_ba4f3 7 = .ok (.iconst 1, 1) := by decide +kernel
theorem dJ6_getChars_ba4f3_8 : decode cJ6_getChars_ba4f3 8 = .ok (.goto 4, 3) := by decide +kernel
theorem dJ6_getChars_ba4f3_11 : decode cJ6_getChars_ba4f3 11 = .ok (.iconst 0, 1) := by decide +kernel
theorem dJ6_getChars_ba4f3_12 : decode cJ6_getChars_ba4f3 12 = .ok (.istore 6, 2) := by decide +kernel
theorem dJ6_getChars_ba4f3_14 : decode cJ6_getChars_ba4f3 14 = .ok (.iload 6, 2) := by decide +kernel
theorem dJ6_getChars_ba4f3_16 : decode cJ6_getChars_ba4f3 16 = .ok (.ifCond .ne 6, 3) := by decide +kernel
theorem dJ6_getChars_ba4f3_19 : decode cJ6_getChars_ba4f3 19 = .ok (.iload_n 0, 1) := by decide +kernel
theorem dJ6_getChars_ba4f3_20 : decode cJ6_getChars_ba4f3 20 = .ok (.ineg, 1) := by decide +kernel
theorem dJ6_getChars_ba4f3_21 : decode cJ6_getChars_ba4f3 21 = .ok (.istore_n 0, 1) := by decide +kernel
theorem dJ6_getChars_ba4f3_22 : decode cJ6_getChars_ba4f3 22 = .ok (.iload_n 0, 1) := by decide +kernel
theorem dJ6_getChars_ba4f3_23 : decode cJ6_getChars_ba4f3 23 = .ok (.bipush (-100), 2) := by decide +kernel
theorem dJ6_getChars_ba4f3_25 : decode cJ6_getChars_ba4f3 25 = .ok (.if_icmp .gt 47, 3) := by decide +kernel
theorem dJ6_getChars_ba4f3_28 : decode cJ6_getChars_ba4f3 28 = .ok (.iload_n 0, 1) := by decide +kernel
theorem dJ6_getChars_ba4f3_29 : decode cJ6_getChars_ba4f3 29 = .ok (.bipush 100, 2) := by decide +kernel
theorem dJ6_getChars_ba4f3_31 : decode cJ6_getChars_ba4f3 31 = .ok (.idiv, 1) := by decide +kernel
theorem dJ6_getChars_ba4f3_32 : decode cJ6_getChars_ba4f3 32 = .ok (.istore_n 3, 1) := by decide +kernel
theorem dJ6_getChars_ba4f3_33 : decode cJ6_getChars_ba4f3 33 = .ok (.iload_n 3, 1) := by decide +kernel
theorem dJ6_getChars_ba4f3_34 : decode cJ6_getChars_ba4f3 34 = .ok (.bipush 100, 2) := by decide +kernel
theorem dJ6_getChars_ba4f3_36 : decode cJ6_getChars_ba4f3 36 = .ok (.imul, 1) := by decide +kernel
theorem dJ6_getChars_ba4f3_37 : decode cJ6_getChars_ba4f3 37 = .ok (.iload_n 0, 1) := by decide +kernel
theorem dJ6_getChars_ba4f3_38 : decode cJ6_getChars_ba4f3 38 = .ok (.isub, 1) := by decide +kernel
theorem dJ6_getChars_ba4f3_39 : decode cJ6_getChars_ba4f3 39 = .ok (.istore 4, 2) := by decide +kernel
theorem dJ6_getChars_ba4f3_41 : decode cJ6_getChars_ba4f3 41 = .ok (.iload_n 3, 1) := by decide +kernel
theorem dJ6_getChars_ba4f3_42 : decode cJ6_getChars_ba4f3 42 = .ok (.istore_n 0, 1) := by decide +kernel
theorem dJ6_getChars_ba4f3_43 : decode cJ6_getChars_ba4f3 43 = .ok (.aload_n 2, 1) := by decide +kernel
theorem dJ6_getChars_ba4f3_44 : decode cJ6_getChars_ba4f3 44 = .ok (.iinc 5 (-1), 3) := by decide +kernel
theorem dJ6_getChars_ba4f3_47 : decode cJ6_getChars_ba4f3 47 = .ok (.iload 5, 2) := by decide +kernel
theorem dJ6_getChars_ba4f3_49 : decode cJ6_getChars_ba4f3 49 = .ok (.getstatic 83, 3) := by decide +kernel
theorem dJ6_getChars_ba4f3_52 : decode cJ6_getChars_ba4f3 52 = .ok (.iload 4, 2) := by decide +kernel
theorem dJ6_getChars_ba4f3_54 : decode cJ6_getChars_ba4f3 54 = .ok (.baload, 1) := by decide +kernel
theorem dJ6_getChars_ba4f3_55 : decode cJ6_getChars_ba4f3 55 = .ok (.bastore, 1) := by decide +kernel
theorem dJ6_getChars_ba4f3_56 : decode cJ6_getChars_ba4f3 56 = .ok (.aload_n 2, 1) := by decide +kernel
theorem dJ6_getChars_ba4f3_57 : decode cJ6_getChars_ba4f3 57 = .ok (.iinc 5 (-1), 3) := by decide +kernel
theorem dJ6_getChars_ba4f3_60 : decode cJ6_getChars_ba4f3 60 = .ok (.iload 5, 2) := by decide +kernel
theorem dJ6_getChars_ba4f3_62 : decode cJ6_getChars_ba4f3 62 = .ok (.getstatic 87, 3) := by decide +kernel
theorem dJ6_getChars_ba4f3_65 : decode cJ6_getChars_ba4f3 65 = .ok (.iload 4, 2) := by decide +kernel
theorem dJ6_getChars_ba4f3_67 : decode cJ6_getChars_ba4f3 67 = .ok (.baload, 1) := by decide +kernel
theorem dJ6_getChars_ba4f3_68 : decode cJ6_getChars_ba4f3 68 = .ok (.bastore, 1) := by decide +kernel
theorem dJ6_getChars_ba4f3_69 : decode cJ6_getChars_ba4f3 69 = .ok (.goto (-47), 3) := by decide +kernel
theorem dJ6_getChars_ba4f3_72 : decode cJ6_getChars_ba4f3 72 = .ok (.aload_n 2, 1) := by decide +kernel
theorem dJ6_getChars_ba4f3_73 : decode cJ6_getChars_ba4f3 73 = .ok (.iinc 5 (-1), 3) := by decide +kernel
theorem dJ6_getChars_ba4f3_76 : decode cJ6_getChars_ba4f3 76 = .ok (.iload 5, 2) := by decide +kernel
theorem dJ6_getChars_ba4f3_78 : decode cJ6_getChars_ba4f3 78 = .ok (.getstatic 83, 3) := by decide +kernel
theorem dJ6_getChars_ba4f3_81 : decode cJ6_getChars_ba4f3 81 = .ok (.iload_n 0, 1) := by decide +kernel
theorem dJ6_getChars_ba4f3_82 : decode cJ6_getChars_ba4f3 82 = .ok (.ineg, 1) := by decide +kernel
theorem dJ6_getChars_ba4f3_83 : decode cJ6_getChars_ba4f3 83 = .ok (.baload, 1) := by decide +kernel
theorem dJ6_getChars_ba4f3_84 : decode cJ6_getChars_ba4f3 84 = .ok (.bastore, 1) := by decide +kernel
theorem dJ6_getChars_ba4f3_85 : decode cJ6_getChars_ba4f3 85 = .ok (.iload_n 0, 1) := by decide +kernel
theorem dJ6_getChars_ba4f3_86 : decode cJ6_getChars_ba4f3 86 = .ok (.bipush (-9), 2) := by decide +kernel
theorem dJ6_getChars_ba4f3_88 : decode cJ6_getChars_ba4f3 88 = .ok (.if_icmp .ge 16, 3) := by decide +kernel
theorem dJ6_getChars_ba4f3_91 : decode cJ6_getChars_ba4f3 91 = .ok (.aload_n 2, 1) := by decide +kernel
theorem dJ6_getChars_ba4f3_92 : decode cJ6_getChars_ba4f3 92 = .ok (.iinc 5 (-1), 3) := by decide +kernel
theorem dJ6_getChars_ba4f3_95 : decode cJ6_getChars_ba4f3 95 = .ok (.iload 5, 2) := by decide +kernel
theorem dJ6_getChars_ba4f3_97 : decode cJ6_getChars_ba4f3 97 = .ok (.getstatic 87, 3) := by decide +kernel
theorem dJ6_getChars_ba4f3_100 : decode cJ6_getChars_ba4f3 100 = .ok (.iload_n 0, 1) := by decide +kernel
theorem dJ6_getChars_ba4f3_101 : decode cJ6_getChars_ba4f3 101 = .ok (.ineg, 1) := by decide +kernel
theorem dJ6_getChars_ba4f3_102 : decode cJ6_getChars_ba4f3 102 = .ok (.baload, 1) := by decide +kernel
theorem dJ6_getChars_ba4f3_103 : decode cJ6_getChars_ba4f3 103 = .ok (.bastore, 1) := by decide +kernel
theorem dJ6_getChars_ba4f3_104 : decode cJ6_getChars_ba4f3 104 = .ok (.iload 6, 2) := by decide +kernel
theorem dJ6_getChars_ba4f3_106 : decode cJ6_getChars_ba4f3 106 = .ok (.ifCond .eq 12, 3) := by decide +kernel
theorem dJ6_getChars_ba4f3_109 : decode cJ6_getChars_ba4f3 109 = .ok (.aload_n 2, 1) := by decide +kernel
theorem dJ6_getChars_ba4f3_110 : decode cJ6_getChars_ba4f3 110 = .ok (.iinc 5 (-1), 3) := by decide +kernel
theorem dJ6_getChars_ba4f3_113 : decode cJ6_getChars_ba4f3 113 = .ok (.iload 5, 2) := by decide +kernel
theorem dJ6_getChars_ba4f3_115 : decode cJ6_getChars_ba4f3 115 = .ok (.bipush 45, 2) := by decide +kernel
theorem dJ6_getChars_ba4f3_117 : decode cJ6_getChars_ba4f3 117 = .ok (.bastore, 1) := by decide +kernel
theorem dJ6_getChars_ba4f3_118 : decode cJ6_getChars_ba4f3 118 = .ok (.iload 5, 2) := by decide +kernel
theorem dJ6_getChars_ba4f3_120 : decode cJ6_getChars_ba4f3 120 = .ok (.ireturn, 1) := by decide +kernel
