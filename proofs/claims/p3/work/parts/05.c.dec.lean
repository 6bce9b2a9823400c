theorem dX12_take_0 : decode cX12_take 0 = .ok (.aload_n 0, 1) := by decide +kernel
theorem dX12_take_1 : decode cX12_take 1 = .ok (.getfield 11, 3) := by decide +kernel
theorem dX12_take_4 : decode cX12_take 4 = .ok (.istore_n 1, 1) := by decide +kernel
theorem dX12_take_5 : decode cX12_take 5 = .ok (.aload_n 0, 1) := by decide +kernel
theorem dX12_take_6 : decode cX12_take 6 = .ok (.iconst 0, 1) := by decide +kernel
theorem dX12_take_7 : decode cX12_take 7 = .ok (.putfield 14, 3) := by decide +kernel
theorem dX12_take_10 : decode cX12_take 10 = .ok (.aload_n 0, 1) := by decide +kernel
theorem dX12_take_11 : decode cX12_take 11 = .ok (.iconst (-1), 1) := by decide +kernel
theorem dX12_take_12 : decode cX12_take 12 = .ok (.putfield 17, 3) := by decide +kernel
theorem dX12_take_15 : decode cX12_take 15 = .ok (.aload_n 0, 1) := by decide +kernel
theorem dX12_take_16 : decode cX12_take 16 = .ok (.iconst 1, 1) := by decide +kernel
theorem dX12_take_17 : decode cX12_take 17 = .ok (.aload_n 0, 1) := by decide +kernel
theorem dX12_take_18 : decode cX12_take 18 = .ok (.getfield 11, 3) := by decide +kernel
theorem dX12_take_21 : decode cX12_take 21 = .ok (.isub, 1) := by decide +kernel
theorem dX12_take_22 : decode cX12_take 22 = .ok (.putfield 11, 3) := by decide +kernel
theorem dX12_take_25 : decode cX12_take 25 = .ok (.aload_n 0, 1) := by decide +kernel
theorem dX12_take_26 : decode cX12_take 26 = .ok (.aload_n 0, 1) := by decide +kernel
theorem dX12_take_27 : decode cX12_take 27 = .ok (.getfield 512, 3) := by decide +kernel
theorem dX12_take_30 : decode cX12_take 30 = .ok (.putfield 1, 3) := by decide +kernel
theorem dX12_take_33 : decode cX12_take 33 = .ok (.aload_n 0, 1) := by decide +kernel
theorem dX12_take_34 : decode cX12_take 34 = .ok (.iconst 0, 1) := by decide +kernel
theorem dX12_take_35 : decode cX12_take 35 = .ok (.putfield 512, 3) := by decide +kernel
theorem dX12_take_38 : decode cX12_take 38 = .ok (.iconst 0, 1) := by decide +kernel
theorem dX12_take_39 : decode cX12_take 39 = .ok (.istore_n 2, 1) := by decide +kernel
theorem dX12_take_40 : decode cX12_take 40 = .ok (.iload_n 2, 1) := by decide +kernel
theorem dX12_take_41 : decode cX12_take 41 = .ok (.aload_n 0, 1) := by decide +kernel
theorem dX12_take_42 : decode cX12_take 42 = .ok (.getfield 1, 3) := by decide +kernel
theorem dX12_take_45 : decode cX12_take 45 = .ok (.if_icmp .ge 30, 3) := by decide +kernel
theorem dX12_take_48 : decode cX12_take 48 = .ok (.aload_n 0, 1) := by decide +kernel
theorem dX12_take_49 : decode cX12_take 49 = .ok (.getfield 7, 3) := by decide +kernel
theorem dX12_take_52 : decode cX12_take 52 = .ok (.sipush 3000, 3) := by decide +kernel
theorem dX12_take_55 : decode cX12_take 55 = .ok (.aload_n 0, 1) := by decide +kernel
theorem dX12_take_56 : decode cX12_take 56 = .ok (.getfield 11, 3) := by decide +kernel
theorem dX12_take_59 : decode cX12_take 59 = .ok (.imul, 1) := by decide +kernel
theorem dX12_take_60 : decode cX12_take 60 = .ok (.iload_n 2, 1) := by decide +kernel
theorem dX12_take_61 : decode cX12_take 61 = .ok (.iadd, 1) := by decide +kernel
theorem dX12_take_62 : decode cX12_take 62 = .ok (.aload_n 0, 1) := by decide +kernel
theorem dX12_take_63 : decode cX12_take 63 = .ok (.getfield 135, 3) := by decide +kernel
theorem dX12_take_66 : decode cX12_take 66 = .ok (.iload_n 2, 1) := by decide +kernel
theorem dX12_take_67 : decode cX12_take 67 = .ok (.baload, 1) := by decide +kernel
theorem dX12_take_68 : decode cX12_take 68 = .ok (.bastore, 1) := by decide +kernel
theorem dX12_take_69 : decode cX12_take 69 = .ok (.iinc 2 1, 3) := by decide +kernel
theorem dX12_take_72 : decode cX12_take 72 = .ok (.goto (-32), 3) := by decide +kernel
theorem dX12_take_75 : decode cX12_take 75 = .ok (.aload_n 0, 1) := by decide +kernel
theorem dX12_take_76 : decode cX12_take 76 = .ok (.getfield 439, 3) := by decide +kernel
theorem dX12_take_79 : decode cX12_take 79 = .ok (.istore_n 2, 1) := by decide +kernel
theorem dX12_take_80 : decode cX12_take 80 = .ok (.aload_n 0, 1) := by decide +kernel
theorem dX12_take_81 : decode cX12_take 81 = .ok (.getfield 446, 3) := by decide +kernel
theorem dX12_take_84 : decode cX12_take 84 = .ok (.istore_n 3, 1) := by decide +kernel
theorem dX12_take_85 : decode cX12_take 85 = .ok (.aload_n 0, 1) := by decide +kernel
theorem dX12_take_86 : decode cX12_take 86 = .ok (.getfield 462, 3) := by decide +kernel
theorem dX12_take_89 : decode cX12_take 89 = .ok (.istore 4, 2) := by decide +kernel
theorem dX12_take_91 : decode cX12_take 91 = .ok (.aload_n 0, 1) := by decide +kernel
theorem dX12_take_92 : decode cX12_take 92 = .ok (.getfield 472, 3) := by decide +kernel
theorem dX12_take_95 : decode cX12_take 95 = .ok (.istore 5, 2) := by decide +kernel
theorem dX12_take_97 : decode cX12_take 97 = .ok (.aload_n 0, 1) := by decide +kernel
theorem dX12_take_98 : decode cX12_take 98 = .ok (.getfield 478, 3) := by decide +kernel
theorem dX12_take_101 : decode cX12_take 101 = .ok (.istore 6, 2) := by decide +kernel
theorem dX12_take_103 : decode cX12_take 103 = .ok (.aload_n 0, 1) := by decide +kernel
theorem dX12_take_104 : decode cX12_take 104 = .ok (.getfield 108, 3) := by decide +kernel
theorem dX12_take_107 : decode cX12_take 107 = .ok (.istore 7, 2) := by decide +kernel
theorem dX12_take_109 : decode cX12_take 109 = .ok (.aload_n 0, 1) := by decide +kernel
theorem dX12_take_110 : decode cX12_take 110 = .ok (.invokevirtual 515, 3) := by decide +kernel
theorem dX12_take_113 : decode cX12_take 113 = .ok (.aload_n 0, 1) := by decide +kernel
theorem dX12_take_114 : decode cX12_take 114 = .ok (.invokevirtual 115, 3) := by decide +kernel
theorem dX12_take_117 : decode cX12_take 117 = .ok (.ifCond .eq 7, 3) := by decide +kernel
theorem dX12_take_120 : decode cX12_take 120 = .ok (.aload_n 0, 1) := by decide +kernel
theorem dX12_take_121 : decode cX12_take 121 = .ok (.invokevirtual 518, 3) := by decide +kernel
theorem dX12_take_124 : decode cX12_take 124 = .ok (.aload_n 0, 1) := by decide +kernel
theorem dX12_take_125 : decode cX12_take 125 = .ok (.invokevirtual 115, 3) := by decide +kernel
theorem dX12_take_128 : decode cX12_take 128 = .ok (.ifCond .ne 44, 3) := by decide +kernel
theorem dX12_take_131 : decode cX12_take 131 = .ok (.aload_n 0, 1) := by decide +kernel
theorem dX12_take_132 : decode cX12_take 132 = .ok (.iload_n 1, 1) := by decide +kernel
theorem dX12_take_133 : decode cX12_take 133 = .ok (.putfield 11, 3) := by decide +kernel
theorem dX12_take_136 : decode cX12_take 136 = .ok (.aload_n 0, 1) := by decide +kernel
theorem dX12_take_137 : decode cX12_take 137 = .ok (.iload_n 2, 1) := by decide +kernel
theorem dX12_take_138 : decode cX12_take 138 = .ok (.putfield 439, 3) := by decide +kernel
theorem dX12_take_141 : decode cX12_take 141 = .ok (.aload_n 0, 1) := by decide +kernel
theorem dX12_take_142 : decode cX12_take 142 = .ok (.iload_n 3, 1) := by decide +kernel
theorem dX12_take_143 : decode cX12_take 143 = .ok (.putfield 446, 3) := by decide +kernel
theorem dX12_take_146 : decode cX12_take 146 = .ok (.aload_n 0, 1) := by decide +kernel
theorem dX12_take_147 : decode cX12_take 147 = .ok (.iload 4, 2) := by decide +kernel
theorem dX12_take_149 : decode cX12_take 149 = .ok (.putfield 462, 3) := by decide +kernel
theorem dX12_take_152 : decode cX12_take 152 = .ok (.aload_n 0, 1) := by decide +kernel
theorem dX12_take_153 : decode cX12_take 153 = .ok (.iload 5, 2) := by decide +kernel
theorem dX12_take_155 : decode cX12_take 155 = .ok (.putfield 472, 3) := by decide +kernel
theorem dX12_take_158 : decode cX12_take 158 = .ok (.aload_n 0, 1) := by decide +kernel
theorem dX12_take_159 : decode cX12_take 159 = .ok (.iload 6, 2) := by decide +kernel
theorem dX12_take_161 : decode cX12_take 161 = .ok (.putfield 478, 3) := by decide +kernel
theorem dX12_take_164 : decode cX12_take 164 = .ok (.aload_n 0, 1) := by decide +kernel
theorem dX12_take_165 : decode cX12_take 165 = .ok (.iload 7, 2) := by decide +kernel
theorem dX12_take_167 : decode cX12_take 167 = .ok (.putfield 108, 3) := by decide +kernel
theorem dX12_take_170 : decode cX12_take 170 = .ok (.iconst (-1), 1) := by decide +kernel
theorem dX12_take_171 : decode cX12_take 171 = .ok (.ireturn, 1) := by decide +kernel
theorem dX12_take_172 : decode cX12_take 172 = .ok (.aload_n 0, 1) := by decide +kernel
theorem dX12_take_173 : decode cX12_take 173 = .ok (.invokevirtual 521, 3) := by decide +kernel
theorem dX12_take_176 : decode cX12_take 176 = .ok (.aload_n 0, 1) := by decide +kernel
theorem dX12_take_177 : decode cX12_take 177 = .ok (.iconst 0, 1) := by decide +kernel
theorem dX12_take_178 : decode cX12_take 178 = .ok (.putfield 524, 3) := by decide +kernel
theorem dX12_take_181 : decode cX12_take 181 = .ok (.iconst 0, 1) := by decide +kernel
theorem dX12_take_182 : decode cX12_take 182 = .ok (.istore 8, 2) := by decide +kernel
theorem dX12_take_184 : decode cX12_take 184 = .ok (.iload 8, 2) := by decide +kernel
theorem dX12_take_186 : decode cX12_take 186 = .ok (.bipush 16, 2) := by decide +kernel
theorem dX12_take_188 : decode cX12_take 188 = .ok (.if_icmp .ge 33, 3) := by decide +kernel
theorem dX12_take_191 : decode cX12_take 191 = .ok (.aload_n 0, 1) := by decide +kernel
theorem dX12_take_192 : decode cX12_take 192 = .ok (.getfield 337, 3) := by decide +kernel
theorem dX12_take_195 : decode cX12_take 195 = .ok (.iload 8, 2) := by decide +kernel
theorem dX12_take_197 : decode cX12_take 197 = .ok (.iconst 0, 1) := by decide +kernel
theorem dX12_take_198 : decode cX12_take 198 = .ok (.iastore, 1) := by decide +kernel
theorem dX12_take_199 : decode cX12_take 199 = .ok (.aload_n 0, 1) := by decide +kernel
theorem dX12_take_200 : decode cX12_take 200 = .ok (.getfield 340, 3) := by decide +kernel
theorem dX12_take_203 : decode cX12_take 203 = .ok (.iload 8, 2) := by decide +kernel
theorem dX12_take_205 : decode cX12_take 205 = .ok (.iconst 0, 1) := by decide +kernel
theorem dX12_take_206 : decode cX12_take 206 = .ok (.iastore, 1) := by decide +kernel
theorem dX12_take_207 : decode cX12_take 207 = .ok (.aload_n 0, 1) := by decide +kernel
theorem dX12_take_208 : decode cX12_take 208 = .ok (.getfield 343, 3) := by decide +kernel
theorem dX12_take_211 : decode cX12_take 211 = .ok (.iload 8, 2) := by decide +kernel
theorem dX12_take_213 : decode cX12_take 213 = .ok (.iconst 0, 1) := by decide +kernel
theorem dX12_take_214 : decode cX12_take 214 = .ok (.iastore, 1) := by decide +kernel
theorem dX12_take_215 : decode cX12_take 215 = .ok (.iinc 8 1, 3) := by decide +kernel
theorem dX12_take_218 : decode cX12_take 218 = .ok (.goto (-34), 3) := by decide +kernel
theorem dX12_take_221 : decode cX12_take 221 = .ok (.aload_n 0, 1) := by decide +kernel
theorem dX12_take_222 : decode cX12_take 222 = .ok (.iconst 0, 1) := by decide +kernel
theorem dX12_take_223 : decode cX12_take 223 = .ok (.putfield 527, 3) := by decide +kernel
theorem dX12_take_226 : decode cX12_take 226 = .ok (.aload_n 0, 1) := by decide +kernel
theorem dX12_take_227 : decode cX12_take 227 = .ok (.iconst 0, 1) := by decide +kernel
theorem dX12_take_228 : decode cX12_take 228 = .ok (.putfield 530, 3) := by decide +kernel
theorem dX12_take_231 : decode cX12_take 231 = .ok (.aload_n 0, 1) := by decide +kernel
theorem dX12_take_232 : decode cX12_take 232 = .ok (.iconst 0, 1) := by decide +kernel
theorem dX12_take_233 : decode cX12_take 233 = .ok (.putfield 534, 3) := by decide +kernel
theorem dX12_take_236 : decode cX12_take 236 = .ok (.aload_n 0, 1) := by decide +kernel
theorem dX12_take_237 : decode cX12_take 237 = .ok (.iconst 0, 1) := by decide +kernel
theorem dX12_take_238 : decode cX12_take 238 = .ok (.putfield 537, 3) := by decide +kernel
theorem dX12_take_241 : decode cX12_take 241 = .ok (.aload_n 0, 1) := by decide +kernel
theorem dX12_take_242 : decode cX12_take 242 = .ok (.getfield 478, 3) := by decide +kernel
theorem dX12_take_245 : decode cX12_take 245 = .ok (.ireturn, 1) := by decide +kernel
theorem dX12_fault_0 : decode cX12_fault 0 = .ok (.iload_n 1, 1) := by decide +kernel
theorem dX12_fault_1 : decode cX12_fault 1 = .ok (.ifCond .ne 10, 3) := by decide +kernel
theorem dX12_fault_4 : decode cX12_fault 4 = .ok (.aload_n 0, 1) := by decide +kernel
theorem dX12_fault_5 : decode cX12_fault 5 = .ok (.getfield 14, 3) := by decide +kernel
theorem dX12_fault_8 : decode cX12_fault 8 = .ok (.goto 16, 3) := by decide +kernel
theorem dX12_fault_11 : decode cX12_fault 11 = .ok (.iload_n 1, 1) := by decide +kernel
theorem dX12_fault_12 : decode cX12_fault 12 = .ok (.iconst 1, 1) := by decide +kernel
theorem dX12_fault_13 : decode cX12_fault 13 = .ok (.if_icmp .ne 10, 3) := by decide +kernel
theorem dX12_fault_16 : decode cX12_fault 16 = .ok (.aload_n 0, 1) := by decide +kernel
theorem dX12_fault_17 : decode cX12_fault 17 = .ok (.getfield 17, 3) := by decide +kernel
theorem dX12_fault_20 : decode cX12_fault 20 = .ok (.goto 4, 3) := by decide +kernel
theorem dX12_fault_23 : decode cX12_fault 23 = .ok (.iconst (-1), 1) := by decide +kernel
theorem dX12_fault_24 : decode cX12_fault 24 = .ok (.ireturn, 1) := by decide +kernel
theorem dX12_leads_0 : decode cX12_leads 0 = .ok (.iload_n 3, 1) := by decide +kernel
theorem dX12_leads_1 : decode cX12_leads 1 = .ok (.bipush 16, 2) := by decide +kernel
theorem dX12_leads_3 : decode cX12_leads 3 = .ok (.if_icmp .le 5, 3) := by decide +kernel
theorem dX12_leads_6 : decode cX12_leads 6 = .ok (.iconst 0, 1) := by decide +kernel
theorem dX12_leads_7 : decode cX12_leads 7 = .ok (.ireturn, 1) := by decide +kernel
theorem dX12_leads_8 : decode cX12_leads 8 = .ok (.iconst 0, 1) := by decide +kernel
theorem dX12_leads_9 : decode cX12_leads 9 = .ok (.istore 4, 2) := by decide +kernel
theorem dX12_leads_11 : decode cX12_leads 11 = .ok (.iload 4, 2) := by decide +kernel
theorem dX12_leads_13 : decode cX12_leads 13 = .ok (.aload_n 0, 1) := by decide +kernel
theorem dX12_leads_14 : decode cX12_leads 14 = .ok (.getfield 193, 3) := by decide +kernel
theorem dX12_leads_17 : decode cX12_leads 17 = .ok (.bipush 16, 2) := by decide +kernel
theorem dX12_leads_19 : decode cX12_leads 19 = .ok (.aload_n 0, 1) := by decide +kernel
theorem dX12_leads_20 : decode cX12_leads 20 = .ok (.getfield 11, 3) := by decide +kernel
theorem dX12_leads_23 : decode cX12_leads 23 = .ok (.imul, 1) := by decide +kernel
theorem dX12_leads_24 : decode cX12_leads 24 = .ok (.iload_n 1, 1) := by decide +kernel
theorem dX12_leads_25 : decode cX12_leads 25 = .ok (.iadd, 1) := by decide +kernel
theorem dX12_leads_26 : decode cX12_leads 26 = .ok (.iaload, 1) := by decide +kernel
theorem dX12_leads_27 : decode cX12_leads 27 = .ok (.if_icmp .ge 72, 3) := by decide +kernel
theorem dX12_leads_30 : decode cX12_leads 30 = .ok (.aload_n 0, 1) := by decide +kernel
theorem dX12_leads_31 : decode cX12_leads 31 = .ok (.getfield 232, 3) := by decide +kernel
theorem dX12_leads_34 : decode cX12_leads 34 = .ok (.aload_n 0, 1) := by decide +kernel
theorem dX12_leads_35 : decode cX12_leads 35 = .ok (.getfield 190, 3) := by decide +kernel
theorem dX12_leads_38 : decode cX12_leads 38 = .ok (.bipush 16, 2) := by decide +kernel
theorem dX12_leads_40 : decode cX12_leads 40 = .ok (.aload_n 0, 1) := by decide +kernel
theorem dX12_leads_41 : decode cX12_leads 41 = .ok (.getfield 11, 3) := by decide +kernel
theorem dX12_leads_44 : decode cX12_leads 44 = .ok (.imul, 1) := by decide +kernel
theorem dX12_leads_45 : decode cX12_leads 45 = .ok (.iload_n 1, 1) := by decide +kernel
theorem dX12_leads_46 : decode cX12_leads 46 = .ok (.iadd, 1) := by decide +kernel
theorem dX12_leads_47 : decode cX12_leads 47 = .ok (.iaload, 1) := by decide +kernel
theorem dX12_leads_48 : decode cX12_leads 48 = .ok (.iload 4, 2) := by decide +kernel
theorem dX12_leads_50 : decode cX12_leads 50 = .ok (.iadd, 1) := by decide +kernel
theorem dX12_leads_51 : decode cX12_leads 51 = .ok (.iaload, 1) := by decide +kernel
theorem dX12_leads_52 : decode cX12_leads 52 = .ok (.istore 5, 2) := by decide +kernel
theorem dX12_leads_54 : decode cX12_leads 54 = .ok (.iload 5, 2) := by decide +kernel
theorem dX12_leads_56 : decode cX12_leads 56 = .ok (.sipush 200, 3) := by decide +kernel
theorem dX12_leads_59 : decode cX12_leads 59 = .ok (.if_icmp .lt 34, 3) := by decide +kernel
theorem dX12_leads_62 : decode cX12_leads 62 = .ok (.iload 5, 2) := by decide +kernel
theorem dX12_leads_64 : decode cX12_leads 64 = .ok (.sipush 200, 3) := by decide +kernel
theorem dX12_leads_67 : decode cX12_leads 67 = .ok (.isub, 1) := by decide +kernel
theorem dX12_leads_68 : decode cX12_leads 68 = .ok (.iload_n 2, 1) := by decide +kernel
theorem dX12_leads_69 : decode cX12_leads 69 = .ok (.if_icmp .eq 22, 3) := by decide +kernel
theorem dX12_leads_72 : decode cX12_leads 72 = .ok (.aload_n 0, 1) := by decide +kernel
theorem dX12_leads_73 : decode cX12_leads 73 = .ok (.getfield 306, 3) := by decide +kernel
theorem dX12_leads_76 : decode cX12_leads 76 = .ok (.bipush 16, 2) := by decide +kernel
theorem dX12_leads_78 : decode cX12_leads 78 = .ok (.iload 5, 2) := by decide +kernel
theorem dX12_leads_80 : decode cX12_leads 80 = .ok (.sipush 200, 3) := by decide +kernel
theorem dX12_leads_83 : decode cX12_leads 83 = .ok (.isub, 1) := by decide +kernel
theorem dX12_leads_84 : decode cX12_leads 84 = .ok (.imul, 1) := by decide +kernel
theorem dX12_leads_85 : decode cX12_leads 85 = .ok (.iload_n 2, 1) := by decide +kernel
theorem dX12_leads_86 : decode cX12_leads 86 = .ok (.iadd, 1) := by decide +kernel
theorem dX12_leads_87 : decode cX12_leads 87 = .ok (.baload, 1) := by decide +kernel
theorem dX12_leads_88 : decode cX12_leads 88 = .ok (.ifCond .eq 5, 3) := by decide +kernel
theorem dX12_leads_91 : decode cX12_leads 91 = .ok (.iconst 1, 1) := by decide +kernel
theorem dX12_leads_92 : decode cX12_leads 92 = .ok (.ireturn, 1) := by decide +kernel
theorem dX12_leads_93 : decode cX12_leads 93 = .ok (.iinc 4 1, 3) := by decide +kernel
theorem dX12_leads_96 : decode cX12_leads 96 = .ok (.goto (-85), 3) := by decide +kernel
theorem dX12_leads_99 : decode cX12_leads 99 = .ok (.iconst 0, 1) := by decide +kernel
theorem dX12_leads_100 : decode cX12_leads 100 = .ok (.ireturn, 1) := by decide +kernel
theorem dX12_findRings_0 : decode cX12_findRings 0 = .ok (.iconst 0, 1) := by decide +kernel
theorem dX12_findRings_1 : decode cX12_findRings 1 = .ok (.istore_n 1, 1) := by decide +kernel
theorem dX12_findRings_2 : decode cX12_findRings 2 = .ok (.iload_n 1, 1) := by decide +kernel
theorem dX12_findRings_3 : decode cX12_findRings 3 = .ok (.sipush 256, 3) := by decide +kernel
theorem dX12_findRings_6 : decode cX12_findRings 6 = .ok (.if_icmp .ge 16, 3) := by decide +kernel
theorem dX12_findRings_9 : decode cX12_findRings 9 = .ok (.aload_n 0, 1) := by decide +kernel
theorem dX12_findRings_10 : decode cX12_findRings 10 = .ok (.getfield 306, 3) := by decide +kernel
theorem dX12_findRings_13 : decode cX12_findRings 13 = .ok (.iload_n 1, 1) := by decide +kernel
theorem dX12_findRings_14 : decode cX12_findRings 14 = .ok (.iconst 0, 1) := by decide +kernel
theorem dX12_findRings_15 : decode cX12_findRings 15 = .ok (.bastore, 1) := by decide +kernel
theorem dX12_findRings_16 : decode cX12_findRings 16 = .ok (.iinc 1 1, 3) := by decide +kernel
theorem dX12_findRings_19 : decode cX12_findRings 19 = .ok (.goto (-17), 3) := by decide +kernel
theorem dX12_findRings_22 : decode cX12_findRings 22 = .ok (.iconst 0, 1) := by decide +kernel
theorem dX12_findRings_23 : decode cX12_findRings 23 = .ok (.istore_n 1, 1) := by decide +kernel
theorem dX12_findRings_24 : decode cX12_findRings 24 = .ok (.iload_n 1, 1) := by decide +kernel
theorem dX12_findRings_25 : decode cX12_findRings 25 = .ok (.bipush 16, 2) := by decide +kernel
theorem dX12_findRings_27 : decode cX12_findRings 27 = .ok (.if_icmp .ge 63, 3) := by decide +kernel
theorem dX12_findRings_30 : decode cX12_findRings 30 = .ok (.iconst 0, 1) := by decide +kernel
theorem dX12_findRings_31 : decode cX12_findRings 31 = .ok (.istore_n 2, 1) := by decide +kernel
theorem dX12_findRings_32 : decode cX12_findRings 32 = .ok (.iload_n 2, 1) := by decide +kernel
theorem dX12_findRings_33 : decode cX12_findRings 33 = .ok (.aload_n 0, 1) := by decide +kernel
theorem dX12_findRings_34 : decode cX12_findRings 34 = .ok (.getfield 472, 3) := by decide +kernel
theorem dX12_findRings_37 : decode cX12_findRings 37 = .ok (.if_icmp .ge 47, 3) := by decide +kernel
theorem dX12_findRings_40 : decode cX12_findRings 40 = .ok (.iconst 0, 1) := by decide +kernel
theorem dX12_findRings_41 : decode cX12_findRings 41 = .ok (.istore_n 3, 1) := by decide +kernel
theorem dX12_findRings_42 : decode cX12_findRings 42 = .ok (.iload_n 3, 1) := by decide +kernel
theorem dX12_findRings_43 : decode cX12_findRings 43 = .ok (.aload_n 0, 1) := by decide +kernel
theorem dX12_findRings_44 : decode cX12_findRings 44 = .ok (.getfield 472, 3) := by decide +kernel
theorem dX12_findRings_47 : decode cX12_findRings 47 = .ok (.if_icmp .ge 31, 3) := by decide +kernel
theorem dX12_findRings_50 : decode cX12_findRings 50 = .ok (.aload_n 0, 1) := by decide +kernel
theorem dX12_findRings_51 : decode cX12_findRings 51 = .ok (.iload_n 2, 1) := by decide +kernel
theorem dX12_findRings_52 : decode cX12_findRings 52 = .ok (.iload_n 3, 1) := by decide +kernel
theorem dX12_findRings_53 : decode cX12_findRings 53 = .ok (.iconst 0, 1) := by decide +kernel
theorem dX12_findRings_54 : decode cX12_findRings 54 = .ok (.invokevirtual 540, 3) := by decide +kernel
theorem dX12_findRings_57 : decode cX12_findRings 57 = .ok (.ifCond .eq 15, 3) := by decide +kernel
theorem dX12_findRings_60 : decode cX12_findRings 60 = .ok (.aload_n 0, 1) := by decide +kernel
theorem dX12_findRings_61 : decode cX12_findRings 61 = .ok (.getfield 306, 3) := by decide +kernel
theorem dX12_findRings_64 : decode cX12_findRings 64 = .ok (.bipush 16, 2) := by decide +kernel
theorem dX12_findRings_66 : decode cX12_findRings 66 = .ok (.iload_n 2, 1) := by decide +kernel
theorem dX12_findRings_67 : decode cX12_findRings 67 = .ok (.imul, 1) := by decide +kernel
theorem dX12_findRings_68 : decode cX12_findRings 68 = .ok (.iload_n 3, 1) := by decide +kernel
theorem dX12_findRings_69 : decode cX12_findRings 69 = .ok (.iadd, 1) := by decide +kernel
theorem dX12_findRings_70 : decode cX12_findRings 70 = .ok (.iconst 1, 1) := by decide +kernel
theorem dX12_findRings_71 : decode cX12_findRings 71 = .ok (.bastore, 1) := by decide +kernel
theorem dX12_findRings_72 : decode cX12_findRings 72 = .ok (.iinc 3 1, 3) := by decide +kernel
theorem dX12_findRings_75 : decode cX12_findRings 75 = .ok (.goto (-33), 3) := by decide +kernel
theorem dX12_findRings_78 : decode cX12_findRings 78 = .ok (.iinc 2 1, 3) := by decide +kernel
theorem dX12_findRings_81 : decode cX12_findRings 81 = .ok (.goto (-49), 3) := by decide +kernel
theorem dX12_findRings_84 : decode cX12_findRings 84 = .ok (.iinc 1 1, 3) := by decide +kernel
theorem dX12_findRings_87 : decode cX12_findRings 87 = .ok (.goto (-63), 3) := by decide +kernel
theorem dX12_findRings_90 : decode cX12_findRings 90 = .ok (.iconst 0, 1) := by decide +kernel
theorem dX12_findRings_91 : decode cX12_findRings 91 = .ok (.istore_n 1, 1) := by decide +kernel
theorem dX12_findRings_92 : decode cX12_findRings 92 = .ok (.iload_n 1, 1) := by decide +kernel
theorem dX12_findRings_93 : decode cX12_findRings 93 = .ok (.aload_n 0, 1) := by decide +kernel
theorem dX12_findRings_94 : decode cX12_findRings 94 = .ok (.getfield 472, 3) := by decide +kernel
theorem dX12_findRings_97 : decode cX12_findRings 97 = .ok (.if_icmp .ge 24, 3) := by decide +kernel
theorem dX12_findRings_100 : decode cX12_findRings 100 = .ok (.aload_n 0, 1) := by decide +kernel
theorem dX12_findRings_101 : decode cX12_findRings 101 = .ok (.getfield 303, 3) := by decide +kernel
theorem dX12_findRings_104 : decode cX12_findRings 104 = .ok (.iload_n 1, 1) := by decide +kernel
theorem dX12_findRings_105 : decode cX12_findRings 105 = .ok (.aload_n 0, 1) := by decide +kernel
theorem dX12_findRings_106 : decode cX12_findRings 106 = .ok (.getfield 306, 3) := by decide +kernel
theorem dX12_findRings_109 : decode cX12_findRings 109 = .ok (.bipush 17, 2) := by decide +kernel
theorem dX12_findRings_111 : decode cX12_findRings 111 = .ok (.iload_n 1, 1) := by decide +kernel
theorem dX12_findRings_112 : decode cX12_findRings 112 = .ok (.imul, 1) := by decide +kernel
theorem dX12_findRings_113 : decode cX12_findRings 113 = .ok (.baload, 1) := by decide +kernel
theorem dX12_findRings_114 : decode cX12_findRings 114 = .ok (.bastore, 1) := by decide +kernel
theorem dX12_findRings_115 : decode cX12_findRings 115 = .ok (.iinc 1 1, 3) := by decide +kernel
theorem dX12_findRings_118 : decode cX12_findRings 118 = .ok (.goto (-26), 3) := by decide +kernel
theorem dX12_findRings_121 : decode cX12_findRings 121 = .ok (.return_, 1) := by decide +kernel
theorem dX12_open_0 : decode cX12_open 0 = .ok (.aload_n 0, 1) := by decide +kernel
theorem dX12_open_1 : decode cX12_open 1 = .ok (.invokevirtual 544, 3) := by decide +kernel
theorem dX12_open_4 : decode cX12_open 4 = .ok (.aload_n 0, 1) := by decide +kernel
theorem dX12_open_5 : decode cX12_open 5 = .ok (.iconst 0, 1) := by decide +kernel
theorem dX12_open_6 : decode cX12_open 6 = .ok (.putfield 547, 3) := by decide +kernel
theorem dX12_open_9 : decode cX12_open 9 = .ok (.iconst 0, 1) := by decide +kernel
theorem dX12_open_10 : decode cX12_open 10 = .ok (.istore_n 1, 1) := by decide +kernel
theorem dX12_open_11 : decode cX12_open 11 = .ok (.iload_n 1, 1) := by decide +kernel
theorem dX12_open_12 : decode cX12_open 12 = .ok (.sipush 216, 3) := by decide +kernel
theorem dX12_open_15 : decode cX12_open 15 = .ok (.if_icmp .ge 16, 3) := by decide +kernel
theorem dX12_open_18 : decode cX12_open 18 = .ok (.aload_n 0, 1) := by decide +kernel
theorem dX12_open_19 : decode cX12_open 19 = .ok (.getfield 263, 3) := by decide +kernel
theorem dX12_open_22 : decode cX12_open 22 = .ok (.iload_n 1, 1) := by decide +kernel
theorem dX12_open_23 : decode cX12_open 23 = .ok (.iconst 0, 1) := by decide +kernel
theorem dX12_open_24 : decode cX12_open 24 = .ok (.iastore, 1) := by decide +kernel
theorem dX12_open_25 : decode cX12_open 25 = .ok (.iinc 1 1, 3) := by decide +kernel
theorem dX12_open_28 : decode cX12_open 28 = .ok (.goto (-17), 3) := by decide +kernel
theorem dX12_open_31 : decode cX12_open 31 = .ok (.iconst 0, 1) := by decide +kernel
theorem dX12_open_32 : decode cX12_open 32 = .ok (.istore_n 1, 1) := by decide +kernel
theorem dX12_open_33 : decode cX12_open 33 = .ok (.iload_n 1, 1) := by decide +kernel
theorem dX12_open_34 : decode cX12_open 34 = .ok (.aload_n 0, 1) := by decide +kernel
theorem dX12_open_35 : decode cX12_open 35 = .ok (.getfield 478, 3) := by decide +kernel
theorem dX12_open_38 : decode cX12_open 38 = .ok (.if_icmp .ge 160, 3) := by decide +kernel
theorem dX12_open_41 : decode cX12_open 41 = .ok (.bipush 16, 2) := by decide +kernel
theorem dX12_open_43 : decode cX12_open 43 = .ok (.aload_n 0, 1) := by decide +kernel
theorem dX12_open_44 : decode cX12_open 44 = .ok (.getfield 11, 3) := by decide +kernel
theorem dX12_open_47 : decode cX12_open 47 = .ok (.imul, 1) := by decide +kernel
theorem dX12_open_48 : decode cX12_open 48 = .ok (.iload_n 1, 1) := by decide +kernel
theorem dX12_open_49 : decode cX12_open 49 = .ok (.iadd, 1) := by decide +kernel
theorem dX12_open_50 : decode cX12_open 50 = .ok (.istore_n 2, 1) := by decide +kernel
theorem dX12_open_51 : decode cX12_open 51 = .ok (.aload_n 0, 1) := by decide +kernel
theorem dX12_open_52 : decode cX12_open 52 = .ok (.iconst 0, 1) := by decide +kernel
theorem dX12_open_53 : decode cX12_open 53 = .ok (.putfield 550, 3) := by decide +kernel
theorem dX12_open_56 : decode cX12_open 56 = .ok (.iconst 0, 1) := by decide +kernel
theorem dX12_open_57 : decode cX12_open 57 = .ok (.istore_n 3, 1) := by decide +kernel
theorem dX12_open_58 : decode cX12_open 58 = .ok (.iload_n 3, 1) := by decide +kernel
theorem dX12_open_59 : decode cX12_open 59 = .ok (.aload_n 0, 1) := by decide +kernel
theorem dX12_open_60 : decode cX12_open 60 = .ok (.getfield 214, 3) := by decide +kernel
theorem dX12_open_63 : decode cX12_open 63 = .ok (.iload_n 2, 1) := by decide +kernel
theorem dX12_open_64 : decode cX12_open 64 = .ok (.iaload, 1) := by decide +kernel
theorem dX12_open_65 : decode cX12_open 65 = .ok (.if_icmp .ge 31, 3) := by decide +kernel
theorem dX12_open_68 : decode cX12_open 68 = .ok (.aload_n 0, 1) := by decide +kernel
theorem dX12_open_69 : decode cX12_open 69 = .ok (.iload_n 1, 1) := by decide +kernel
theorem dX12_open_70 : decode cX12_open 70 = .ok (.iconst (-1), 1) := by decide +kernel
theorem dX12_open_71 : decode cX12_open 71 = .ok (.sipush 200, 3) := by decide +kernel
theorem dX12_open_74 : decode cX12_open 74 = .ok (.iload_n 1, 1) := by decide +kernel
theorem dX12_open_75 : decode cX12_open 75 = .ok (.iadd, 1) := by decide +kernel
theorem dX12_open_76 : decode cX12_open 76 = .ok (.aload_n 0, 1) := by decide +kernel
theorem dX12_open_77 : decode cX12_open 77 = .ok (.getfield 211, 3) := by decide +kernel
theorem dX12_open_80 : decode cX12_open 80 = .ok (.bipush 8, 2) := by decide +kernel
theorem dX12_open_82 : decode cX12_open 82 = .ok (.iload_n 2, 1) := by decide +kernel
theorem dX12_open_83 : decode cX12_open 83 = .ok (.imul, 1) := by decide +kernel
theorem dX12_open_84 : decode cX12_open 84 = .ok (.iload_n 3, 1) := by decide +kernel
theorem dX12_open_85 : decode cX12_open 85 = .ok (.iadd, 1) := by decide +kernel
theorem dX12_open_86 : decode cX12_open 86 = .ok (.iaload, 1) := by decide +kernel
theorem dX12_open_87 : decode cX12_open 87 = .ok (.invokevirtual 553, 3) := by decide +kernel
theorem dX12_open_90 : decode cX12_open 90 = .ok (.iinc 3 1, 3) := by decide +kernel
theorem dX12_open_93 : decode cX12_open 93 = .ok (.goto (-35), 3) := by decide +kernel
theorem dX12_open_96 : decode cX12_open 96 = .ok (.aload_n 0, 1) := by decide +kernel
theorem dX12_open_97 : decode cX12_open 97 = .ok (.getfield 205, 3) := by decide +kernel
theorem dX12_open_100 : decode cX12_open 100 = .ok (.iload_n 2, 1) := by decide +kernel
theorem dX12_open_101 : decode cX12_open 101 = .ok (.iaload, 1) := by decide +kernel
theorem dX12_open_102 : decode cX12_open 102 = .ok (.aload_n 0, 1) := by decide +kernel
theorem dX12_open_103 : decode cX12_open 103 = .ok (.getfield 202, 3) := by decide +kernel
theorem dX12_open_106 : decode cX12_open 106 = .ok (.iload_n 2, 1) := by decide +kernel
theorem dX12_open_107 : decode cX12_open 107 = .ok (.iaload, 1) := by decide +kernel
theorem dX12_open_108 : decode cX12_open 108 = .ok (.isub, 1) := by decide +kernel
theorem dX12_open_109 : decode cX12_open 109 = .ok (.istore_n 3, 1) := by decide +kernel
theorem dX12_open_110 : decode cX12_open 110 = .ok (.iload_n 3, 1) := by decide +kernel
theorem dX12_open_111 : decode cX12_open 111 = .ok (.aload_n 0, 1) := by decide +kernel
theorem dX12_open_112 : decode cX12_open 112 = .ok (.getfield 205, 3) := by decide +kernel
theorem dX12_open_115 : decode cX12_open 115 = .ok (.iload_n 2, 1) := by decide +kernel
theorem dX12_open_116 : decode cX12_open 116 = .ok (.iaload, 1) := by decide +kernel
theorem dX12_open_117 : decode cX12_open 117 = .ok (.if_icmp .ge 75, 3) := by decide +kernel
theorem dX12_open_120 : decode cX12_open 120 = .ok (.aload_n 0, 1) := by decide +kernel
theorem dX12_open_121 : decode cX12_open 121 = .ok (.getfield 208, 3) := by decide +kernel
theorem dX12_open_124 : decode cX12_open 124 = .ok (.bipush 12, 2) := by decide +kernel
theorem dX12_open_126 : decode cX12_open 126 = .ok (.iload_n 2, 1) := by decide +kernel
theorem dX12_open_127 : decode cX12_open 127 = .ok (.imul, 1) := by decide +kernel
theorem dX12_open_128 : decode cX12_open 128 = .ok (.iload_n 3, 1) := by decide +kernel
theorem dX12_open_129 : decode cX12_open 129 = .ok (.iadd, 1) := by decide +kernel
theorem dX12_open_130 : decode cX12_open 130 = .ok (.iaload, 1) := by decide +kernel
theorem dX12_open_131 : decode cX12_open 131 = .ok (.istore 4, 2) := by decide +kernel
theorem dX12_open_133 : decode cX12_open 133 = .ok (.aload_n 0, 1) := by decide +kernel
theorem dX12_open_134 : decode cX12_open 134 = .ok (.iconst 0, 1) := by decide +kernel
theorem dX12_open_135 : decode cX12_open 135 = .ok (.putfield 550, 3) := by decide +kernel
theorem dX12_open_138 : decode cX12_open 138 = .ok (.iconst 0, 1) := by decide +kernel
theorem dX12_open_139 : decode cX12_open 139 = .ok (.istore 5, 2) := by decide +kernel
theorem dX12_open_141 : decode cX12_open 141 = .ok (.iload 5, 2) := by decide +kernel
theorem dX12_open_143 : decode cX12_open 143 = .ok (.aload_n 0, 1) := by decide +kernel
theorem dX12_open_144 : decode cX12_open 144 = .ok (.getfield 229, 3) := by decide +kernel
theorem dX12_open_147 : decode cX12_open 147 = .ok (.iload 4, 2) := by decide +kernel
theorem dX12_open_149 : decode cX12_open 149 = .ok (.iaload, 1) := by decide +kernel
theorem dX12_open_150 : decode cX12_open 150 = .ok (.if_icmp .ge 36, 3) := by decide +kernel
theorem dX12_open_153 : decode cX12_open 153 = .ok (.aload_n 0, 1) := by decide +kernel
theorem dX12_open_154 : decode cX12_open 154 = .ok (.iload_n 1, 1) := by decide +kernel
theorem dX12_open_155 : decode cX12_open 155 = .ok (.iload_n 3, 1) := by decide +kernel
theorem dX12_open_156 : decode cX12_open 156 = .ok (.iload 4, 2) := by decide +kernel
theorem dX12_open_158 : decode cX12_open 158 = .ok (.sipush 200, 3) := by decide +kernel
theorem dX12_open_161 : decode cX12_open 161 = .ok (.aload_n 0, 1) := by decide +kernel
theorem dX12_open_162 : decode cX12_open 162 = .ok (.getfield 11, 3) := by decide +kernel
theorem dX12_open_165 : decode cX12_open 165 = .ok (.imul, 1) := by decide +kernel
theorem dX12_open_166 : decode cX12_open 166 = .ok (.isub, 1) := by decide +kernel
theorem dX12_open_167 : decode cX12_open 167 = .ok (.aload_n 0, 1) := by decide +kernel
theorem dX12_open_168 : decode cX12_open 168 = .ok (.getfield 226, 3) := by decide +kernel
theorem dX12_open_171 : decode cX12_open 171 = .ok (.iload 4, 2) := by decide +kernel
theorem dX12_open_173 : decode cX12_open 173 = .ok (.iaload, 1) := by decide +kernel
theorem dX12_open_174 : decode cX12_open 174 = .ok (.iload 5, 2) := by decide +kernel
theorem dX12_open_176 : decode cX12_open 176 = .ok (.iadd, 1) := by decide +kernel
theorem dX12_open_177 : decode cX12_open 177 = .ok (.invokevirtual 553, 3) := by decide +kernel
theorem dX12_open_180 : decode cX12_open 180 = .ok (.iinc 5 1, 3) := by decide +kernel
theorem dX12_open_183 : decode cX12_open 183 = .ok (.goto (-42), 3) := by decide +kernel
theorem dX12_open_186 : decode cX12_open 186 = .ok (.iinc 3 1, 3) := by decide +kernel
theorem dX12_open_189 : decode cX12_open 189 = .ok (.goto (-79), 3) := by decide +kernel
theorem dX12_open_192 : decode cX12_open 192 = .ok (.iinc 1 1, 3) := by decide +kernel
theorem dX12_open_195 : decode cX12_open 195 = .ok (.goto (-162), 3) := by decide +kernel
theorem dX12_open_198 : decode cX12_open 198 = .ok (.return_, 1) := by decide +kernel
theorem dX12_openUse_0 : decode cX12_openUse 0 = .ok (.iconst 0, 1) := by decide +kernel
theorem dX12_openUse_1 : decode cX12_openUse 1 = .ok (.istore 5, 2) := by decide +kernel
theorem dX12_openUse_3 : decode cX12_openUse 3 = .ok (.aload_n 0, 1) := by decide +kernel
theorem dX12_openUse_4 : decode cX12_openUse 4 = .ok (.getfield 309, 3) := by decide +kernel
theorem dX12_openUse_7 : decode cX12_openUse 7 = .ok (.iconst 0, 1) := by decide +kernel
theorem dX12_openUse_8 : decode cX12_openUse 8 = .ok (.iload 4, 2) := by decide +kernel
theorem dX12_openUse_10 : decode cX12_openUse 10 = .ok (.iastore, 1) := by decide +kernel
theorem dX12_openUse_11 : decode cX12_openUse 11 = .ok (.aload_n 0, 1) := by decide +kernel
theorem dX12_openUse_12 : decode cX12_openUse 12 = .ok (.getfield 312, 3) := by decide +kernel
theorem dX12_openUse_15 : decode cX12_openUse 15 = .ok (.iconst 0, 1) := by decide +kernel
theorem dX12_openUse_16 : decode cX12_openUse 16 = .ok (.iconst 0, 1) := by decide +kernel
theorem dX12_openUse_17 : decode cX12_openUse 17 = .ok (.iastore, 1) := by decide +kernel
theorem dX12_openUse_18 : decode cX12_openUse 18 = .ok (.iload 5, 2) := by decide +kernel
theorem dX12_openUse_20 : decode cX12_openUse 20 = .ok (.ifCond .lt 188, 3) := by decide +kernel
theorem dX12_openUse_23 : decode cX12_openUse 23 = .ok (.aload_n 0, 1) := by decide +kernel
theorem dX12_openUse_24 : decode cX12_openUse 24 = .ok (.getfield 309, 3) := by decide +kernel
theorem dX12_openUse_27 : decode cX12_openUse 27 = .ok (.iload 5, 2) := by decide +kernel
theorem dX12_openUse_29 : decode cX12_openUse 29 = .ok (.iaload, 1) := by decide +kernel
theorem dX12_openUse_30 : decode cX12_openUse 30 = .ok (.istore 6, 2) := by decide +kernel
theorem dX12_openUse_32 : decode cX12_openUse 32 = .ok (.aload_n 0, 1) := by decide +kernel
theorem dX12_openUse_33 : decode cX12_openUse 33 = .ok (.getfield 232, 3) := by decide +kernel
theorem dX12_openUse_36 : decode cX12_openUse 36 = .ok (.iload 6, 2) := by decide +kernel
theorem dX12_openUse_38 : decode cX12_openUse 38 = .ok (.iaload, 1) := by decide +kernel
theorem dX12_openUse_39 : decode cX12_openUse 39 = .ok (.istore 7, 2) := by decide +kernel
theorem dX12_openUse_41 : decode cX12_openUse 41 = .ok (.iload 7, 2) := by decide +kernel
theorem dX12_openUse_43 : decode cX12_openUse 43 = .ok (.sipush 200, 3) := by decide +kernel
theorem dX12_openUse_46 : decode cX12_openUse 46 = .ok (.if_icmp .lt 21, 3) := by decide +kernel
theorem dX12_openUse_49 : decode cX12_openUse 49 = .ok (.aload_n 0, 1) := by decide +kernel
theorem dX12_openUse_50 : decode cX12_openUse 50 = .ok (.getfield 303, 3) := by decide +kernel
theorem dX12_openUse_53 : decode cX12_openUse 53 = .ok (.iload 7, 2) := by decide +kernel
theorem dX12_openUse_55 : decode cX12_openUse 55 = .ok (.sipush 200, 3) := by decide +kernel
theorem dX12_openUse_58 : decode cX12_openUse 58 = .ok (.isub, 1) := by decide +kernel
theorem dX12_openUse_59 : decode cX12_openUse 59 = .ok (.baload, 1) := by decide +kernel
theorem dX12_openUse_60 : decode cX12_openUse 60 = .ok (.ifCond .ne 7, 3) := by decide +kernel
theorem dX12_openUse_63 : decode cX12_openUse 63 = .ok (.iconst 1, 1) := by decide +kernel
theorem dX12_openUse_64 : decode cX12_openUse 64 = .ok (.goto 4, 3) := by decide +kernel
theorem dX12_openUse_67 : decode cX12_openUse 67 = .ok (.iconst 0, 1) := by decide +kernel
theorem dX12_openUse_68 : decode cX12_openUse 68 = .ok (.istore 8, 2) := by decide +kernel
theorem dX12_openUse_70 : decode cX12_openUse 70 = .ok (.iload 8, 2) := by decide +kernel
theorem dX12_openUse_72 : decode cX12_openUse 72 = .ok (.ifCond .ne 37, 3) := by decide +kernel
theorem dX12_openUse_75 : decode cX12_openUse 75 = .ok (.aload_n 0, 1) := by decide +kernel
theorem dX12_openUse_76 : decode cX12_openUse 76 = .ok (.getfield 550, 3) := by decide +kernel
theorem dX12_openUse_79 : decode cX12_openUse 79 = .ok (.bipush 100, 2) := by decide +kernel
theorem dX12_openUse_81 : decode cX12_openUse 81 = .ok (.if_icmp .ge 12, 3) := by decide +kernel
theorem dX12_openUse_84 : decode cX12_openUse 84 = .ok (.aload_n 0, 1) := by decide +kernel
theorem dX12_openUse_85 : decode cX12_openUse 85 = .ok (.iload_n 1, 1) := by decide +kernel
theorem dX12_openUse_86 : decode cX12_openUse 86 = .ok (.iload_n 2, 1) := by decide +kernel
theorem dX12_openUse_87 : decode cX12_openUse 87 = .ok (.iload_n 3, 1) := by decide +kernel
theorem dX12_openUse_88 : decode cX12_openUse 88 = .ok (.iload 5, 2) := by decide +kernel
theorem dX12_openUse_90 : decode cX12_openUse 90 = .ok (.invokevirtual 556, 3) := by decide +kernel
theorem dX12_openUse_93 : decode cX12_openUse 93 = .ok (.aload_n 0, 1) := by decide +kernel
theorem dX12_openUse_94 : decode cX12_openUse 94 = .ok (.dup, 1) := by decide +kernel
theorem dX12_openUse_95 : decode cX12_openUse 95 = .ok (.getfield 550, 3) := by decide +kernel
theorem dX12_openUse_98 : decode cX12_openUse 98 = .ok (.iconst 1, 1) := by decide +kernel
theorem dX12_openUse_99 : decode cX12_openUse 99 = .ok (.iadd, 1) := by decide +kernel
theorem dX12_openUse_100 : decode cX12_openUse 100 = .ok (.putfield 550, 3) := by decide +kernel
theorem dX12_openUse_103 : decode cX12_openUse 103 = .ok (.iinc 5 (-1), 3) := by decide +kernel
theorem dX12_openUse_106 : decode cX12_openUse 106 = .ok (.goto (-88), 3) := by decide +kernel
theorem dX12_openUse_109 : decode cX12_openUse 109 = .ok (.bipush 16, 2) := by decide +kernel
theorem dX12_openUse_111 : decode cX12_openUse 111 = .ok (.aload_n 0, 1) := by decide +kernel
theorem dX12_openUse_112 : decode cX12_openUse 112 = .ok (.getfield 11, 3) := by decide +kernel
theorem dX12_openUse_115 : decode cX12_openUse 115 = .ok (.imul, 1) := by decide +kernel
theorem dX12_openUse_116 : decode cX12_openUse 116 = .ok (.iload 7, 2) := by decide +kernel
theorem dX12_openUse_118 : decode cX12_openUse 118 = .ok (.iadd, 1) := by decide +kernel
theorem dX12_openUse_119 : decode cX12_openUse 119 = .ok (.sipush 200, 3) := by decide +kernel
theorem dX12_openUse_122 : decode cX12_openUse 122 = .ok (.isub, 1) := by decide +kernel
theorem dX12_openUse_123 : decode cX12_openUse 123 = .ok (.istore 9, 2) := by decide +kernel
theorem dX12_openUse_125 : decode cX12_openUse 125 = .ok (.aload_n 0, 1) := by decide +kernel
theorem dX12_openUse_126 : decode cX12_openUse 126 = .ok (.getfield 312, 3) := by decide +kernel
theorem dX12_openUse_129 : decode cX12_openUse 129 = .ok (.iload 5, 2) := by decide +kernel
theorem dX12_openUse_131 : decode cX12_openUse 131 = .ok (.iaload, 1) := by decide +kernel
theorem dX12_openUse_132 : decode cX12_openUse 132 = .ok (.aload_n 0, 1) := by decide +kernel
theorem dX12_openUse_133 : decode cX12_openUse 133 = .ok (.getfield 193, 3) := by decide +kernel
theorem dX12_openUse_136 : decode cX12_openUse 136 = .ok (.iload 9, 2) := by decide +kernel
theorem dX12_openUse_138 : decode cX12_openUse 138 = .ok (.iaload, 1) := by decide +kernel
theorem dX12_openUse_139 : decode cX12_openUse 139 = .ok (.if_icmp .eq 12, 3) := by decide +kernel
theorem dX12_openUse_142 : decode cX12_openUse 142 = .ok (.aload_n 0, 1) := by decide +kernel
theorem dX12_openUse_143 : decode cX12_openUse 143 = .ok (.getfield 550, 3) := by decide +kernel
theorem dX12_openUse_146 : decode cX12_openUse 146 = .ok (.bipush 100, 2) := by decide +kernel
theorem dX12_openUse_148 : decode cX12_openUse 148 = .ok (.if_icmp .lt 9, 3) := by decide +kernel
theorem dX12_openUse_151 : decode cX12_openUse 151 = .ok (.iinc 5 (-1), 3) := by decide +kernel
theorem dX12_openUse_154 : decode cX12_openUse 154 = .ok (.goto (-136), 3) := by decide +kernel
theorem dX12_openUse_157 : decode cX12_openUse 157 = .ok (.aload_n 0, 1) := by decide +kernel
theorem dX12_openUse_158 : decode cX12_openUse 158 = .ok (.getfield 309, 3) := by decide +kernel
theorem dX12_openUse_161 : decode cX12_openUse 161 = .ok (.iload 5, 2) := by decide +kernel
theorem dX12_openUse_163 : decode cX12_openUse 163 = .ok (.iconst 1, 1) := by decide +kernel
theorem dX12_openUse_164 : decode cX12_openUse 164 = .ok (.iadd, 1) := by decide +kernel
theorem dX12_openUse_165 : decode cX12_openUse 165 = .ok (.aload_n 0, 1) := by decide +kernel
theorem dX12_openUse_166 : decode cX12_openUse 166 = .ok (.getfield 190, 3) := by decide +kernel
theorem dX12_openUse_169 : decode cX12_openUse 169 = .ok (.iload 9, 2) := by decide +kernel
theorem dX12_openUse_171 : decode cX12_openUse 171 = .ok (.iaload, 1) := by decide +kernel
theorem dX12_openUse_172 : decode cX12_openUse 172 = .ok (.aload_n 0, 1) := by decide +kernel
theorem dX12_openUse_173 : decode cX12_openUse 173 = .ok (.getfield 312, 3) := by decide +kernel
theorem dX12_openUse_176 : decode cX12_openUse 176 = .ok (.iload 5, 2) := by decide +kernel
theorem dX12_openUse_178 : decode cX12_openUse 178 = .ok (.iaload, 1) := by decide +kernel
theorem dX12_openUse_179 : decode cX12_openUse 179 = .ok (.iadd, 1) := by decide +kernel
theorem dX12_openUse_180 : decode cX12_openUse 180 = .ok (.iastore, 1) := by decide +kernel
theorem dX12_openUse_181 : decode cX12_openUse 181 = .ok (.aload_n 0, 1) := by decide +kernel
theorem dX12_openUse_182 : decode cX12_openUse 182 = .ok (.getfield 312, 3) := by decide +kernel
theorem dX12_openUse_185 : decode cX12_openUse 185 = .ok (.iload 5, 2) := by decide +kernel
theorem dX12_openUse_187 : decode cX12_openUse 187 = .ok (.dup2, 1) := by decide +kernel
theorem dX12_openUse_188 : decode cX12_openUse 188 = .ok (.iaload, 1) := by decide +kernel
theorem dX12_openUse_189 : decode cX12_openUse 189 = .ok (.iconst 1, 1) := by decide +kernel
theorem dX12_openUse_190 : decode cX12_openUse 190 = .ok (.iadd, 1) := by decide +kernel
theorem dX12_openUse_191 : decode cX12_openUse 191 = .ok (.iastore, 1) := by decide +kernel
theorem dX12_openUse_192 : decode cX12_openUse 192 = .ok (.aload_n 0, 1) := by decide +kernel
theorem dX12_openUse_193 : decode cX12_openUse 193 = .ok (.getfield 312, 3) := by decide +kernel
theorem dX12_openUse_196 : decode cX12_openUse 196 = .ok (.iload 5, 2) := by decide +kernel
theorem dX12_openUse_198 : decode cX12_openUse 198 = .ok (.iconst 1, 1) := by decide +kernel
theorem dX12_openUse_199 : decode cX12_openUse 199 = .ok (.iadd, 1) := by decide +kernel
theorem dX12_openUse_200 : decode cX12_openUse 200 = .ok (.iconst 0, 1) := by decide +kernel
theorem dX12_openUse_201 : decode cX12_openUse 201 = .ok (.iastore, 1) := by decide +kernel
theorem dX12_openUse_202 : decode cX12_openUse 202 = .ok (.iinc 5 1, 3) := by decide +kernel
theorem dX12_openUse_205 : decode cX12_openUse 205 = .ok (.goto (-187), 3) := by decide +kernel
theorem dX12_openUse_208 : decode cX12_openUse 208 = .ok (.return_, 1) := by decide +kernel
theorem dX12_hold_0 : decode cX12_hold 0 = .ok (.aload_n 0, 1) := by decide +kernel
theorem dX12_hold_1 : decode cX12_hold 1 = .ok (.getfield 309, 3) := by decide +kernel
theorem dX12_hold_4 : decode cX12_hold 4 = .ok (.iload 4, 2) := by decide +kernel
theorem dX12_hold_6 : decode cX12_hold 6 = .ok (.iaload, 1) := by decide +kernel
theorem dX12_hold_7 : decode cX12_hold 7 = .ok (.istore 5, 2) := by decide +kernel
theorem dX12_hold_9 : decode cX12_hold 9 = .ok (.aload_n 0, 1) := by decide +kernel
theorem dX12_hold_10 : decode cX12_hold 10 = .ok (.getfield 232, 3) := by decide +kernel
theorem dX12_hold_13 : decode cX12_hold 13 = .ok (.iload 5, 2) := by decide +kernel
theorem dX12_hold_15 : decode cX12_hold 15 = .ok (.iaload, 1) := by decide +kernel
theorem dX12_hold_16 : decode cX12_hold 16 = .ok (.istore 6, 2) := by decide +kernel
theorem dX12_hold_18 : decode cX12_hold 18 = .ok (.iload 6, 2) := by decide +kernel
theorem dX12_hold_20 : decode cX12_hold 20 = .ok (.sipush 200, 3) := by decide +kernel
theorem dX12_hold_23 : decode cX12_hold 23 = .ok (.if_icmp .lt 7, 3) := by decide +kernel
theorem dX12_hold_26 : decode cX12_hold 26 = .ok (.iconst 1, 1) := by decide +kernel
theorem dX12_hold_27 : decode cX12_hold 27 = .ok (.goto 35, 3) := by decide +kernel
theorem dX12_hold_30 : decode cX12_hold 30 = .ok (.aload_n 0, 1) := by decide +kernel
theorem dX12_hold_31 : decode cX12_hold 31 = .ok (.iload 6, 2) := by decide +kernel
theorem dX12_hold_33 : decode cX12_hold 33 = .ok (.iload_n 1, 1) := by decide +kernel
theorem dX12_hold_34 : decode cX12_hold 34 = .ok (.iload_n 2, 1) := by decide +kernel
theorem dX12_hold_35 : decode cX12_hold 35 = .ok (.invokevirtual 559, 3) := by decide +kernel
theorem dX12_hold_38 : decode cX12_hold 38 = .ok (.ifCond .ne 7, 3) := by decide +kernel
theorem dX12_hold_41 : decode cX12_hold 41 = .ok (.iconst 2, 1) := by decide +kernel
theorem dX12_hold_42 : decode cX12_hold 42 = .ok (.goto 20, 3) := by decide +kernel
theorem dX12_hold_45 : decode cX12_hold 45 = .ok (.aload_n 0, 1) := by decide +kernel
theorem dX12_hold_46 : decode cX12_hold 46 = .ok (.iload 5, 2) := by decide +kernel
theorem dX12_hold_48 : decode cX12_hold 48 = .ok (.iload 6, 2) := by decide +kernel
theorem dX12_hold_50 : decode cX12_hold 50 = .ok (.iload_n 1, 1) := by decide +kernel
theorem dX12_hold_51 : decode cX12_hold 51 = .ok (.invokevirtual 562, 3) := by decide +kernel
theorem dX12_hold_54 : decode cX12_hold 54 = .ok (.ifCond .ne 7, 3) := by decide +kernel
theorem dX12_hold_57 : decode cX12_hold 57 = .ok (.iconst 3, 1) := by decide +kernel
theorem dX12_hold_58 : decode cX12_hold 58 = .ok (.goto 4, 3) := by decide +kernel
theorem dX12_hold_61 : decode cX12_hold 61 = .ok (.iconst 0, 1) := by decide +kernel
theorem dX12_hold_62 : decode cX12_hold 62 = .ok (.istore 7, 2) := by decide +kernel
theorem dX12_hold_64 : decode cX12_hold 64 = .ok (.iload 7, 2) := by decide +kernel
theorem dX12_hold_66 : decode cX12_hold 66 = .ok (.ifCond .le 67, 3) := by decide +kernel
theorem dX12_hold_69 : decode cX12_hold 69 = .ok (.aload_n 0, 1) := by decide +kernel
theorem dX12_hold_70 : decode cX12_hold 70 = .ok (.getfield 547, 3) := by decide +kernel
theorem dX12_hold_73 : decode cX12_hold 73 = .ok (.sipush 200, 3) := by decide +kernel
theorem dX12_hold_76 : decode cX12_hold 76 = .ok (.if_icmp .ne 4, 3) := by decide +kernel
theorem dX12_hold_79 : decode cX12_hold 79 = .ok (.return_, 1) := by decide +kernel
theorem dX12_hold_80 : decode cX12_hold 80 = .ok (.aload_n 0, 1) := by decide +kernel
theorem dX12_hold_81 : decode cX12_hold 81 = .ok (.getfield 291, 3) := by decide +kernel
theorem dX12_hold_84 : decode cX12_hold 84 = .ok (.aload_n 0, 1) := by decide +kernel
theorem dX12_hold_85 : decode cX12_hold 85 = .ok (.getfield 547, 3) := by decide +kernel
theorem dX12_hold_88 : decode cX12_hold 88 = .ok (.iload_n 1, 1) := by decide +kernel
theorem dX12_hold_89 : decode cX12_hold 89 = .ok (.iastore, 1) := by decide +kernel
theorem dX12_hold_90 : decode cX12_hold 90 = .ok (.aload_n 0, 1) := by decide +kernel
theorem dX12_hold_91 : decode cX12_hold 91 = .ok (.getfield 294, 3) := by decide +kernel
theorem dX12_hold_94 : decode cX12_hold 94 = .ok (.aload_n 0, 1) := by decide +kernel
theorem dX12_hold_95 : decode cX12_hold 95 = .ok (.getfield 547, 3) := by decide +kernel
theorem dX12_hold_98 : decode cX12_hold 98 = .ok (.iload_n 2, 1) := by decide +kernel
theorem dX12_hold_99 : decode cX12_hold 99 = .ok (.iastore, 1) := by decide +kernel
theorem dX12_hold_100 : decode cX12_hold 100 = .ok (.aload_n 0, 1) := by decide +kernel
theorem dX12_hold_101 : decode cX12_hold 101 = .ok (.getfield 297, 3) := by decide +kernel
theorem dX12_hold_104 : decode cX12_hold 104 = .ok (.aload_n 0, 1) := by decide +kernel
theorem dX12_hold_105 : decode cX12_hold 105 = .ok (.getfield 547, 3) := by decide +kernel
theorem dX12_hold_108 : decode cX12_hold 108 = .ok (.iload 7, 2) := by decide +kernel
theorem dX12_hold_110 : decode cX12_hold 110 = .ok (.iastore, 1) := by decide +kernel
theorem dX12_hold_111 : decode cX12_hold 111 = .ok (.aload_n 0, 1) := by decide +kernel
theorem dX12_hold_112 : decode cX12_hold 112 = .ok (.getfield 300, 3) := by decide +kernel
theorem dX12_hold_115 : decode cX12_hold 115 = .ok (.aload_n 0, 1) := by decide +kernel
theorem dX12_hold_116 : decode cX12_hold 116 = .ok (.getfield 547, 3) := by decide +kernel
theorem dX12_hold_119 : decode cX12_hold 119 = .ok (.iload 6, 2) := by decide +kernel
theorem dX12_hold_121 : decode cX12_hold 121 = .ok (.iastore, 1) := by decide +kernel
theorem dX12_hold_122 : decode cX12_hold 122 = .ok (.aload_n 0, 1) := by decide +kernel
theorem dX12_hold_123 : decode cX12_hold 123 = .ok (.dup, 1) := by decide +kernel
theorem dX12_hold_124 : decode cX12_hold 124 = .ok (.getfield 547, 3) := by decide +kernel
theorem dX12_hold_127 : decode cX12_hold 127 = .ok (.iconst 1, 1) := by decide +kernel
theorem dX12_hold_128 : decode cX12_hold 128 = .ok (.iadd, 1) := by decide +kernel
theorem dX12_hold_129 : decode cX12_hold 129 = .ok (.putfield 547, 3) := by decide +kernel
theorem dX12_hold_132 : decode cX12_hold 132 = .ok (.return_, 1) := by decide +kernel
theorem dX12_hold_133 : decode cX12_hold 133 = .ok (.aload_n 0, 1) := by decide +kernel
theorem dX12_hold_134 : decode cX12_hold 134 = .ok (.getfield 263, 3) := by decide +kernel
theorem dX12_hold_137 : decode cX12_hold 137 = .ok (.iload_n 3, 1) := by decide +kernel
theorem dX12_hold_138 : decode cX12_hold 138 = .ok (.iaload, 1) := by decide +kernel
theorem dX12_hold_139 : decode cX12_hold 139 = .ok (.bipush 40, 2) := by decide +kernel
theorem dX12_hold_141 : decode cX12_hold 141 = .ok (.if_icmp .ne 4, 3) := by decide +kernel
theorem dX12_hold_144 : decode cX12_hold 144 = .ok (.return_, 1) := by decide +kernel
theorem dX12_hold_145 : decode cX12_hold 145 = .ok (.bipush 40, 2) := by decide +kernel
theorem dX12_hold_147 : decode cX12_hold 147 = .ok (.iload_n 3, 1) := by decide +kernel
theorem dX12_hold_148 : decode cX12_hold 148 = .ok (.imul, 1) := by decide +kernel
theorem dX12_hold_149 : decode cX12_hold 149 = .ok (.aload_n 0, 1) := by decide +kernel
theorem dX12_hold_150 : decode cX12_hold 150 = .ok (.getfield 263, 3) := by decide +kernel
theorem dX12_hold_153 : decode cX12_hold 153 = .ok (.iload_n 3, 1) := by decide +kernel
theorem dX12_hold_154 : decode cX12_hold 154 = .ok (.iaload, 1) := by decide +kernel
theorem dX12_hold_155 : decode cX12_hold 155 = .ok (.iadd, 1) := by decide +kernel
theorem dX12_hold_156 : decode cX12_hold 156 = .ok (.istore 8, 2) := by decide +kernel
theorem dX12_hold_158 : decode cX12_hold 158 = .ok (.aload_n 0, 1) := by decide +kernel
theorem dX12_hold_159 : decode cX12_hold 159 = .ok (.getfield 263, 3) := by decide +kernel
theorem dX12_hold_162 : decode cX12_hold 162 = .ok (.iload_n 3, 1) := by decide +kernel
theorem dX12_hold_163 : decode cX12_hold 163 = .ok (.dup2, 1) := by decide +kernel
theorem dX12_hold_164 : decode cX12_hold 164 = .ok (.iaload, 1) := by decide +kernel
theorem dX12_hold_165 : decode cX12_hold 165 = .ok (.iconst 1, 1) := by decide +kernel
theorem dX12_hold_166 : decode cX12_hold 166 = .ok (.iadd, 1) := by decide +kernel
theorem dX12_hold_167 : decode cX12_hold 167 = .ok (.iastore, 1) := by decide +kernel
theorem dX12_hold_168 : decode cX12_hold 168 = .ok (.aload_n 0, 1) := by decide +kernel
theorem dX12_hold_169 : decode cX12_hold 169 = .ok (.getfield 266, 3) := by decide +kernel
theorem dX12_hold_172 : decode cX12_hold 172 = .ok (.iload 8, 2) := by decide +kernel
theorem dX12_hold_174 : decode cX12_hold 174 = .ok (.iload 6, 2) := by decide +kernel
theorem dX12_hold_176 : decode cX12_hold 176 = .ok (.iastore, 1) := by decide +kernel
theorem dX12_hold_177 : decode cX12_hold 177 = .ok (.aload_n 0, 1) := by decide +kernel
theorem dX12_hold_178 : decode cX12_hold 178 = .ok (.getfield 269, 3) := by decide +kernel
theorem dX12_hold_181 : decode cX12_hold 181 = .ok (.iload 8, 2) := by decide +kernel
theorem dX12_hold_183 : decode cX12_hold 183 = .ok (.iconst 0, 1) := by decide +kernel
theorem dX12_hold_184 : decode cX12_hold 184 = .ok (.iastore, 1) := by decide +kernel
theorem dX12_hold_185 : decode cX12_hold 185 = .ok (.aload_n 0, 1) := by decide +kernel
theorem dX12_hold_186 : decode cX12_hold 186 = .ok (.getfield 272, 3) := by decide +kernel
theorem dX12_hold_189 : decode cX12_hold 189 = .ok (.iload 8, 2) := by decide +kernel
theorem dX12_hold_191 : decode cX12_hold 191 = .ok (.iconst 0, 1) := by decide +kernel
theorem dX12_hold_192 : decode cX12_hold 192 = .ok (.iastore, 1) := by decide +kernel
theorem dX12_hold_193 : decode cX12_hold 193 = .ok (.aload_n 0, 1) := by decide +kernel
theorem dX12_hold_194 : decode cX12_hold 194 = .ok (.getfield 275, 3) := by decide +kernel
theorem dX12_hold_197 : decode cX12_hold 197 = .ok (.iload 8, 2) := by decide +kernel
theorem dX12_hold_199 : decode cX12_hold 199 = .ok (.iconst 0, 1) := by decide +kernel
theorem dX12_hold_200 : decode cX12_hold 200 = .ok (.iastore, 1) := by decide +kernel
theorem dX12_hold_201 : decode cX12_hold 201 = .ok (.aload_n 0, 1) := by decide +kernel
theorem dX12_hold_202 : decode cX12_hold 202 = .ok (.getfield 278, 3) := by decide +kernel
theorem dX12_hold_205 : decode cX12_hold 205 = .ok (.iload 8, 2) := by decide +kernel
theorem dX12_hold_207 : decode cX12_hold 207 = .ok (.iconst 0, 1) := by decide +kernel
theorem dX12_hold_208 : decode cX12_hold 208 = .ok (.iastore, 1) := by decide +kernel
theorem dX12_hold_209 : decode cX12_hold 209 = .ok (.aload_n 0, 1) := by decide +kernel
theorem dX12_hold_210 : decode cX12_hold 210 = .ok (.getfield 281, 3) := by decide +kernel
theorem dX12_hold_213 : decode cX12_hold 213 = .ok (.iload 8, 2) := by decide +kernel
theorem dX12_hold_215 : decode cX12_hold 215 = .ok (.iconst 0, 1) := by decide +kernel
theorem dX12_hold_216 : decode cX12_hold 216 = .ok (.iastore, 1) := by decide +kernel
theorem dX12_hold_217 : decode cX12_hold 217 = .ok (.aload_n 0, 1) := by decide +kernel
theorem dX12_hold_218 : decode cX12_hold 218 = .ok (.getfield 284, 3) := by decide +kernel
theorem dX12_hold_221 : decode cX12_hold 221 = .ok (.iload 8, 2) := by decide +kernel
theorem dX12_hold_223 : decode cX12_hold 223 = .ok (.aload_n 0, 1) := by decide +kernel
theorem dX12_hold_224 : decode cX12_hold 224 = .ok (.getfield 235, 3) := by decide +kernel
theorem dX12_hold_227 : decode cX12_hold 227 = .ok (.iload 5, 2) := by decide +kernel
theorem dX12_hold_229 : decode cX12_hold 229 = .ok (.iaload, 1) := by decide +kernel
theorem dX12_hold_230 : decode cX12_hold 230 = .ok (.iastore, 1) := by decide +kernel
theorem dX12_hold_231 : decode cX12_hold 231 = .ok (.iconst 0, 1) := by decide +kernel
theorem dX12_hold_232 : decode cX12_hold 232 = .ok (.istore 9, 2) := by decide +kernel
theorem dX12_hold_234 : decode cX12_hold 234 = .ok (.iload 9, 2) := by decide +kernel
theorem dX12_hold_236 : decode cX12_hold 236 = .ok (.aload_n 0, 1) := by decide +kernel
theorem dX12_hold_237 : decode cX12_hold 237 = .ok (.getfield 235, 3) := by decide +kernel
theorem dX12_hold_240 : decode cX12_hold 240 = .ok (.iload 5, 2) := by decide +kernel
theorem dX12_hold_242 : decode cX12_hold 242 = .ok (.iaload, 1) := by decide +kernel
theorem dX12_hold_243 : decode cX12_hold 243 = .ok (.if_icmp .ge 32, 3) := by decide +kernel
theorem dX12_hold_246 : decode cX12_hold 246 = .ok (.aload_n 0, 1) := by decide +kernel
theorem dX12_hold_247 : decode cX12_hold 247 = .ok (.getfield 288, 3) := by decide +kernel
theorem dX12_hold_250 : decode cX12_hold 250 = .ok (.iconst 4, 1) := by decide +kernel
theorem dX12_hold_251 : decode cX12_hold 251 = .ok (.iload 8, 2) := by decide +kernel
theorem dX12_hold_253 : decode cX12_hold 253 = .ok (.imul, 1) := by decide +kernel
theorem dX12_hold_254 : decode cX12_hold 254 = .ok (.iload 9, 2) := by decide +kernel
theorem dX12_hold_256 : decode cX12_hold 256 = .ok (.iadd, 1) := by decide +kernel
theorem dX12_hold_257 : decode cX12_hold 257 = .ok (.aload_n 0, 1) := by decide +kernel
theorem dX12_hold_258 : decode cX12_hold 258 = .ok (.iload 5, 2) := by decide +kernel
theorem dX12_hold_260 : decode cX12_hold 260 = .ok (.iload 6, 2) := by decide +kernel
theorem dX12_hold_262 : decode cX12_hold 262 = .ok (.iload_n 1, 1) := by decide +kernel
theorem dX12_hold_263 : decode cX12_hold 263 = .ok (.iload 9, 2) := by decide +kernel
theorem dX12_hold_265 : decode cX12_hold 265 = .ok (.invokevirtual 565, 3) := by decide +kernel
theorem dX12_hold_268 : decode cX12_hold 268 = .ok (.iastore, 1) := by decide +kernel
theorem dX12_hold_269 : decode cX12_hold 269 = .ok (.iinc 9 1, 3) := by decide +kernel
theorem dX12_hold_272 : decode cX12_hold 272 = .ok (.goto (-38), 3) := by decide +kernel
theorem dX12_hold_275 : decode cX12_hold 275 = .ok (.iload 4, 2) := by decide +kernel
theorem dX12_hold_277 : decode cX12_hold 277 = .ok (.istore 9, 2) := by decide +kernel
theorem dX12_hold_279 : decode cX12_hold 279 = .ok (.iload 9, 2) := by decide +kernel
theorem dX12_hold_281 : decode cX12_hold 281 = .ok (.ifCond .lt 128, 3) := by decide +kernel
theorem dX12_hold_284 : decode cX12_hold 284 = .ok (.aload_n 0, 1) := by decide +kernel
theorem dX12_hold_285 : decode cX12_hold 285 = .ok (.getfield 309, 3) := by decide +kernel
theorem dX12_hold_288 : decode cX12_hold 288 = .ok (.iload 9, 2) := by decide +kernel
theorem dX12_hold_290 : decode cX12_hold 290 = .ok (.iaload, 1) := by decide +kernel
theorem dX12_hold_291 : decode cX12_hold 291 = .ok (.istore 10, 2) := by decide +kernel
theorem dX12_hold_293 : decode cX12_hold 293 = .ok (.aload_n 0, 1) := by decide +kernel
theorem dX12_hold_294 : decode cX12_hold 294 = .ok (.getfield 238, 3) := by decide +kernel
theorem dX12_hold_297 : decode cX12_hold 297 = .ok (.iload 10, 2) := by decide +kernel
theorem dX12_hold_299 : decode cX12_hold 299 = .ok (.iaload, 1) := by decide +kernel
theorem dX12_hold_300 : decode cX12_hold 300 = .ok (.ifCond .lt 17, 3) := by decide +kernel
theorem dX12_hold_303 : decode cX12_hold 303 = .ok (.aload_n 0, 1) := by decide +kernel
theorem dX12_hold_304 : decode cX12_hold 304 = .ok (.getfield 269, 3) := by decide +kernel
theorem dX12_hold_307 : decode cX12_hold 307 = .ok (.iload 8, 2) := by decide +kernel
theorem dX12_hold_309 : decode cX12_hold 309 = .ok (.aload_n 0, 1) := by decide +kernel
theorem dX12_hold_310 : decode cX12_hold 310 = .ok (.getfield 238, 3) := by decide +kernel
theorem dX12_hold_313 : decode cX12_hold 313 = .ok (.iload 10, 2) := by decide +kernel
theorem dX12_hold_315 : decode cX12_hold 315 = .ok (.iaload, 1) := by decide +kernel
theorem dX12_hold_316 : decode cX12_hold 316 = .ok (.iastore, 1) := by decide +kernel
theorem dX12_hold_317 : decode cX12_hold 317 = .ok (.aload_n 0, 1) := by decide +kernel
theorem dX12_hold_318 : decode cX12_hold 318 = .ok (.getfield 241, 3) := by decide +kernel
theorem dX12_hold_321 : decode cX12_hold 321 = .ok (.iload 10, 2) := by decide +kernel
theorem dX12_hold_323 : decode cX12_hold 323 = .ok (.iaload, 1) := by decide +kernel
theorem dX12_hold_324 : decode cX12_hold 324 = .ok (.ifCond .lt 17, 3) := by decide +kernel
theorem dX12_hold_327 : decode cX12_hold 327 = .ok (.aload_n 0, 1) := by decide +kernel
theorem dX12_hold_328 : decode cX12_hold 328 = .ok (.getfield 272, 3) := by decide +kernel
theorem dX12_hold_331 : decode cX12_hold 331 = .ok (.iload 8, 2) := by decide +kernel
theorem dX12_hold_333 : decode cX12_hold 333 = .ok (.aload_n 0, 1) := by decide +kernel
theorem dX12_hold_334 : decode cX12_hold 334 = .ok (.getfield 241, 3) := by decide +kernel
theorem dX12_hold_337 : decode cX12_hold 337 = .ok (.iload 10, 2) := by decide +kernel
theorem dX12_hold_339 : decode cX12_hold 339 = .ok (.iaload, 1) := by decide +kernel
theorem dX12_hold_340 : decode cX12_hold 340 = .ok (.iastore, 1) := by decide +kernel
theorem dX12_hold_341 : decode cX12_hold 341 = .ok (.aload_n 0, 1) := by decide +kernel
theorem dX12_hold_342 : decode cX12_hold 342 = .ok (.getfield 253, 3) := by decide +kernel
theorem dX12_hold_345 : decode cX12_hold 345 = .ok (.iload 10, 2) := by decide +kernel
theorem dX12_hold_347 : decode cX12_hold 347 = .ok (.baload, 1) := by decide +kernel
theorem dX12_hold_348 : decode cX12_hold 348 = .ok (.ifCond .eq 17, 3) := by decide +kernel
theorem dX12_hold_351 : decode cX12_hold 351 = .ok (.aload_n 0, 1) := by decide +kernel
theorem dX12_hold_352 : decode cX12_hold 352 = .ok (.getfield 275, 3) := by decide +kernel
theorem dX12_hold_355 : decode cX12_hold 355 = .ok (.iload 8, 2) := by decide +kernel
theorem dX12_hold_357 : decode cX12_hold 357 = .ok (.aload_n 0, 1) := by decide +kernel
theorem dX12_hold_358 : decode cX12_hold 358 = .ok (.getfield 244, 3) := by decide +kernel
theorem dX12_hold_361 : decode cX12_hold 361 = .ok (.iload 10, 2) := by decide +kernel
theorem dX12_hold_363 : decode cX12_hold 363 = .ok (.iaload, 1) := by decide +kernel
theorem dX12_hold_364 : decode cX12_hold 364 = .ok (.iastore, 1) := by decide +kernel
theorem dX12_hold_365 : decode cX12_hold 365 = .ok (.aload_n 0, 1) := by decide +kernel
theorem dX12_hold_366 : decode cX12_hold 366 = .ok (.getfield 250, 3) := by decide +kernel
theorem dX12_hold_369 : decode cX12_hold 369 = .ok (.iload 10, 2) := by decide +kernel
theorem dX12_hold_371 : decode cX12_hold 371 = .ok (.iaload, 1) := by decide +kernel
theorem dX12_hold_372 : decode cX12_hold 372 = .ok (.ifCond .lt 31, 3) := by decide +kernel
theorem dX12_hold_375 : decode cX12_hold 375 = .ok (.aload_n 0, 1) := by decide +kernel
theorem dX12_hold_376 : decode cX12_hold 376 = .ok (.getfield 278, 3) := by decide +kernel
theorem dX12_hold_379 : decode cX12_hold 379 = .ok (.iload 8, 2) := by decide +kernel
theorem dX12_hold_381 : decode cX12_hold 381 = .ok (.aload_n 0, 1) := by decide +kernel
theorem dX12_hold_382 : decode cX12_hold 382 = .ok (.getfield 247, 3) := by decide +kernel
theorem dX12_hold_385 : decode cX12_hold 385 = .ok (.iload 10, 2) := by decide +kernel
theorem dX12_hold_387 : decode cX12_hold 387 = .ok (.iaload, 1) := by decide +kernel
theorem dX12_hold_388 : decode cX12_hold 388 = .ok (.iastore, 1) := by decide +kernel
theorem dX12_hold_389 : decode cX12_hold 389 = .ok (.aload_n 0, 1) := by decide +kernel
theorem dX12_hold_390 : decode cX12_hold 390 = .ok (.getfield 281, 3) := by decide +kernel
theorem dX12_hold_393 : decode cX12_hold 393 = .ok (.iload 8, 2) := by decide +kernel
theorem dX12_hold_395 : decode cX12_hold 395 = .ok (.aload_n 0, 1) := by decide +kernel
theorem dX12_hold_396 : decode cX12_hold 396 = .ok (.getfield 250, 3) := by decide +kernel
theorem dX12_hold_399 : decode cX12_hold 399 = .ok (.iload 10, 2) := by decide +kernel
theorem dX12_hold_401 : decode cX12_hold 401 = .ok (.iaload, 1) := by decide +kernel
theorem dX12_hold_402 : decode cX12_hold 402 = .ok (.iastore, 1) := by decide +kernel
theorem dX12_hold_403 : decode cX12_hold 403 = .ok (.iinc 9 (-1), 3) := by decide +kernel
theorem dX12_hold_406 : decode cX12_hold 406 = .ok (.goto (-127), 3) := by decide +kernel
theorem dX12_hold_409 : decode cX12_hold 409 = .ok (.return_, 1) := by decide +kernel
theorem dX12_typeOf_0 : decode cX12_typeOf 0 = .ok (.iload_n 2, 1) := by decide +kernel
theorem dX12_typeOf_1 : decode cX12_typeOf 1 = .ok (.ifCond .ge 7, 3) := by decide +kernel
theorem dX12_typeOf_4 : decode cX12_typeOf 4 = .ok (.iconst (-1), 1) := by decide +kernel
theorem dX12_typeOf_5 : decode cX12_typeOf 5 = .ok (.goto 27, 3) := by decide +kernel
theorem dX12_typeOf_8 : decode cX12_typeOf 8 = .ok (.aload_n 0, 1) := by decide +kernel
theorem dX12_typeOf_9 : decode cX12_typeOf 9 = .ok (.getfield 220, 3) := by decide +kernel
theorem dX12_typeOf_12 : decode cX12_typeOf 12 = .ok (.aload_n 0, 1) := by decide +kernel
theorem dX12_typeOf_13 : decode cX12_typeOf 13 = .ok (.getfield 208, 3) := by decide +kernel
theorem dX12_typeOf_16 : decode cX12_typeOf 16 = .ok (.bipush 12, 2) := by decide +kernel
theorem dX12_typeOf_18 : decode cX12_typeOf 18 = .ok (.bipush 16, 2) := by decide +kernel
theorem dX12_typeOf_20 : decode cX12_typeOf 20 = .ok (.aload_n 0, 1) := by decide +kernel
theorem dX12_typeOf_21 : decode cX12_typeOf 21 = .ok (.getfield 11, 3) := by decide +kernel
theorem dX12_typeOf_24 : decode cX12_typeOf 24 = .ok (.imul, 1) := by decide +kernel
theorem dX12_typeOf_25 : decode cX12_typeOf 25 = .ok (.iload_n 1, 1) := by decide +kernel
theorem dX12_typeOf_26 : decode cX12_typeOf 26 = .ok (.iadd, 1) := by decide +kernel
theorem dX12_typeOf_27 : decode cX12_typeOf 27 = .ok (.imul, 1) := by decide +kernel
theorem dX12_typeOf_28 : decode cX12_typeOf 28 = .ok (.iload_n 2, 1) := by decide +kernel
theorem dX12_typeOf_29 : decode cX12_typeOf 29 = .ok (.iadd, 1) := by decide +kernel
theorem dX12_typeOf_30 : decode cX12_typeOf 30 = .ok (.iaload, 1) := by decide +kernel
theorem dX12_typeOf_31 : decode cX12_typeOf 31 = .ok (.iaload, 1) := by decide +kernel
theorem dX12_typeOf_32 : decode cX12_typeOf 32 = .ok (.ireturn, 1) := by decide +kernel
theorem dX12_isFor_0 : decode cX12_isFor 0 = .ok (.aload_n 0, 1) := by decide +kernel
theorem dX12_isFor_1 : decode cX12_isFor 1 = .ok (.iload_n 2, 1) := by decide +kernel
theorem dX12_isFor_2 : decode cX12_isFor 2 = .ok (.iload_n 3, 1) := by decide +kernel
theorem dX12_isFor_3 : decode cX12_isFor 3 = .ok (.invokevirtual 569, 3) := by decide +kernel
theorem dX12_isFor_6 : decode cX12_isFor 6 = .ok (.istore 4, 2) := by decide +kernel
theorem dX12_isFor_8 : decode cX12_isFor 8 = .ok (.iload_n 1, 1) := by decide +kernel
theorem dX12_isFor_9 : decode cX12_isFor 9 = .ok (.bipush 7, 2) := by decide +kernel
theorem dX12_isFor_11 : decode cX12_isFor 11 = .ok (.if_icmp .eq 9, 3) := by decide +kernel
theorem dX12_isFor_14 : decode cX12_isFor 14 = .ok (.iload_n 1, 1) := by decide +kernel
theorem dX12_isFor_15 : decode cX12_isFor 15 = .ok (.bipush 8, 2) := by decide +kernel
theorem dX12_isFor_17 : decode cX12_isFor 17 = .ok (.if_icmp .ne 15, 3) := by decide +kernel
theorem dX12_isFor_20 : decode cX12_isFor 20 = .ok (.iload 4, 2) := by decide +kernel
theorem dX12_isFor_22 : decode cX12_isFor 22 = .ok (.iconst (-1), 1) := by decide +kernel
theorem dX12_isFor_23 : decode cX12_isFor 23 = .ok (.if_icmp .ne 7, 3) := by decide +kernel
theorem dX12_isFor_26 : decode cX12_isFor 26 = .ok (.iconst 1, 1) := by decide +kernel
theorem dX12_isFor_27 : decode cX12_isFor 27 = .ok (.goto 4, 3) := by decide +kernel
theorem dX12_isFor_30 : decode cX12_isFor 30 = .ok (.iconst 0, 1) := by decide +kernel
theorem dX12_isFor_31 : decode cX12_isFor 31 = .ok (.ireturn, 1) := by decide +kernel
theorem dX12_isFor_32 : decode cX12_isFor 32 = .ok (.iload 4, 2) := by decide +kernel
theorem dX12_isFor_34 : decode cX12_isFor 34 = .ok (.iconst (-1), 1) := by decide +kernel
theorem dX12_isFor_35 : decode cX12_isFor 35 = .ok (.if_icmp .ne 5, 3) := by decide +kernel
theorem dX12_isFor_38 : decode cX12_isFor 38 = .ok (.iconst 0, 1) := by decide +kernel
theorem dX12_isFor_39 : decode cX12_isFor 39 = .ok (.ireturn, 1) := by decide +kernel
theorem dX12_isFor_40 : decode cX12_isFor 40 = .ok (.iload_n 1, 1) := by decide +kernel
theorem dX12_isFor_41 : decode cX12_isFor 41 = .ok (.iconst 1, 1) := by decide +kernel
theorem dX12_isFor_42 : decode cX12_isFor 42 = .ok (.if_icmp .ne 5, 3) := by decide +kernel
theorem dX12_isFor_45 : decode cX12_isFor 45 = .ok (.iconst 1, 1) := by decide +kernel
theorem dX12_isFor_46 : decode cX12_isFor 46 = .ok (.ireturn, 1) := by decide +kernel
theorem dX12_isFor_47 : decode cX12_isFor 47 = .ok (.iload_n 1, 1) := by decide +kernel
theorem dX12_isFor_48 : decode cX12_isFor 48 = .ok (.iconst 2, 1) := by decide +kernel
theorem dX12_isFor_49 : decode cX12_isFor 49 = .ok (.if_icmp .ne 21, 3) := by decide +kernel
theorem dX12_isFor_52 : decode cX12_isFor 52 = .ok (.iload 4, 2) := by decide +kernel
theorem dX12_isFor_54 : decode cX12_isFor 54 = .ok (.iconst 3, 1) := by decide +kernel
theorem dX12_isFor_55 : decode cX12_isFor 55 = .ok (.if_icmp .eq 9, 3) := by decide +kernel
theorem dX12_isFor_58 : decode cX12_isFor 58 = .ok (.iload 4, 2) := by decide +kernel
theorem dX12_isFor_60 : decode cX12_isFor 60 = .ok (.iconst 2, 1) := by decide +kernel
theorem dX12_isFor_61 : decode cX12_isFor 61 = .ok (.if_icmp .ne 7, 3) := by decide +kernel
theorem dX12_isFor_64 : decode cX12_isFor 64 = .ok (.iconst 1, 1) := by decide +kernel
theorem dX12_isFor_65 : decode cX12_isFor 65 = .ok (.goto 4, 3) := by decide +kernel
theorem dX12_isFor_68 : decode cX12_isFor 68 = .ok (.iconst 0, 1) := by decide +kernel
theorem dX12_isFor_69 : decode cX12_isFor 69 = .ok (.ireturn, 1) := by decide +kernel
theorem dX12_isFor_70 : decode cX12_isFor 70 = .ok (.iload_n 1, 1) := by decide +kernel
theorem dX12_isFor_71 : decode cX12_isFor 71 = .ok (.iconst 5, 1) := by decide +kernel
theorem dX12_isFor_72 : decode cX12_isFor 72 = .ok (.if_icmp .ne 23, 3) := by decide +kernel
theorem dX12_isFor_75 : decode cX12_isFor 75 = .ok (.iload 4, 2) := by decide +kernel
theorem dX12_isFor_77 : decode cX12_isFor 77 = .ok (.iconst 1, 1) := by decide +kernel
theorem dX12_isFor_78 : decode cX12_isFor 78 = .ok (.if_icmp .eq 9, 3) := by decide +kernel
theorem dX12_isFor_81 : decode cX12_isFor 81 = .ok (.iload 4, 2) := by decide +kernel
theorem dX12_isFor_83 : decode cX12_isFor 83 = .ok (.iconst 2, 1) := by decide +kernel
theorem dX12_isFor_84 : decode cX12_isFor 84 = .ok (.if_icmp .ne 7, 3) := by decide +kernel
theorem dX12_isFor_87 : decode cX12_isFor 87 = .ok (.iconst 1, 1) := by decide +kernel
theorem dX12_isFor_88 : decode cX12_isFor 88 = .ok (.goto 17, 3) := by decide +kernel
theorem dX12_isFor_91 : decode cX12_isFor 91 = .ok (.iconst 0, 1) := by decide +kernel
theorem dX12_isFor_92 : decode cX12_isFor 92 = .ok (.goto 13, 3) := by decide +kernel
theorem dX12_isFor_95 : decode cX12_isFor 95 = .ok (.iload 4, 2) := by decide +kernel
theorem dX12_isFor_97 : decode cX12_isFor 97 = .ok (.ifCond .ne 7, 3) := by decide +kernel
theorem dX12_isFor_100 : decode cX12_isFor 100 = .ok (.iconst 1, 1) := by decide +kernel
theorem dX12_isFor_101 : decode cX12_isFor 101 = .ok (.goto 4, 3) := by decide +kernel
theorem dX12_isFor_104 : decode cX12_isFor 104 = .ok (.iconst 0, 1) := by decide +kernel
theorem dX12_isFor_105 : decode cX12_isFor 105 = .ok (.ireturn, 1) := by decide +kernel
theorem dX12_areNumbers_0 : decode cX12_areNumbers 0 = .ok (.iconst 1, 1) := by decide +kernel
theorem dX12_areNumbers_1 : decode cX12_areNumbers 1 = .ok (.istore_n 2, 1) := by decide +kernel
theorem dX12_areNumbers_2 : decode cX12_areNumbers 2 = .ok (.iconst 0, 1) := by decide +kernel
theorem dX12_areNumbers_3 : decode cX12_areNumbers 3 = .ok (.istore_n 3, 1) := by decide +kernel
theorem dX12_areNumbers_4 : decode cX12_areNumbers 4 = .ok (.iload_n 3, 1) := by decide +kernel
theorem dX12_areNumbers_5 : decode cX12_areNumbers 5 = .ok (.aload_n 0, 1) := by decide +kernel
theorem dX12_areNumbers_6 : decode cX12_areNumbers 6 = .ok (.getfield 235, 3) := by decide +kernel
theorem dX12_areNumbers_9 : decode cX12_areNumbers 9 = .ok (.iload_n 1, 1) := by decide +kernel
theorem dX12_areNumbers_10 : decode cX12_areNumbers 10 = .ok (.iaload, 1) := by decide +kernel
theorem dX12_areNumbers_11 : decode cX12_areNumbers 11 = .ok (.if_icmp .ge 34, 3) := by decide +kernel
theorem dX12_areNumbers_14 : decode cX12_areNumbers 14 = .ok (.iload_n 2, 1) := by decide +kernel
theorem dX12_areNumbers_15 : decode cX12_areNumbers 15 = .ok (.ifCond .eq 22, 3) := by decide +kernel
theorem dX12_areNumbers_18 : decode cX12_areNumbers 18 = .ok (.aload_n 0, 1) := by decide +kernel
theorem dX12_areNumbers_19 : decode cX12_areNumbers 19 = .ok (.getfield 260, 3) := by decide +kernel
theorem dX12_areNumbers_22 : decode cX12_areNumbers 22 = .ok (.iconst 4, 1) := by decide +kernel
theorem dX12_areNumbers_23 : decode cX12_areNumbers 23 = .ok (.iload_n 1, 1) := by decide +kernel
theorem dX12_areNumbers_24 : decode cX12_areNumbers 24 = .ok (.imul, 1) := by decide +kernel
theorem dX12_areNumbers_25 : decode cX12_areNumbers 25 = .ok (.iload_n 3, 1) := by decide +kernel
theorem dX12_areNumbers_26 : decode cX12_areNumbers 26 = .ok (.iadd, 1) := by decide +kernel
theorem dX12_areNumbers_27 : decode cX12_areNumbers 27 = .ok (.laload, 1) := by decide +kernel
theorem dX12_areNumbers_28 : decode cX12_areNumbers 28 = .ok (.lconst 0, 1) := by decide +kernel
theorem dX12_areNumbers_29 : decode cX12_areNumbers 29 = .ok (.lcmp, 1) := by decide +kernel
theorem dX12_areNumbers_30 : decode cX12_areNumbers 30 = .ok (.ifCond .ne 7, 3) := by decide +kernel
theorem dX12_areNumbers_33 : decode cX12_areNumbers 33 = .ok (.iconst 1, 1) := by decide +kernel
theorem dX12_areNumbers_34 : decode cX12_areNumbers 34 = .ok (.goto 4, 3) := by decide +kernel
theorem dX12_areNumbers_37 : decode cX12_areNumbers 37 = .ok (.iconst 0, 1) := by decide +kernel
theorem dX12_areNumbers_38 : decode cX12_areNumbers 38 = .ok (.istore_n 2, 1) := by decide +kernel
theorem dX12_areNumbers_39 : decode cX12_areNumbers 39 = .ok (.iinc 3 1, 3) := by decide +kernel
theorem dX12_areNumbers_42 : decode cX12_areNumbers 42 = .ok (.goto (-38), 3) := by decide +kernel
theorem dX12_areNumbers_45 : decode cX12_areNumbers 45 = .ok (.iload_n 2, 1) := by decide +kernel
theorem dX12_areNumbers_46 : decode cX12_areNumbers 46 = .ok (.ireturn, 1) := by decide +kernel
theorem dX12_intMember_0 : decode cX12_intMember 0 = .ok (.aload_n 0, 1) := by decide +kernel
theorem dX12_intMember_1 : decode cX12_intMember 1 = .ok (.getfield 260, 3) := by decide +kernel
theorem dX12_intMember_4 : decode cX12_intMember 4 = .ok (.iconst 4, 1) := by decide +kernel
theorem dX12_intMember_5 : decode cX12_intMember 5 = .ok (.iload_n 1, 1) := by decide +kernel
theorem dX12_intMember_6 : decode cX12_intMember 6 = .ok (.imul, 1) := by decide +kernel
theorem dX12_intMember_7 : decode cX12_intMember 7 = .ok (.iload_n 2, 1) := by decide +kernel
theorem dX12_intMember_8 : decode cX12_intMember 8 = .ok (.iadd, 1) := by decide +kernel
theorem dX12_intMember_9 : decode cX12_intMember 9 = .ok (.laload, 1) := by decide +kernel
theorem dX12_intMember_10 : decode cX12_intMember 10 = .ok (.lconst 0, 1) := by decide +kernel
theorem dX12_intMember_11 : decode cX12_intMember 11 = .ok (.lcmp, 1) := by decide +kernel
theorem dX12_intMember_12 : decode cX12_intMember 12 = .ok (.ifCond .ne 7, 3) := by decide +kernel
theorem dX12_intMember_15 : decode cX12_intMember 15 = .ok (.iconst (-1), 1) := by decide +kernel
theorem dX12_intMember_16 : decode cX12_intMember 16 = .ok (.goto 26, 3) := by decide +kernel
theorem dX12_intMember_19 : decode cX12_intMember 19 = .ok (.aload_n 0, 1) := by decide +kernel
theorem dX12_intMember_20 : decode cX12_intMember 20 = .ok (.bipush 16, 2) := by decide +kernel
theorem dX12_intMember_22 : decode cX12_intMember 22 = .ok (.aload_n 0, 1) := by decide +kernel
theorem dX12_intMember_23 : decode cX12_intMember 23 = .ok (.getfield 11, 3) := by decide +kernel
theorem dX12_intMember_26 : decode cX12_intMember 26 = .ok (.imul, 1) := by decide +kernel
theorem dX12_intMember_27 : decode cX12_intMember 27 = .ok (.iload_n 3, 1) := by decide +kernel
theorem dX12_intMember_28 : decode cX12_intMember 28 = .ok (.iadd, 1) := by decide +kernel
theorem dX12_intMember_29 : decode cX12_intMember 29 = .ok (.aload_n 0, 1) := by decide +kernel
theorem dX12_intMember_30 : decode cX12_intMember 30 = .ok (.getfield 260, 3) := by decide +kernel
theorem dX12_intMember_33 : decode cX12_intMember 33 = .ok (.iconst 4, 1) := by decide +kernel
theorem dX12_intMember_34 : decode cX12_intMember 34 = .ok (.iload_n 1, 1) := by decide +kernel
theorem dX12_intMember_35 : decode cX12_intMember 35 = .ok (.imul, 1) := by decide +kernel
theorem dX12_intMember_36 : decode cX12_intMember 36 = .ok (.iload_n 2, 1) := by decide +kernel
theorem dX12_intMember_37 : decode cX12_intMember 37 = .ok (.iadd, 1) := by decide +kernel
theorem dX12_intMember_38 : decode cX12_intMember 38 = .ok (.laload, 1) := by decide +kernel
theorem dX12_intMember_39 : decode cX12_intMember 39 = .ok (.invokevirtual 493, 3) := by decide +kernel
theorem dX12_intMember_42 : decode cX12_intMember 42 = .ok (.istore 4, 2) := by decide +kernel
theorem dX12_intMember_44 : decode cX12_intMember 44 = .ok (.iload 4, 2) := by decide +kernel
theorem dX12_intMember_46 : decode cX12_intMember 46 = .ok (.ifCond .lt 18, 3) := by decide +kernel
theorem dX12_intMember_49 : decode cX12_intMember 49 = .ok (.aload_n 0, 1) := by decide +kernel
theorem dX12_intMember_50 : decode cX12_intMember 50 = .ok (.iload_n 3, 1) := by decide +kernel
theorem dX12_intMember_51 : decode cX12_intMember 51 = .ok (.iload 4, 2) := by decide +kernel
theorem dX12_intMember_53 : decode cX12_intMember 53 = .ok (.invokevirtual 569, 3) := by decide +kernel
theorem dX12_intMember_56 : decode cX12_intMember 56 = .ok (.ifCond .ne 8, 3) := by decide +kernel
theorem dX12_intMember_59 : decode cX12_intMember 59 = .ok (.iload 4, 2) := by decide +kernel
theorem dX12_intMember_61 : decode cX12_intMember 61 = .ok (.goto 4, 3) := by decide +kernel
theorem dX12_intMember_64 : decode cX12_intMember 64 = .ok (.iconst (-1), 1) := by decide +kernel
theorem dX12_intMember_65 : decode cX12_intMember 65 = .ok (.ireturn, 1) := by decide +kernel
theorem dX12_listMember_0 : decode cX12_listMember 0 = .ok (.aload_n 0, 1) := by decide +kernel
theorem dX12_listMember_1 : decode cX12_listMember 1 = .ok (.getfield 260, 3) := by decide +kernel
theorem dX12_listMember_4 : decode cX12_listMember 4 = .ok (.iconst 4, 1) := by decide +kernel
theorem dX12_listMember_5 : decode cX12_listMember 5 = .ok (.iload_n 1, 1) := by decide +kernel
theorem dX12_listMember_6 : decode cX12_listMember 6 = .ok (.imul, 1) := by decide +kernel
theorem dX12_listMember_7 : decode cX12_listMember 7 = .ok (.laload, 1) := by decide +kernel
theorem dX12_listMember_8 : decode cX12_listMember 8 = .ok (.lconst 0, 1) := by decide +kernel
theorem dX12_listMember_9 : decode cX12_listMember 9 = .ok (.lcmp, 1) := by decide +kernel
theorem dX12_listMember_10 : decode cX12_listMember 10 = .ok (.ifCond .ne 7, 3) := by decide +kernel
theorem dX12_listMember_13 : decode cX12_listMember 13 = .ok (.iconst (-1), 1) := by decide +kernel
theorem dX12_listMember_14 : decode cX12_listMember 14 = .ok (.goto 24, 3) := by decide +kernel
theorem dX12_listMember_17 : decode cX12_listMember 17 = .ok (.aload_n 0, 1) := by decide +kernel
theorem dX12_listMember_18 : decode cX12_listMember 18 = .ok (.bipush 16, 2) := by decide +kernel
theorem dX12_listMember_20 : decode cX12_listMember 20 = .ok (.aload_n 0, 1) := by decide +kernel
theorem dX12_listMember_21 : decode cX12_listMember 21 = .ok (.getfield 11, 3) := by decide +kernel
theorem dX12_listMember_24 : decode cX12_listMember 24 = .ok (.imul, 1) := by decide +kernel
theorem dX12_listMember_25 : decode cX12_listMember 25 = .ok (.iload_n 2, 1) := by decide +kernel
theorem dX12_listMember_26 : decode cX12_listMember 26 = .ok (.iadd, 1) := by decide +kernel
theorem dX12_listMember_27 : decode cX12_listMember 27 = .ok (.aload_n 0, 1) := by decide +kernel
theorem dX12_listMember_28 : decode cX12_listMember 28 = .ok (.getfield 260, 3) := by decide +kernel
theorem dX12_listMember_31 : decode cX12_listMember 31 = .ok (.iconst 4, 1) := by decide +kernel
theorem dX12_listMember_32 : decode cX12_listMember 32 = .ok (.iload_n 1, 1) := by decide +kernel
theorem dX12_listMember_33 : decode cX12_listMember 33 = .ok (.imul, 1) := by decide +kernel
theorem dX12_listMember_34 : decode cX12_listMember 34 = .ok (.laload, 1) := by decide +kernel
theorem dX12_listMember_35 : decode cX12_listMember 35 = .ok (.invokevirtual 493, 3) := by decide +kernel
theorem dX12_listMember_38 : decode cX12_listMember 38 = .ok (.istore_n 3, 1) := by decide +kernel
theorem dX12_listMember_39 : decode cX12_listMember 39 = .ok (.iload_n 3, 1) := by decide +kernel
theorem dX12_listMember_40 : decode cX12_listMember 40 = .ok (.ifCond .lt 17, 3) := by decide +kernel
theorem dX12_listMember_43 : decode cX12_listMember 43 = .ok (.aload_n 0, 1) := by decide +kernel
theorem dX12_listMember_44 : decode cX12_listMember 44 = .ok (.iload_n 2, 1) := by decide +kernel
theorem dX12_listMember_45 : decode cX12_listMember 45 = .ok (.iload_n 3, 1) := by decide +kernel
theorem dX12_listMember_46 : decode cX12_listMember 46 = .ok (.invokevirtual 569, 3) := by decide +kernel
theorem dX12_listMember_49 : decode cX12_listMember 49 = .ok (.iconst 2, 1) := by decide +kernel
theorem dX12_listMember_50 : decode cX12_listMember 50 = .ok (.if_icmp .ne 7, 3) := by decide +kernel
theorem dX12_listMember_53 : decode cX12_listMember 53 = .ok (.iload_n 3, 1) := by decide +kernel
theorem dX12_listMember_54 : decode cX12_listMember 54 = .ok (.goto 4, 3) := by decide +kernel
theorem dX12_listMember_57 : decode cX12_listMember 57 = .ok (.iconst (-1), 1) := by decide +kernel
theorem dX12_listMember_58 : decode cX12_listMember 58 = .ok (.ireturn, 1) := by decide +kernel
theorem dX12_hasArgs_0 : decode cX12_hasArgs 0 = .ok (.aload_n 0, 1) := by decide +kernel
theorem dX12_hasArgs_1 : decode cX12_hasArgs 1 = .ok (.getfield 235, 3) := by decide +kernel
theorem dX12_hasArgs_4 : decode cX12_hasArgs 4 = .ok (.iload_n 1, 1) := by decide +kernel
theorem dX12_hasArgs_5 : decode cX12_hasArgs 5 = .ok (.iaload, 1) := by decide +kernel
theorem dX12_hasArgs_6 : decode cX12_hasArgs 6 = .ok (.istore 4, 2) := by decide +kernel
theorem dX12_hasArgs_8 : decode cX12_hasArgs 8 = .ok (.iload_n 2, 1) := by decide +kernel
theorem dX12_hasArgs_9 : decode cX12_hasArgs 9 = .ok (.bipush 7, 2) := by decide +kernel
theorem dX12_hasArgs_11 : decode cX12_hasArgs 11 = .ok (.if_icmp .ne 35, 3) := by decide +kernel
theorem dX12_hasArgs_14 : decode cX12_hasArgs 14 = .ok (.iload 4, 2) := by decide +kernel
theorem dX12_hasArgs_16 : decode cX12_hasArgs 16 = .ok (.iconst 2, 1) := by decide +kernel
theorem dX12_hasArgs_17 : decode cX12_hasArgs 17 = .ok (.if_icmp .ne 27, 3) := by decide +kernel
theorem dX12_hasArgs_20 : decode cX12_hasArgs 20 = .ok (.aload_n 0, 1) := by decide +kernel
theorem dX12_hasArgs_21 : decode cX12_hasArgs 21 = .ok (.iload_n 1, 1) := by decide +kernel
theorem dX12_hasArgs_22 : decode cX12_hasArgs 22 = .ok (.iconst 0, 1) := by decide +kernel
theorem dX12_hasArgs_23 : decode cX12_hasArgs 23 = .ok (.iload_n 3, 1) := by decide +kernel
theorem dX12_hasArgs_24 : decode cX12_hasArgs 24 = .ok (.invokevirtual 573, 3) := by decide +kernel
theorem dX12_hasArgs_27 : decode cX12_hasArgs 27 = .ok (.ifCond .lt 17, 3) := by decide +kernel
theorem dX12_hasArgs_30 : decode cX12_hasArgs 30 = .ok (.aload_n 0, 1) := by decide +kernel
theorem dX12_hasArgs_31 : decode cX12_hasArgs 31 = .ok (.iload_n 1, 1) := by decide +kernel
theorem dX12_hasArgs_32 : decode cX12_hasArgs 32 = .ok (.iconst 1, 1) := by decide +kernel
theorem dX12_hasArgs_33 : decode cX12_hasArgs 33 = .ok (.iload_n 3, 1) := by decide +kernel
theorem dX12_hasArgs_34 : decode cX12_hasArgs 34 = .ok (.invokevirtual 573, 3) := by decide +kernel
theorem dX12_hasArgs_37 : decode cX12_hasArgs 37 = .ok (.ifCond .lt 7, 3) := by decide +kernel
theorem dX12_hasArgs_40 : decode cX12_hasArgs 40 = .ok (.iconst 1, 1) := by decide +kernel
theorem dX12_hasArgs_41 : decode cX12_hasArgs 41 = .ok (.goto 4, 3) := by decide +kernel
theorem dX12_hasArgs_44 : decode cX12_hasArgs 44 = .ok (.iconst 0, 1) := by decide +kernel
theorem dX12_hasArgs_45 : decode cX12_hasArgs 45 = .ok (.ireturn, 1) := by decide +kernel
theorem dX12_hasArgs_46 : decode cX12_hasArgs 46 = .ok (.iload_n 2, 1) := by decide +kernel
theorem dX12_hasArgs_47 : decode cX12_hasArgs 47 = .ok (.bipush 8, 2) := by decide +kernel
theorem dX12_hasArgs_49 : decode cX12_hasArgs 49 = .ok (.if_icmp .ne 58, 3) := by decide +kernel
theorem dX12_hasArgs_52 : decode cX12_hasArgs 52 = .ok (.iload 4, 2) := by decide +kernel
theorem dX12_hasArgs_54 : decode cX12_hasArgs 54 = .ok (.iconst 3, 1) := by decide +kernel
theorem dX12_hasArgs_55 : decode cX12_hasArgs 55 = .ok (.if_icmp .ne 12, 3) := by decide +kernel
theorem dX12_hasArgs_58 : decode cX12_hasArgs 58 = .ok (.aload_n 0, 1) := by decide +kernel
theorem dX12_hasArgs_59 : decode cX12_hasArgs 59 = .ok (.iload_n 1, 1) := by decide +kernel
theorem dX12_hasArgs_60 : decode cX12_hasArgs 60 = .ok (.iload_n 3, 1) := by decide +kernel
theorem dX12_hasArgs_61 : decode cX12_hasArgs 61 = .ok (.invokevirtual 577, 3) := by decide +kernel
theorem dX12_hasArgs_64 : decode cX12_hasArgs 64 = .ok (.goto 4, 3) := by decide +kernel
theorem dX12_hasArgs_67 : decode cX12_hasArgs 67 = .ok (.iconst (-1), 1) := by decide +kernel
theorem dX12_hasArgs_68 : decode cX12_hasArgs 68 = .ok (.istore 5, 2) := by decide +kernel
theorem dX12_hasArgs_70 : decode cX12_hasArgs 70 = .ok (.iload 5, 2) := by decide +kernel
theorem dX12_hasArgs_72 : decode cX12_hasArgs 72 = .ok (.ifCond .lt 33, 3) := by decide +kernel
theorem dX12_hasArgs_75 : decode cX12_hasArgs 75 = .ok (.aload_n 0, 1) := by decide +kernel
theorem dX12_hasArgs_76 : decode cX12_hasArgs 76 = .ok (.iload_n 1, 1) := by decide +kernel
theorem dX12_hasArgs_77 : decode cX12_hasArgs 77 = .ok (.iconst 1, 1) := by decide +kernel
theorem dX12_hasArgs_78 : decode cX12_hasArgs 78 = .ok (.aload_n 0, 1) := by decide +kernel
theorem dX12_hasArgs_79 : decode cX12_hasArgs 79 = .ok (.iload_n 3, 1) := by decide +kernel
theorem dX12_hasArgs_80 : decode cX12_hasArgs 80 = .ok (.iload 5, 2) := by decide +kernel
theorem dX12_hasArgs_82 : decode cX12_hasArgs 82 = .ok (.invokevirtual 580, 3) := by decide +kernel
theorem dX12_hasArgs_85 : decode cX12_hasArgs 85 = .ok (.invokevirtual 573, 3) := by decide +kernel
theorem dX12_hasArgs_88 : decode cX12_hasArgs 88 = .ok (.ifCond .lt 17, 3) := by decide +kernel
theorem dX12_hasArgs_91 : decode cX12_hasArgs 91 = .ok (.aload_n 0, 1) := by decide +kernel
theorem dX12_hasArgs_92 : decode cX12_hasArgs 92 = .ok (.iload_n 1, 1) := by decide +kernel
theorem dX12_hasArgs_93 : decode cX12_hasArgs 93 = .ok (.iconst 2, 1) := by decide +kernel
theorem dX12_hasArgs_94 : decode cX12_hasArgs 94 = .ok (.iload_n 3, 1) := by decide +kernel
theorem dX12_hasArgs_95 : decode cX12_hasArgs 95 = .ok (.invokevirtual 573, 3) := by decide +kernel
theorem dX12_hasArgs_98 : decode cX12_hasArgs 98 = .ok (.ifCond .lt 7, 3) := by decide +kernel
theorem dX12_hasArgs_101 : decode cX12_hasArgs 101 = .ok (.iconst 1, 1) := by decide +kernel
theorem dX12_hasArgs_102 : decode cX12_hasArgs 102 = .ok (.goto 4, 3) := by decide +kernel
theorem dX12_hasArgs_105 : decode cX12_hasArgs 105 = .ok (.iconst 0, 1) := by decide +kernel
theorem dX12_hasArgs_106 : decode cX12_hasArgs 106 = .ok (.ireturn, 1) := by decide +kernel
theorem dX12_hasArgs_107 : decode cX12_hasArgs 107 = .ok (.aload_n 0, 1) := by decide +kernel
theorem dX12_hasArgs_108 : decode cX12_hasArgs 108 = .ok (.iload_n 1, 1) := by decide +kernel
theorem dX12_hasArgs_109 : decode cX12_hasArgs 109 = .ok (.invokevirtual 583, 3) := by decide +kernel
theorem dX12_hasArgs_112 : decode cX12_hasArgs 112 = .ok (.ifCond .ne 5, 3) := by decide +kernel
theorem dX12_hasArgs_115 : decode cX12_hasArgs 115 = .ok (.iconst 0, 1) := by decide +kernel
theorem dX12_hasArgs_116 : decode cX12_hasArgs 116 = .ok (.ireturn, 1) := by decide +kernel
theorem dX12_hasArgs_117 : decode cX12_hasArgs 117 = .ok (.iload_n 2, 1) := by decide +kernel
theorem dX12_hasArgs_118 : decode cX12_hasArgs 118 = .ok (.bipush 100, 2) := by decide +kernel
theorem dX12_hasArgs_120 : decode cX12_hasArgs 120 = .ok (.if_icmp .lt 15, 3) := by decide +kernel
theorem dX12_hasArgs_123 : decode cX12_hasArgs 123 = .ok (.iload 4, 2) := by decide +kernel
theorem dX12_hasArgs_125 : decode cX12_hasArgs 125 = .ok (.iconst 2, 1) := by decide +kernel
theorem dX12_hasArgs_126 : decode cX12_hasArgs 126 = .ok (.if_icmp .gt 7, 3) := by decide +kernel
theorem dX12_hasArgs_129 : decode cX12_hasArgs 129 = .ok (.iconst 1, 1) := by decide +kernel
theorem dX12_hasArgs_130 : decode cX12_hasArgs 130 = .ok (.goto 4, 3) := by decide +kernel
theorem dX12_hasArgs_133 : decode cX12_hasArgs 133 = .ok (.iconst 0, 1) := by decide +kernel
theorem dX12_hasArgs_134 : decode cX12_hasArgs 134 = .ok (.ireturn, 1) := by decide +kernel
theorem dX12_hasArgs_135 : decode cX12_hasArgs 135 = .ok (.iload_n 2, 1) := by decide +kernel
theorem dX12_hasArgs_136 : decode cX12_hasArgs 136 = .ok (.iconst 1, 1) := by decide +kernel
theorem dX12_hasArgs_137 : decode cX12_hasArgs 137 = .ok (.if_icmp .eq 8, 3) := by decide +kernel
theorem dX12_hasArgs_140 : decode cX12_hasArgs 140 = .ok (.iload_n 2, 1) := by decide +kernel
theorem dX12_hasArgs_141 : decode cX12_hasArgs 141 = .ok (.iconst 2, 1) := by decide +kernel
theorem dX12_hasArgs_142 : decode cX12_hasArgs 142 = .ok (.if_icmp .ne 16, 3) := by decide +kernel
theorem dX12_hasArgs_145 : decode cX12_hasArgs 145 = .ok (.iload 4, 2) := by decide +kernel
theorem dX12_hasArgs_147 : decode cX12_hasArgs 147 = .ok (.ifCond .ne 7, 3) := by decide +kernel
theorem dX12_hasArgs_150 : decode cX12_hasArgs 150 = .ok (.iconst 1, 1) := by decide +kernel
theorem dX12_hasArgs_151 : decode cX12_hasArgs 151 = .ok (.goto 60, 3) := by decide +kernel
theorem dX12_hasArgs_154 : decode cX12_hasArgs 154 = .ok (.iconst 0, 1) := by decide +kernel
theorem dX12_hasArgs_155 : decode cX12_hasArgs 155 = .ok (.goto 56, 3) := by decide +kernel
theorem dX12_hasArgs_158 : decode cX12_hasArgs 158 = .ok (.iload_n 2, 1) := by decide +kernel
theorem dX12_hasArgs_159 : decode cX12_hasArgs 159 = .ok (.iconst 3, 1) := by decide +kernel
theorem dX12_hasArgs_160 : decode cX12_hasArgs 160 = .ok (.if_icmp .eq 8, 3) := by decide +kernel
theorem dX12_hasArgs_163 : decode cX12_hasArgs 163 = .ok (.iload_n 2, 1) := by decide +kernel
theorem dX12_hasArgs_164 : decode cX12_hasArgs 164 = .ok (.iconst 4, 1) := by decide +kernel
theorem dX12_hasArgs_165 : decode cX12_hasArgs 165 = .ok (.if_icmp .ne 17, 3) := by decide +kernel
theorem dX12_hasArgs_168 : decode cX12_hasArgs 168 = .ok (.iload 4, 2) := by decide +kernel
theorem dX12_hasArgs_170 : decode cX12_hasArgs 170 = .ok (.iconst 1, 1) := by decide +kernel
theorem dX12_hasArgs_171 : decode cX12_hasArgs 171 = .ok (.if_icmp .ne 7, 3) := by decide +kernel
theorem dX12_hasArgs_174 : decode cX12_hasArgs 174 = .ok (.iconst 1, 1) := by decide +kernel
theorem dX12_hasArgs_175 : decode cX12_hasArgs 175 = .ok (.goto 36, 3) := by decide +kernel
theorem dX12_hasArgs_178 : decode cX12_hasArgs 178 = .ok (.iconst 0, 1) := by decide +kernel
theorem dX12_hasArgs_179 : decode cX12_hasArgs 179 = .ok (.goto 32, 3) := by decide +kernel
theorem dX12_hasArgs_182 : decode cX12_hasArgs 182 = .ok (.iload_n 2, 1) := by decide +kernel
theorem dX12_hasArgs_183 : decode cX12_hasArgs 183 = .ok (.iconst 5, 1) := by decide +kernel
theorem dX12_hasArgs_184 : decode cX12_hasArgs 184 = .ok (.if_icmp .ne 17, 3) := by decide +kernel
theorem dX12_hasArgs_187 : decode cX12_hasArgs 187 = .ok (.iload 4, 2) := by decide +kernel
theorem dX12_hasArgs_189 : decode cX12_hasArgs 189 = .ok (.iconst 2, 1) := by decide +kernel
theorem dX12_hasArgs_190 : decode cX12_hasArgs 190 = .ok (.if_icmp .ne 7, 3) := by decide +kernel
theorem dX12_hasArgs_193 : decode cX12_hasArgs 193 = .ok (.iconst 1, 1) := by decide +kernel
theorem dX12_hasArgs_194 : decode cX12_hasArgs 194 = .ok (.goto 17, 3) := by decide +kernel
theorem dX12_hasArgs_197 : decode cX12_hasArgs 197 = .ok (.iconst 0, 1) := by decide +kernel
theorem dX12_hasArgs_198 : decode cX12_hasArgs 198 = .ok (.goto 13, 3) := by decide +kernel
theorem dX12_hasArgs_201 : decode cX12_hasArgs 201 = .ok (.iload 4, 2) := by decide +kernel
theorem dX12_hasArgs_203 : decode cX12_hasArgs 203 = .ok (.ifCond .le 7, 3) := by decide +kernel
theorem dX12_hasArgs_206 : decode cX12_hasArgs 206 = .ok (.iconst 1, 1) := by decide +kernel
theorem dX12_hasArgs_207 : decode cX12_hasArgs 207 = .ok (.goto 4, 3) := by decide +kernel
theorem dX12_hasArgs_210 : decode cX12_hasArgs 210 = .ok (.iconst 0, 1) := by decide +kernel
theorem dX12_hasArgs_211 : decode cX12_hasArgs 211 = .ok (.ireturn, 1) := by decide +kernel
theorem dX12_kindIn_0 : decode cX12_kindIn 0 = .ok (.aload_n 0, 1) := by decide +kernel
theorem dX12_kindIn_1 : decode cX12_kindIn 1 = .ok (.getfield 223, 3) := by decide +kernel
theorem dX12_kindIn_4 : decode cX12_kindIn 4 = .ok (.aload_n 0, 1) := by decide +kernel
theorem dX12_kindIn_5 : decode cX12_kindIn 5 = .ok (.getfield 208, 3) := by decide +kernel
theorem dX12_kindIn_8 : decode cX12_kindIn 8 = .ok (.bipush 12, 2) := by decide +kernel
theorem dX12_kindIn_10 : decode cX12_kindIn 10 = .ok (.bipush 16, 2) := by decide +kernel
theorem dX12_kindIn_12 : decode cX12_kindIn 12 = .ok (.aload_n 0, 1) := by decide +kernel
theorem dX12_kindIn_13 : decode cX12_kindIn 13 = .ok (.getfield 11, 3) := by decide +kernel
theorem dX12_kindIn_16 : decode cX12_kindIn 16 = .ok (.imul, 1) := by decide +kernel
theorem dX12_kindIn_17 : decode cX12_kindIn 17 = .ok (.iload_n 1, 1) := by decide +kernel
theorem dX12_kindIn_18 : decode cX12_kindIn 18 = .ok (.iadd, 1) := by decide +kernel
theorem dX12_kindIn_19 : decode cX12_kindIn 19 = .ok (.imul, 1) := by decide +kernel
theorem dX12_kindIn_20 : decode cX12_kindIn 20 = .ok (.iload_n 2, 1) := by decide +kernel
theorem dX12_kindIn_21 : decode cX12_kindIn 21 = .ok (.iadd, 1) := by decide +kernel
theorem dX12_kindIn_22 : decode cX12_kindIn 22 = .ok (.iaload, 1) := by decide +kernel
theorem dX12_kindIn_23 : decode cX12_kindIn 23 = .ok (.iaload, 1) := by decide +kernel
theorem dX12_kindIn_24 : decode cX12_kindIn 24 = .ok (.ireturn, 1) := by decide +kernel
theorem dX12_argOf_0 : decode cX12_argOf 0 = .ok (.iload_n 2, 1) := by decide +kernel
theorem dX12_argOf_1 : decode cX12_argOf 1 = .ok (.bipush 7, 2) := by decide +kernel
theorem dX12_argOf_3 : decode cX12_argOf 3 = .ok (.if_icmp .ne 12, 3) := by decide +kernel
theorem dX12_argOf_6 : decode cX12_argOf 6 = .ok (.aload_n 0, 1) := by decide +kernel
theorem dX12_argOf_7 : decode cX12_argOf 7 = .ok (.iload_n 1, 1) := by decide +kernel
theorem dX12_argOf_8 : decode cX12_argOf 8 = .ok (.iload 4, 2) := by decide +kernel
theorem dX12_argOf_10 : decode cX12_argOf 10 = .ok (.iload_n 3, 1) := by decide +kernel
theorem dX12_argOf_11 : decode cX12_argOf 11 = .ok (.invokevirtual 573, 3) := by decide +kernel
theorem dX12_argOf_14 : decode cX12_argOf 14 = .ok (.ireturn, 1) := by decide +kernel
theorem dX12_argOf_15 : decode cX12_argOf 15 = .ok (.iload_n 2, 1) := by decide +kernel
theorem dX12_argOf_16 : decode cX12_argOf 16 = .ok (.bipush 8, 2) := by decide +kernel
theorem dX12_argOf_18 : decode cX12_argOf 18 = .ok (.if_icmp .eq 15, 3) := by decide +kernel
theorem dX12_argOf_21 : decode cX12_argOf 21 = .ok (.aload_n 0, 1) := by decide +kernel
theorem dX12_argOf_22 : decode cX12_argOf 22 = .ok (.getfield 257, 3) := by decide +kernel
theorem dX12_argOf_25 : decode cX12_argOf 25 = .ok (.iconst 4, 1) := by decide +kernel
theorem dX12_argOf_26 : decode cX12_argOf 26 = .ok (.iload_n 1, 1) := by decide +kernel
theorem dX12_argOf_27 : decode cX12_argOf 27 = .ok (.imul, 1) := by decide +kernel
theorem dX12_argOf_28 : decode cX12_argOf 28 = .ok (.iload 4, 2) := by decide +kernel
theorem dX12_argOf_30 : decode cX12_argOf 30 = .ok (.iadd, 1) := by decide +kernel
theorem dX12_argOf_31 : decode cX12_argOf 31 = .ok (.iaload, 1) := by decide +kernel
theorem dX12_argOf_32 : decode cX12_argOf 32 = .ok (.ireturn, 1) := by decide +kernel
theorem dX12_argOf_33 : decode cX12_argOf 33 = .ok (.iload 4, 2) := by decide +kernel
theorem dX12_argOf_35 : decode cX12_argOf 35 = .ok (.ifCond .ne 12, 3) := by decide +kernel
theorem dX12_argOf_38 : decode cX12_argOf 38 = .ok (.aload_n 0, 1) := by decide +kernel
theorem dX12_argOf_39 : decode cX12_argOf 39 = .ok (.iload_n 1, 1) := by decide +kernel
theorem dX12_argOf_40 : decode cX12_argOf 40 = .ok (.iload_n 3, 1) := by decide +kernel
theorem dX12_argOf_41 : decode cX12_argOf 41 = .ok (.invokevirtual 577, 3) := by decide +kernel
theorem dX12_argOf_44 : decode cX12_argOf 44 = .ok (.goto 36, 3) := by decide +kernel
theorem dX12_argOf_47 : decode cX12_argOf 47 = .ok (.iload 4, 2) := by decide +kernel
theorem dX12_argOf_49 : decode cX12_argOf 49 = .ok (.iconst 1, 1) := by decide +kernel
theorem dX12_argOf_50 : decode cX12_argOf 50 = .ok (.if_icmp .ne 23, 3) := by decide +kernel
theorem dX12_argOf_53 : decode cX12_argOf 53 = .ok (.aload_n 0, 1) := by decide +kernel
theorem dX12_argOf_54 : decode cX12_argOf 54 = .ok (.iload_n 1, 1) := by decide +kernel
theorem dX12_argOf_55 : decode cX12_argOf 55 = .ok (.iconst 1, 1) := by decide +kernel
theorem dX12_argOf_56 : decode cX12_argOf 56 = .ok (.aload_n 0, 1) := by decide +kernel
theorem dX12_argOf_57 : decode cX12_argOf 57 = .ok (.iload_n 3, 1) := by decide +kernel
theorem dX12_argOf_58 : decode cX12_argOf 58 = .ok (.aload_n 0, 1) := by decide +kernel
theorem dX12_argOf_59 : decode cX12_argOf 59 = .ok (.iload_n 1, 1) := by decide +kernel
theorem dX12_argOf_60 : decode cX12_argOf 60 = .ok (.iload_n 3, 1) := by decide +kernel
theorem dX12_argOf_61 : decode cX12_argOf 61 = .ok (.invokevirtual 577, 3) := by decide +kernel
theorem dX12_argOf_64 : decode cX12_argOf 64 = .ok (.invokevirtual 580, 3) := by decide +kernel
theorem dX12_argOf_67 : decode cX12_argOf 67 = .ok (.invokevirtual 573, 3) := by decide +kernel
theorem dX12_argOf_70 : decode cX12_argOf 70 = .ok (.goto 10, 3) := by decide +kernel
theorem dX12_argOf_73 : decode cX12_argOf 73 = .ok (.aload_n 0, 1) := by decide +kernel
theorem dX12_argOf_74 : decode cX12_argOf 74 = .ok (.iload_n 1, 1) := by decide +kernel
theorem dX12_argOf_75 : decode cX12_argOf 75 = .ok (.iconst 2, 1) := by decide +kernel
theorem dX12_argOf_76 : decode cX12_argOf 76 = .ok (.iload_n 3, 1) := by decide +kernel
theorem dX12_argOf_77 : decode cX12_argOf 77 = .ok (.invokevirtual 573, 3) := by decide +kernel
theorem dX12_argOf_80 : decode cX12_argOf 80 = .ok (.ireturn, 1) := by decide +kernel
theorem dX12_misuse_0 : decode cX12_misuse 0 = .ok (.iload_n 1, 1) := by decide +kernel
theorem dX12_misuse_1 : decode cX12_misuse 1 = .ok (.ifCond .lt 11, 3) := by decide +kernel
theorem dX12_misuse_4 : decode cX12_misuse 4 = .ok (.iload_n 1, 1) := by decide +kernel
theorem dX12_misuse_5 : decode cX12_misuse 5 = .ok (.aload_n 0, 1) := by decide +kernel
theorem dX12_misuse_6 : decode cX12_misuse 6 = .ok (.getfield 547, 3) := by decide +kernel
theorem dX12_misuse_9 : decode cX12_misuse 9 = .ok (.if_icmp .lt 5, 3) := by decide +kernel
theorem dX12_misuse_12 : decode cX12_misuse 12 = .ok (.iconst (-1), 1) := by decide +kernel
theorem dX12_misuse_13 : decode cX12_misuse 13 = .ok (.ireturn, 1) := by decide +kernel
theorem dX12_misuse_14 : decode cX12_misuse 14 = .ok (.iload_n 2, 1) := by decide +kernel
theorem dX12_misuse_15 : decode cX12_misuse 15 = .ok (.ifCond .ne 12, 3) := by decide +kernel
theorem dX12_misuse_18 : decode cX12_misuse 18 = .ok (.aload_n 0, 1) := by decide +kernel
theorem dX12_misuse_19 : decode cX12_misuse 19 = .ok (.getfield 291, 3) := by decide +kernel
theorem dX12_misuse_22 : decode cX12_misuse 22 = .ok (.iload_n 1, 1) := by decide +kernel
theorem dX12_misuse_23 : decode cX12_misuse 23 = .ok (.iaload, 1) := by decide +kernel
theorem dX12_misuse_24 : decode cX12_misuse 24 = .ok (.goto 46, 3) := by decide +kernel
theorem dX12_misuse_27 : decode cX12_misuse 27 = .ok (.iload_n 2, 1) := by decide +kernel
theorem dX12_misuse_28 : decode cX12_misuse 28 = .ok (.iconst 1, 1) := by decide +kernel
theorem dX12_misuse_29 : decode cX12_misuse 29 = .ok (.if_icmp .ne 12, 3) := by decide +kernel
theorem dX12_misuse_32 : decode cX12_misuse 32 = .ok (.aload_n 0, 1) := by decide +kernel
theorem dX12_misuse_33 : decode cX12_misuse 33 = .ok (.getfield 294, 3) := by decide +kernel
theorem dX12_misuse_36 : decode cX12_misuse 36 = .ok (.iload_n 1, 1) := by decide +kernel
theorem dX12_misuse_37 : decode cX12_misuse 37 = .ok (.iaload, 1) := by decide +kernel
theorem dX12_misuse_38 : decode cX12_misuse 38 = .ok (.goto 32, 3) := by decide +kernel
theorem dX12_misuse_41 : decode cX12_misuse 41 = .ok (.iload_n 2, 1) := by decide +kernel
theorem dX12_misuse_42 : decode cX12_misuse 42 = .ok (.iconst 2, 1) := by decide +kernel
theorem dX12_misuse_43 : decode cX12_misuse 43 = .ok (.if_icmp .ne 12, 3) := by decide +kernel
theorem dX12_misuse_46 : decode cX12_misuse 46 = .ok (.aload_n 0, 1) := by decide +kernel
theorem dX12_misuse_47 : decode cX12_misuse 47 = .ok (.getfield 297, 3) := by decide +kernel
theorem dX12_misuse_50 : decode cX12_misuse 50 = .ok (.iload_n 1, 1) := by decide +kernel
theorem dX12_misuse_51 : decode cX12_misuse 51 = .ok (.iaload, 1) := by decide +kernel
theorem dX12_misuse_52 : decode cX12_misuse 52 = .ok (.goto 18, 3) := by decide +kernel
theorem dX12_misuse_55 : decode cX12_misuse 55 = .ok (.iload_n 2, 1) := by decide +kernel
theorem dX12_misuse_56 : decode cX12_misuse 56 = .ok (.iconst 3, 1) := by decide +kernel
theorem dX12_misuse_57 : decode cX12_misuse 57 = .ok (.if_icmp .ne 12, 3) := by decide +kernel
theorem dX12_misuse_60 : decode cX12_misuse 60 = .ok (.aload_n 0, 1) := by decide +kernel
theorem dX12_misuse_61 : decode cX12_misuse 61 = .ok (.getfield 300, 3) := by decide +kernel
theorem dX12_misuse_64 : decode cX12_misuse 64 = .ok (.iload_n 1, 1) := by decide +kernel
theorem dX12_misuse_65 : decode cX12_misuse 65 = .ok (.iaload, 1) := by decide +kernel
theorem dX12_misuse_66 : decode cX12_misuse 66 = .ok (.goto 4, 3) := by decide +kernel
theorem dX12_misuse_69 : decode cX12_misuse 69 = .ok (.iconst (-1), 1) := by decide +kernel
theorem dX12_misuse_70 : decode cX12_misuse 70 = .ok (.ireturn, 1) := by decide +kernel
theorem dX12_plain_0 : decode cX12_plain 0 = .ok (.lconst 0, 1) := by decide +kernel
theorem dX12_plain_1 : decode cX12_plain 1 = .ok (.lstore_n 2, 1) := by decide +kernel
theorem dX12_plain_2 : decode cX12_plain 2 = .ok (.bipush 56, 2) := by decide +kernel
theorem dX12_plain_4 : decode cX12_plain 4 = .ok (.istore 4, 2) := by decide +kernel
theorem dX12_plain_6 : decode cX12_plain 6 = .ok (.iload 4, 2) := by decide +kernel
theorem dX12_plain_8 : decode cX12_plain 8 = .ok (.ifCond .lt 36, 3) := by decide +kernel
theorem dX12_plain_11 : decode cX12_plain 11 = .ok (.lload_n 0, 1) := by decide +kernel
theorem dX12_plain_12 : decode cX12_plain 12 = .ok (.iload 4, 2) := by decide +kernel
theorem dX12_plain_14 : decode cX12_plain 14 = .ok (.lshr, 1) := by decide +kernel
theorem dX12_plain_15 : decode cX12_plain 15 = .ok (.ldc2_w 586, 3) := by decide +kernel
theorem dX12_plain_18 : decode cX12_plain 18 = .ok (.land, 1) := by decide +kernel
theorem dX12_plain_19 : decode cX12_plain 19 = .ok (.lconst 0, 1) := by decide +kernel
theorem dX12_plain_20 : decode cX12_plain 20 = .ok (.lcmp, 1) := by decide +kernel
theorem dX12_plain_21 : decode cX12_plain 21 = .ok (.ifCond .eq 17, 3) := by decide +kernel
theorem dX12_plain_24 : decode cX12_plain 24 = .ok (.lload_n 2, 1) := by decide +kernel
theorem dX12_plain_25 : decode cX12_plain 25 = .ok (.bipush 8, 2) := by decide +kernel
theorem dX12_plain_27 : decode cX12_plain 27 = .ok (.lshl, 1) := by decide +kernel
theorem dX12_plain_28 : decode cX12_plain 28 = .ok (.lload_n 0, 1) := by decide +kernel
theorem dX12_plain_29 : decode cX12_plain 29 = .ok (.iload 4, 2) := by decide +kernel
theorem dX12_plain_31 : decode cX12_plain 31 = .ok (.lshr, 1) := by decide +kernel
theorem dX12_plain_32 : decode cX12_plain 32 = .ok (.ldc2_w 586, 3) := by decide +kernel
theorem dX12_plain_35 : decode cX12_plain 35 = .ok (.land, 1) := by decide +kernel
theorem dX12_plain_36 : decode cX12_plain 36 = .ok (.lor, 1) := by decide +kernel
theorem dX12_plain_37 : decode cX12_plain 37 = .ok (.lstore_n 2, 1) := by decide +kernel
theorem dX12_plain_38 : decode cX12_plain 38 = .ok (.iinc 4 (-8), 3) := by decide +kernel
theorem dX12_plain_41 : decode cX12_plain 41 = .ok (.goto (-35), 3) := by decide +kernel
theorem dX12_plain_44 : decode cX12_plain 44 = .ok (.lload_n 2, 1) := by decide +kernel
theorem dX12_plain_45 : decode cX12_plain 45 = .ok (.lreturn, 1) := by decide +kernel
theorem dX12_named_0 : decode cX12_named 0 = .ok (.aload_n 0, 1) := by decide +kernel
theorem dX12_named_1 : decode cX12_named 1 = .ok (.lload_n 1, 1) := by decide +kernel
theorem dX12_named_2 : decode cX12_named 2 = .ok (.invokestatic 588, 3) := by decide +kernel
theorem dX12_named_5 : decode cX12_named 5 = .ok (.invokevirtual 119, 3) := by decide +kernel
theorem dX12_named_8 : decode cX12_named 8 = .ok (.istore_n 3, 1) := by decide +kernel
theorem dX12_named_9 : decode cX12_named 9 = .ok (.iload_n 3, 1) := by decide +kernel
theorem dX12_named_10 : decode cX12_named 10 = .ok (.ifCond .ge 7, 3) := by decide +kernel
theorem dX12_named_13 : decode cX12_named 13 = .ok (.iconst (-1), 1) := by decide +kernel
theorem dX12_named_14 : decode cX12_named 14 = .ok (.goto 19, 3) := by decide +kernel
theorem dX12_named_17 : decode cX12_named 17 = .ok (.bipush 100, 2) := by decide +kernel
theorem dX12_named_19 : decode cX12_named 19 = .ok (.aload_n 0, 1) := by decide +kernel
theorem dX12_named_20 : decode cX12_named 20 = .ok (.getfield 138, 3) := by decide +kernel
theorem dX12_named_23 : decode cX12_named 23 = .ok (.iload_n 3, 1) := by decide +kernel
theorem dX12_named_24 : decode cX12_named 24 = .ok (.iaload, 1) := by decide +kernel
theorem dX12_named_25 : decode cX12_named 25 = .ok (.imul, 1) := by decide +kernel
theorem dX12_named_26 : decode cX12_named 26 = .ok (.aload_n 0, 1) := by decide +kernel
theorem dX12_named_27 : decode cX12_named 27 = .ok (.getfield 142, 3) := by decide +kernel
theorem dX12_named_30 : decode cX12_named 30 = .ok (.iload_n 3, 1) := by decide +kernel
theorem dX12_named_31 : decode cX12_named 31 = .ok (.iaload, 1) := by decide +kernel
theorem dX12_named_32 : decode cX12_named 32 = .ok (.iadd, 1) := by decide +kernel
theorem dX12_named_33 : decode cX12_named 33 = .ok (.ireturn, 1) := by decide +kernel
theorem dX12_kind_0 : decode cX12_kind 0 = .ok (.iload_n 1, 1) := by decide +kernel
theorem dX12_kind_1 : decode cX12_kind 1 = .ok (.ifCond .lt 11, 3) := by decide +kernel
theorem dX12_kind_4 : decode cX12_kind 4 = .ok (.iload_n 1, 1) := by decide +kernel
theorem dX12_kind_5 : decode cX12_kind 5 = .ok (.aload_n 0, 1) := by decide +kernel
theorem dX12_kind_6 : decode cX12_kind 6 = .ok (.getfield 478, 3) := by decide +kernel
theorem dX12_kind_9 : decode cX12_kind 9 = .ok (.if_icmp .lt 5, 3) := by decide +kernel
theorem dX12_kind_12 : decode cX12_kind 12 = .ok (.iconst (-1), 1) := by decide +kernel
theorem dX12_kind_13 : decode cX12_kind 13 = .ok (.ireturn, 1) := by decide +kernel
theorem dX12_kind_14 : decode cX12_kind 14 = .ok (.iload_n 2, 1) := by decide +kernel
theorem dX12_kind_15 : decode cX12_kind 15 = .ok (.ifCond .ne 20, 3) := by decide +kernel
theorem dX12_kind_18 : decode cX12_kind 18 = .ok (.aload_n 0, 1) := by decide +kernel
theorem dX12_kind_19 : decode cX12_kind 19 = .ok (.getfield 205, 3) := by decide +kernel
theorem dX12_kind_22 : decode cX12_kind 22 = .ok (.bipush 16, 2) := by decide +kernel
theorem dX12_kind_24 : decode cX12_kind 24 = .ok (.aload_n 0, 1) := by decide +kernel
theorem dX12_kind_25 : decode cX12_kind 25 = .ok (.getfield 11, 3) := by decide +kernel
theorem dX12_kind_28 : decode cX12_kind 28 = .ok (.imul, 1) := by decide +kernel
theorem dX12_kind_29 : decode cX12_kind 29 = .ok (.iload_n 1, 1) := by decide +kernel
theorem dX12_kind_30 : decode cX12_kind 30 = .ok (.iadd, 1) := by decide +kernel
theorem dX12_kind_31 : decode cX12_kind 31 = .ok (.iaload, 1) := by decide +kernel
theorem dX12_kind_32 : decode cX12_kind 32 = .ok (.goto 26, 3) := by decide +kernel
theorem dX12_kind_35 : decode cX12_kind 35 = .ok (.iload_n 2, 1) := by decide +kernel
theorem dX12_kind_36 : decode cX12_kind 36 = .ok (.iconst 1, 1) := by decide +kernel
theorem dX12_kind_37 : decode cX12_kind 37 = .ok (.if_icmp .ne 20, 3) := by decide +kernel
theorem dX12_kind_40 : decode cX12_kind 40 = .ok (.aload_n 0, 1) := by decide +kernel
theorem dX12_kind_41 : decode cX12_kind 41 = .ok (.getfield 196, 3) := by decide +kernel
theorem dX12_kind_44 : decode cX12_kind 44 = .ok (.bipush 16, 2) := by decide +kernel
theorem dX12_kind_46 : decode cX12_kind 46 = .ok (.aload_n 0, 1) := by decide +kernel
theorem dX12_kind_47 : decode cX12_kind 47 = .ok (.getfield 11, 3) := by decide +kernel
theorem dX12_kind_50 : decode cX12_kind 50 = .ok (.imul, 1) := by decide +kernel
theorem dX12_kind_51 : decode cX12_kind 51 = .ok (.iload_n 1, 1) := by decide +kernel
theorem dX12_kind_52 : decode cX12_kind 52 = .ok (.iadd, 1) := by decide +kernel
theorem dX12_kind_53 : decode cX12_kind 53 = .ok (.iaload, 1) := by decide +kernel
theorem dX12_kind_54 : decode cX12_kind 54 = .ok (.goto 4, 3) := by decide +kernel
theorem dX12_kind_57 : decode cX12_kind 57 = .ok (.iconst (-1), 1) := by decide +kernel
theorem dX12_kind_58 : decode cX12_kind 58 = .ok (.ireturn, 1) := by decide +kernel
theorem dX12_member_0 : decode cX12_member 0 = .ok (.iload_n 1, 1) := by decide +kernel
theorem dX12_member_1 : decode cX12_member 1 = .ok (.ifCond .lt 11, 3) := by decide +kernel
theorem dX12_member_4 : decode cX12_member 4 = .ok (.iload_n 1, 1) := by decide +kernel
theorem dX12_member_5 : decode cX12_member 5 = .ok (.aload_n 0, 1) := by decide +kernel
theorem dX12_member_6 : decode cX12_member 6 = .ok (.getfield 478, 3) := by decide +kernel
theorem dX12_member_9 : decode cX12_member 9 = .ok (.if_icmp .lt 7, 3) := by decide +kernel
theorem dX12_member_12 : decode cX12_member 12 = .ok (.iconst (-1), 1) := by decide +kernel
theorem dX12_member_13 : decode cX12_member 13 = .ok (.goto 20, 3) := by decide +kernel
theorem dX12_member_16 : decode cX12_member 16 = .ok (.aload_n 0, 1) := by decide +kernel
theorem dX12_member_17 : decode cX12_member 17 = .ok (.bipush 16, 2) := by decide +kernel
theorem dX12_member_19 : decode cX12_member 19 = .ok (.aload_n 0, 1) := by decide +kernel
theorem dX12_member_20 : decode cX12_member 20 = .ok (.getfield 11, 3) := by decide +kernel
theorem dX12_member_23 : decode cX12_member 23 = .ok (.imul, 1) := by decide +kernel
theorem dX12_member_24 : decode cX12_member 24 = .ok (.iload_n 1, 1) := by decide +kernel
theorem dX12_member_25 : decode cX12_member 25 = .ok (.iadd, 1) := by decide +kernel
theorem dX12_member_26 : decode cX12_member 26 = .ok (.lload_n 2, 1) := by decide +kernel
theorem dX12_member_27 : decode cX12_member 27 = .ok (.invokestatic 588, 3) := by decide +kernel
theorem dX12_member_30 : decode cX12_member 30 = .ok (.invokevirtual 493, 3) := by decide +kernel
theorem dX12_member_33 : decode cX12_member 33 = .ok (.ireturn, 1) := by decide +kernel
theorem dX12_isPaper_0 : decode cX12_isPaper 0 = .ok (.iload_n 1, 1) := by decide +kernel
theorem dX12_isPaper_1 : decode cX12_isPaper 1 = .ok (.ifCond .lt 15, 3) := by decide +kernel
theorem dX12_isPaper_4 : decode cX12_isPaper 4 = .ok (.iload_n 1, 1) := by decide +kernel
theorem dX12_isPaper_5 : decode cX12_isPaper 5 = .ok (.aload_n 0, 1) := by decide +kernel
theorem dX12_isPaper_6 : decode cX12_isPaper 6 = .ok (.getfield 524, 3) := by decide +kernel
theorem dX12_isPaper_9 : decode cX12_isPaper 9 = .ok (.if_icmp .ge 7, 3) := by decide +kernel
theorem dX12_isPaper_12 : decode cX12_isPaper 12 = .ok (.iconst 1, 1) := by decide +kernel
theorem dX12_isPaper_13 : decode cX12_isPaper 13 = .ok (.goto 4, 3) := by decide +kernel
theorem dX12_isPaper_16 : decode cX12_isPaper 16 = .ok (.iconst 0, 1) := by decide +kernel
theorem dX12_isPaper_17 : decode cX12_isPaper 17 = .ok (.ireturn, 1) := by decide +kernel
theorem dX12_has_0 : decode cX12_has 0 = .ok (.aload_n 0, 1) := by decide +kernel
theorem dX12_has_1 : decode cX12_has 1 = .ok (.iload_n 1, 1) := by decide +kernel
theorem dX12_has_2 : decode cX12_has 2 = .ok (.invokevirtual 592, 3) := by decide +kernel
theorem dX12_has_5 : decode cX12_has 5 = .ok (.ifCond .eq 49, 3) := by decide +kernel
theorem dX12_has_8 : decode cX12_has 8 = .ok (.iload_n 2, 1) := by decide +kernel
theorem dX12_has_9 : decode cX12_has 9 = .ok (.ifCond .lt 45, 3) := by decide +kernel
theorem dX12_has_12 : decode cX12_has 12 = .ok (.iload_n 2, 1) := by decide +kernel
theorem dX12_has_13 : decode cX12_has 13 = .ok (.aload_n 0, 1) := by decide +kernel
theorem dX12_has_14 : decode cX12_has 14 = .ok (.getfield 205, 3) := by decide +kernel
theorem dX12_has_17 : decode cX12_has 17 = .ok (.bipush 16, 2) := by decide +kernel
theorem dX12_has_19 : decode cX12_has 19 = .ok (.aload_n 0, 1) := by decide +kernel
theorem dX12_has_20 : decode cX12_has 20 = .ok (.getfield 11, 3) := by decide +kernel
theorem dX12_has_23 : decode cX12_has 23 = .ok (.imul, 1) := by decide +kernel
theorem dX12_has_24 : decode cX12_has 24 = .ok (.aload_n 0, 1) := by decide +kernel
theorem dX12_has_25 : decode cX12_has 25 = .ok (.getfield 315, 3) := by decide +kernel
theorem dX12_has_28 : decode cX12_has 28 = .ok (.iload_n 1, 1) := by decide +kernel
theorem dX12_has_29 : decode cX12_has 29 = .ok (.iaload, 1) := by decide +kernel
theorem dX12_has_30 : decode cX12_has 30 = .ok (.iadd, 1) := by decide +kernel
theorem dX12_has_31 : decode cX12_has 31 = .ok (.iaload, 1) := by decide +kernel
theorem dX12_has_32 : decode cX12_has 32 = .ok (.if_icmp .ge 22, 3) := by decide +kernel
theorem dX12_has_35 : decode cX12_has 35 = .ok (.aload_n 0, 1) := by decide +kernel
theorem dX12_has_36 : decode cX12_has 36 = .ok (.aload_n 0, 1) := by decide +kernel
theorem dX12_has_37 : decode cX12_has 37 = .ok (.getfield 315, 3) := by decide +kernel
theorem dX12_has_40 : decode cX12_has 40 = .ok (.iload_n 1, 1) := by decide +kernel
theorem dX12_has_41 : decode cX12_has 41 = .ok (.iaload, 1) := by decide +kernel
theorem dX12_has_42 : decode cX12_has 42 = .ok (.iload_n 2, 1) := by decide +kernel
theorem dX12_has_43 : decode cX12_has 43 = .ok (.invokevirtual 569, 3) := by decide +kernel
theorem dX12_has_46 : decode cX12_has 46 = .ok (.iload_n 3, 1) := by decide +kernel
theorem dX12_has_47 : decode cX12_has 47 = .ok (.if_icmp .ne 7, 3) := by decide +kernel
theorem dX12_has_50 : decode cX12_has 50 = .ok (.iconst 1, 1) := by decide +kernel
theorem dX12_has_51 : decode cX12_has 51 = .ok (.goto 4, 3) := by decide +kernel
theorem dX12_has_54 : decode cX12_has 54 = .ok (.iconst 0, 1) := by decide +kernel
theorem dX12_has_55 : decode cX12_has 55 = .ok (.ireturn, 1) := by decide +kernel
