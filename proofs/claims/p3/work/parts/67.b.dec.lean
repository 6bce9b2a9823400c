theorem dX6_readRule_0 : decode cX6_readRule 0 = .ok (.aload_n 0, 1) := by decide +kernel
theorem dX6_readRule_1 : decode cX6_readRule 1 = .ok (.getfield 22, 3) := by decide +kernel
theorem dX6_readRule_4 : decode cX6_readRule 4 = .ok (.getfield 131, 3) := by decide +kernel
theorem dX6_readRule_7 : decode cX6_readRule 7 = .ok (.invokevirtual 135, 3) := by decide +kernel
theorem dX6_readRule_10 : decode cX6_readRule 10 = .ok (.istore_n 1, 1) := by decide +kernel
theorem dX6_readRule_11 : decode cX6_readRule 11 = .ok (.aload_n 0, 1) := by decide +kernel
theorem dX6_readRule_12 : decode cX6_readRule 12 = .ok (.iconst 3, 1) := by decide +kernel
theorem dX6_readRule_13 : decode cX6_readRule 13 = .ok (.iload_n 1, 1) := by decide +kernel
theorem dX6_readRule_14 : decode cX6_readRule 14 = .ok (.bipush 16, 2) := by decide +kernel
theorem dX6_readRule_16 : decode cX6_readRule 16 = .ok (.invokevirtual 111, 3) := by decide +kernel
theorem dX6_readRule_19 : decode cX6_readRule 19 = .ok (.ifCond .ne 5, 3) := by decide +kernel
theorem dX6_readRule_22 : decode cX6_readRule 22 = .ok (.iconst 0, 1) := by decide +kernel
theorem dX6_readRule_23 : decode cX6_readRule 23 = .ok (.ireturn, 1) := by decide +kernel
theorem dX6_readRule_24 : decode cX6_readRule 24 = .ok (.new 141, 3) := by decide +kernel
theorem dX6_readRule_27 : decode cX6_readRule 27 = .ok (.dup, 1) := by decide +kernel
theorem dX6_readRule_28 : decode cX6_readRule 28 = .ok (.iload_n 1, 1) := by decide +kernel
theorem dX6_readRule_29 : decode cX6_readRule 29 = .ok (.invokespecial 143, 3) := by decide +kernel
theorem dX6_readRule_32 : decode cX6_readRule 32 = .ok (.astore_n 2, 1) := by decide +kernel
theorem dX6_readRule_33 : decode cX6_readRule 33 = .ok (.aload_n 0, 1) := by decide +kernel
theorem dX6_readRule_34 : decode cX6_readRule 34 = .ok (.getfield 22, 3) := by decide +kernel
theorem dX6_readRule_37 : decode cX6_readRule 37 = .ok (.getfield 131, 3) := by decide +kernel
theorem dX6_readRule_40 : decode cX6_readRule 40 = .ok (.aload_n 2, 1) := by decide +kernel
theorem dX6_readRule_41 : decode cX6_readRule 41 = .ok (.invokevirtual 146, 3) := by decide +kernel
theorem dX6_readRule_44 : decode cX6_readRule 44 = .ok (.pop, 1) := by decide +kernel
theorem dX6_readRule_45 : decode cX6_readRule 45 = .ok (.aload_n 0, 1) := by decide +kernel
theorem dX6_readRule_46 : decode cX6_readRule 46 = .ok (.iconst 0, 1) := by decide +kernel
theorem dX6_readRule_47 : decode cX6_readRule 47 = .ok (.putfield 150, 3) := by decide +kernel
theorem dX6_readRule_50 : decode cX6_readRule 50 = .ok (.aload_n 0, 1) := by decide +kernel
theorem dX6_readRule_51 : decode cX6_readRule 51 = .ok (.iconst 3, 1) := by decide +kernel
theorem dX6_readRule_52 : decode cX6_readRule 52 = .ok (.invokevirtual 64, 3) := by decide +kernel
theorem dX6_readRule_55 : decode cX6_readRule 55 = .ok (.ifCond .eq 17, 3) := by decide +kernel
theorem dX6_readRule_58 : decode cX6_readRule 58 = .ok (.aload_n 0, 1) := by decide +kernel
theorem dX6_readRule_59 : decode cX6_readRule 59 = .ok (.invokevirtual 87, 3) := by decide +kernel
theorem dX6_readRule_62 : decode cX6_readRule 62 = .ok (.aload_n 0, 1) := by decide +kernel
theorem dX6_readRule_63 : decode cX6_readRule 63 = .ok (.iconst 1, 1) := by decide +kernel
theorem dX6_readRule_64 : decode cX6_readRule 64 = .ok (.invokevirtual 153, 3) := by decide +kernel
theorem dX6_readRule_67 : decode cX6_readRule 67 = .ok (.ifCond .ne 5, 3) := by decide +kernel
theorem dX6_readRule_70 : decode cX6_readRule 70 = .ok (.iconst 0, 1) := by decide +kernel
theorem dX6_readRule_71 : decode cX6_readRule 71 = .ok (.ireturn, 1) := by decide +kernel
theorem dX6_readRule_72 : decode cX6_readRule 72 = .ok (.aload_n 2, 1) := by decide +kernel
theorem dX6_readRule_73 : decode cX6_readRule 73 = .ok (.aload_n 0, 1) := by decide +kernel
theorem dX6_readRule_74 : decode cX6_readRule 74 = .ok (.getfield 29, 3) := by decide +kernel
theorem dX6_readRule_77 : decode cX6_readRule 77 = .ok (.aload_n 0, 1) := by decide +kernel
theorem dX6_readRule_78 : decode cX6_readRule 78 = .ok (.getfield 150, 3) := by decide +kernel
theorem dX6_readRule_81 : decode cX6_readRule 81 = .ok (.invokestatic 157, 3) := by decide +kernel
theorem dX6_readRule_84 : decode cX6_readRule 84 = .ok (.putfield 163, 3) := by decide +kernel
theorem dX6_readRule_87 : decode cX6_readRule 87 = .ok (.aload_n 2, 1) := by decide +kernel
theorem dX6_readRule_88 : decode cX6_readRule 88 = .ok (.aload_n 0, 1) := by decide +kernel
theorem dX6_readRule_89 : decode cX6_readRule 89 = .ok (.getfield 32, 3) := by decide +kernel
theorem dX6_readRule_92 : decode cX6_readRule 92 = .ok (.aload_n 0, 1) := by decide +kernel
theorem dX6_readRule_93 : decode cX6_readRule 93 = .ok (.getfield 150, 3) := by decide +kernel
theorem dX6_readRule_96 : decode cX6_readRule 96 = .ok (.invokestatic 157, 3) := by decide +kernel
theorem dX6_readRule_99 : decode cX6_readRule 99 = .ok (.putfield 166, 3) := by decide +kernel
theorem dX6_readRule_102 : decode cX6_readRule 102 = .ok (.aload_n 0, 1) := by decide +kernel
theorem dX6_readRule_103 : decode cX6_readRule 103 = .ok (.bipush 61, 2) := by decide +kernel
theorem dX6_readRule_105 : decode cX6_readRule 105 = .ok (.invokevirtual 122, 3) := by decide +kernel
theorem dX6_readRule_108 : decode cX6_readRule 108 = .ok (.ifCond .eq 11, 3) := by decide +kernel
theorem dX6_readRule_111 : decode cX6_readRule 111 = .ok (.aload_n 0, 1) := by decide +kernel
theorem dX6_readRule_112 : decode cX6_readRule 112 = .ok (.iconst 0, 1) := by decide +kernel
theorem dX6_readRule_113 : decode cX6_readRule 113 = .ok (.invokevirtual 153, 3) := by decide +kernel
theorem dX6_readRule_116 : decode cX6_readRule 116 = .ok (.ifCond .ne 5, 3) := by decide +kernel
theorem dX6_readRule_119 : decode cX6_readRule 119 = .ok (.iconst 0, 1) := by decide +kernel
theorem dX6_readRule_120 : decode cX6_readRule 120 = .ok (.ireturn, 1) := by decide +kernel
theorem dX6_readRule_121 : decode cX6_readRule 121 = .ok (.aload_n 2, 1) := by decide +kernel
theorem dX6_readRule_122 : decode cX6_readRule 122 = .ok (.aload_n 0, 1) := by decide +kernel
theorem dX6_readRule_123 : decode cX6_readRule 123 = .ok (.getfield 29, 3) := by decide +kernel
theorem dX6_readRule_126 : decode cX6_readRule 126 = .ok (.aload_n 0, 1) := by decide +kernel
theorem dX6_readRule_127 : decode cX6_readRule 127 = .ok (.getfield 150, 3) := by decide +kernel
theorem dX6_readRule_130 : decode cX6_readRule 130 = .ok (.invokestatic 157, 3) := by decide +kernel
theorem dX6_readRule_133 : decode cX6_readRule 133 = .ok (.putfield 169, 3) := by decide +kernel
theorem dX6_readRule_136 : decode cX6_readRule 136 = .ok (.aload_n 2, 1) := by decide +kernel
theorem dX6_readRule_137 : decode cX6_readRule 137 = .ok (.aload_n 0, 1) := by decide +kernel
theorem dX6_readRule_138 : decode cX6_readRule 138 = .ok (.getfield 32, 3) := by decide +kernel
theorem dX6_readRule_141 : decode cX6_readRule 141 = .ok (.aload_n 0, 1) := by decide +kernel
theorem dX6_readRule_142 : decode cX6_readRule 142 = .ok (.getfield 150, 3) := by decide +kernel
theorem dX6_readRule_145 : decode cX6_readRule 145 = .ok (.invokestatic 157, 3) := by decide +kernel
theorem dX6_readRule_148 : decode cX6_readRule 148 = .ok (.putfield 172, 3) := by decide +kernel
theorem dX6_readRule_151 : decode cX6_readRule 151 = .ok (.aload_n 0, 1) := by decide +kernel
theorem dX6_readRule_152 : decode cX6_readRule 152 = .ok (.bipush 59, 2) := by decide +kernel
theorem dX6_readRule_154 : decode cX6_readRule 154 = .ok (.invokevirtual 122, 3) := by decide +kernel
theorem dX6_readRule_157 : decode cX6_readRule 157 = .ok (.ireturn, 1) := by decide +kernel
theorem dX7_init_0 : decode cX7_init 0 = .ok (.aload_n 0, 1) := by decide +kernel
theorem dX7_init_1 : decode cX7_init 1 = .ok (.invokespecial 3, 3) := by decide +kernel
theorem dX7_init_4 : decode cX7_init 4 = .ok (.aload_n 0, 1) := by decide +kernel
theorem dX7_init_5 : decode cX7_init 5 = .ok (.iload_n 1, 1) := by decide +kernel
theorem dX7_init_6 : decode cX7_init 6 = .ok (.putfield 9, 3) := by decide +kernel
theorem dX7_init_9 : decode cX7_init 9 = .ok (.aload_n 0, 1) := by decide +kernel
theorem dX7_init_10 : decode cX7_init 10 = .ok (.iconst 0, 1) := by decide +kernel
theorem dX7_init_11 : decode cX7_init 11 = .ok (.newarray .int, 2) := by decide +kernel
theorem dX7_init_13 : decode cX7_init 13 = .ok (.putfield 15, 3) := by decide +kernel
theorem dX7_init_16 : decode cX7_init 16 = .ok (.aload_n 0, 1) := by decide +kernel
theorem dX7_init_17 : decode cX7_init 17 = .ok (.aload_n 0, 1) := by decide +kernel
theorem dX7_init_18 : decode cX7_init 18 = .ok (.getfield 15, 3) := by decide +kernel
theorem dX7_init_21 : decode cX7_init 21 = .ok (.putfield 19, 3) := by decide +kernel
theorem dX7_init_24 : decode cX7_init 24 = .ok (.aload_n 0, 1) := by decide +kernel
theorem dX7_init_25 : decode cX7_init 25 = .ok (.aload_n 0, 1) := by decide +kernel
theorem dX7_init_26 : decode cX7_init 26 = .ok (.getfield 15, 3) := by decide +kernel
theorem dX7_init_29 : decode cX7_init 29 = .ok (.putfield 22, 3) := by decide +kernel
theorem dX7_init_32 : decode cX7_init 32 = .ok (.aload_n 0, 1) := by decide +kernel
theorem dX7_init_33 : decode cX7_init 33 = .ok (.aload_n 0, 1) := by decide +kernel
theorem dX7_init_34 : decode cX7_init 34 = .ok (.getfield 15, 3) := by decide +kernel
theorem dX7_init_37 : decode cX7_init 37 = .ok (.putfield 25, 3) := by decide +kernel
theorem dX7_init_40 : decode cX7_init 40 = .ok (.aload_n 0, 1) := by decide +kernel
theorem dX7_init_41 : decode cX7_init 41 = .ok (.bipush 16, 2) := by decide +kernel
theorem dX7_init_43 : decode cX7_init 43 = .ok (.newarray .int, 2) := by decide +kernel
theorem dX7_init_45 : decode cX7_init 45 = .ok (.putfield 28, 3) := by decide +kernel
theorem dX7_init_48 : decode cX7_init 48 = .ok (.return_, 1) := by decide +kernel
theorem dX6_readSteps_0 : decode cX6_readSteps 0 = .ok (.iconst 0, 1) := by decide +kernel
theorem dX6_readSteps_1 : decode cX6_readSteps 1 = .ok (.istore_n 2, 1) := by decide +kernel
theorem dX6_readSteps_2 : decode cX6_readSteps 2 = .ok (.aload_n 0, 1) := by decide +kernel
theorem dX6_readSteps_3 : decode cX6_readSteps 3 = .ok (.iconst 0, 1) := by decide +kernel
theorem dX6_readSteps_4 : decode cX6_readSteps 4 = .ok (.putfield 150, 3) := by decide +kernel
theorem dX6_readSteps_7 : decode cX6_readSteps 7 = .ok (.iconst 0, 1) := by decide +kernel
theorem dX6_readSteps_8 : decode cX6_readSteps 8 = .ok (.istore_n 3, 1) := by decide +kernel
theorem dX6_readSteps_9 : decode cX6_readSteps 9 = .ok (.iload_n 3, 1) := by decide +kernel
theorem dX6_readSteps_10 : decode cX6_readSteps 10 = .ok (.bipush 40, 2) := by decide +kernel
theorem dX6_readSteps_12 : decode cX6_readSteps 12 = .ok (.if_icmp .gt 178, 3) := by decide +kernel
theorem dX6_readSteps_15 : decode cX6_readSteps 15 = .ok (.iload_n 1, 1) := by decide +kernel
theorem dX6_readSteps_16 : decode cX6_readSteps 16 = .ok (.ifCond .eq 22, 3) := by decide +kernel
theorem dX6_readSteps_19 : decode cX6_readSteps 19 = .ok (.aload_n 0, 1) := by decide +kernel
theorem dX6_readSteps_20 : decode cX6_readSteps 20 = .ok (.getfield 47, 3) := by decide +kernel
theorem dX6_readSteps_23 : decode cX6_readSteps 23 = .ok (.bipush 61, 2) := by decide +kernel
theorem dX6_readSteps_25 : decode cX6_readSteps 25 = .ok (.if_icmp .ne 29, 3) := by decide +kernel
theorem dX6_readSteps_28 : decode cX6_readSteps 28 = .ok (.aload_n 0, 1) := by decide +kernel
theorem dX6_readSteps_29 : decode cX6_readSteps 29 = .ok (.invokevirtual 175, 3) := by decide +kernel
theorem dX6_readSteps_32 : decode cX6_readSteps 32 = .ok (.ifCond .ne 22, 3) := by decide +kernel
theorem dX6_readSteps_35 : decode cX6_readSteps 35 = .ok (.goto 12, 3) := by decide +kernel
theorem dX6_readSteps_38 : decode cX6_readSteps 38 = .ok (.aload_n 0, 1) := by decide +kernel
theorem dX6_readSteps_39 : decode cX6_readSteps 39 = .ok (.getfield 47, 3) := by decide +kernel
theorem dX6_readSteps_42 : decode cX6_readSteps 42 = .ok (.bipush 59, 2) := by decide +kernel
theorem dX6_readSteps_44 : decode cX6_readSteps 44 = .ok (.if_icmp .ne 10, 3) := by decide +kernel
theorem dX6_readSteps_47 : decode cX6_readSteps 47 = .ok (.aload_n 0, 1) := by decide +kernel
theorem dX6_readSteps_48 : decode cX6_readSteps 48 = .ok (.iload_n 1, 1) := by decide +kernel
theorem dX6_readSteps_49 : decode cX6_readSteps 49 = .ok (.iload_n 2, 1) := by decide +kernel
theorem dX6_readSteps_50 : decode cX6_readSteps 50 = .ok (.invokevirtual 178, 3) := by decide +kernel
theorem dX6_readSteps_53 : decode cX6_readSteps 53 = .ok (.ireturn, 1) := by decide +kernel
theorem dX6_readSteps_54 : decode cX6_readSteps 54 = .ok (.aload_n 0, 1) := by decide +kernel
theorem dX6_readSteps_55 : decode cX6_readSteps 55 = .ok (.invokevirtual 182, 3) := by decide +kernel
theorem dX6_readSteps_58 : decode cX6_readSteps 58 = .ok (.istore 4, 2) := by decide +kernel
theorem dX6_readSteps_60 : decode cX6_readSteps 60 = .ok (.iload 4, 2) := by decide +kernel
theorem dX6_readSteps_62 : decode cX6_readSteps 62 = .ok (.ifCond .eq 12, 3) := by decide +kernel
theorem dX6_readSteps_65 : decode cX6_readSteps 65 = .ok (.aload_n 0, 1) := by decide +kernel
theorem dX6_readSteps_66 : decode cX6_readSteps 66 = .ok (.getfield 150, 3) := by decide +kernel
theorem dX6_readSteps_69 : decode cX6_readSteps 69 = .ok (.bipush 40, 2) := by decide +kernel
theorem dX6_readSteps_71 : decode cX6_readSteps 71 = .ok (.if_icmp .lt 9, 3) := by decide +kernel
theorem dX6_readSteps_74 : decode cX6_readSteps 74 = .ok (.aload_n 0, 1) := by decide +kernel
theorem dX6_readSteps_75 : decode cX6_readSteps 75 = .ok (.iconst 2, 1) := by decide +kernel
theorem dX6_readSteps_76 : decode cX6_readSteps 76 = .ok (.invokevirtual 84, 3) := by decide +kernel
theorem dX6_readSteps_79 : decode cX6_readSteps 79 = .ok (.ireturn, 1) := by decide +kernel
theorem dX6_readSteps_80 : decode cX6_readSteps 80 = .ok (.iload 4, 2) := by decide +kernel
theorem dX6_readSteps_82 : decode cX6_readSteps 82 = .ok (.bipush 61, 2) := by decide +kernel
theorem dX6_readSteps_84 : decode cX6_readSteps 84 = .ok (.if_icmp .ne 20, 3) := by decide +kernel
theorem dX6_readSteps_87 : decode cX6_readSteps 87 = .ok (.aload_n 0, 1) := by decide +kernel
theorem dX6_readSteps_88 : decode cX6_readSteps 88 = .ok (.invokevirtual 175, 3) := by decide +kernel
theorem dX6_readSteps_91 : decode cX6_readSteps 91 = .ok (.ifCond .ne 13, 3) := by decide +kernel
theorem dX6_readSteps_94 : decode cX6_readSteps 94 = .ok (.aload_n 0, 1) := by decide +kernel
theorem dX6_readSteps_95 : decode cX6_readSteps 95 = .ok (.invokevirtual 87, 3) := by decide +kernel
theorem dX6_readSteps_98 : decode cX6_readSteps 98 = .ok (.aload_n 0, 1) := by decide +kernel
theorem dX6_readSteps_99 : decode cX6_readSteps 99 = .ok (.iconst 2, 1) := by decide +kernel
theorem dX6_readSteps_100 : decode cX6_readSteps 100 = .ok (.invokevirtual 84, 3) := by decide +kernel
theorem dX6_readSteps_103 : decode cX6_readSteps 103 = .ok (.ireturn, 1) := by decide +kernel
theorem dX6_readSteps_104 : decode cX6_readSteps 104 = .ok (.iload 4, 2) := by decide +kernel
theorem dX6_readSteps_106 : decode cX6_readSteps 106 = .ok (.iload_n 2, 1) := by decide +kernel
theorem dX6_readSteps_107 : decode cX6_readSteps 107 = .ok (.iload_n 1, 1) := by decide +kernel
theorem dX6_readSteps_108 : decode cX6_readSteps 108 = .ok (.invokestatic 185, 3) := by decide +kernel
theorem dX6_readSteps_111 : decode cX6_readSteps 111 = .ok (.istore_n 2, 1) := by decide +kernel
theorem dX6_readSteps_112 : decode cX6_readSteps 112 = .ok (.iload_n 2, 1) := by decide +kernel
theorem dX6_readSteps_113 : decode cX6_readSteps 113 = .ok (.iconst (-1), 1) := by decide +kernel
theorem dX6_readSteps_114 : decode cX6_readSteps 114 = .ok (.if_icmp .ne 9, 3) := by decide +kernel
theorem dX6_readSteps_117 : decode cX6_readSteps 117 = .ok (.aload_n 0, 1) := by decide +kernel
theorem dX6_readSteps_118 : decode cX6_readSteps 118 = .ok (.iconst 4, 1) := by decide +kernel
theorem dX6_readSteps_119 : decode cX6_readSteps 119 = .ok (.invokevirtual 84, 3) := by decide +kernel
theorem dX6_readSteps_122 : decode cX6_readSteps 122 = .ok (.ireturn, 1) := by decide +kernel
theorem dX6_readSteps_123 : decode cX6_readSteps 123 = .ok (.aload_n 0, 1) := by decide +kernel
theorem dX6_readSteps_124 : decode cX6_readSteps 124 = .ok (.getfield 29, 3) := by decide +kernel
theorem dX6_readSteps_127 : decode cX6_readSteps 127 = .ok (.aload_n 0, 1) := by decide +kernel
theorem dX6_readSteps_128 : decode cX6_readSteps 128 = .ok (.getfield 150, 3) := by decide +kernel
theorem dX6_readSteps_131 : decode cX6_readSteps 131 = .ok (.iload 4, 2) := by decide +kernel
theorem dX6_readSteps_133 : decode cX6_readSteps 133 = .ok (.iastore, 1) := by decide +kernel
theorem dX6_readSteps_134 : decode cX6_readSteps 134 = .ok (.aload_n 0, 1) := by decide +kernel
theorem dX6_readSteps_135 : decode cX6_readSteps 135 = .ok (.getfield 32, 3) := by decide +kernel
theorem dX6_readSteps_138 : decode cX6_readSteps 138 = .ok (.aload_n 0, 1) := by decide +kernel
theorem dX6_readSteps_139 : decode cX6_readSteps 139 = .ok (.getfield 150, 3) := by decide +kernel
theorem dX6_readSteps_142 : decode cX6_readSteps 142 = .ok (.iload 4, 2) := by decide +kernel
theorem dX6_readSteps_144 : decode cX6_readSteps 144 = .ok (.bipush 110, 2) := by decide +kernel
theorem dX6_readSteps_146 : decode cX6_readSteps 146 = .ok (.if_icmp .ne 11, 3) := by decide +kernel
theorem dX6_readSteps_149 : decode cX6_readSteps 149 = .ok (.aload_n 0, 1) := by decide +kernel
theorem dX6_readSteps_150 : decode cX6_readSteps 150 = .ok (.getfield 54, 3) := by decide +kernel
theorem dX6_readSteps_153 : decode cX6_readSteps 153 = .ok (.l2i, 1) := by decide +kernel
theorem dX6_readSteps_154 : decode cX6_readSteps 154 = .ok (.goto 4, 3) := by decide +kernel
theorem dX6_readSteps_157 : decode cX6_readSteps 157 = .ok (.iconst 0, 1) := by decide +kernel
theorem dX6_readSteps_158 : decode cX6_readSteps 158 = .ok (.iastore, 1) := by decide +kernel
theorem dX6_readSteps_159 : decode cX6_readSteps 159 = .ok (.aload_n 0, 1) := by decide +kernel
theorem dX6_readSteps_160 : decode cX6_readSteps 160 = .ok (.dup, 1) := by decide +kernel
theorem dX6_readSteps_161 : decode cX6_readSteps 161 = .ok (.getfield 150, 3) := by decide +kernel
theorem dX6_readSteps_164 : decode cX6_readSteps 164 = .ok (.iconst 1, 1) := by decide +kernel
theorem dX6_readSteps_165 : decode cX6_readSteps 165 = .ok (.iadd, 1) := by decide +kernel
theorem dX6_readSteps_166 : decode cX6_readSteps 166 = .ok (.putfield 150, 3) := by decide +kernel
theorem dX6_readSteps_169 : decode cX6_readSteps 169 = .ok (.iload 4, 2) := by decide +kernel
theorem dX6_readSteps_171 : decode cX6_readSteps 171 = .ok (.bipush 61, 2) := by decide +kernel
theorem dX6_readSteps_173 : decode cX6_readSteps 173 = .ok (.if_icmp .ne 7, 3) := by decide +kernel
theorem dX6_readSteps_176 : decode cX6_readSteps 176 = .ok (.aload_n 0, 1) := by decide +kernel
theorem dX6_readSteps_177 : decode cX6_readSteps 177 = .ok (.invokevirtual 87, 3) := by decide +kernel
theorem dX6_readSteps_180 : decode cX6_readSteps 180 = .ok (.aload_n 0, 1) := by decide +kernel
theorem dX6_readSteps_181 : decode cX6_readSteps 181 = .ok (.invokevirtual 87, 3) := by decide +kernel
theorem dX6_readSteps_184 : decode cX6_readSteps 184 = .ok (.iinc 3 1, 3) := by decide +kernel
theorem dX6_readSteps_187 : decode cX6_readSteps 187 = .ok (.goto (-178), 3) := by decide +kernel
theorem dX6_readSteps_190 : decode cX6_readSteps 190 = .ok (.iconst 0, 1) := by decide +kernel
theorem dX6_readSteps_191 : decode cX6_readSteps 191 = .ok (.ireturn, 1) := by decide +kernel
theorem dX6_twoEquals_0 : decode cX6_twoEquals 0 = .ok (.aload_n 0, 1) := by decide +kernel
theorem dX6_twoEquals_1 : decode cX6_twoEquals 1 = .ok (.getfield 39, 3) := by decide +kernel
theorem dX6_twoEquals_4 : decode cX6_twoEquals 4 = .ok (.sipush 3000, 3) := by decide +kernel
theorem dX6_twoEquals_7 : decode cX6_twoEquals 7 = .ok (.if_icmp .ge 26, 3) := by decide +kernel
theorem dX6_twoEquals_10 : decode cX6_twoEquals 10 = .ok (.aload_n 0, 1) := by decide +kernel
theorem dX6_twoEquals_11 : decode cX6_twoEquals 11 = .ok (.getfield 9, 3) := by decide +kernel
theorem dX6_twoEquals_14 : decode cX6_twoEquals 14 = .ok (.getfield 42, 3) := by decide +kernel
theorem dX6_twoEquals_17 : decode cX6_twoEquals 17 = .ok (.aload_n 0, 1) := by decide +kernel
theorem dX6_twoEquals_18 : decode cX6_twoEquals 18 = .ok (.getfield 39, 3) := by decide +kernel
theorem dX6_twoEquals_21 : decode cX6_twoEquals 21 = .ok (.iconst 1, 1) := by decide +kernel
theorem dX6_twoEquals_22 : decode cX6_twoEquals 22 = .ok (.iadd, 1) := by decide +kernel
theorem dX6_twoEquals_23 : decode cX6_twoEquals 23 = .ok (.iaload, 1) := by decide +kernel
theorem dX6_twoEquals_24 : decode cX6_twoEquals 24 = .ok (.bipush 61, 2) := by decide +kernel
theorem dX6_twoEquals_26 : decode cX6_twoEquals 26 = .ok (.if_icmp .ne 7, 3) := by decide +kernel
theorem dX6_twoEquals_29 : decode cX6_twoEquals 29 = .ok (.iconst 1, 1) := by decide +kernel
theorem dX6_twoEquals_30 : decode cX6_twoEquals 30 = .ok (.goto 4, 3) := by decide +kernel
theorem dX6_twoEquals_33 : decode cX6_twoEquals 33 = .ok (.iconst 0, 1) := by decide +kernel
theorem dX6_twoEquals_34 : decode cX6_twoEquals 34 = .ok (.ireturn, 1) := by decide +kernel
theorem dX6_endSteps_0 : decode cX6_endSteps 0 = .ok (.iload_n 1, 1) := by decide +kernel
theorem dX6_endSteps_1 : decode cX6_endSteps 1 = .ok (.ifCond .eq 10, 3) := by decide +kernel
theorem dX6_endSteps_4 : decode cX6_endSteps 4 = .ok (.aload_n 0, 1) := by decide +kernel
theorem dX6_endSteps_5 : decode cX6_endSteps 5 = .ok (.getfield 150, 3) := by decide +kernel
theorem dX6_endSteps_8 : decode cX6_endSteps 8 = .ok (.ifCond .eq 16, 3) := by decide +kernel
theorem dX6_endSteps_11 : decode cX6_endSteps 11 = .ok (.iload_n 2, 1) := by decide +kernel
theorem dX6_endSteps_12 : decode cX6_endSteps 12 = .ok (.iconst 1, 1) := by decide +kernel
theorem dX6_endSteps_13 : decode cX6_endSteps 13 = .ok (.if_icmp .eq 11, 3) := by decide +kernel
theorem dX6_endSteps_16 : decode cX6_endSteps 16 = .ok (.aload_n 0, 1) := by decide +kernel
theorem dX6_endSteps_17 : decode cX6_endSteps 17 = .ok (.iconst 4, 1) := by decide +kernel
theorem dX6_endSteps_18 : decode cX6_endSteps 18 = .ok (.invokevirtual 84, 3) := by decide +kernel
theorem dX6_endSteps_21 : decode cX6_endSteps 21 = .ok (.ifCond .eq 7, 3) := by decide +kernel
theorem dX6_endSteps_24 : decode cX6_endSteps 24 = .ok (.iconst 1, 1) := by decide +kernel
theorem dX6_endSteps_25 : decode cX6_endSteps 25 = .ok (.goto 4, 3) := by decide +kernel
theorem dX6_endSteps_28 : decode cX6_endSteps 28 = .ok (.iconst 0, 1) := by decide +kernel
theorem dX6_endSteps_29 : decode cX6_endSteps 29 = .ok (.ireturn, 1) := by decide +kernel
theorem dX6_opHere_0 : decode cX6_opHere 0 = .ok (.aload_n 0, 1) := by decide +kernel
theorem dX6_opHere_1 : decode cX6_opHere 1 = .ok (.getfield 47, 3) := by decide +kernel
theorem dX6_opHere_4 : decode cX6_opHere 4 = .ok (.iconst 3, 1) := by decide +kernel
theorem dX6_opHere_5 : decode cX6_opHere 5 = .ok (.if_icmp .ne 6, 3) := by decide +kernel
theorem dX6_opHere_8 : decode cX6_opHere 8 = .ok (.bipush 110, 2) := by decide +kernel
theorem dX6_opHere_10 : decode cX6_opHere 10 = .ok (.ireturn, 1) := by decide +kernel
theorem dX6_opHere_11 : decode cX6_opHere 11 = .ok (.aload_n 0, 1) := by decide +kernel
theorem dX6_opHere_12 : decode cX6_opHere 12 = .ok (.getfield 47, 3) := by decide +kernel
theorem dX6_opHere_15 : decode cX6_opHere 15 = .ok (.iconst 2, 1) := by decide +kernel
theorem dX6_opHere_16 : decode cX6_opHere 16 = .ok (.if_icmp .ne 46, 3) := by decide +kernel
theorem dX6_opHere_19 : decode cX6_opHere 19 = .ok (.aload_n 0, 1) := by decide +kernel
theorem dX6_opHere_20 : decode cX6_opHere 20 = .ok (.getfield 54, 3) := by decide +kernel
theorem dX6_opHere_23 : decode cX6_opHere 23 = .ok (.ldc2_w 189, 3) := by decide +kernel
theorem dX6_opHere_26 : decode cX6_opHere 26 = .ok (.lcmp, 1) := by decide +kernel
theorem dX6_opHere_27 : decode cX6_opHere 27 = .ok (.ifCond .eq 25, 3) := by decide +kernel
theorem dX6_opHere_30 : decode cX6_opHere 30 = .ok (.aload_n 0, 1) := by decide +kernel
theorem dX6_opHere_31 : decode cX6_opHere 31 = .ok (.getfield 54, 3) := by decide +kernel
theorem dX6_opHere_34 : decode cX6_opHere 34 = .ok (.ldc2_w 191, 3) := by decide +kernel
theorem dX6_opHere_37 : decode cX6_opHere 37 = .ok (.lcmp, 1) := by decide +kernel
theorem dX6_opHere_38 : decode cX6_opHere 38 = .ok (.ifCond .eq 14, 3) := by decide +kernel
theorem dX6_opHere_41 : decode cX6_opHere 41 = .ok (.aload_n 0, 1) := by decide +kernel
theorem dX6_opHere_42 : decode cX6_opHere 42 = .ok (.getfield 54, 3) := by decide +kernel
theorem dX6_opHere_45 : decode cX6_opHere 45 = .ok (.ldc2_w 193, 3) := by decide +kernel
theorem dX6_opHere_48 : decode cX6_opHere 48 = .ok (.lcmp, 1) := by decide +kernel
theorem dX6_opHere_49 : decode cX6_opHere 49 = .ok (.ifCond .ne 11, 3) := by decide +kernel
theorem dX6_opHere_52 : decode cX6_opHere 52 = .ok (.aload_n 0, 1) := by decide +kernel
theorem dX6_opHere_53 : decode cX6_opHere 53 = .ok (.getfield 54, 3) := by decide +kernel
theorem dX6_opHere_56 : decode cX6_opHere 56 = .ok (.l2i, 1) := by decide +kernel
theorem dX6_opHere_57 : decode cX6_opHere 57 = .ok (.goto 4, 3) := by decide +kernel
theorem dX6_opHere_60 : decode cX6_opHere 60 = .ok (.iconst 0, 1) := by decide +kernel
theorem dX6_opHere_61 : decode cX6_opHere 61 = .ok (.ireturn, 1) := by decide +kernel
theorem dX6_opHere_62 : decode cX6_opHere 62 = .ok (.aload_n 0, 1) := by decide +kernel
theorem dX6_opHere_63 : decode cX6_opHere 63 = .ok (.getfield 47, 3) := by decide +kernel
theorem dX6_opHere_66 : decode cX6_opHere 66 = .ok (.bipush 61, 2) := by decide +kernel
theorem dX6_opHere_68 : decode cX6_opHere 68 = .ok (.if_icmp .ne 8, 3) := by decide +kernel
theorem dX6_opHere_71 : decode cX6_opHere 71 = .ok (.aload_n 0, 1) := by decide +kernel
theorem dX6_opHere_72 : decode cX6_opHere 72 = .ok (.getfield 47, 3) := by decide +kernel
theorem dX6_opHere_75 : decode cX6_opHere 75 = .ok (.ireturn, 1) := by decide +kernel
theorem dX6_opHere_76 : decode cX6_opHere 76 = .ok (.aload_n 0, 1) := by decide +kernel
theorem dX6_opHere_77 : decode cX6_opHere 77 = .ok (.getfield 47, 3) := by decide +kernel
theorem dX6_opHere_80 : decode cX6_opHere 80 = .ok (.iconst 5, 1) := by decide +kernel
theorem dX6_opHere_81 : decode cX6_opHere 81 = .ok (.if_icmp .le 23, 3) := by decide +kernel
theorem dX6_opHere_84 : decode cX6_opHere 84 = .ok (.ldc 195, 2) := by decide +kernel
theorem dX6_opHere_86 : decode cX6_opHere 86 = .ok (.aload_n 0, 1) := by decide +kernel
theorem dX6_opHere_87 : decode cX6_opHere 87 = .ok (.getfield 47, 3) := by decide +kernel
theorem dX6_opHere_90 : decode cX6_opHere 90 = .ok (.i2c, 1) := by decide +kernel
theorem dX6_opHere_91 : decode cX6_opHere 91 = .ok (.invokevirtual 197, 3) := by decide +kernel
theorem dX6_opHere_94 : decode cX6_opHere 94 = .ok (.ifCond .lt 10, 3) := by decide +kernel
theorem dX6_opHere_97 : decode cX6_opHere 97 = .ok (.aload_n 0, 1) := by decide +kernel
theorem dX6_opHere_98 : decode cX6_opHere 98 = .ok (.getfield 47, 3) := by decide +kernel
theorem dX6_opHere_101 : decode cX6_opHere 101 = .ok (.goto 4, 3) := by decide +kernel
theorem dX6_opHere_104 : decode cX6_opHere 104 = .ok (.iconst 0, 1) := by decide +kernel
theorem dX6_opHere_105 : decode cX6_opHere 105 = .ok (.ireturn, 1) := by decide +kernel
theorem dX6_depthBehind_0 : decode cX6_depthBehind 0 = .ok (.iload_n 0, 1) := by decide +kernel
theorem dX6_depthBehind_1 : decode cX6_depthBehind 1 = .ok (.bipush 118, 2) := by decide +kernel
theorem dX6_depthBehind_3 : decode cX6_depthBehind 3 = .ok (.if_icmp .eq 15, 3) := by decide +kernel
theorem dX6_depthBehind_6 : decode cX6_depthBehind 6 = .ok (.iload_n 0, 1) := by decide +kernel
theorem dX6_depthBehind_7 : decode cX6_depthBehind 7 = .ok (.bipush 97, 2) := by decide +kernel
theorem dX6_depthBehind_9 : decode cX6_depthBehind 9 = .ok (.if_icmp .eq 9, 3) := by decide +kernel
theorem dX6_depthBehind_12 : decode cX6_depthBehind 12 = .ok (.iload_n 0, 1) := by decide +kernel
theorem dX6_depthBehind_13 : decode cX6_depthBehind 13 = .ok (.bipush 98, 2) := by decide +kernel
theorem dX6_depthBehind_15 : decode cX6_depthBehind 15 = .ok (.if_icmp .ne 7, 3) := by decide +kernel
theorem dX6_depthBehind_18 : decode cX6_depthBehind 18 = .ok (.iconst 1, 1) := by decide +kernel
theorem dX6_depthBehind_19 : decode cX6_depthBehind 19 = .ok (.goto 4, 3) := by decide +kernel
theorem dX6_depthBehind_22 : decode cX6_depthBehind 22 = .ok (.iconst 0, 1) := by decide +kernel
theorem dX6_depthBehind_23 : decode cX6_depthBehind 23 = .ok (.istore_n 3, 1) := by decide +kernel
theorem dX6_depthBehind_24 : decode cX6_depthBehind 24 = .ok (.iload_n 3, 1) := by decide +kernel
theorem dX6_depthBehind_25 : decode cX6_depthBehind 25 = .ok (.ifCond .ne 9, 3) := by decide +kernel
theorem dX6_depthBehind_28 : decode cX6_depthBehind 28 = .ok (.iload_n 0, 1) := by decide +kernel
theorem dX6_depthBehind_29 : decode cX6_depthBehind 29 = .ok (.bipush 110, 2) := by decide +kernel
theorem dX6_depthBehind_31 : decode cX6_depthBehind 31 = .ok (.if_icmp .ne 25, 3) := by decide +kernel
theorem dX6_depthBehind_34 : decode cX6_depthBehind 34 = .ok (.iload_n 3, 1) := by decide +kernel
theorem dX6_depthBehind_35 : decode cX6_depthBehind 35 = .ok (.ifCond .eq 7, 3) := by decide +kernel
theorem dX6_depthBehind_38 : decode cX6_depthBehind 38 = .ok (.iload_n 2, 1) := by decide +kernel
theorem dX6_depthBehind_39 : decode cX6_depthBehind 39 = .ok (.ifCond .ne 9, 3) := by decide +kernel
theorem dX6_depthBehind_42 : decode cX6_depthBehind 42 = .ok (.iload_n 1, 1) := by decide +kernel
theorem dX6_depthBehind_43 : decode cX6_depthBehind 43 = .ok (.bipush 16, 2) := by decide +kernel
theorem dX6_depthBehind_45 : decode cX6_depthBehind 45 = .ok (.if_icmp .lt 7, 3) := by decide +kernel
theorem dX6_depthBehind_48 : decode cX6_depthBehind 48 = .ok (.iconst (-1), 1) := by decide +kernel
theorem dX6_depthBehind_49 : decode cX6_depthBehind 49 = .ok (.goto 6, 3) := by decide +kernel
theorem dX6_depthBehind_52 : decode cX6_depthBehind 52 = .ok (.iload_n 1, 1) := by decide +kernel
theorem dX6_depthBehind_53 : decode cX6_depthBehind 53 = .ok (.iconst 1, 1) := by decide +kernel
theorem dX6_depthBehind_54 : decode cX6_depthBehind 54 = .ok (.iadd, 1) := by decide +kernel
theorem dX6_depthBehind_55 : decode cX6_depthBehind 55 = .ok (.ireturn, 1) := by decide +kernel
theorem dX6_depthBehind_56 : decode cX6_depthBehind 56 = .ok (.iload_n 0, 1) := by decide +kernel
theorem dX6_depthBehind_57 : decode cX6_depthBehind 57 = .ok (.bipush 126, 2) := by decide +kernel
theorem dX6_depthBehind_59 : decode cX6_depthBehind 59 = .ok (.if_icmp .ne 14, 3) := by decide +kernel
theorem dX6_depthBehind_62 : decode cX6_depthBehind 62 = .ok (.iload_n 1, 1) := by decide +kernel
theorem dX6_depthBehind_63 : decode cX6_depthBehind 63 = .ok (.iconst 1, 1) := by decide +kernel
theorem dX6_depthBehind_64 : decode cX6_depthBehind 64 = .ok (.if_icmp .ge 7, 3) := by decide +kernel
theorem dX6_depthBehind_67 : decode cX6_depthBehind 67 = .ok (.iconst (-1), 1) := by decide +kernel
theorem dX6_depthBehind_68 : decode cX6_depthBehind 68 = .ok (.goto 4, 3) := by decide +kernel
theorem dX6_depthBehind_71 : decode cX6_depthBehind 71 = .ok (.iload_n 1, 1) := by decide +kernel
theorem dX6_depthBehind_72 : decode cX6_depthBehind 72 = .ok (.ireturn, 1) := by decide +kernel
theorem dX6_depthBehind_73 : decode cX6_depthBehind 73 = .ok (.iload_n 1, 1) := by decide +kernel
theorem dX6_depthBehind_74 : decode cX6_depthBehind 74 = .ok (.iconst 2, 1) := by decide +kernel
theorem dX6_depthBehind_75 : decode cX6_depthBehind 75 = .ok (.if_icmp .ge 7, 3) := by decide +kernel
theorem dX6_depthBehind_78 : decode cX6_depthBehind 78 = .ok (.iconst (-1), 1) := by decide +kernel
theorem dX6_depthBehind_79 : decode cX6_depthBehind 79 = .ok (.goto 6, 3) := by decide +kernel
theorem dX6_depthBehind_82 : decode cX6_depthBehind 82 = .ok (.iload_n 1, 1) := by decide +kernel
theorem dX6_depthBehind_83 : decode cX6_depthBehind 83 = .ok (.iconst 1, 1) := by decide +kernel
theorem dX6_depthBehind_84 : decode cX6_depthBehind 84 = .ok (.isub, 1) := by decide +kernel
theorem dX6_depthBehind_85 : decode cX6_depthBehind 85 = .ok (.ireturn, 1) := by decide +kernel
theorem dX6_readMark_0 : decode cX6_readMark 0 = .ok (.aload_n 0, 1) := by decide +kernel
theorem dX6_readMark_1 : decode cX6_readMark 1 = .ok (.iconst 4, 1) := by decide +kernel
theorem dX6_readMark_2 : decode cX6_readMark 2 = .ok (.aload_n 0, 1) := by decide +kernel
theorem dX6_readMark_3 : decode cX6_readMark 3 = .ok (.getfield 22, 3) := by decide +kernel
theorem dX6_readMark_6 : decode cX6_readMark 6 = .ok (.getfield 202, 3) := by decide +kernel
theorem dX6_readMark_9 : decode cX6_readMark 9 = .ok (.invokevirtual 135, 3) := by decide +kernel
theorem dX6_readMark_12 : decode cX6_readMark 12 = .ok (.bipush 16, 2) := by decide +kernel
theorem dX6_readMark_14 : decode cX6_readMark 14 = .ok (.invokevirtual 111, 3) := by decide +kernel
theorem dX6_readMark_17 : decode cX6_readMark 17 = .ok (.ifCond .eq 12, 3) := by decide +kernel
theorem dX6_readMark_20 : decode cX6_readMark 20 = .ok (.aload_n 0, 1) := by decide +kernel
theorem dX6_readMark_21 : decode cX6_readMark 21 = .ok (.bipush 61, 2) := by decide +kernel
theorem dX6_readMark_23 : decode cX6_readMark 23 = .ok (.invokevirtual 122, 3) := by decide +kernel
theorem dX6_readMark_26 : decode cX6_readMark 26 = .ok (.ifCond .ne 5, 3) := by decide +kernel
theorem dX6_readMark_29 : decode cX6_readMark 29 = .ok (.iconst 0, 1) := by decide +kernel
theorem dX6_readMark_30 : decode cX6_readMark 30 = .ok (.ireturn, 1) := by decide +kernel
theorem dX6_readMark_31 : decode cX6_readMark 31 = .ok (.new 205, 3) := by decide +kernel
theorem dX6_readMark_34 : decode cX6_readMark 34 = .ok (.dup, 1) := by decide +kernel
theorem dX6_readMark_35 : decode cX6_readMark 35 = .ok (.lconst 0, 1) := by decide +kernel
theorem dX6_readMark_36 : decode cX6_readMark 36 = .ok (.bipush 6, 2) := by decide +kernel
theorem dX6_readMark_38 : decode cX6_readMark 38 = .ok (.invokespecial 207, 3) := by decide +kernel
theorem dX6_readMark_41 : decode cX6_readMark 41 = .ok (.astore_n 1, 1) := by decide +kernel
theorem dX6_readMark_42 : decode cX6_readMark 42 = .ok (.aload_n 0, 1) := by decide +kernel
theorem dX6_readMark_43 : decode cX6_readMark 43 = .ok (.getfield 22, 3) := by decide +kernel
theorem dX6_readMark_46 : decode cX6_readMark 46 = .ok (.getfield 202, 3) := by decide +kernel
theorem dX6_readMark_49 : decode cX6_readMark 49 = .ok (.aload_n 1, 1) := by decide +kernel
theorem dX6_readMark_50 : decode cX6_readMark 50 = .ok (.invokevirtual 146, 3) := by decide +kernel
theorem dX6_readMark_53 : decode cX6_readMark 53 = .ok (.pop, 1) := by decide +kernel
theorem dX6_readMark_54 : decode cX6_readMark 54 = .ok (.aload_n 0, 1) := by decide +kernel
theorem dX6_readMark_55 : decode cX6_readMark 55 = .ok (.aload_n 1, 1) := by decide +kernel
theorem dX6_readMark_56 : decode cX6_readMark 56 = .ok (.invokevirtual 209, 3) := by decide +kernel
theorem dX6_readMark_59 : decode cX6_readMark 59 = .ok (.ifCond .eq 16, 3) := by decide +kernel
theorem dX6_readMark_62 : decode cX6_readMark 62 = .ok (.aload_n 0, 1) := by decide +kernel
theorem dX6_readMark_63 : decode cX6_readMark 63 = .ok (.bipush 59, 2) := by decide +kernel
theorem dX6_readMark_65 : decode cX6_readMark 65 = .ok (.invokevirtual 122, 3) := by decide +kernel
theorem dX6_readMark_68 : decode cX6_readMark 68 = .ok (.ifCond .eq 7, 3) := by decide +kernel
theorem dX6_readMark_71 : decode cX6_readMark 71 = .ok (.iconst 1, 1) := by decide +kernel
theorem dX6_readMark_72 : decode cX6_readMark 72 = .ok (.goto 4, 3) := by decide +kernel
theorem dX6_readMark_75 : decode cX6_readMark 75 = .ok (.iconst 0, 1) := by decide +kernel
theorem dX6_readMark_76 : decode cX6_readMark 76 = .ok (.ireturn, 1) := by decide +kernel
theorem dX8_init_0 : decode cX8_init 0 = .ok (.aload_n 0, 1) := by decide +kernel
theorem dX8_init_1 : decode cX8_init 1 = .ok (.invokespecial 3, 3) := by decide +kernel
theorem dX8_init_4 : decode cX8_init 4 = .ok (.aload_n 0, 1) := by decide +kernel
theorem dX8_init_5 : decode cX8_init 5 = .ok (.lload_n 1, 1) := by decide +kernel
theorem dX8_init_6 : decode cX8_init 6 = .ok (.putfield 9, 3) := by decide +kernel
theorem dX8_init_9 : decode cX8_init 9 = .ok (.aload_n 0, 1) := by decide +kernel
theorem dX8_init_10 : decode cX8_init 10 = .ok (.iload_n 3, 1) := by decide +kernel
theorem dX8_init_11 : decode cX8_init 11 = .ok (.putfield 15, 3) := by decide +kernel
theorem dX8_init_14 : decode cX8_init 14 = .ok (.aload_n 0, 1) := by decide +kernel
theorem dX8_init_15 : decode cX8_init 15 = .ok (.iconst (-1), 1) := by decide +kernel
theorem dX8_init_16 : decode cX8_init 16 = .ok (.putfield 19, 3) := by decide +kernel
theorem dX8_init_19 : decode cX8_init 19 = .ok (.aload_n 0, 1) := by decide +kernel
theorem dX8_init_20 : decode cX8_init 20 = .ok (.new 22, 3) := by decide +kernel
theorem dX8_init_23 : decode cX8_init 23 = .ok (.dup, 1) := by decide +kernel
theorem dX8_init_24 : decode cX8_init 24 = .ok (.invokespecial 24, 3) := by decide +kernel
theorem dX8_init_27 : decode cX8_init 27 = .ok (.putfield 25, 3) := by decide +kernel
theorem dX8_init_30 : decode cX8_init 30 = .ok (.aload_n 0, 1) := by decide +kernel
theorem dX8_init_31 : decode cX8_init 31 = .ok (.new 22, 3) := by decide +kernel
theorem dX8_init_34 : decode cX8_init 34 = .ok (.dup, 1) := by decide +kernel
theorem dX8_init_35 : decode cX8_init 35 = .ok (.invokespecial 24, 3) := by decide +kernel
theorem dX8_init_38 : decode cX8_init 38 = .ok (.putfield 29, 3) := by decide +kernel
theorem dX8_init_41 : decode cX8_init 41 = .ok (.return_, 1) := by decide +kernel
theorem dX6_readUses_0 : decode cX6_readUses 0 = .ok (.iconst 0, 1) := by decide +kernel
theorem dX6_readUses_1 : decode cX6_readUses 1 = .ok (.istore_n 2, 1) := by decide +kernel
theorem dX6_readUses_2 : decode cX6_readUses 2 = .ok (.iload_n 2, 1) := by decide +kernel
theorem dX6_readUses_3 : decode cX6_readUses 3 = .ok (.bipush 8, 2) := by decide +kernel
theorem dX6_readUses_5 : decode cX6_readUses 5 = .ok (.if_icmp .gt 60, 3) := by decide +kernel
theorem dX6_readUses_8 : decode cX6_readUses 8 = .ok (.aload_n 0, 1) := by decide +kernel
theorem dX6_readUses_9 : decode cX6_readUses 9 = .ok (.getfield 47, 3) := by decide +kernel
theorem dX6_readUses_12 : decode cX6_readUses 12 = .ok (.iconst 2, 1) := by decide +kernel
theorem dX6_readUses_13 : decode cX6_readUses 13 = .ok (.if_icmp .ne 15, 3) := by decide +kernel
theorem dX6_readUses_16 : decode cX6_readUses 16 = .ok (.aload_n 1, 1) := by decide +kernel
theorem dX6_readUses_17 : decode cX6_readUses 17 = .ok (.getfield 251, 3) := by decide +kernel
theorem dX6_readUses_20 : decode cX6_readUses 20 = .ok (.invokevirtual 135, 3) := by decide +kernel
theorem dX6_readUses_23 : decode cX6_readUses 23 = .ok (.bipush 8, 2) := by decide +kernel
theorem dX6_readUses_25 : decode cX6_readUses 25 = .ok (.if_icmp .lt 9, 3) := by decide +kernel
theorem dX6_readUses_28 : decode cX6_readUses 28 = .ok (.aload_n 0, 1) := by decide +kernel
theorem dX6_readUses_29 : decode cX6_readUses 29 = .ok (.iconst 2, 1) := by decide +kernel
theorem dX6_readUses_30 : decode cX6_readUses 30 = .ok (.invokevirtual 84, 3) := by decide +kernel
theorem dX6_readUses_33 : decode cX6_readUses 33 = .ok (.ireturn, 1) := by decide +kernel
theorem dX6_readUses_34 : decode cX6_readUses 34 = .ok (.aload_n 0, 1) := by decide +kernel
theorem dX6_readUses_35 : decode cX6_readUses 35 = .ok (.aload_n 1, 1) := by decide +kernel
theorem dX6_readUses_36 : decode cX6_readUses 36 = .ok (.invokevirtual 254, 3) := by decide +kernel
theorem dX6_readUses_39 : decode cX6_readUses 39 = .ok (.ifCond .ne 5, 3) := by decide +kernel
theorem dX6_readUses_42 : decode cX6_readUses 42 = .ok (.iconst 0, 1) := by decide +kernel
theorem dX6_readUses_43 : decode cX6_readUses 43 = .ok (.ireturn, 1) := by decide +kernel
theorem dX6_readUses_44 : decode cX6_readUses 44 = .ok (.aload_n 0, 1) := by decide +kernel
theorem dX6_readUses_45 : decode cX6_readUses 45 = .ok (.getfield 47, 3) := by decide +kernel
theorem dX6_readUses_48 : decode cX6_readUses 48 = .ok (.bipush 44, 2) := by decide +kernel
theorem dX6_readUses_50 : decode cX6_readUses 50 = .ok (.if_icmp .eq 5, 3) := by decide +kernel
theorem dX6_readUses_53 : decode cX6_readUses 53 = .ok (.iconst 1, 1) := by decide +kernel
theorem dX6_readUses_54 : decode cX6_readUses 54 = .ok (.ireturn, 1) := by decide +kernel
theorem dX6_readUses_55 : decode cX6_readUses 55 = .ok (.aload_n 0, 1) := by decide +kernel
theorem dX6_readUses_56 : decode cX6_readUses 56 = .ok (.invokevirtual 87, 3) := by decide +kernel
theorem dX6_readUses_59 : decode cX6_readUses 59 = .ok (.iinc 2 1, 3) := by decide +kernel
theorem dX6_readUses_62 : decode cX6_readUses 62 = .ok (.goto (-60), 3) := by decide +kernel
theorem dX6_readUses_65 : decode cX6_readUses 65 = .ok (.iconst 0, 1) := by decide +kernel
theorem dX6_readUses_66 : decode cX6_readUses 66 = .ok (.ireturn, 1) := by decide +kernel
theorem dX6_readUse_0 : decode cX6_readUse 0 = .ok (.aload_n 0, 1) := by decide +kernel
theorem dX6_readUse_1 : decode cX6_readUse 1 = .ok (.invokevirtual 257, 3) := by decide +kernel
theorem dX6_readUse_4 : decode cX6_readUse 4 = .ok (.istore_n 2, 1) := by decide +kernel
theorem dX6_readUse_5 : decode cX6_readUse 5 = .ok (.iload_n 2, 1) := by decide +kernel
theorem dX6_readUse_6 : decode cX6_readUse 6 = .ok (.iconst (-1), 1) := by decide +kernel
theorem dX6_readUse_7 : decode cX6_readUse 7 = .ok (.if_icmp .ne 5, 3) := by decide +kernel
theorem dX6_readUse_10 : decode cX6_readUse 10 = .ok (.iconst 0, 1) := by decide +kernel
theorem dX6_readUse_11 : decode cX6_readUse 11 = .ok (.ireturn, 1) := by decide +kernel
theorem dX6_readUse_12 : decode cX6_readUse 12 = .ok (.new 260, 3) := by decide +kernel
theorem dX6_readUse_15 : decode cX6_readUse 15 = .ok (.dup, 1) := by decide +kernel
theorem dX6_readUse_16 : decode cX6_readUse 16 = .ok (.iload_n 2, 1) := by decide +kernel
theorem dX6_readUse_17 : decode cX6_readUse 17 = .ok (.invokespecial 262, 3) := by decide +kernel
theorem dX6_readUse_20 : decode cX6_readUse 20 = .ok (.astore_n 3, 1) := by decide +kernel
theorem dX6_readUse_21 : decode cX6_readUse 21 = .ok (.aload_n 1, 1) := by decide +kernel
theorem dX6_readUse_22 : decode cX6_readUse 22 = .ok (.getfield 251, 3) := by decide +kernel
theorem dX6_readUse_25 : decode cX6_readUse 25 = .ok (.aload_n 3, 1) := by decide +kernel
theorem dX6_readUse_26 : decode cX6_readUse 26 = .ok (.invokevirtual 146, 3) := by decide +kernel
theorem dX6_readUse_29 : decode cX6_readUse 29 = .ok (.pop, 1) := by decide +kernel
theorem dX6_readUse_30 : decode cX6_readUse 30 = .ok (.aload_n 0, 1) := by decide +kernel
theorem dX6_readUse_31 : decode cX6_readUse 31 = .ok (.invokevirtual 87, 3) := by decide +kernel
theorem dX6_readUse_34 : decode cX6_readUse 34 = .ok (.aload_n 0, 1) := by decide +kernel
theorem dX6_readUse_35 : decode cX6_readUse 35 = .ok (.getfield 47, 3) := by decide +kernel
theorem dX6_readUse_38 : decode cX6_readUse 38 = .ok (.bipush 40, 2) := by decide +kernel
theorem dX6_readUse_40 : decode cX6_readUse 40 = .ok (.if_icmp .ne 13, 3) := by decide +kernel
theorem dX6_readUse_43 : decode cX6_readUse 43 = .ok (.aload_n 0, 1) := by decide +kernel
theorem dX6_readUse_44 : decode cX6_readUse 44 = .ok (.aload_n 3, 1) := by decide +kernel
theorem dX6_readUse_45 : decode cX6_readUse 45 = .ok (.invokevirtual 263, 3) := by decide +kernel
theorem dX6_readUse_48 : decode cX6_readUse 48 = .ok (.ifCond .ne 5, 3) := by decide +kernel
theorem dX6_readUse_51 : decode cX6_readUse 51 = .ok (.iconst 0, 1) := by decide +kernel
theorem dX6_readUse_52 : decode cX6_readUse 52 = .ok (.ireturn, 1) := by decide +kernel
theorem dX6_readUse_53 : decode cX6_readUse 53 = .ok (.aload_n 0, 1) := by decide +kernel
theorem dX6_readUse_54 : decode cX6_readUse 54 = .ok (.getfield 47, 3) := by decide +kernel
theorem dX6_readUse_57 : decode cX6_readUse 57 = .ok (.bipush 33, 2) := by decide +kernel
theorem dX6_readUse_59 : decode cX6_readUse 59 = .ok (.if_icmp .eq 12, 3) := by decide +kernel
theorem dX6_readUse_62 : decode cX6_readUse 62 = .ok (.aload_n 0, 1) := by decide +kernel
theorem dX6_readUse_63 : decode cX6_readUse 63 = .ok (.getfield 47, 3) := by decide +kernel
theorem dX6_readUse_66 : decode cX6_readUse 66 = .ok (.bipush 63, 2) := by decide +kernel
theorem dX6_readUse_68 : decode cX6_readUse 68 = .ok (.if_icmp .ne 25, 3) := by decide +kernel
theorem dX6_readUse_71 : decode cX6_readUse 71 = .ok (.aload_n 3, 1) := by decide +kernel
theorem dX6_readUse_72 : decode cX6_readUse 72 = .ok (.aload_n 0, 1) := by decide +kernel
theorem dX6_readUse_73 : decode cX6_readUse 73 = .ok (.getfield 47, 3) := by decide +kernel
theorem dX6_readUse_76 : decode cX6_readUse 76 = .ok (.bipush 33, 2) := by decide +kernel
theorem dX6_readUse_78 : decode cX6_readUse 78 = .ok (.if_icmp .ne 7, 3) := by decide +kernel
theorem dX6_readUse_81 : decode cX6_readUse 81 = .ok (.iconst 0, 1) := by decide +kernel
theorem dX6_readUse_82 : decode cX6_readUse 82 = .ok (.goto 4, 3) := by decide +kernel
theorem dX6_readUse_85 : decode cX6_readUse 85 = .ok (.iconst 1, 1) := by decide +kernel
theorem dX6_readUse_86 : decode cX6_readUse 86 = .ok (.putfield 267, 3) := by decide +kernel
theorem dX6_readUse_89 : decode cX6_readUse 89 = .ok (.aload_n 0, 1) := by decide +kernel
theorem dX6_readUse_90 : decode cX6_readUse 90 = .ok (.invokevirtual 87, 3) := by decide +kernel
theorem dX6_readUse_93 : decode cX6_readUse 93 = .ok (.aload_n 0, 1) := by decide +kernel
theorem dX6_readUse_94 : decode cX6_readUse 94 = .ok (.getfield 47, 3) := by decide +kernel
theorem dX6_readUse_97 : decode cX6_readUse 97 = .ok (.bipush 64, 2) := by decide +kernel
theorem dX6_readUse_99 : decode cX6_readUse 99 = .ok (.if_icmp .ne 44, 3) := by decide +kernel
theorem dX6_readUse_102 : decode cX6_readUse 102 = .ok (.aload_n 0, 1) := by decide +kernel
theorem dX6_readUse_103 : decode cX6_readUse 103 = .ok (.invokevirtual 87, 3) := by decide +kernel
theorem dX6_readUse_106 : decode cX6_readUse 106 = .ok (.aload_n 0, 1) := by decide +kernel
theorem dX6_readUse_107 : decode cX6_readUse 107 = .ok (.getfield 47, 3) := by decide +kernel
theorem dX6_readUse_110 : decode cX6_readUse 110 = .ok (.iconst 2, 1) := by decide +kernel
theorem dX6_readUse_111 : decode cX6_readUse 111 = .ok (.if_icmp .eq 9, 3) := by decide +kernel
theorem dX6_readUse_114 : decode cX6_readUse 114 = .ok (.aload_n 0, 1) := by decide +kernel
theorem dX6_readUse_115 : decode cX6_readUse 115 = .ok (.iconst 2, 1) := by decide +kernel
theorem dX6_readUse_116 : decode cX6_readUse 116 = .ok (.invokevirtual 84, 3) := by decide +kernel
theorem dX6_readUse_119 : decode cX6_readUse 119 = .ok (.ireturn, 1) := by decide +kernel
theorem dX6_readUse_120 : decode cX6_readUse 120 = .ok (.aload_n 3, 1) := by decide +kernel
theorem dX6_readUse_121 : decode cX6_readUse 121 = .ok (.aload_n 0, 1) := by decide +kernel
theorem dX6_readUse_122 : decode cX6_readUse 122 = .ok (.iconst 1, 1) := by decide +kernel
theorem dX6_readUse_123 : decode cX6_readUse 123 = .ok (.invokevirtual 104, 3) := by decide +kernel
theorem dX6_readUse_126 : decode cX6_readUse 126 = .ok (.putfield 270, 3) := by decide +kernel
theorem dX6_readUse_129 : decode cX6_readUse 129 = .ok (.aload_n 3, 1) := by decide +kernel
theorem dX6_readUse_130 : decode cX6_readUse 130 = .ok (.getfield 270, 3) := by decide +kernel
theorem dX6_readUse_133 : decode cX6_readUse 133 = .ok (.iconst (-1), 1) := by decide +kernel
theorem dX6_readUse_134 : decode cX6_readUse 134 = .ok (.if_icmp .ne 5, 3) := by decide +kernel
theorem dX6_readUse_137 : decode cX6_readUse 137 = .ok (.iconst 0, 1) := by decide +kernel
theorem dX6_readUse_138 : decode cX6_readUse 138 = .ok (.ireturn, 1) := by decide +kernel
theorem dX6_readUse_139 : decode cX6_readUse 139 = .ok (.aload_n 0, 1) := by decide +kernel
theorem dX6_readUse_140 : decode cX6_readUse 140 = .ok (.invokevirtual 87, 3) := by decide +kernel
theorem dX6_readUse_143 : decode cX6_readUse 143 = .ok (.aload_n 0, 1) := by decide +kernel
theorem dX6_readUse_144 : decode cX6_readUse 144 = .ok (.getfield 47, 3) := by decide +kernel
theorem dX6_readUse_147 : decode cX6_readUse 147 = .ok (.bipush 35, 2) := by decide +kernel
theorem dX6_readUse_149 : decode cX6_readUse 149 = .ok (.if_icmp .ne 39, 3) := by decide +kernel
theorem dX6_readUse_152 : decode cX6_readUse 152 = .ok (.aload_n 0, 1) := by decide +kernel
theorem dX6_readUse_153 : decode cX6_readUse 153 = .ok (.invokevirtual 87, 3) := by decide +kernel
theorem dX6_readUse_156 : decode cX6_readUse 156 = .ok (.aload_n 0, 1) := by decide +kernel
theorem dX6_readUse_157 : decode cX6_readUse 157 = .ok (.getfield 47, 3) := by decide +kernel
theorem dX6_readUse_160 : decode cX6_readUse 160 = .ok (.iconst 3, 1) := by decide +kernel
theorem dX6_readUse_161 : decode cX6_readUse 161 = .ok (.if_icmp .eq 9, 3) := by decide +kernel
theorem dX6_readUse_164 : decode cX6_readUse 164 = .ok (.aload_n 0, 1) := by decide +kernel
theorem dX6_readUse_165 : decode cX6_readUse 165 = .ok (.iconst 2, 1) := by decide +kernel
theorem dX6_readUse_166 : decode cX6_readUse 166 = .ok (.invokevirtual 84, 3) := by decide +kernel
theorem dX6_readUse_169 : decode cX6_readUse 169 = .ok (.ireturn, 1) := by decide +kernel
theorem dX6_readUse_170 : decode cX6_readUse 170 = .ok (.aload_n 3, 1) := by decide +kernel
theorem dX6_readUse_171 : decode cX6_readUse 171 = .ok (.iconst 1, 1) := by decide +kernel
theorem dX6_readUse_172 : decode cX6_readUse 172 = .ok (.putfield 273, 3) := by decide +kernel
theorem dX6_readUse_175 : decode cX6_readUse 175 = .ok (.aload_n 3, 1) := by decide +kernel
theorem dX6_readUse_176 : decode cX6_readUse 176 = .ok (.aload_n 0, 1) := by decide +kernel
theorem dX6_readUse_177 : decode cX6_readUse 177 = .ok (.getfield 54, 3) := by decide +kernel
theorem dX6_readUse_180 : decode cX6_readUse 180 = .ok (.l2i, 1) := by decide +kernel
theorem dX6_readUse_181 : decode cX6_readUse 181 = .ok (.putfield 277, 3) := by decide +kernel
theorem dX6_readUse_184 : decode cX6_readUse 184 = .ok (.aload_n 0, 1) := by decide +kernel
theorem dX6_readUse_185 : decode cX6_readUse 185 = .ok (.invokevirtual 87, 3) := by decide +kernel
theorem dX6_readUse_188 : decode cX6_readUse 188 = .ok (.aload_n 0, 1) := by decide +kernel
theorem dX6_readUse_189 : decode cX6_readUse 189 = .ok (.getfield 47, 3) := by decide +kernel
theorem dX6_readUse_192 : decode cX6_readUse 192 = .ok (.iconst 4, 1) := by decide +kernel
theorem dX6_readUse_193 : decode cX6_readUse 193 = .ok (.if_icmp .ne 34, 3) := by decide +kernel
theorem dX6_readUse_196 : decode cX6_readUse 196 = .ok (.aload_n 3, 1) := by decide +kernel
theorem dX6_readUse_197 : decode cX6_readUse 197 = .ok (.aload_n 0, 1) := by decide +kernel
theorem dX6_readUse_198 : decode cX6_readUse 198 = .ok (.getfield 9, 3) := by decide +kernel
theorem dX6_readUse_201 : decode cX6_readUse 201 = .ok (.getfield 61, 3) := by decide +kernel
theorem dX6_readUse_204 : decode cX6_readUse 204 = .ok (.aload_n 0, 1) := by decide +kernel
theorem dX6_readUse_205 : decode cX6_readUse 205 = .ok (.getfield 39, 3) := by decide +kernel
theorem dX6_readUse_208 : decode cX6_readUse 208 = .ok (.iaload, 1) := by decide +kernel
theorem dX6_readUse_209 : decode cX6_readUse 209 = .ok (.iconst 1, 1) := by decide +kernel
theorem dX6_readUse_210 : decode cX6_readUse 210 = .ok (.iadd, 1) := by decide +kernel
theorem dX6_readUse_211 : decode cX6_readUse 211 = .ok (.putfield 280, 3) := by decide +kernel
theorem dX6_readUse_214 : decode cX6_readUse 214 = .ok (.aload_n 3, 1) := by decide +kernel
theorem dX6_readUse_215 : decode cX6_readUse 215 = .ok (.aload_n 0, 1) := by decide +kernel
theorem dX6_readUse_216 : decode cX6_readUse 216 = .ok (.getfield 54, 3) := by decide +kernel
theorem dX6_readUse_219 : decode cX6_readUse 219 = .ok (.l2i, 1) := by decide +kernel
theorem dX6_readUse_220 : decode cX6_readUse 220 = .ok (.putfield 283, 3) := by decide +kernel
theorem dX6_readUse_223 : decode cX6_readUse 223 = .ok (.aload_n 0, 1) := by decide +kernel
theorem dX6_readUse_224 : decode cX6_readUse 224 = .ok (.invokevirtual 87, 3) := by decide +kernel
theorem dX6_readUse_227 : decode cX6_readUse 227 = .ok (.iconst 1, 1) := by decide +kernel
theorem dX6_readUse_228 : decode cX6_readUse 228 = .ok (.ireturn, 1) := by decide +kernel
theorem dX6_readUseName_0 : decode cX6_readUseName 0 = .ok (.aload_n 0, 1) := by decide +kernel
theorem dX6_readUseName_1 : decode cX6_readUseName 1 = .ok (.getfield 54, 3) := by decide +kernel
theorem dX6_readUseName_4 : decode cX6_readUseName 4 = .ok (.invokestatic 90, 3) := by decide +kernel
theorem dX6_readUseName_7 : decode cX6_readUseName 7 = .ok (.istore_n 1, 1) := by decide +kernel
theorem dX6_readUseName_8 : decode cX6_readUseName 8 = .ok (.iload_n 1, 1) := by decide +kernel
theorem dX6_readUseName_9 : decode cX6_readUseName 9 = .ok (.ifCond .ne 10, 3) := by decide +kernel
theorem dX6_readUseName_12 : decode cX6_readUseName 12 = .ok (.aload_n 0, 1) := by decide +kernel
theorem dX6_readUseName_13 : decode cX6_readUseName 13 = .ok (.getfield 15, 3) := by decide +kernel
theorem dX6_readUseName_16 : decode cX6_readUseName 16 = .ok (.ifnonnull 5, 3) := by decide +kernel
theorem dX6_readUseName_19 : decode cX6_readUseName 19 = .ok (.iload_n 1, 1) := by decide +kernel
theorem dX6_readUseName_20 : decode cX6_readUseName 20 = .ok (.ireturn, 1) := by decide +kernel
theorem dX6_readUseName_21 : decode cX6_readUseName 21 = .ok (.aload_n 0, 1) := by decide +kernel
theorem dX6_readUseName_22 : decode cX6_readUseName 22 = .ok (.getfield 15, 3) := by decide +kernel
theorem dX6_readUseName_25 : decode cX6_readUseName 25 = .ok (.aload_n 0, 1) := by decide +kernel
theorem dX6_readUseName_26 : decode cX6_readUseName 26 = .ok (.getfield 54, 3) := by decide +kernel
theorem dX6_readUseName_29 : decode cX6_readUseName 29 = .ok (.invokevirtual 94, 3) := by decide +kernel
theorem dX6_readUseName_32 : decode cX6_readUseName 32 = .ok (.istore_n 2, 1) := by decide +kernel
theorem dX6_readUseName_33 : decode cX6_readUseName 33 = .ok (.iload_n 2, 1) := by decide +kernel
theorem dX6_readUseName_34 : decode cX6_readUseName 34 = .ok (.iconst (-1), 1) := by decide +kernel
theorem dX6_readUseName_35 : decode cX6_readUseName 35 = .ok (.if_icmp .eq 19, 3) := by decide +kernel
theorem dX6_readUseName_38 : decode cX6_readUseName 38 = .ok (.iload_n 2, 1) := by decide +kernel
theorem dX6_readUseName_39 : decode cX6_readUseName 39 = .ok (.bipush 100, 2) := by decide +kernel
theorem dX6_readUseName_41 : decode cX6_readUseName 41 = .ok (.idiv, 1) := by decide +kernel
theorem dX6_readUseName_42 : decode cX6_readUseName 42 = .ok (.iconst 3, 1) := by decide +kernel
theorem dX6_readUseName_43 : decode cX6_readUseName 43 = .ok (.if_icmp .ne 11, 3) := by decide +kernel
theorem dX6_readUseName_46 : decode cX6_readUseName 46 = .ok (.bipush 100, 2) := by decide +kernel
theorem dX6_readUseName_48 : decode cX6_readUseName 48 = .ok (.iload_n 2, 1) := by decide +kernel
theorem dX6_readUseName_49 : decode cX6_readUseName 49 = .ok (.bipush 100, 2) := by decide +kernel
theorem dX6_readUseName_51 : decode cX6_readUseName 51 = .ok (.irem, 1) := by decide +kernel
theorem dX6_readUseName_52 : decode cX6_readUseName 52 = .ok (.iadd, 1) := by decide +kernel
theorem dX6_readUseName_53 : decode cX6_readUseName 53 = .ok (.ireturn, 1) := by decide +kernel
theorem dX6_readUseName_54 : decode cX6_readUseName 54 = .ok (.iload_n 2, 1) := by decide +kernel
theorem dX6_readUseName_55 : decode cX6_readUseName 55 = .ok (.iconst (-1), 1) := by decide +kernel
theorem dX6_readUseName_56 : decode cX6_readUseName 56 = .ok (.if_icmp .eq 20, 3) := by decide +kernel
theorem dX6_readUseName_59 : decode cX6_readUseName 59 = .ok (.iload_n 2, 1) := by decide +kernel
theorem dX6_readUseName_60 : decode cX6_readUseName 60 = .ok (.bipush 100, 2) := by decide +kernel
theorem dX6_readUseName_62 : decode cX6_readUseName 62 = .ok (.idiv, 1) := by decide +kernel
theorem dX6_readUseName_63 : decode cX6_readUseName 63 = .ok (.iconst 4, 1) := by decide +kernel
theorem dX6_readUseName_64 : decode cX6_readUseName 64 = .ok (.if_icmp .ne 12, 3) := by decide +kernel
theorem dX6_readUseName_67 : decode cX6_readUseName 67 = .ok (.sipush 200, 3) := by decide +kernel
theorem dX6_readUseName_70 : decode cX6_readUseName 70 = .ok (.iload_n 2, 1) := by decide +kernel
theorem dX6_readUseName_71 : decode cX6_readUseName 71 = .ok (.bipush 100, 2) := by decide +kernel
theorem dX6_readUseName_73 : decode cX6_readUseName 73 = .ok (.irem, 1) := by decide +kernel
theorem dX6_readUseName_74 : decode cX6_readUseName 74 = .ok (.iadd, 1) := by decide +kernel
theorem dX6_readUseName_75 : decode cX6_readUseName 75 = .ok (.ireturn, 1) := by decide +kernel
theorem dX6_readUseName_76 : decode cX6_readUseName 76 = .ok (.aload_n 0, 1) := by decide +kernel
theorem dX6_readUseName_77 : decode cX6_readUseName 77 = .ok (.iconst 5, 1) := by decide +kernel
theorem dX6_readUseName_78 : decode cX6_readUseName 78 = .ok (.invokevirtual 84, 3) := by decide +kernel
theorem dX6_readUseName_81 : decode cX6_readUseName 81 = .ok (.pop, 1) := by decide +kernel
theorem dX6_readUseName_82 : decode cX6_readUseName 82 = .ok (.iconst (-1), 1) := by decide +kernel
theorem dX6_readUseName_83 : decode cX6_readUseName 83 = .ok (.ireturn, 1) := by decide +kernel
theorem dX10_init_0 : decode cX10_init 0 = .ok (.aload_n 0, 1) := by decide +kernel
theorem dX10_init_1 : decode cX10_init 1 = .ok (.invokespecial 3, 3) := by decide +kernel
theorem dX10_init_4 : decode cX10_init 4 = .ok (.aload_n 0, 1) := by decide +kernel
theorem dX10_init_5 : decode cX10_init 5 = .ok (.iload_n 1, 1) := by decide +kernel
theorem dX10_init_6 : decode cX10_init 6 = .ok (.putfield 9, 3) := by decide +kernel
theorem dX10_init_9 : decode cX10_init 9 = .ok (.aload_n 0, 1) := by decide +kernel
theorem dX10_init_10 : decode cX10_init 10 = .ok (.iconst (-1), 1) := by decide +kernel
theorem dX10_init_11 : decode cX10_init 11 = .ok (.putfield 15, 3) := by decide +kernel
theorem dX10_init_14 : decode cX10_init 14 = .ok (.aload_n 0, 1) := by decide +kernel
theorem dX10_init_15 : decode cX10_init 15 = .ok (.iconst (-1), 1) := by decide +kernel
theorem dX10_init_16 : decode cX10_init 16 = .ok (.putfield 18, 3) := by decide +kernel
theorem dX10_init_19 : decode cX10_init 19 = .ok (.aload_n 0, 1) := by decide +kernel
theorem dX10_init_20 : decode cX10_init 20 = .ok (.iconst (-1), 1) := by decide +kernel
theorem dX10_init_21 : decode cX10_init 21 = .ok (.putfield 21, 3) := by decide +kernel
theorem dX10_init_24 : decode cX10_init 24 = .ok (.return_, 1) := by decide +kernel
theorem dX6_readArgs_0 : decode cX6_readArgs 0 = .ok (.aload_n 1, 1) := by decide +kernel
theorem dX6_readArgs_1 : decode cX6_readArgs 1 = .ok (.iconst 4, 1) := by decide +kernel
theorem dX6_readArgs_2 : decode cX6_readArgs 2 = .ok (.newarray .int, 2) := by decide +kernel
theorem dX6_readArgs_4 : decode cX6_readArgs 4 = .ok (.putfield 286, 3) := by decide +kernel
theorem dX6_readArgs_7 : decode cX6_readArgs 7 = .ok (.aload_n 1, 1) := by decide +kernel
theorem dX6_readArgs_8 : decode cX6_readArgs 8 = .ok (.iconst 4, 1) := by decide +kernel
theorem dX6_readArgs_9 : decode cX6_readArgs 9 = .ok (.newarray .long, 2) := by decide +kernel
theorem dX6_readArgs_11 : decode cX6_readArgs 11 = .ok (.putfield 289, 3) := by decide +kernel
theorem dX6_readArgs_14 : decode cX6_readArgs 14 = .ok (.iconst 0, 1) := by decide +kernel
theorem dX6_readArgs_15 : decode cX6_readArgs 15 = .ok (.istore_n 2, 1) := by decide +kernel
theorem dX6_readArgs_16 : decode cX6_readArgs 16 = .ok (.iload_n 2, 1) := by decide +kernel
theorem dX6_readArgs_17 : decode cX6_readArgs 17 = .ok (.iconst 4, 1) := by decide +kernel
theorem dX6_readArgs_18 : decode cX6_readArgs 18 = .ok (.if_icmp .gt 126, 3) := by decide +kernel
theorem dX6_readArgs_21 : decode cX6_readArgs 21 = .ok (.aload_n 0, 1) := by decide +kernel
theorem dX6_readArgs_22 : decode cX6_readArgs 22 = .ok (.invokevirtual 87, 3) := by decide +kernel
theorem dX6_readArgs_25 : decode cX6_readArgs 25 = .ok (.aload_n 0, 1) := by decide +kernel
theorem dX6_readArgs_26 : decode cX6_readArgs 26 = .ok (.getfield 47, 3) := by decide +kernel
theorem dX6_readArgs_29 : decode cX6_readArgs 29 = .ok (.iconst 3, 1) := by decide +kernel
theorem dX6_readArgs_30 : decode cX6_readArgs 30 = .ok (.if_icmp .eq 11, 3) := by decide +kernel
theorem dX6_readArgs_33 : decode cX6_readArgs 33 = .ok (.aload_n 0, 1) := by decide +kernel
theorem dX6_readArgs_34 : decode cX6_readArgs 34 = .ok (.getfield 47, 3) := by decide +kernel
theorem dX6_readArgs_37 : decode cX6_readArgs 37 = .ok (.iconst 2, 1) := by decide +kernel
theorem dX6_readArgs_38 : decode cX6_readArgs 38 = .ok (.if_icmp .ne 8, 3) := by decide +kernel
theorem dX6_readArgs_41 : decode cX6_readArgs 41 = .ok (.iload_n 2, 1) := by decide +kernel
theorem dX6_readArgs_42 : decode cX6_readArgs 42 = .ok (.iconst 4, 1) := by decide +kernel
theorem dX6_readArgs_43 : decode cX6_readArgs 43 = .ok (.if_icmp .lt 9, 3) := by decide +kernel
theorem dX6_readArgs_46 : decode cX6_readArgs 46 = .ok (.aload_n 0, 1) := by decide +kernel
theorem dX6_readArgs_47 : decode cX6_readArgs 47 = .ok (.iconst 2, 1) := by decide +kernel
theorem dX6_readArgs_48 : decode cX6_readArgs 48 = .ok (.invokevirtual 84, 3) := by decide +kernel
theorem dX6_readArgs_51 : decode cX6_readArgs 51 = .ok (.ireturn, 1) := by decide +kernel
theorem dX6_readArgs_52 : decode cX6_readArgs 52 = .ok (.aload_n 1, 1) := by decide +kernel
theorem dX6_readArgs_53 : decode cX6_readArgs 53 = .ok (.getfield 286, 3) := by decide +kernel
theorem dX6_readArgs_56 : decode cX6_readArgs 56 = .ok (.iload_n 2, 1) := by decide +kernel
theorem dX6_readArgs_57 : decode cX6_readArgs 57 = .ok (.aload_n 0, 1) := by decide +kernel
theorem dX6_readArgs_58 : decode cX6_readArgs 58 = .ok (.getfield 47, 3) := by decide +kernel
theorem dX6_readArgs_61 : decode cX6_readArgs 61 = .ok (.iconst 3, 1) := by decide +kernel
theorem dX6_readArgs_62 : decode cX6_readArgs 62 = .ok (.if_icmp .ne 11, 3) := by decide +kernel
theorem dX6_readArgs_65 : decode cX6_readArgs 65 = .ok (.aload_n 0, 1) := by decide +kernel
theorem dX6_readArgs_66 : decode cX6_readArgs 66 = .ok (.getfield 54, 3) := by decide +kernel
theorem dX6_readArgs_69 : decode cX6_readArgs 69 = .ok (.l2i, 1) := by decide +kernel
theorem dX6_readArgs_70 : decode cX6_readArgs 70 = .ok (.goto 4, 3) := by decide +kernel
theorem dX6_readArgs_73 : decode cX6_readArgs 73 = .ok (.iconst 0, 1) := by decide +kernel
theorem dX6_readArgs_74 : decode cX6_readArgs 74 = .ok (.iastore, 1) := by decide +kernel
theorem dX6_readArgs_75 : decode cX6_readArgs 75 = .ok (.aload_n 1, 1) := by decide +kernel
theorem dX6_readArgs_76 : decode cX6_readArgs 76 = .ok (.getfield 289, 3) := by decide +kernel
theorem dX6_readArgs_79 : decode cX6_readArgs 79 = .ok (.iload_n 2, 1) := by decide +kernel
theorem dX6_readArgs_80 : decode cX6_readArgs 80 = .ok (.aload_n 0, 1) := by decide +kernel
theorem dX6_readArgs_81 : decode cX6_readArgs 81 = .ok (.getfield 47, 3) := by decide +kernel
theorem dX6_readArgs_84 : decode cX6_readArgs 84 = .ok (.iconst 2, 1) := by decide +kernel
theorem dX6_readArgs_85 : decode cX6_readArgs 85 = .ok (.if_icmp .ne 10, 3) := by decide +kernel
theorem dX6_readArgs_88 : decode cX6_readArgs 88 = .ok (.aload_n 0, 1) := by decide +kernel
theorem dX6_readArgs_89 : decode cX6_readArgs 89 = .ok (.getfield 54, 3) := by decide +kernel
theorem dX6_readArgs_92 : decode cX6_readArgs 92 = .ok (.goto 4, 3) := by decide +kernel
theorem dX6_readArgs_95 : decode cX6_readArgs 95 = .ok (.lconst 0, 1) := by decide +kernel
theorem dX6_readArgs_96 : decode cX6_readArgs 96 = .ok (.lastore, 1) := by decide +kernel
theorem dX6_readArgs_97 : decode cX6_readArgs 97 = .ok (.aload_n 1, 1) := by decide +kernel
theorem dX6_readArgs_98 : decode cX6_readArgs 98 = .ok (.iload_n 2, 1) := by decide +kernel
theorem dX6_readArgs_99 : decode cX6_readArgs 99 = .ok (.iconst 1, 1) := by decide +kernel
theorem dX6_readArgs_100 : decode cX6_readArgs 100 = .ok (.iadd, 1) := by decide +kernel
theorem dX6_readArgs_101 : decode cX6_readArgs 101 = .ok (.putfield 292, 3) := by decide +kernel
theorem dX6_readArgs_104 : decode cX6_readArgs 104 = .ok (.aload_n 0, 1) := by decide +kernel
theorem dX6_readArgs_105 : decode cX6_readArgs 105 = .ok (.invokevirtual 87, 3) := by decide +kernel
theorem dX6_readArgs_108 : decode cX6_readArgs 108 = .ok (.aload_n 0, 1) := by decide +kernel
theorem dX6_readArgs_109 : decode cX6_readArgs 109 = .ok (.getfield 47, 3) := by decide +kernel
theorem dX6_readArgs_112 : decode cX6_readArgs 112 = .ok (.bipush 41, 2) := by decide +kernel
theorem dX6_readArgs_114 : decode cX6_readArgs 114 = .ok (.if_icmp .ne 9, 3) := by decide +kernel
theorem dX6_readArgs_117 : decode cX6_readArgs 117 = .ok (.aload_n 0, 1) := by decide +kernel
theorem dX6_readArgs_118 : decode cX6_readArgs 118 = .ok (.invokevirtual 87, 3) := by decide +kernel
theorem dX6_readArgs_121 : decode cX6_readArgs 121 = .ok (.iconst 1, 1) := by decide +kernel
theorem dX6_readArgs_122 : decode cX6_readArgs 122 = .ok (.ireturn, 1) := by decide +kernel
theorem dX6_readArgs_123 : decode cX6_readArgs 123 = .ok (.aload_n 0, 1) := by decide +kernel
theorem dX6_readArgs_124 : decode cX6_readArgs 124 = .ok (.getfield 47, 3) := by decide +kernel
theorem dX6_readArgs_127 : decode cX6_readArgs 127 = .ok (.bipush 44, 2) := by decide +kernel
theorem dX6_readArgs_129 : decode cX6_readArgs 129 = .ok (.if_icmp .eq 9, 3) := by decide +kernel
theorem dX6_readArgs_132 : decode cX6_readArgs 132 = .ok (.aload_n 0, 1) := by decide +kernel
theorem dX6_readArgs_133 : decode cX6_readArgs 133 = .ok (.iconst 2, 1) := by decide +kernel
theorem dX6_readArgs_134 : decode cX6_readArgs 134 = .ok (.invokevirtual 84, 3) := by decide +kernel
theorem dX6_readArgs_137 : decode cX6_readArgs 137 = .ok (.ireturn, 1) := by decide +kernel
theorem dX6_readArgs_138 : decode cX6_readArgs 138 = .ok (.iinc 2 1, 3) := by decide +kernel
theorem dX6_readArgs_141 : decode cX6_readArgs 141 = .ok (.goto (-125), 3) := by decide +kernel
theorem dX6_readArgs_144 : decode cX6_readArgs 144 = .ok (.iconst 0, 1) := by decide +kernel
theorem dX6_readArgs_145 : decode cX6_readArgs 145 = .ok (.ireturn, 1) := by decide +kernel
theorem dX6_readKind_0 : decode cX6_readKind 0 = .ok (.aload_n 0, 1) := by decide +kernel
theorem dX6_readKind_1 : decode cX6_readKind 1 = .ok (.getfield 22, 3) := by decide +kernel
theorem dX6_readKind_4 : decode cX6_readKind 4 = .ok (.getfield 213, 3) := by decide +kernel
theorem dX6_readKind_7 : decode cX6_readKind 7 = .ok (.invokevirtual 135, 3) := by decide +kernel
theorem dX6_readKind_10 : decode cX6_readKind 10 = .ok (.istore_n 1, 1) := by decide +kernel
theorem dX6_readKind_11 : decode cX6_readKind 11 = .ok (.aload_n 0, 1) := by decide +kernel
theorem dX6_readKind_12 : decode cX6_readKind 12 = .ok (.iconst 5, 1) := by decide +kernel
theorem dX6_readKind_13 : decode cX6_readKind 13 = .ok (.iload_n 1, 1) := by decide +kernel
theorem dX6_readKind_14 : decode cX6_readKind 14 = .ok (.bipush 16, 2) := by decide +kernel
theorem dX6_readKind_16 : decode cX6_readKind 16 = .ok (.invokevirtual 111, 3) := by decide +kernel
theorem dX6_readKind_19 : decode cX6_readKind 19 = .ok (.ifCond .ne 5, 3) := by decide +kernel
theorem dX6_readKind_22 : decode cX6_readKind 22 = .ok (.iconst 0, 1) := by decide +kernel
theorem dX6_readKind_23 : decode cX6_readKind 23 = .ok (.ireturn, 1) := by decide +kernel
theorem dX6_readKind_24 : decode cX6_readKind 24 = .ok (.iconst (-1), 1) := by decide +kernel
theorem dX6_readKind_25 : decode cX6_readKind 25 = .ok (.istore_n 2, 1) := by decide +kernel
theorem dX6_readKind_26 : decode cX6_readKind 26 = .ok (.aload_n 0, 1) := by decide +kernel
theorem dX6_readKind_27 : decode cX6_readKind 27 = .ok (.bipush 6, 2) := by decide +kernel
theorem dX6_readKind_29 : decode cX6_readKind 29 = .ok (.invokevirtual 64, 3) := by decide +kernel
theorem dX6_readKind_32 : decode cX6_readKind 32 = .ok (.ifCond .eq 118, 3) := by decide +kernel
theorem dX6_readKind_35 : decode cX6_readKind 35 = .ok (.aload_n 0, 1) := by decide +kernel
theorem dX6_readKind_36 : decode cX6_readKind 36 = .ok (.invokevirtual 87, 3) := by decide +kernel
theorem dX6_readKind_39 : decode cX6_readKind 39 = .ok (.aload_n 0, 1) := by decide +kernel
theorem dX6_readKind_40 : decode cX6_readKind 40 = .ok (.getfield 47, 3) := by decide +kernel
theorem dX6_readKind_43 : decode cX6_readKind 43 = .ok (.iconst 2, 1) := by decide +kernel
theorem dX6_readKind_44 : decode cX6_readKind 44 = .ok (.if_icmp .eq 9, 3) := by decide +kernel
theorem dX6_readKind_47 : decode cX6_readKind 47 = .ok (.aload_n 0, 1) := by decide +kernel
theorem dX6_readKind_48 : decode cX6_readKind 48 = .ok (.iconst 2, 1) := by decide +kernel
theorem dX6_readKind_49 : decode cX6_readKind 49 = .ok (.invokevirtual 84, 3) := by decide +kernel
theorem dX6_readKind_52 : decode cX6_readKind 52 = .ok (.ireturn, 1) := by decide +kernel
theorem dX6_readKind_53 : decode cX6_readKind 53 = .ok (.aload_n 0, 1) := by decide +kernel
theorem dX6_readKind_54 : decode cX6_readKind 54 = .ok (.getfield 15, 3) := by decide +kernel
theorem dX6_readKind_57 : decode cX6_readKind 57 = .ok (.ifnonnull 17, 3) := by decide +kernel
theorem dX6_readKind_60 : decode cX6_readKind 60 = .ok (.aload_n 0, 1) := by decide +kernel
theorem dX6_readKind_61 : decode cX6_readKind 61 = .ok (.getfield 22, 3) := by decide +kernel
theorem dX6_readKind_64 : decode cX6_readKind 64 = .ok (.aload_n 0, 1) := by decide +kernel
theorem dX6_readKind_65 : decode cX6_readKind 65 = .ok (.getfield 54, 3) := by decide +kernel
theorem dX6_readKind_68 : decode cX6_readKind 68 = .ok (.invokevirtual 94, 3) := by decide +kernel
theorem dX6_readKind_71 : decode cX6_readKind 71 = .ok (.goto 14, 3) := by decide +kernel
theorem dX6_readKind_74 : decode cX6_readKind 74 = .ok (.aload_n 0, 1) := by decide +kernel
theorem dX6_readKind_75 : decode cX6_readKind 75 = .ok (.getfield 15, 3) := by decide +kernel
theorem dX6_readKind_78 : decode cX6_readKind 78 = .ok (.aload_n 0, 1) := by decide +kernel
theorem dX6_readKind_79 : decode cX6_readKind 79 = .ok (.getfield 54, 3) := by decide +kernel
theorem dX6_readKind_82 : decode cX6_readKind 82 = .ok (.invokevirtual 94, 3) := by decide +kernel
theorem dX6_readKind_85 : decode cX6_readKind 85 = .ok (.istore_n 3, 1) := by decide +kernel
theorem dX6_readKind_86 : decode cX6_readKind 86 = .ok (.iload_n 3, 1) := by decide +kernel
theorem dX6_readKind_87 : decode cX6_readKind 87 = .ok (.iconst (-1), 1) := by decide +kernel
theorem dX6_readKind_88 : decode cX6_readKind 88 = .ok (.if_icmp .eq 23, 3) := by decide +kernel
theorem dX6_readKind_91 : decode cX6_readKind 91 = .ok (.iload_n 3, 1) := by decide +kernel
theorem dX6_readKind_92 : decode cX6_readKind 92 = .ok (.bipush 100, 2) := by decide +kernel
theorem dX6_readKind_94 : decode cX6_readKind 94 = .ok (.idiv, 1) := by decide +kernel
theorem dX6_readKind_95 : decode cX6_readKind 95 = .ok (.iconst 5, 1) := by decide +kernel
theorem dX6_readKind_96 : decode cX6_readKind 96 = .ok (.if_icmp .ne 15, 3) := by decide +kernel
theorem dX6_readKind_99 : decode cX6_readKind 99 = .ok (.iload_n 3, 1) := by decide +kernel
theorem dX6_readKind_100 : decode cX6_readKind 100 = .ok (.bipush 100, 2) := by decide +kernel
theorem dX6_readKind_102 : decode cX6_readKind 102 = .ok (.irem, 1) := by decide +kernel
theorem dX6_readKind_103 : decode cX6_readKind 103 = .ok (.iload_n 1, 1) := by decide +kernel
theorem dX6_readKind_104 : decode cX6_readKind 104 = .ok (.if_icmp .ge 7, 3) := by decide +kernel
theorem dX6_readKind_107 : decode cX6_readKind 107 = .ok (.iconst 1, 1) := by decide +kernel
theorem dX6_readKind_108 : decode cX6_readKind 108 = .ok (.goto 4, 3) := by decide +kernel
theorem dX6_readKind_111 : decode cX6_readKind 111 = .ok (.iconst 0, 1) := by decide +kernel
theorem dX6_readKind_112 : decode cX6_readKind 112 = .ok (.istore 4, 2) := by decide +kernel
theorem dX6_readKind_114 : decode cX6_readKind 114 = .ok (.iload 4, 2) := by decide +kernel
theorem dX6_readKind_116 : decode cX6_readKind 116 = .ok (.ifCond .ne 16, 3) := by decide +kernel
theorem dX6_readKind_119 : decode cX6_readKind 119 = .ok (.aload_n 0, 1) := by decide +kernel
theorem dX6_readKind_120 : decode cX6_readKind 120 = .ok (.getfield 15, 3) := by decide +kernel
theorem dX6_readKind_123 : decode cX6_readKind 123 = .ok (.ifnull 9, 3) := by decide +kernel
theorem dX6_readKind_126 : decode cX6_readKind 126 = .ok (.aload_n 0, 1) := by decide +kernel
theorem dX6_readKind_127 : decode cX6_readKind 127 = .ok (.iconst 5, 1) := by decide +kernel
theorem dX6_readKind_128 : decode cX6_readKind 128 = .ok (.invokevirtual 84, 3) := by decide +kernel
theorem dX6_readKind_131 : decode cX6_readKind 131 = .ok (.ireturn, 1) := by decide +kernel
theorem dX6_readKind_132 : decode cX6_readKind 132 = .ok (.iload 4, 2) := by decide +kernel
theorem dX6_readKind_134 : decode cX6_readKind 134 = .ok (.ifCond .eq 10, 3) := by decide +kernel
theorem dX6_readKind_137 : decode cX6_readKind 137 = .ok (.iload_n 3, 1) := by decide +kernel
theorem dX6_readKind_138 : decode cX6_readKind 138 = .ok (.bipush 100, 2) := by decide +kernel
theorem dX6_readKind_140 : decode cX6_readKind 140 = .ok (.irem, 1) := by decide +kernel
theorem dX6_readKind_141 : decode cX6_readKind 141 = .ok (.goto 4, 3) := by decide +kernel
theorem dX6_readKind_144 : decode cX6_readKind 144 = .ok (.iconst (-1), 1) := by decide +kernel
theorem dX6_readKind_145 : decode cX6_readKind 145 = .ok (.istore_n 2, 1) := by decide +kernel
theorem dX6_readKind_146 : decode cX6_readKind 146 = .ok (.aload_n 0, 1) := by decide +kernel
theorem dX6_readKind_147 : decode cX6_readKind 147 = .ok (.invokevirtual 87, 3) := by decide +kernel
theorem dX6_readKind_150 : decode cX6_readKind 150 = .ok (.new 216, 3) := by decide +kernel
theorem dX6_readKind_153 : decode cX6_readKind 153 = .ok (.dup, 1) := by decide +kernel
theorem dX6_readKind_154 : decode cX6_readKind 154 = .ok (.iload_n 1, 1) := by decide +kernel
theorem dX6_readKind_155 : decode cX6_readKind 155 = .ok (.aload_n 0, 1) := by decide +kernel
theorem dX6_readKind_156 : decode cX6_readKind 156 = .ok (.getfield 22, 3) := by decide +kernel
theorem dX6_readKind_159 : decode cX6_readKind 159 = .ok (.iload_n 2, 1) := by decide +kernel
theorem dX6_readKind_160 : decode cX6_readKind 160 = .ok (.invokevirtual 218, 3) := by decide +kernel
theorem dX6_readKind_163 : decode cX6_readKind 163 = .ok (.invokespecial 222, 3) := by decide +kernel
theorem dX6_readKind_166 : decode cX6_readKind 166 = .ok (.astore_n 3, 1) := by decide +kernel
theorem dX6_readKind_167 : decode cX6_readKind 167 = .ok (.aload_n 0, 1) := by decide +kernel
theorem dX6_readKind_168 : decode cX6_readKind 168 = .ok (.getfield 22, 3) := by decide +kernel
theorem dX6_readKind_171 : decode cX6_readKind 171 = .ok (.getfield 213, 3) := by decide +kernel
theorem dX6_readKind_174 : decode cX6_readKind 174 = .ok (.aload_n 3, 1) := by decide +kernel
theorem dX6_readKind_175 : decode cX6_readKind 175 = .ok (.invokevirtual 146, 3) := by decide +kernel
theorem dX6_readKind_178 : decode cX6_readKind 178 = .ok (.pop, 1) := by decide +kernel
theorem dX6_readKind_179 : decode cX6_readKind 179 = .ok (.aload_n 0, 1) := by decide +kernel
theorem dX6_readKind_180 : decode cX6_readKind 180 = .ok (.bipush 123, 2) := by decide +kernel
theorem dX6_readKind_182 : decode cX6_readKind 182 = .ok (.invokevirtual 122, 3) := by decide +kernel
theorem dX6_readKind_185 : decode cX6_readKind 185 = .ok (.ifCond .ne 5, 3) := by decide +kernel
theorem dX6_readKind_188 : decode cX6_readKind 188 = .ok (.iconst 0, 1) := by decide +kernel
theorem dX6_readKind_189 : decode cX6_readKind 189 = .ok (.ireturn, 1) := by decide +kernel
theorem dX6_readKind_190 : decode cX6_readKind 190 = .ok (.iconst 0, 1) := by decide +kernel
theorem dX6_readKind_191 : decode cX6_readKind 191 = .ok (.istore 4, 2) := by decide +kernel
theorem dX6_readKind_193 : decode cX6_readKind 193 = .ok (.iload 4, 2) := by decide +kernel
theorem dX6_readKind_195 : decode cX6_readKind 195 = .ok (.sipush 3000, 3) := by decide +kernel
theorem dX6_readKind_198 : decode cX6_readKind 198 = .ok (.if_icmp .gt 48, 3) := by decide +kernel
theorem dX6_readKind_201 : decode cX6_readKind 201 = .ok (.aload_n 0, 1) := by decide +kernel
theorem dX6_readKind_202 : decode cX6_readKind 202 = .ok (.getfield 47, 3) := by decide +kernel
theorem dX6_readKind_205 : decode cX6_readKind 205 = .ok (.bipush 125, 2) := by decide +kernel
theorem dX6_readKind_207 : decode cX6_readKind 207 = .ok (.if_icmp .eq 39, 3) := by decide +kernel
theorem dX6_readKind_210 : decode cX6_readKind 210 = .ok (.aload_n 0, 1) := by decide +kernel
theorem dX6_readKind_211 : decode cX6_readKind 211 = .ok (.getfield 47, 3) := by decide +kernel
theorem dX6_readKind_214 : decode cX6_readKind 214 = .ok (.bipush 42, 2) := by decide +kernel
theorem dX6_readKind_216 : decode cX6_readKind 216 = .ok (.if_icmp .ne 14, 3) := by decide +kernel
theorem dX6_readKind_219 : decode cX6_readKind 219 = .ok (.aload_n 0, 1) := by decide +kernel
theorem dX6_readKind_220 : decode cX6_readKind 220 = .ok (.aload_n 3, 1) := by decide +kernel
theorem dX6_readKind_221 : decode cX6_readKind 221 = .ok (.invokevirtual 225, 3) := by decide +kernel
theorem dX6_readKind_224 : decode cX6_readKind 224 = .ok (.ifCond .ne 16, 3) := by decide +kernel
theorem dX6_readKind_227 : decode cX6_readKind 227 = .ok (.goto 11, 3) := by decide +kernel
theorem dX6_readKind_230 : decode cX6_readKind 230 = .ok (.aload_n 0, 1) := by decide +kernel
theorem dX6_readKind_231 : decode cX6_readKind 231 = .ok (.aload_n 3, 1) := by decide +kernel
theorem dX6_readKind_232 : decode cX6_readKind 232 = .ok (.invokevirtual 229, 3) := by decide +kernel
theorem dX6_readKind_235 : decode cX6_readKind 235 = .ok (.ifCond .ne 5, 3) := by decide +kernel
theorem dX6_readKind_238 : decode cX6_readKind 238 = .ok (.iconst 0, 1) := by decide +kernel
theorem dX6_readKind_239 : decode cX6_readKind 239 = .ok (.ireturn, 1) := by decide +kernel
theorem dX6_readKind_240 : decode cX6_readKind 240 = .ok (.iinc 4 1, 3) := by decide +kernel
theorem dX6_readKind_243 : decode cX6_readKind 243 = .ok (.goto (-50), 3) := by decide +kernel
theorem dX6_readKind_246 : decode cX6_readKind 246 = .ok (.aload_n 0, 1) := by decide +kernel
theorem dX6_readKind_247 : decode cX6_readKind 247 = .ok (.bipush 125, 2) := by decide +kernel
theorem dX6_readKind_249 : decode cX6_readKind 249 = .ok (.invokevirtual 122, 3) := by decide +kernel
theorem dX6_readKind_252 : decode cX6_readKind 252 = .ok (.ireturn, 1) := by decide +kernel
theorem dX0_kindAt_0 : decode cX0_kindAt 0 = .ok (.iload_n 1, 1) := by decide +kernel
theorem dX0_kindAt_1 : decode cX0_kindAt 1 = .ok (.ifCond .lt 28, 3) := by decide +kernel
theorem dX0_kindAt_4 : decode cX0_kindAt 4 = .ok (.iload_n 1, 1) := by decide +kernel
theorem dX0_kindAt_5 : decode cX0_kindAt 5 = .ok (.aload_n 0, 1) := by decide +kernel
theorem dX0_kindAt_6 : decode cX0_kindAt 6 = .ok (.getfield 24, 3) := by decide +kernel
theorem dX0_kindAt_9 : decode cX0_kindAt 9 = .ok (.invokevirtual 70, 3) := by decide +kernel
theorem dX0_kindAt_12 : decode cX0_kindAt 12 = .ok (.if_icmp .ge 17, 3) := by decide +kernel
theorem dX0_kindAt_15 : decode cX0_kindAt 15 = .ok (.aload_n 0, 1) := by decide +kernel
theorem dX0_kindAt_16 : decode cX0_kindAt 16 = .ok (.getfield 24, 3) := by decide +kernel
theorem dX0_kindAt_19 : decode cX0_kindAt 19 = .ok (.iload_n 1, 1) := by decide +kernel
theorem dX0_kindAt_20 : decode cX0_kindAt 20 = .ok (.invokevirtual 74, 3) := by decide +kernel
theorem dX0_kindAt_23 : decode cX0_kindAt 23 = .ok (.checkcast 78, 3) := by decide +kernel
theorem dX0_kindAt_26 : decode cX0_kindAt 26 = .ok (.goto 4, 3) := by decide +kernel
theorem dX0_kindAt_29 : decode cX0_kindAt 29 = .ok (.aconst_null, 1) := by decide +kernel
theorem dX0_kindAt_30 : decode cX0_kindAt 30 = .ok (.areturn, 1) := by decide +kernel
theorem dX3_init_0 : decode cX3_init 0 = .ok (.aload_n 0, 1) := by decide +kernel
theorem dX3_init_1 : decode cX3_init 1 = .ok (.invokespecial 3, 3) := by decide +kernel
theorem dX3_init_4 : decode cX3_init 4 = .ok (.aload_n 0, 1) := by decide +kernel
theorem dX3_init_5 : decode cX3_init 5 = .ok (.iload_n 1, 1) := by decide +kernel
theorem dX3_init_6 : decode cX3_init 6 = .ok (.putfield 9, 3) := by decide +kernel
theorem dX3_init_9 : decode cX3_init 9 = .ok (.aload_n 0, 1) := by decide +kernel
theorem dX3_init_10 : decode cX3_init 10 = .ok (.new 15, 3) := by decide +kernel
theorem dX3_init_13 : decode cX3_init 13 = .ok (.dup, 1) := by decide +kernel
theorem dX3_init_14 : decode cX3_init 14 = .ok (.invokespecial 17, 3) := by decide +kernel
theorem dX3_init_17 : decode cX3_init 17 = .ok (.putfield 18, 3) := by decide +kernel
theorem dX3_init_20 : decode cX3_init 20 = .ok (.aload_n 0, 1) := by decide +kernel
theorem dX3_init_21 : decode cX3_init 21 = .ok (.new 22, 3) := by decide +kernel
theorem dX3_init_24 : decode cX3_init 24 = .ok (.dup, 1) := by decide +kernel
theorem dX3_init_25 : decode cX3_init 25 = .ok (.lconst 0, 1) := by decide +kernel
theorem dX3_init_26 : decode cX3_init 26 = .ok (.iconst 5, 1) := by decide +kernel
theorem dX3_init_27 : decode cX3_init 27 = .ok (.invokespecial 24, 3) := by decide +kernel
theorem dX3_init_30 : decode cX3_init 30 = .ok (.putfield 27, 3) := by decide +kernel
theorem dX3_init_33 : decode cX3_init 33 = .ok (.aload_n 2, 1) := by decide +kernel
theorem dX3_init_34 : decode cX3_init 34 = .ok (.ifnonnull 18, 3) := by decide +kernel
theorem dX3_init_37 : decode cX3_init 37 = .ok (.aload_n 0, 1) := by decide +kernel
theorem dX3_init_38 : decode cX3_init 38 = .ok (.iconst (-1), 1) := by decide +kernel
theorem dX3_init_39 : decode cX3_init 39 = .ok (.putfield 31, 3) := by decide +kernel
theorem dX3_init_42 : decode cX3_init 42 = .ok (.aload_n 0, 1) := by decide +kernel
theorem dX3_init_43 : decode cX3_init 43 = .ok (.iconst 1, 1) := by decide +kernel
theorem dX3_init_44 : decode cX3_init 44 = .ok (.newarray .int, 2) := by decide +kernel
theorem dX3_init_46 : decode cX3_init 46 = .ok (.putfield 34, 3) := by decide +kernel
theorem dX3_init_49 : decode cX3_init 49 = .ok (.goto 67, 3) := by decide +kernel
theorem dX3_init_52 : decode cX3_init 52 = .ok (.aload_n 0, 1) := by decide +kernel
theorem dX3_init_53 : decode cX3_init 53 = .ok (.aload_n 2, 1) := by decide +kernel
theorem dX3_init_54 : decode cX3_init 54 = .ok (.getfield 9, 3) := by decide +kernel
theorem dX3_init_57 : decode cX3_init 57 = .ok (.putfield 31, 3) := by decide +kernel
theorem dX3_init_60 : decode cX3_init 60 = .ok (.aload_n 0, 1) := by decide +kernel
theorem dX3_init_61 : decode cX3_init 61 = .ok (.aload_n 2, 1) := by decide +kernel
theorem dX3_init_62 : decode cX3_init 62 = .ok (.getfield 34, 3) := by decide +kernel
theorem dX3_init_65 : decode cX3_init 65 = .ok (.aload_n 2, 1) := by decide +kernel
theorem dX3_init_66 : decode cX3_init 66 = .ok (.getfield 34, 3) := by decide +kernel
theorem dX3_init_69 : decode cX3_init 69 = .ok (.arraylength, 1) := by decide +kernel
theorem dX3_init_70 : decode cX3_init 70 = .ok (.iconst 1, 1) := by decide +kernel
theorem dX3_init_71 : decode cX3_init 71 = .ok (.iadd, 1) := by decide +kernel
theorem dX3_init_72 : decode cX3_init 72 = .ok (.invokestatic 38, 3) := by decide +kernel
theorem dX3_init_75 : decode cX3_init 75 = .ok (.putfield 34, 3) := by decide +kernel
theorem dX3_init_78 : decode cX3_init 78 = .ok (.iconst 0, 1) := by decide +kernel
theorem dX3_init_79 : decode cX3_init 79 = .ok (.istore_n 3, 1) := by decide +kernel
theorem dX3_init_80 : decode cX3_init 80 = .ok (.iload_n 3, 1) := by decide +kernel
theorem dX3_init_81 : decode cX3_init 81 = .ok (.aload_n 2, 1) := by decide +kernel
theorem dX3_init_82 : decode cX3_init 82 = .ok (.getfield 18, 3) := by decide +kernel
theorem dX3_init_85 : decode cX3_init 85 = .ok (.invokevirtual 44, 3) := by decide +kernel
theorem dX3_init_88 : decode cX3_init 88 = .ok (.if_icmp .ge 28, 3) := by decide +kernel
theorem dX3_init_91 : decode cX3_init 91 = .ok (.aload_n 0, 1) := by decide +kernel
theorem dX3_init_92 : decode cX3_init 92 = .ok (.getfield 18, 3) := by decide +kernel
theorem dX3_init_95 : decode cX3_init 95 = .ok (.aload_n 2, 1) := by decide +kernel
theorem dX3_init_96 : decode cX3_init 96 = .ok (.getfield 18, 3) := by decide +kernel
theorem dX3_init_99 : decode cX3_init 99 = .ok (.iload_n 3, 1) := by decide +kernel
theorem dX3_init_100 : decode cX3_init 100 = .ok (.invokevirtual 48, 3) := by decide +kernel
theorem dX3_init_103 : decode cX3_init 103 = .ok (.checkcast 22, 3) := by decide +kernel
theorem dX3_init_106 : decode cX3_init 106 = .ok (.invokevirtual 52, 3) := by decide +kernel
theorem dX3_init_109 : decode cX3_init 109 = .ok (.pop, 1) := by decide +kernel
theorem dX3_init_110 : decode cX3_init 110 = .ok (.iinc 3 1, 3) := by decide +kernel
theorem dX3_init_113 : decode cX3_init 113 = .ok (.goto (-33), 3) := by decide +kernel
theorem dX3_init_116 : decode cX3_init 116 = .ok (.aload_n 0, 1) := by decide +kernel
theorem dX3_init_117 : decode cX3_init 117 = .ok (.getfield 34, 3) := by decide +kernel
theorem dX3_init_120 : decode cX3_init 120 = .ok (.aload_n 0, 1) := by decide +kernel
theorem dX3_init_121 : decode cX3_init 121 = .ok (.getfield 34, 3) := by decide +kernel
theorem dX3_init_124 : decode cX3_init 124 = .ok (.arraylength, 1) := by decide +kernel
theorem dX3_init_125 : decode cX3_init 125 = .ok (.iconst 1, 1) := by decide +kernel
theorem dX3_init_126 : decode cX3_init 126 = .ok (.isub, 1) := by decide +kernel
theorem dX3_init_127 : decode cX3_init 127 = .ok (.iload_n 1, 1) := by decide +kernel
theorem dX3_init_128 : decode cX3_init 128 = .ok (.iastore, 1) := by decide +kernel
theorem dX3_init_129 : decode cX3_init 129 = .ok (.aload_n 0, 1) := by decide +kernel
theorem dX3_init_130 : decode cX3_init 130 = .ok (.aload_n 0, 1) := by decide +kernel
theorem dX3_init_131 : decode cX3_init 131 = .ok (.getfield 18, 3) := by decide +kernel
theorem dX3_init_134 : decode cX3_init 134 = .ok (.invokevirtual 44, 3) := by decide +kernel
theorem dX3_init_137 : decode cX3_init 137 = .ok (.putfield 56, 3) := by decide +kernel
theorem dX3_init_140 : decode cX3_init 140 = .ok (.return_, 1) := by decide +kernel
theorem dX6_readStar_0 : decode cX6_readStar 0 = .ok (.aload_n 0, 1) := by decide +kernel
theorem dX6_readStar_1 : decode cX6_readStar 1 = .ok (.invokevirtual 87, 3) := by decide +kernel
theorem dX6_readStar_4 : decode cX6_readStar 4 = .ok (.aload_n 0, 1) := by decide +kernel
theorem dX6_readStar_5 : decode cX6_readStar 5 = .ok (.bipush 61, 2) := by decide +kernel
theorem dX6_readStar_7 : decode cX6_readStar 7 = .ok (.invokevirtual 122, 3) := by decide +kernel
theorem dX6_readStar_10 : decode cX6_readStar 10 = .ok (.ifCond .eq 27, 3) := by decide +kernel
theorem dX6_readStar_13 : decode cX6_readStar 13 = .ok (.aload_n 0, 1) := by decide +kernel
theorem dX6_readStar_14 : decode cX6_readStar 14 = .ok (.aload_n 1, 1) := by decide +kernel
theorem dX6_readStar_15 : decode cX6_readStar 15 = .ok (.getfield 232, 3) := by decide +kernel
theorem dX6_readStar_18 : decode cX6_readStar 18 = .ok (.invokevirtual 209, 3) := by decide +kernel
theorem dX6_readStar_21 : decode cX6_readStar 21 = .ok (.ifCond .eq 16, 3) := by decide +kernel
theorem dX6_readStar_24 : decode cX6_readStar 24 = .ok (.aload_n 0, 1) := by decide +kernel
theorem dX6_readStar_25 : decode cX6_readStar 25 = .ok (.bipush 59, 2) := by decide +kernel
theorem dX6_readStar_27 : decode cX6_readStar 27 = .ok (.invokevirtual 122, 3) := by decide +kernel
theorem dX6_readStar_30 : decode cX6_readStar 30 = .ok (.ifCond .eq 7, 3) := by decide +kernel
theorem dX6_readStar_33 : decode cX6_readStar 33 = .ok (.iconst 1, 1) := by decide +kernel
theorem dX6_readStar_34 : decode cX6_readStar 34 = .ok (.goto 4, 3) := by decide +kernel
theorem dX6_readStar_37 : decode cX6_readStar 37 = .ok (.iconst 0, 1) := by decide +kernel
theorem dX6_readStar_38 : decode cX6_readStar 38 = .ok (.ireturn, 1) := by decide +kernel
theorem dX6_readMember_0 : decode cX6_readMember 0 = .ok (.aload_n 0, 1) := by decide +kernel
theorem dX6_readMember_1 : decode cX6_readMember 1 = .ok (.getfield 47, 3) := by decide +kernel
theorem dX6_readMember_4 : decode cX6_readMember 4 = .ok (.iconst 2, 1) := by decide +kernel
theorem dX6_readMember_5 : decode cX6_readMember 5 = .ok (.if_icmp .ne 15, 3) := by decide +kernel
theorem dX6_readMember_8 : decode cX6_readMember 8 = .ok (.aload_n 1, 1) := by decide +kernel
theorem dX6_readMember_9 : decode cX6_readMember 9 = .ok (.getfield 236, 3) := by decide +kernel
theorem dX6_readMember_12 : decode cX6_readMember 12 = .ok (.invokevirtual 135, 3) := by decide +kernel
theorem dX6_readMember_15 : decode cX6_readMember 15 = .ok (.bipush 12, 2) := by decide +kernel
theorem dX6_readMember_17 : decode cX6_readMember 17 = .ok (.if_icmp .lt 9, 3) := by decide +kernel
theorem dX6_readMember_20 : decode cX6_readMember 20 = .ok (.aload_n 0, 1) := by decide +kernel
theorem dX6_readMember_21 : decode cX6_readMember 21 = .ok (.iconst 2, 1) := by decide +kernel
theorem dX6_readMember_22 : decode cX6_readMember 22 = .ok (.invokevirtual 84, 3) := by decide +kernel
theorem dX6_readMember_25 : decode cX6_readMember 25 = .ok (.ireturn, 1) := by decide +kernel
theorem dX6_readMember_26 : decode cX6_readMember 26 = .ok (.aload_n 1, 1) := by decide +kernel
theorem dX6_readMember_27 : decode cX6_readMember 27 = .ok (.aload_n 0, 1) := by decide +kernel
theorem dX6_readMember_28 : decode cX6_readMember 28 = .ok (.getfield 54, 3) := by decide +kernel
theorem dX6_readMember_31 : decode cX6_readMember 31 = .ok (.invokevirtual 239, 3) := by decide +kernel
theorem dX6_readMember_34 : decode cX6_readMember 34 = .ok (.iconst (-1), 1) := by decide +kernel
theorem dX6_readMember_35 : decode cX6_readMember 35 = .ok (.if_icmp .eq 9, 3) := by decide +kernel
theorem dX6_readMember_38 : decode cX6_readMember 38 = .ok (.aload_n 0, 1) := by decide +kernel
theorem dX6_readMember_39 : decode cX6_readMember 39 = .ok (.iconst 3, 1) := by decide +kernel
theorem dX6_readMember_40 : decode cX6_readMember 40 = .ok (.invokevirtual 84, 3) := by decide +kernel
theorem dX6_readMember_43 : decode cX6_readMember 43 = .ok (.ireturn, 1) := by decide +kernel
theorem dX6_readMember_44 : decode cX6_readMember 44 = .ok (.new 205, 3) := by decide +kernel
theorem dX6_readMember_47 : decode cX6_readMember 47 = .ok (.dup, 1) := by decide +kernel
theorem dX6_readMember_48 : decode cX6_readMember 48 = .ok (.aload_n 0, 1) := by decide +kernel
theorem dX6_readMember_49 : decode cX6_readMember 49 = .ok (.getfield 54, 3) := by decide +kernel
theorem dX6_readMember_52 : decode cX6_readMember 52 = .ok (.iconst 1, 1) := by decide +kernel
theorem dX6_readMember_53 : decode cX6_readMember 53 = .ok (.invokespecial 207, 3) := by decide +kernel
theorem dX6_readMember_56 : decode cX6_readMember 56 = .ok (.astore_n 2, 1) := by decide +kernel
theorem dX6_readMember_57 : decode cX6_readMember 57 = .ok (.aload_n 1, 1) := by decide +kernel
theorem dX6_readMember_58 : decode cX6_readMember 58 = .ok (.getfield 236, 3) := by decide +kernel
theorem dX6_readMember_61 : decode cX6_readMember 61 = .ok (.aload_n 2, 1) := by decide +kernel
theorem dX6_readMember_62 : decode cX6_readMember 62 = .ok (.invokevirtual 146, 3) := by decide +kernel
theorem dX6_readMember_65 : decode cX6_readMember 65 = .ok (.pop, 1) := by decide +kernel
theorem dX6_readMember_66 : decode cX6_readMember 66 = .ok (.aload_n 0, 1) := by decide +kernel
theorem dX6_readMember_67 : decode cX6_readMember 67 = .ok (.invokevirtual 87, 3) := by decide +kernel
theorem dX6_readMember_70 : decode cX6_readMember 70 = .ok (.aload_n 0, 1) := by decide +kernel
theorem dX6_readMember_71 : decode cX6_readMember 71 = .ok (.bipush 58, 2) := by decide +kernel
theorem dX6_readMember_73 : decode cX6_readMember 73 = .ok (.invokevirtual 122, 3) := by decide +kernel
theorem dX6_readMember_76 : decode cX6_readMember 76 = .ok (.ifCond .eq 11, 3) := by decide +kernel
theorem dX6_readMember_79 : decode cX6_readMember 79 = .ok (.aload_n 0, 1) := by decide +kernel
theorem dX6_readMember_80 : decode cX6_readMember 80 = .ok (.aload_n 2, 1) := by decide +kernel
theorem dX6_readMember_81 : decode cX6_readMember 81 = .ok (.invokevirtual 240, 3) := by decide +kernel
theorem dX6_readMember_84 : decode cX6_readMember 84 = .ok (.ifCond .ne 5, 3) := by decide +kernel
theorem dX6_readMember_87 : decode cX6_readMember 87 = .ok (.iconst 0, 1) := by decide +kernel
theorem dX6_readMember_88 : decode cX6_readMember 88 = .ok (.ireturn, 1) := by decide +kernel
theorem dX6_readMember_89 : decode cX6_readMember 89 = .ok (.aload_n 0, 1) := by decide +kernel
theorem dX6_readMember_90 : decode cX6_readMember 90 = .ok (.getfield 47, 3) := by decide +kernel
theorem dX6_readMember_93 : decode cX6_readMember 93 = .ok (.bipush 61, 2) := by decide +kernel
theorem dX6_readMember_95 : decode cX6_readMember 95 = .ok (.if_icmp .ne 17, 3) := by decide +kernel
theorem dX6_readMember_98 : decode cX6_readMember 98 = .ok (.aload_n 0, 1) := by decide +kernel
theorem dX6_readMember_99 : decode cX6_readMember 99 = .ok (.invokevirtual 87, 3) := by decide +kernel
theorem dX6_readMember_102 : decode cX6_readMember 102 = .ok (.aload_n 0, 1) := by decide +kernel
theorem dX6_readMember_103 : decode cX6_readMember 103 = .ok (.aload_n 2, 1) := by decide +kernel
theorem dX6_readMember_104 : decode cX6_readMember 104 = .ok (.invokevirtual 209, 3) := by decide +kernel
theorem dX6_readMember_107 : decode cX6_readMember 107 = .ok (.ifCond .ne 5, 3) := by decide +kernel
theorem dX6_readMember_110 : decode cX6_readMember 110 = .ok (.iconst 0, 1) := by decide +kernel
theorem dX6_readMember_111 : decode cX6_readMember 111 = .ok (.ireturn, 1) := by decide +kernel
theorem dX6_readMember_112 : decode cX6_readMember 112 = .ok (.aload_n 0, 1) := by decide +kernel
theorem dX6_readMember_113 : decode cX6_readMember 113 = .ok (.bipush 59, 2) := by decide +kernel
theorem dX6_readMember_115 : decode cX6_readMember 115 = .ok (.invokevirtual 122, 3) := by decide +kernel
theorem dX6_readMember_118 : decode cX6_readMember 118 = .ok (.ireturn, 1) := by decide +kernel
theorem dX3_find_0 : decode cX3_find 0 = .ok (.iconst 0, 1) := by decide +kernel
theorem dX3_find_1 : decode cX3_find 1 = .ok (.istore_n 3, 1) := by decide +kernel
theorem dX3_find_2 : decode cX3_find 2 = .ok (.iload_n 3, 1) := by decide +kernel
theorem dX3_find_3 : decode cX3_find 3 = .ok (.aload_n 0, 1) := by decide +kernel
theorem dX3_find_4 : decode cX3_find 4 = .ok (.getfield 18, 3) := by decide +kernel
theorem dX3_find_7 : decode cX3_find 7 = .ok (.invokevirtual 44, 3) := by decide +kernel
theorem dX3_find_10 : decode cX3_find 10 = .ok (.if_icmp .ge 30, 3) := by decide +kernel
theorem dX3_find_13 : decode cX3_find 13 = .ok (.aload_n 0, 1) := by decide +kernel
theorem dX3_find_14 : decode cX3_find 14 = .ok (.getfield 18, 3) := by decide +kernel
theorem dX3_find_17 : decode cX3_find 17 = .ok (.iload_n 3, 1) := by decide +kernel
theorem dX3_find_18 : decode cX3_find 18 = .ok (.invokevirtual 48, 3) := by decide +kernel
theorem dX3_find_21 : decode cX3_find 21 = .ok (.checkcast 22, 3) := by decide +kernel
theorem dX3_find_24 : decode cX3_find 24 = .ok (.getfield 59, 3) := by decide +kernel
theorem dX3_find_27 : decode cX3_find 27 = .ok (.lload_n 1, 1) := by decide +kernel
theorem dX3_find_28 : decode cX3_find 28 = .ok (.lcmp, 1) := by decide +kernel
theorem dX3_find_29 : decode cX3_find 29 = .ok (.ifCond .ne 5, 3) := by decide +kernel
theorem dX3_find_32 : decode cX3_find 32 = .ok (.iload_n 3, 1) := by decide +kernel
theorem dX3_find_33 : decode cX3_find 33 = .ok (.ireturn, 1) := by decide +kernel
theorem dX3_find_34 : decode cX3_find 34 = .ok (.iinc 3 1, 3) := by decide +kernel
theorem dX3_find_37 : decode cX3_find 37 = .ok (.goto (-35), 3) := by decide +kernel
theorem dX3_find_40 : decode cX3_find 40 = .ok (.iconst (-1), 1) := by decide +kernel
theorem dX3_find_41 : decode cX3_find 41 = .ok (.ireturn, 1) := by decide +kernel
theorem dX6_readType_0 : decode cX6_readType 0 = .ok (.aload_n 0, 1) := by decide +kernel
theorem dX6_readType_1 : decode cX6_readType 1 = .ok (.bipush 7, 2) := by decide +kernel
theorem dX6_readType_3 : decode cX6_readType 3 = .ok (.invokevirtual 64, 3) := by decide +kernel
theorem dX6_readType_6 : decode cX6_readType 6 = .ok (.ifCond .ne 12, 3) := by decide +kernel
theorem dX6_readType_9 : decode cX6_readType 9 = .ok (.aload_n 0, 1) := by decide +kernel
theorem dX6_readType_10 : decode cX6_readType 10 = .ok (.bipush 8, 2) := by decide +kernel
theorem dX6_readType_12 : decode cX6_readType 12 = .ok (.invokevirtual 64, 3) := by decide +kernel
theorem dX6_readType_15 : decode cX6_readType 15 = .ok (.ifCond .eq 29, 3) := by decide +kernel
theorem dX6_readType_18 : decode cX6_readType 18 = .ok (.aload_n 1, 1) := by decide +kernel
theorem dX6_readType_19 : decode cX6_readType 19 = .ok (.aload_n 0, 1) := by decide +kernel
theorem dX6_readType_20 : decode cX6_readType 20 = .ok (.getfield 54, 3) := by decide +kernel
theorem dX6_readType_23 : decode cX6_readType 23 = .ok (.ldc2_w 243, 3) := by decide +kernel
theorem dX6_readType_26 : decode cX6_readType 26 = .ok (.lcmp, 1) := by decide +kernel
theorem dX6_readType_27 : decode cX6_readType 27 = .ok (.ifCond .ne 7, 3) := by decide +kernel
theorem dX6_readType_30 : decode cX6_readType 30 = .ok (.iconst 1, 1) := by decide +kernel
theorem dX6_readType_31 : decode cX6_readType 31 = .ok (.goto 4, 3) := by decide +kernel
theorem dX6_readType_34 : decode cX6_readType 34 = .ok (.iconst 2, 1) := by decide +kernel
theorem dX6_readType_35 : decode cX6_readType 35 = .ok (.putfield 245, 3) := by decide +kernel
theorem dX6_readType_38 : decode cX6_readType 38 = .ok (.aload_n 0, 1) := by decide +kernel
theorem dX6_readType_39 : decode cX6_readType 39 = .ok (.invokevirtual 87, 3) := by decide +kernel
theorem dX6_readType_42 : decode cX6_readType 42 = .ok (.iconst 1, 1) := by decide +kernel
theorem dX6_readType_43 : decode cX6_readType 43 = .ok (.ireturn, 1) := by decide +kernel
theorem dX6_readType_44 : decode cX6_readType 44 = .ok (.aload_n 1, 1) := by decide +kernel
theorem dX6_readType_45 : decode cX6_readType 45 = .ok (.iconst 3, 1) := by decide +kernel
theorem dX6_readType_46 : decode cX6_readType 46 = .ok (.putfield 245, 3) := by decide +kernel
theorem dX6_readType_49 : decode cX6_readType 49 = .ok (.aload_n 0, 1) := by decide +kernel
theorem dX6_readType_50 : decode cX6_readType 50 = .ok (.bipush 9, 2) := by decide +kernel
theorem dX6_readType_52 : decode cX6_readType 52 = .ok (.invokevirtual 64, 3) := by decide +kernel
theorem dX6_readType_55 : decode cX6_readType 55 = .ok (.ifCond .eq 12, 3) := by decide +kernel
theorem dX6_readType_58 : decode cX6_readType 58 = .ok (.aload_n 1, 1) := by decide +kernel
theorem dX6_readType_59 : decode cX6_readType 59 = .ok (.iconst 4, 1) := by decide +kernel
theorem dX6_readType_60 : decode cX6_readType 60 = .ok (.putfield 245, 3) := by decide +kernel
theorem dX6_readType_63 : decode cX6_readType 63 = .ok (.aload_n 0, 1) := by decide +kernel
theorem dX6_readType_64 : decode cX6_readType 64 = .ok (.invokevirtual 87, 3) := by decide +kernel
theorem dX6_readType_67 : decode cX6_readType 67 = .ok (.aload_n 0, 1) := by decide +kernel
theorem dX6_readType_68 : decode cX6_readType 68 = .ok (.getfield 47, 3) := by decide +kernel
theorem dX6_readType_71 : decode cX6_readType 71 = .ok (.iconst 2, 1) := by decide +kernel
theorem dX6_readType_72 : decode cX6_readType 72 = .ok (.if_icmp .eq 9, 3) := by decide +kernel
theorem dX6_readType_75 : decode cX6_readType 75 = .ok (.aload_n 0, 1) := by decide +kernel
theorem dX6_readType_76 : decode cX6_readType 76 = .ok (.iconst 2, 1) := by decide +kernel
theorem dX6_readType_77 : decode cX6_readType 77 = .ok (.invokevirtual 84, 3) := by decide +kernel
theorem dX6_readType_80 : decode cX6_readType 80 = .ok (.ireturn, 1) := by decide +kernel
theorem dX6_readType_81 : decode cX6_readType 81 = .ok (.aload_n 1, 1) := by decide +kernel
theorem dX6_readType_82 : decode cX6_readType 82 = .ok (.aload_n 0, 1) := by decide +kernel
theorem dX6_readType_83 : decode cX6_readType 83 = .ok (.iconst 5, 1) := by decide +kernel
theorem dX6_readType_84 : decode cX6_readType 84 = .ok (.invokevirtual 104, 3) := by decide +kernel
theorem dX6_readType_87 : decode cX6_readType 87 = .ok (.putfield 248, 3) := by decide +kernel
theorem dX6_readType_90 : decode cX6_readType 90 = .ok (.aload_n 1, 1) := by decide +kernel
theorem dX6_readType_91 : decode cX6_readType 91 = .ok (.getfield 248, 3) := by decide +kernel
theorem dX6_readType_94 : decode cX6_readType 94 = .ok (.iconst (-1), 1) := by decide +kernel
theorem dX6_readType_95 : decode cX6_readType 95 = .ok (.if_icmp .ne 5, 3) := by decide +kernel
theorem dX6_readType_98 : decode cX6_readType 98 = .ok (.iconst 0, 1) := by decide +kernel
theorem dX6_readType_99 : decode cX6_readType 99 = .ok (.ireturn, 1) := by decide +kernel
theorem dX6_readType_100 : decode cX6_readType 100 = .ok (.aload_n 0, 1) := by decide +kernel
theorem dX6_readType_101 : decode cX6_readType 101 = .ok (.invokevirtual 87, 3) := by decide +kernel
theorem dX6_readType_104 : decode cX6_readType 104 = .ok (.iconst 1, 1) := by decide +kernel
theorem dX6_readType_105 : decode cX6_readType 105 = .ok (.ireturn, 1) := by decide +kernel
theorem dX4_open_0 : decode cX4_open 0 = .ok (.aload_n 0, 1) := by decide +kernel
theorem dX4_open_1 : decode cX4_open 1 = .ok (.aload_n 1, 1) := by decide +kernel
theorem dX4_open_2 : decode cX4_open 2 = .ok (.putfield 23, 3) := by decide +kernel
theorem dX4_open_5 : decode cX4_open 5 = .ok (.aload_n 0, 1) := by decide +kernel
theorem dX4_open_6 : decode cX4_open 6 = .ok (.iconst 0, 1) := by decide +kernel
theorem dX4_open_7 : decode cX4_open 7 = .ok (.putfield 27, 3) := by decide +kernel
theorem dX4_open_10 : decode cX4_open 10 = .ok (.aload_n 0, 1) := by decide +kernel
theorem dX4_open_11 : decode cX4_open 11 = .ok (.invokevirtual 31, 3) := by decide +kernel
theorem dX4_open_14 : decode cX4_open 14 = .ok (.iconst 0, 1) := by decide +kernel
theorem dX4_open_15 : decode cX4_open 15 = .ok (.istore_n 2, 1) := by decide +kernel
theorem dX4_open_16 : decode cX4_open 16 = .ok (.iload_n 2, 1) := by decide +kernel
theorem dX4_open_17 : decode cX4_open 17 = .ok (.aload_n 0, 1) := by decide +kernel
theorem dX4_open_18 : decode cX4_open 18 = .ok (.getfield 23, 3) := by decide +kernel
theorem dX4_open_21 : decode cX4_open 21 = .ok (.getfield 34, 3) := by decide +kernel
theorem dX4_open_24 : decode cX4_open 24 = .ok (.invokevirtual 40, 3) := by decide +kernel
theorem dX4_open_27 : decode cX4_open 27 = .ok (.if_icmp .ge 110, 3) := by decide +kernel
theorem dX4_open_30 : decode cX4_open 30 = .ok (.aload_n 0, 1) := by decide +kernel
theorem dX4_open_31 : decode cX4_open 31 = .ok (.aload_n 0, 1) := by decide +kernel
theorem dX4_open_32 : decode cX4_open 32 = .ok (.getfield 23, 3) := by decide +kernel
theorem dX4_open_35 : decode cX4_open 35 = .ok (.getfield 34, 3) := by decide +kernel
theorem dX4_open_38 : decode cX4_open 38 = .ok (.iload_n 2, 1) := by decide +kernel
theorem dX4_open_39 : decode cX4_open 39 = .ok (.invokevirtual 46, 3) := by decide +kernel
theorem dX4_open_42 : decode cX4_open 42 = .ok (.checkcast 50, 3) := by decide +kernel
theorem dX4_open_45 : decode cX4_open 45 = .ok (.putfield 52, 3) := by decide +kernel
theorem dX4_open_48 : decode cX4_open 48 = .ok (.aload_n 0, 1) := by decide +kernel
theorem dX4_open_49 : decode cX4_open 49 = .ok (.aload_n 0, 1) := by decide +kernel
theorem dX4_open_50 : decode cX4_open 50 = .ok (.getfield 52, 3) := by decide +kernel
theorem dX4_open_53 : decode cX4_open 53 = .ok (.getfield 56, 3) := by decide +kernel
theorem dX4_open_56 : decode cX4_open 56 = .ok (.iconst (-1), 1) := by decide +kernel
theorem dX4_open_57 : decode cX4_open 57 = .ok (.invokevirtual 60, 3) := by decide +kernel
theorem dX4_open_60 : decode cX4_open 60 = .ok (.aload_n 0, 1) := by decide +kernel
theorem dX4_open_61 : decode cX4_open 61 = .ok (.aload_n 0, 1) := by decide +kernel
theorem dX4_open_62 : decode cX4_open 62 = .ok (.getfield 64, 3) := by decide +kernel
theorem dX4_open_65 : decode cX4_open 65 = .ok (.getfield 67, 3) := by decide +kernel
theorem dX4_open_68 : decode cX4_open 68 = .ok (.iconst 0, 1) := by decide +kernel
theorem dX4_open_69 : decode cX4_open 69 = .ok (.invokevirtual 72, 3) := by decide +kernel
theorem dX4_open_72 : decode cX4_open 72 = .ok (.aload_n 0, 1) := by decide +kernel
theorem dX4_open_73 : decode cX4_open 73 = .ok (.getfield 52, 3) := by decide +kernel
theorem dX4_open_76 : decode cX4_open 76 = .ok (.getfield 76, 3) := by decide +kernel
theorem dX4_open_79 : decode cX4_open 79 = .ok (.istore_n 3, 1) := by decide +kernel
theorem dX4_open_80 : decode cX4_open 80 = .ok (.iload_n 3, 1) := by decide +kernel
theorem dX4_open_81 : decode cX4_open 81 = .ok (.aload_n 0, 1) := by decide +kernel
theorem dX4_open_82 : decode cX4_open 82 = .ok (.getfield 52, 3) := by decide +kernel
theorem dX4_open_85 : decode cX4_open 85 = .ok (.getfield 79, 3) := by decide +kernel
theorem dX4_open_88 : decode cX4_open 88 = .ok (.invokevirtual 40, 3) := by decide +kernel
theorem dX4_open_91 : decode cX4_open 91 = .ok (.if_icmp .ge 40, 3) := by decide +kernel
theorem dX4_open_94 : decode cX4_open 94 = .ok (.aload_n 0, 1) := by decide +kernel
theorem dX4_open_95 : decode cX4_open 95 = .ok (.aload_n 0, 1) := by decide +kernel
theorem dX4_open_96 : decode cX4_open 96 = .ok (.getfield 52, 3) := by decide +kernel
theorem dX4_open_99 : decode cX4_open 99 = .ok (.getfield 79, 3) := by decide +kernel
theorem dX4_open_102 : decode cX4_open 102 = .ok (.iload_n 3, 1) := by decide +kernel
theorem dX4_open_103 : decode cX4_open 103 = .ok (.invokevirtual 46, 3) := by decide +kernel
theorem dX4_open_106 : decode cX4_open 106 = .ok (.checkcast 68, 3) := by decide +kernel
theorem dX4_open_109 : decode cX4_open 109 = .ok (.iload_n 3, 1) := by decide +kernel
theorem dX4_open_110 : decode cX4_open 110 = .ok (.invokevirtual 60, 3) := by decide +kernel
theorem dX4_open_113 : decode cX4_open 113 = .ok (.aload_n 0, 1) := by decide +kernel
theorem dX4_open_114 : decode cX4_open 114 = .ok (.aload_n 0, 1) := by decide +kernel
theorem dX4_open_115 : decode cX4_open 115 = .ok (.getfield 64, 3) := by decide +kernel
theorem dX4_open_118 : decode cX4_open 118 = .ok (.getfield 67, 3) := by decide +kernel
theorem dX4_open_121 : decode cX4_open 121 = .ok (.iconst 0, 1) := by decide +kernel
theorem dX4_open_122 : decode cX4_open 122 = .ok (.invokevirtual 72, 3) := by decide +kernel
theorem dX4_open_125 : decode cX4_open 125 = .ok (.iinc 3 1, 3) := by decide +kernel
theorem dX4_open_128 : decode cX4_open 128 = .ok (.goto (-48), 3) := by decide +kernel
theorem dX4_open_131 : decode cX4_open 131 = .ok (.iinc 2 1, 3) := by decide +kernel
theorem dX4_open_134 : decode cX4_open 134 = .ok (.goto (-118), 3) := by decide +kernel
theorem dX4_open_137 : decode cX4_open 137 = .ok (.return_, 1) := by decide +kernel
theorem dX4_findReach_0 : decode cX4_findReach 0 = .ok (.aload_n 0, 1) := by decide +kernel
theorem dX4_findReach_1 : decode cX4_findReach 1 = .ok (.getfield 23, 3) := by decide +kernel
theorem dX4_findReach_4 : decode cX4_findReach 4 = .ok (.getfield 82, 3) := by decide +kernel
theorem dX4_findReach_7 : decode cX4_findReach 7 = .ok (.invokevirtual 40, 3) := by decide +kernel
theorem dX4_findReach_10 : decode cX4_findReach 10 = .ok (.bipush 16, 2) := by decide +kernel
theorem dX4_findReach_12 : decode cX4_findReach 12 = .ok (.invokestatic 85, 3) := by decide +kernel
theorem dX4_findReach_15 : decode cX4_findReach 15 = .ok (.istore_n 1, 1) := by decide +kernel
theorem dX4_findReach_16 : decode cX4_findReach 16 = .ok (.iconst 0, 1) := by decide +kernel
theorem dX4_findReach_17 : decode cX4_findReach 17 = .ok (.istore_n 2, 1) := by decide +kernel
theorem dX4_findReach_18 : decode cX4_findReach 18 = .ok (.iload_n 2, 1) := by decide +kernel
theorem dX4_findReach_19 : decode cX4_findReach 19 = .ok (.iload_n 1, 1) := by decide +kernel
theorem dX4_findReach_20 : decode cX4_findReach 20 = .ok (.if_icmp .ge 35, 3) := by decide +kernel
theorem dX4_findReach_23 : decode cX4_findReach 23 = .ok (.aload_n 0, 1) := by decide +kernel
theorem dX4_findReach_24 : decode cX4_findReach 24 = .ok (.getfield 16, 3) := by decide +kernel
theorem dX4_findReach_27 : decode cX4_findReach 27 = .ok (.iload_n 2, 1) := by decide +kernel
theorem dX4_findReach_28 : decode cX4_findReach 28 = .ok (.aload_n 0, 1) := by decide +kernel
theorem dX4_findReach_29 : decode cX4_findReach 29 = .ok (.getfield 23, 3) := by decide +kernel
theorem dX4_findReach_32 : decode cX4_findReach 32 = .ok (.getfield 82, 3) := by decide +kernel
theorem dX4_findReach_35 : decode cX4_findReach 35 = .ok (.iload_n 2, 1) := by decide +kernel
theorem dX4_findReach_36 : decode cX4_findReach 36 = .ok (.invokevirtual 46, 3) := by decide +kernel
theorem dX4_findReach_39 : decode cX4_findReach 39 = .ok (.checkcast 68, 3) := by decide +kernel
theorem dX4_findReach_42 : decode cX4_findReach 42 = .ok (.getfield 67, 3) := by decide +kernel
theorem dX4_findReach_45 : decode cX4_findReach 45 = .ok (.invokestatic 91, 3) := by decide +kernel
theorem dX4_findReach_48 : decode cX4_findReach 48 = .ok (.iastore, 1) := by decide +kernel
theorem dX4_findReach_49 : decode cX4_findReach 49 = .ok (.iinc 2 1, 3) := by decide +kernel
theorem dX4_findReach_52 : decode cX4_findReach 52 = .ok (.goto (-34), 3) := by decide +kernel
theorem dX4_findReach_55 : decode cX4_findReach 55 = .ok (.iconst 0, 1) := by decide +kernel
theorem dX4_findReach_56 : decode cX4_findReach 56 = .ok (.istore_n 2, 1) := by decide +kernel
theorem dX4_findReach_57 : decode cX4_findReach 57 = .ok (.iload_n 2, 1) := by decide +kernel
theorem dX4_findReach_58 : decode cX4_findReach 58 = .ok (.iload_n 1, 1) := by decide +kernel
theorem dX4_findReach_59 : decode cX4_findReach 59 = .ok (.if_icmp .ge 50, 3) := by decide +kernel
theorem dX4_findReach_62 : decode cX4_findReach 62 = .ok (.iconst 0, 1) := by decide +kernel
theorem dX4_findReach_63 : decode cX4_findReach 63 = .ok (.istore_n 3, 1) := by decide +kernel
theorem dX4_findReach_64 : decode cX4_findReach 64 = .ok (.iload_n 3, 1) := by decide +kernel
theorem dX4_findReach_65 : decode cX4_findReach 65 = .ok (.iload_n 1, 1) := by decide +kernel
theorem dX4_findReach_66 : decode cX4_findReach 66 = .ok (.if_icmp .ge 37, 3) := by decide +kernel
theorem dX4_findReach_69 : decode cX4_findReach 69 = .ok (.aload_n 0, 1) := by decide +kernel
theorem dX4_findReach_70 : decode cX4_findReach 70 = .ok (.getfield 16, 3) := by decide +kernel
theorem dX4_findReach_73 : decode cX4_findReach 73 = .ok (.iload_n 3, 1) := by decide +kernel
theorem dX4_findReach_74 : decode cX4_findReach 74 = .ok (.iaload, 1) := by decide +kernel
theorem dX4_findReach_75 : decode cX4_findReach 75 = .ok (.iconst 1, 1) := by decide +kernel
theorem dX4_findReach_76 : decode cX4_findReach 76 = .ok (.iload_n 2, 1) := by decide +kernel
theorem dX4_findReach_77 : decode cX4_findReach 77 = .ok (.ishl, 1) := by decide +kernel
theorem dX4_findReach_78 : decode cX4_findReach 78 = .ok (.iand, 1) := by decide +kernel
theorem dX4_findReach_79 : decode cX4_findReach 79 = .ok (.ifCond .eq 18, 3) := by decide +kernel
theorem dX4_findReach_82 : decode cX4_findReach 82 = .ok (.aload_n 0, 1) := by decide +kernel
theorem dX4_findReach_83 : decode cX4_findReach 83 = .ok (.getfield 16, 3) := by decide +kernel
theorem dX4_findReach_86 : decode cX4_findReach 86 = .ok (.iload_n 3, 1) := by decide +kernel
theorem dX4_findReach_87 : decode cX4_findReach 87 = .ok (.dup2, 1) := by decide +kernel
theorem dX4_findReach_88 : decode cX4_findReach 88 = .ok (.iaload, 1) := by decide +kernel
theorem dX4_findReach_89 : decode cX4_findReach 89 = .ok (.aload_n 0, 1) := by decide +kernel
theorem dX4_findReach_90 : decode cX4_findReach 90 = .ok (.getfield 16, 3) := by decide +kernel
theorem dX4_findReach_93 : decode cX4_findReach 93 = .ok (.iload_n 2, 1) := by decide +kernel
theorem dX4_findReach_94 : decode cX4_findReach 94 = .ok (.iaload, 1) := by decide +kernel
theorem dX4_findReach_95 : decode cX4_findReach 95 = .ok (.ior, 1) := by decide +kernel
theorem dX4_findReach_96 : decode cX4_findReach 96 = .ok (.iastore, 1) := by decide +kernel
theorem dX4_findReach_97 : decode cX4_findReach 97 = .ok (.iinc 3 1, 3) := by decide +kernel
theorem dX4_findReach_100 : decode cX4_findReach 100 = .ok (.goto (-36), 3) := by decide +kernel
theorem dX4_findReach_103 : decode cX4_findReach 103 = .ok (.iinc 2 1, 3) := by decide +kernel
theorem dX4_findReach_106 : decode cX4_findReach 106 = .ok (.goto (-49), 3) := by decide +kernel
theorem dX4_findReach_109 : decode cX4_findReach 109 = .ok (.return_, 1) := by decide +kernel
