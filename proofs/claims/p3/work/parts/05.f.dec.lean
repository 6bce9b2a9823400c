theorem dX12_correct_0 : decode cX12_correct 0 = .ok (.aload_n 0, 1) := by decide +kernel
theorem dX12_correct_1 : decode cX12_correct 1 = .ok (.getfield 530, 3) := by decide +kernel
theorem dX12_correct_4 : decode cX12_correct 4 = .ok (.ifCond .eq 10, 3) := by decide +kernel
theorem dX12_correct_7 : decode cX12_correct 7 = .ok (.aload_n 0, 1) := by decide +kernel
theorem dX12_correct_8 : decode cX12_correct 8 = .ok (.getfield 611, 3) := by decide +kernel
theorem dX12_correct_11 : decode cX12_correct 11 = .ok (.ifCond .eq 5, 3) := by decide +kernel
theorem dX12_correct_14 : decode cX12_correct 14 = .ok (.iconst (-1), 1) := by decide +kernel
theorem dX12_correct_15 : decode cX12_correct 15 = .ok (.ireturn, 1) := by decide +kernel
theorem dX12_correct_16 : decode cX12_correct 16 = .ok (.aload_n 0, 1) := by decide +kernel
theorem dX12_correct_17 : decode cX12_correct 17 = .ok (.iconst 1, 1) := by decide +kernel
theorem dX12_correct_18 : decode cX12_correct 18 = .ok (.putfield 611, 3) := by decide +kernel
theorem dX12_correct_21 : decode cX12_correct 21 = .ok (.iconst 0, 1) := by decide +kernel
theorem dX12_correct_22 : decode cX12_correct 22 = .ok (.istore_n 1, 1) := by decide +kernel
theorem dX12_correct_23 : decode cX12_correct 23 = .ok (.iconst 0, 1) := by decide +kernel
theorem dX12_correct_24 : decode cX12_correct 24 = .ok (.istore_n 2, 1) := by decide +kernel
theorem dX12_correct_25 : decode cX12_correct 25 = .ok (.iload_n 2, 1) := by decide +kernel
theorem dX12_correct_26 : decode cX12_correct 26 = .ok (.aload_n 0, 1) := by decide +kernel
theorem dX12_correct_27 : decode cX12_correct 27 = .ok (.invokevirtual 708, 3) := by decide +kernel
theorem dX12_correct_30 : decode cX12_correct 30 = .ok (.if_icmp .ge 161, 3) := by decide +kernel
theorem dX12_correct_33 : decode cX12_correct 33 = .ok (.aload_n 0, 1) := by decide +kernel
theorem dX12_correct_34 : decode cX12_correct 34 = .ok (.getfield 385, 3) := by decide +kernel
theorem dX12_correct_37 : decode cX12_correct 37 = .ok (.iload_n 2, 1) := by decide +kernel
theorem dX12_correct_38 : decode cX12_correct 38 = .ok (.baload, 1) := by decide +kernel
theorem dX12_correct_39 : decode cX12_correct 39 = .ok (.istore_n 3, 1) := by decide +kernel
theorem dX12_correct_40 : decode cX12_correct 40 = .ok (.iconst 0, 1) := by decide +kernel
theorem dX12_correct_41 : decode cX12_correct 41 = .ok (.istore 4, 2) := by decide +kernel
theorem dX12_correct_43 : decode cX12_correct 43 = .ok (.iload_n 3, 1) := by decide +kernel
theorem dX12_correct_44 : decode cX12_correct 44 = .ok (.ifCond .eq 63, 3) := by decide +kernel
theorem dX12_correct_47 : decode cX12_correct 47 = .ok (.iload 4, 2) := by decide +kernel
theorem dX12_correct_49 : decode cX12_correct 49 = .ok (.iload_n 2, 1) := by decide +kernel
theorem dX12_correct_50 : decode cX12_correct 50 = .ok (.if_icmp .ge 57, 3) := by decide +kernel
theorem dX12_correct_53 : decode cX12_correct 53 = .ok (.aload_n 0, 1) := by decide +kernel
theorem dX12_correct_54 : decode cX12_correct 54 = .ok (.getfield 385, 3) := by decide +kernel
theorem dX12_correct_57 : decode cX12_correct 57 = .ok (.iload 4, 2) := by decide +kernel
theorem dX12_correct_59 : decode cX12_correct 59 = .ok (.baload, 1) := by decide +kernel
theorem dX12_correct_60 : decode cX12_correct 60 = .ok (.ifCond .eq 35, 3) := by decide +kernel
theorem dX12_correct_63 : decode cX12_correct 63 = .ok (.aload_n 0, 1) := by decide +kernel
theorem dX12_correct_64 : decode cX12_correct 64 = .ok (.getfield 364, 3) := by decide +kernel
theorem dX12_correct_67 : decode cX12_correct 67 = .ok (.iload 4, 2) := by decide +kernel
theorem dX12_correct_69 : decode cX12_correct 69 = .ok (.iaload, 1) := by decide +kernel
theorem dX12_correct_70 : decode cX12_correct 70 = .ok (.aload_n 0, 1) := by decide +kernel
theorem dX12_correct_71 : decode cX12_correct 71 = .ok (.getfield 364, 3) := by decide +kernel
theorem dX12_correct_74 : decode cX12_correct 74 = .ok (.iload_n 2, 1) := by decide +kernel
theorem dX12_correct_75 : decode cX12_correct 75 = .ok (.iaload, 1) := by decide +kernel
theorem dX12_correct_76 : decode cX12_correct 76 = .ok (.if_icmp .ne 19, 3) := by decide +kernel
theorem dX12_correct_79 : decode cX12_correct 79 = .ok (.aload_n 0, 1) := by decide +kernel
theorem dX12_correct_80 : decode cX12_correct 80 = .ok (.getfield 367, 3) := by decide +kernel
theorem dX12_correct_83 : decode cX12_correct 83 = .ok (.iload 4, 2) := by decide +kernel
theorem dX12_correct_85 : decode cX12_correct 85 = .ok (.iaload, 1) := by decide +kernel
theorem dX12_correct_86 : decode cX12_correct 86 = .ok (.aload_n 0, 1) := by decide +kernel
theorem dX12_correct_87 : decode cX12_correct 87 = .ok (.getfield 367, 3) := by decide +kernel
theorem dX12_correct_90 : decode cX12_correct 90 = .ok (.iload_n 2, 1) := by decide +kernel
theorem dX12_correct_91 : decode cX12_correct 91 = .ok (.iaload, 1) := by decide +kernel
theorem dX12_correct_92 : decode cX12_correct 92 = .ok (.if_icmp .eq 7, 3) := by decide +kernel
theorem dX12_correct_95 : decode cX12_correct 95 = .ok (.iconst 1, 1) := by decide +kernel
theorem dX12_correct_96 : decode cX12_correct 96 = .ok (.goto 4, 3) := by decide +kernel
theorem dX12_correct_99 : decode cX12_correct 99 = .ok (.iconst 0, 1) := by decide +kernel
theorem dX12_correct_100 : decode cX12_correct 100 = .ok (.istore_n 3, 1) := by decide +kernel
theorem dX12_correct_101 : decode cX12_correct 101 = .ok (.iinc 4 1, 3) := by decide +kernel
theorem dX12_correct_104 : decode cX12_correct 104 = .ok (.goto (-61), 3) := by decide +kernel
theorem dX12_correct_107 : decode cX12_correct 107 = .ok (.iload_n 3, 1) := by decide +kernel
theorem dX12_correct_108 : decode cX12_correct 108 = .ok (.ifCond .eq 77, 3) := by decide +kernel
theorem dX12_correct_111 : decode cX12_correct 111 = .ok (.aload_n 0, 1) := by decide +kernel
theorem dX12_correct_112 : decode cX12_correct 112 = .ok (.aload_n 0, 1) := by decide +kernel
theorem dX12_correct_113 : decode cX12_correct 113 = .ok (.getfield 364, 3) := by decide +kernel
theorem dX12_correct_116 : decode cX12_correct 116 = .ok (.iload_n 2, 1) := by decide +kernel
theorem dX12_correct_117 : decode cX12_correct 117 = .ok (.iaload, 1) := by decide +kernel
theorem dX12_correct_118 : decode cX12_correct 118 = .ok (.aload_n 0, 1) := by decide +kernel
theorem dX12_correct_119 : decode cX12_correct 119 = .ok (.getfield 367, 3) := by decide +kernel
theorem dX12_correct_122 : decode cX12_correct 122 = .ok (.iload_n 2, 1) := by decide +kernel
theorem dX12_correct_123 : decode cX12_correct 123 = .ok (.iaload, 1) := by decide +kernel
theorem dX12_correct_124 : decode cX12_correct 124 = .ok (.invokevirtual 711, 3) := by decide +kernel
theorem dX12_correct_127 : decode cX12_correct 127 = .ok (.ifCond .eq 6, 3) := by decide +kernel
theorem dX12_correct_130 : decode cX12_correct 130 = .ok (.goto 55, 3) := by decide +kernel
theorem dX12_correct_133 : decode cX12_correct 133 = .ok (.aload_n 0, 1) := by decide +kernel
theorem dX12_correct_134 : decode cX12_correct 134 = .ok (.getfield 318, 3) := by decide +kernel
theorem dX12_correct_137 : decode cX12_correct 137 = .ok (.bipush 12, 2) := by decide +kernel
theorem dX12_correct_139 : decode cX12_correct 139 = .ok (.aload_n 0, 1) := by decide +kernel
theorem dX12_correct_140 : decode cX12_correct 140 = .ok (.getfield 364, 3) := by decide +kernel
theorem dX12_correct_143 : decode cX12_correct 143 = .ok (.iload_n 2, 1) := by decide +kernel
theorem dX12_correct_144 : decode cX12_correct 144 = .ok (.iaload, 1) := by decide +kernel
theorem dX12_correct_145 : decode cX12_correct 145 = .ok (.imul, 1) := by decide +kernel
theorem dX12_correct_146 : decode cX12_correct 146 = .ok (.aload_n 0, 1) := by decide +kernel
theorem dX12_correct_147 : decode cX12_correct 147 = .ok (.getfield 367, 3) := by decide +kernel
theorem dX12_correct_150 : decode cX12_correct 150 = .ok (.iload_n 2, 1) := by decide +kernel
theorem dX12_correct_151 : decode cX12_correct 151 = .ok (.iaload, 1) := by decide +kernel
theorem dX12_correct_152 : decode cX12_correct 152 = .ok (.iadd, 1) := by decide +kernel
theorem dX12_correct_153 : decode cX12_correct 153 = .ok (.aload_n 0, 1) := by decide +kernel
theorem dX12_correct_154 : decode cX12_correct 154 = .ok (.getfield 379, 3) := by decide +kernel
theorem dX12_correct_157 : decode cX12_correct 157 = .ok (.iload_n 2, 1) := by decide +kernel
theorem dX12_correct_158 : decode cX12_correct 158 = .ok (.iaload, 1) := by decide +kernel
theorem dX12_correct_159 : decode cX12_correct 159 = .ok (.iastore, 1) := by decide +kernel
theorem dX12_correct_160 : decode cX12_correct 160 = .ok (.aload_n 0, 1) := by decide +kernel
theorem dX12_correct_161 : decode cX12_correct 161 = .ok (.getfield 334, 3) := by decide +kernel
theorem dX12_correct_164 : decode cX12_correct 164 = .ok (.bipush 12, 2) := by decide +kernel
theorem dX12_correct_166 : decode cX12_correct 166 = .ok (.aload_n 0, 1) := by decide +kernel
theorem dX12_correct_167 : decode cX12_correct 167 = .ok (.getfield 364, 3) := by decide +kernel
theorem dX12_correct_170 : decode cX12_correct 170 = .ok (.iload_n 2, 1) := by decide +kernel
theorem dX12_correct_171 : decode cX12_correct 171 = .ok (.iaload, 1) := by decide +kernel
theorem dX12_correct_172 : decode cX12_correct 172 = .ok (.imul, 1) := by decide +kernel
theorem dX12_correct_173 : decode cX12_correct 173 = .ok (.aload_n 0, 1) := by decide +kernel
theorem dX12_correct_174 : decode cX12_correct 174 = .ok (.getfield 367, 3) := by decide +kernel
theorem dX12_correct_177 : decode cX12_correct 177 = .ok (.iload_n 2, 1) := by decide +kernel
theorem dX12_correct_178 : decode cX12_correct 178 = .ok (.iaload, 1) := by decide +kernel
theorem dX12_correct_179 : decode cX12_correct 179 = .ok (.iadd, 1) := by decide +kernel
theorem dX12_correct_180 : decode cX12_correct 180 = .ok (.iconst 1, 1) := by decide +kernel
theorem dX12_correct_181 : decode cX12_correct 181 = .ok (.bastore, 1) := by decide +kernel
theorem dX12_correct_182 : decode cX12_correct 182 = .ok (.iinc 1 1, 3) := by decide +kernel
theorem dX12_correct_185 : decode cX12_correct 185 = .ok (.iinc 2 1, 3) := by decide +kernel
theorem dX12_correct_188 : decode cX12_correct 188 = .ok (.goto (-163), 3) := by decide +kernel
theorem dX12_correct_191 : decode cX12_correct 191 = .ok (.iload_n 1, 1) := by decide +kernel
theorem dX12_correct_192 : decode cX12_correct 192 = .ok (.ireturn, 1) := by decide +kernel
theorem dX12_feed_0 : decode cX12_feed 0 = .ok (.aload_n 0, 1) := by decide +kernel
theorem dX12_feed_1 : decode cX12_feed 1 = .ok (.getfield 512, 3) := by decide +kernel
theorem dX12_feed_4 : decode cX12_feed 4 = .ok (.bipush 20, 2) := by decide +kernel
theorem dX12_feed_6 : decode cX12_feed 6 = .ok (.iadd, 1) := by decide +kernel
theorem dX12_feed_7 : decode cX12_feed 7 = .ok (.sipush 3000, 3) := by decide +kernel
theorem dX12_feed_10 : decode cX12_feed 10 = .ok (.if_icmp .le 5, 3) := by decide +kernel
theorem dX12_feed_13 : decode cX12_feed 13 = .ok (.iconst (-1), 1) := by decide +kernel
theorem dX12_feed_14 : decode cX12_feed 14 = .ok (.ireturn, 1) := by decide +kernel
theorem dX12_feed_15 : decode cX12_feed 15 = .ok (.iconst 0, 1) := by decide +kernel
theorem dX12_feed_16 : decode cX12_feed 16 = .ok (.istore 6, 2) := by decide +kernel
theorem dX12_feed_18 : decode cX12_feed 18 = .ok (.iload 6, 2) := by decide +kernel
theorem dX12_feed_20 : decode cX12_feed 20 = .ok (.bipush 20, 2) := by decide +kernel
theorem dX12_feed_22 : decode cX12_feed 22 = .ok (.if_icmp .ge 83, 3) := by decide +kernel
theorem dX12_feed_25 : decode cX12_feed 25 = .ok (.iload 6, 2) := by decide +kernel
theorem dX12_feed_27 : decode cX12_feed 27 = .ok (.iconst 4, 1) := by decide +kernel
theorem dX12_feed_28 : decode cX12_feed 28 = .ok (.if_icmp .ge 7, 3) := by decide +kernel
theorem dX12_feed_31 : decode cX12_feed 31 = .ok (.iload_n 1, 1) := by decide +kernel
theorem dX12_feed_32 : decode cX12_feed 32 = .ok (.goto 39, 3) := by decide +kernel
theorem dX12_feed_35 : decode cX12_feed 35 = .ok (.iload 6, 2) := by decide +kernel
theorem dX12_feed_37 : decode cX12_feed 37 = .ok (.bipush 8, 2) := by decide +kernel
theorem dX12_feed_39 : decode cX12_feed 39 = .ok (.if_icmp .ge 7, 3) := by decide +kernel
theorem dX12_feed_42 : decode cX12_feed 42 = .ok (.iload_n 2, 1) := by decide +kernel
theorem dX12_feed_43 : decode cX12_feed 43 = .ok (.goto 28, 3) := by decide +kernel
theorem dX12_feed_46 : decode cX12_feed 46 = .ok (.iload 6, 2) := by decide +kernel
theorem dX12_feed_48 : decode cX12_feed 48 = .ok (.bipush 12, 2) := by decide +kernel
theorem dX12_feed_50 : decode cX12_feed 50 = .ok (.if_icmp .ge 7, 3) := by decide +kernel
theorem dX12_feed_53 : decode cX12_feed 53 = .ok (.iload_n 3, 1) := by decide +kernel
theorem dX12_feed_54 : decode cX12_feed 54 = .ok (.goto 17, 3) := by decide +kernel
theorem dX12_feed_57 : decode cX12_feed 57 = .ok (.iload 6, 2) := by decide +kernel
theorem dX12_feed_59 : decode cX12_feed 59 = .ok (.bipush 16, 2) := by decide +kernel
theorem dX12_feed_61 : decode cX12_feed 61 = .ok (.if_icmp .ge 8, 3) := by decide +kernel
theorem dX12_feed_64 : decode cX12_feed 64 = .ok (.iload 4, 2) := by decide +kernel
theorem dX12_feed_66 : decode cX12_feed 66 = .ok (.goto 5, 3) := by decide +kernel
theorem dX12_feed_69 : decode cX12_feed 69 = .ok (.iload 5, 2) := by decide +kernel
theorem dX12_feed_71 : decode cX12_feed 71 = .ok (.istore 7, 2) := by decide +kernel
theorem dX12_feed_73 : decode cX12_feed 73 = .ok (.aload_n 0, 1) := by decide +kernel
theorem dX12_feed_74 : decode cX12_feed 74 = .ok (.getfield 135, 3) := by decide +kernel
theorem dX12_feed_77 : decode cX12_feed 77 = .ok (.aload_n 0, 1) := by decide +kernel
theorem dX12_feed_78 : decode cX12_feed 78 = .ok (.getfield 512, 3) := by decide +kernel
theorem dX12_feed_81 : decode cX12_feed 81 = .ok (.iload 6, 2) := by decide +kernel
theorem dX12_feed_83 : decode cX12_feed 83 = .ok (.iadd, 1) := by decide +kernel
theorem dX12_feed_84 : decode cX12_feed 84 = .ok (.iload 7, 2) := by decide +kernel
theorem dX12_feed_86 : decode cX12_feed 86 = .ok (.bipush 24, 2) := by decide +kernel
theorem dX12_feed_88 : decode cX12_feed 88 = .ok (.bipush 8, 2) := by decide +kernel
theorem dX12_feed_90 : decode cX12_feed 90 = .ok (.iload 6, 2) := by decide +kernel
theorem dX12_feed_92 : decode cX12_feed 92 = .ok (.iconst 3, 1) := by decide +kernel
theorem dX12_feed_93 : decode cX12_feed 93 = .ok (.iand, 1) := by decide +kernel
theorem dX12_feed_94 : decode cX12_feed 94 = .ok (.imul, 1) := by decide +kernel
theorem dX12_feed_95 : decode cX12_feed 95 = .ok (.isub, 1) := by decide +kernel
theorem dX12_feed_96 : decode cX12_feed 96 = .ok (.ishr, 1) := by decide +kernel
theorem dX12_feed_97 : decode cX12_feed 97 = .ok (.i2b, 1) := by decide +kernel
theorem dX12_feed_98 : decode cX12_feed 98 = .ok (.bastore, 1) := by decide +kernel
theorem dX12_feed_99 : decode cX12_feed 99 = .ok (.iinc 6 1, 3) := by decide +kernel
theorem dX12_feed_102 : decode cX12_feed 102 = .ok (.goto (-84), 3) := by decide +kernel
theorem dX12_feed_105 : decode cX12_feed 105 = .ok (.aload_n 0, 1) := by decide +kernel
theorem dX12_feed_106 : decode cX12_feed 106 = .ok (.dup, 1) := by decide +kernel
theorem dX12_feed_107 : decode cX12_feed 107 = .ok (.getfield 512, 3) := by decide +kernel
theorem dX12_feed_110 : decode cX12_feed 110 = .ok (.bipush 20, 2) := by decide +kernel
theorem dX12_feed_112 : decode cX12_feed 112 = .ok (.iadd, 1) := by decide +kernel
theorem dX12_feed_113 : decode cX12_feed 113 = .ok (.putfield 512, 3) := by decide +kernel
theorem dX12_feed_116 : decode cX12_feed 116 = .ok (.aload_n 0, 1) := by decide +kernel
theorem dX12_feed_117 : decode cX12_feed 117 = .ok (.getfield 512, 3) := by decide +kernel
theorem dX12_feed_120 : decode cX12_feed 120 = .ok (.ireturn, 1) := by decide +kernel
theorem dX12_end_0 : decode cX12_end 0 = .ok (.iload_n 1, 1) := by decide +kernel
theorem dX12_end_1 : decode cX12_end 1 = .ok (.ifCond .lt 11, 3) := by decide +kernel
theorem dX12_end_4 : decode cX12_end 4 = .ok (.iload_n 1, 1) := by decide +kernel
theorem dX12_end_5 : decode cX12_end 5 = .ok (.aload_n 0, 1) := by decide +kernel
theorem dX12_end_6 : decode cX12_end 6 = .ok (.getfield 512, 3) := by decide +kernel
theorem dX12_end_9 : decode cX12_end 9 = .ok (.if_icmp .le 5, 3) := by decide +kernel
theorem dX12_end_12 : decode cX12_end 12 = .ok (.iconst (-1), 1) := by decide +kernel
theorem dX12_end_13 : decode cX12_end 13 = .ok (.ireturn, 1) := by decide +kernel
theorem dX12_end_14 : decode cX12_end 14 = .ok (.aload_n 0, 1) := by decide +kernel
theorem dX12_end_15 : decode cX12_end 15 = .ok (.iload_n 1, 1) := by decide +kernel
theorem dX12_end_16 : decode cX12_end 16 = .ok (.putfield 512, 3) := by decide +kernel
theorem dX12_end_19 : decode cX12_end 19 = .ok (.iload_n 1, 1) := by decide +kernel
theorem dX12_end_20 : decode cX12_end 20 = .ok (.ireturn, 1) := by decide +kernel
