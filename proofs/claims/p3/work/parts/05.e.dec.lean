theorem dX12_askOne_0 : decode cX12_askOne 0 = .ok (.aload_n 0, 1) := by decide +kernel
theorem dX12_askOne_1 : decode cX12_askOne 1 = .ok (.getfield 266, 3) := by decide +kernel
theorem dX12_askOne_4 : decode cX12_askOne 4 = .ok (.iload_n 3, 1) := by decide +kernel
theorem dX12_askOne_5 : decode cX12_askOne 5 = .ok (.iaload, 1) := by decide +kernel
theorem dX12_askOne_6 : decode cX12_askOne 6 = .ok (.istore 4, 2) := by decide +kernel
theorem dX12_askOne_8 : decode cX12_askOne 8 = .ok (.aload_n 0, 1) := by decide +kernel
theorem dX12_askOne_9 : decode cX12_askOne 9 = .ok (.iconst 0, 1) := by decide +kernel
theorem dX12_askOne_10 : decode cX12_askOne 10 = .ok (.putfield 654, 3) := by decide +kernel
theorem dX12_askOne_13 : decode cX12_askOne 13 = .ok (.aload_n 0, 1) := by decide +kernel
theorem dX12_askOne_14 : decode cX12_askOne 14 = .ok (.dup, 1) := by decide +kernel
theorem dX12_askOne_15 : decode cX12_askOne 15 = .ok (.getfield 620, 3) := by decide +kernel
theorem dX12_askOne_18 : decode cX12_askOne 18 = .ok (.iconst 1, 1) := by decide +kernel
theorem dX12_askOne_19 : decode cX12_askOne 19 = .ok (.iadd, 1) := by decide +kernel
theorem dX12_askOne_20 : decode cX12_askOne 20 = .ok (.putfield 620, 3) := by decide +kernel
theorem dX12_askOne_23 : decode cX12_askOne 23 = .ok (.iload 4, 2) := by decide +kernel
theorem dX12_askOne_25 : decode cX12_askOne 25 = .ok (.bipush 100, 2) := by decide +kernel
theorem dX12_askOne_27 : decode cX12_askOne 27 = .ok (.if_icmp .lt 30, 3) := by decide +kernel
theorem dX12_askOne_30 : decode cX12_askOne 30 = .ok (.aload_n 0, 1) := by decide +kernel
theorem dX12_askOne_31 : decode cX12_askOne 31 = .ok (.iload 4, 2) := by decide +kernel
theorem dX12_askOne_33 : decode cX12_askOne 33 = .ok (.bipush 100, 2) := by decide +kernel
theorem dX12_askOne_35 : decode cX12_askOne 35 = .ok (.isub, 1) := by decide +kernel
theorem dX12_askOne_36 : decode cX12_askOne 36 = .ok (.invokevirtual 657, 3) := by decide +kernel
theorem dX12_askOne_39 : decode cX12_askOne 39 = .ok (.ifCond .ne 4, 3) := by decide +kernel
theorem dX12_askOne_42 : decode cX12_askOne 42 = .ok (.return_, 1) := by decide +kernel
theorem dX12_askOne_43 : decode cX12_askOne 43 = .ok (.aload_n 0, 1) := by decide +kernel
theorem dX12_askOne_44 : decode cX12_askOne 44 = .ok (.getfield 340, 3) := by decide +kernel
theorem dX12_askOne_47 : decode cX12_askOne 47 = .ok (.iload 4, 2) := by decide +kernel
theorem dX12_askOne_49 : decode cX12_askOne 49 = .ok (.bipush 100, 2) := by decide +kernel
theorem dX12_askOne_51 : decode cX12_askOne 51 = .ok (.isub, 1) := by decide +kernel
theorem dX12_askOne_52 : decode cX12_askOne 52 = .ok (.dup2, 1) := by decide +kernel
theorem dX12_askOne_53 : decode cX12_askOne 53 = .ok (.iaload, 1) := by decide +kernel
theorem dX12_askOne_54 : decode cX12_askOne 54 = .ok (.iconst 1, 1) := by decide +kernel
theorem dX12_askOne_55 : decode cX12_askOne 55 = .ok (.iadd, 1) := by decide +kernel
theorem dX12_askOne_56 : decode cX12_askOne 56 = .ok (.iastore, 1) := by decide +kernel
theorem dX12_askOne_57 : decode cX12_askOne 57 = .ok (.aload_n 0, 1) := by decide +kernel
theorem dX12_askOne_58 : decode cX12_askOne 58 = .ok (.iload_n 1, 1) := by decide +kernel
theorem dX12_askOne_59 : decode cX12_askOne 59 = .ok (.iload_n 2, 1) := by decide +kernel
theorem dX12_askOne_60 : decode cX12_askOne 60 = .ok (.iload_n 3, 1) := by decide +kernel
theorem dX12_askOne_61 : decode cX12_askOne 61 = .ok (.invokevirtual 660, 3) := by decide +kernel
theorem dX12_askOne_64 : decode cX12_askOne 64 = .ok (.ifCond .eq 4, 3) := by decide +kernel
theorem dX12_askOne_67 : decode cX12_askOne 67 = .ok (.return_, 1) := by decide +kernel
theorem dX12_askOne_68 : decode cX12_askOne 68 = .ok (.aload_n 0, 1) := by decide +kernel
theorem dX12_askOne_69 : decode cX12_askOne 69 = .ok (.getfield 269, 3) := by decide +kernel
theorem dX12_askOne_72 : decode cX12_askOne 72 = .ok (.iload_n 3, 1) := by decide +kernel
theorem dX12_askOne_73 : decode cX12_askOne 73 = .ok (.iaload, 1) := by decide +kernel
theorem dX12_askOne_74 : decode cX12_askOne 74 = .ok (.ifCond .ne 13, 3) := by decide +kernel
theorem dX12_askOne_77 : decode cX12_askOne 77 = .ok (.aload_n 0, 1) := by decide +kernel
theorem dX12_askOne_78 : decode cX12_askOne 78 = .ok (.dup, 1) := by decide +kernel
theorem dX12_askOne_79 : decode cX12_askOne 79 = .ok (.getfield 617, 3) := by decide +kernel
theorem dX12_askOne_82 : decode cX12_askOne 82 = .ok (.iconst 1, 1) := by decide +kernel
theorem dX12_askOne_83 : decode cX12_askOne 83 = .ok (.iadd, 1) := by decide +kernel
theorem dX12_askOne_84 : decode cX12_askOne 84 = .ok (.putfield 617, 3) := by decide +kernel
theorem dX12_askOne_87 : decode cX12_askOne 87 = .ok (.aload_n 0, 1) := by decide +kernel
theorem dX12_askOne_88 : decode cX12_askOne 88 = .ok (.getfield 534, 3) := by decide +kernel
theorem dX12_askOne_91 : decode cX12_askOne 91 = .ok (.sipush 500, 3) := by decide +kernel
theorem dX12_askOne_94 : decode cX12_askOne 94 = .ok (.if_icmp .ge 10, 3) := by decide +kernel
theorem dX12_askOne_97 : decode cX12_askOne 97 = .ok (.aload_n 0, 1) := by decide +kernel
theorem dX12_askOne_98 : decode cX12_askOne 98 = .ok (.iload_n 1, 1) := by decide +kernel
theorem dX12_askOne_99 : decode cX12_askOne 99 = .ok (.iload_n 2, 1) := by decide +kernel
theorem dX12_askOne_100 : decode cX12_askOne 100 = .ok (.iload_n 3, 1) := by decide +kernel
theorem dX12_askOne_101 : decode cX12_askOne 101 = .ok (.invokevirtual 663, 3) := by decide +kernel
theorem dX12_askOne_104 : decode cX12_askOne 104 = .ok (.aload_n 0, 1) := by decide +kernel
theorem dX12_askOne_105 : decode cX12_askOne 105 = .ok (.dup, 1) := by decide +kernel
theorem dX12_askOne_106 : decode cX12_askOne 106 = .ok (.getfield 534, 3) := by decide +kernel
theorem dX12_askOne_109 : decode cX12_askOne 109 = .ok (.iconst 1, 1) := by decide +kernel
theorem dX12_askOne_110 : decode cX12_askOne 110 = .ok (.iadd, 1) := by decide +kernel
theorem dX12_askOne_111 : decode cX12_askOne 111 = .ok (.putfield 534, 3) := by decide +kernel
theorem dX12_askOne_114 : decode cX12_askOne 114 = .ok (.return_, 1) := by decide +kernel
theorem dX12_isThere_0 : decode cX12_isThere 0 = .ok (.aload_n 0, 1) := by decide +kernel
theorem dX12_isThere_1 : decode cX12_isThere 1 = .ok (.aload_n 0, 1) := by decide +kernel
theorem dX12_isThere_2 : decode cX12_isThere 2 = .ok (.getfield 315, 3) := by decide +kernel
theorem dX12_isThere_5 : decode cX12_isThere 5 = .ok (.iload_n 1, 1) := by decide +kernel
theorem dX12_isThere_6 : decode cX12_isThere 6 = .ok (.iaload, 1) := by decide +kernel
theorem dX12_isThere_7 : decode cX12_isThere 7 = .ok (.iload_n 2, 1) := by decide +kernel
theorem dX12_isThere_8 : decode cX12_isThere 8 = .ok (.invokevirtual 569, 3) := by decide +kernel
theorem dX12_isThere_11 : decode cX12_isThere 11 = .ok (.iconst 2, 1) := by decide +kernel
theorem dX12_isThere_12 : decode cX12_isThere 12 = .ok (.if_icmp .ne 25, 3) := by decide +kernel
theorem dX12_isThere_15 : decode cX12_isThere 15 = .ok (.aload_n 0, 1) := by decide +kernel
theorem dX12_isThere_16 : decode cX12_isThere 16 = .ok (.getfield 327, 3) := by decide +kernel
theorem dX12_isThere_19 : decode cX12_isThere 19 = .ok (.bipush 12, 2) := by decide +kernel
theorem dX12_isThere_21 : decode cX12_isThere 21 = .ok (.iload_n 1, 1) := by decide +kernel
theorem dX12_isThere_22 : decode cX12_isThere 22 = .ok (.imul, 1) := by decide +kernel
theorem dX12_isThere_23 : decode cX12_isThere 23 = .ok (.iload_n 2, 1) := by decide +kernel
theorem dX12_isThere_24 : decode cX12_isThere 24 = .ok (.iadd, 1) := by decide +kernel
theorem dX12_isThere_25 : decode cX12_isThere 25 = .ok (.iaload, 1) := by decide +kernel
theorem dX12_isThere_26 : decode cX12_isThere 26 = .ok (.ifCond .le 7, 3) := by decide +kernel
theorem dX12_isThere_29 : decode cX12_isThere 29 = .ok (.iconst 1, 1) := by decide +kernel
theorem dX12_isThere_30 : decode cX12_isThere 30 = .ok (.goto 18, 3) := by decide +kernel
theorem dX12_isThere_33 : decode cX12_isThere 33 = .ok (.iconst 0, 1) := by decide +kernel
theorem dX12_isThere_34 : decode cX12_isThere 34 = .ok (.goto 14, 3) := by decide +kernel
theorem dX12_isThere_37 : decode cX12_isThere 37 = .ok (.aload_n 0, 1) := by decide +kernel
theorem dX12_isThere_38 : decode cX12_isThere 38 = .ok (.getfield 334, 3) := by decide +kernel
theorem dX12_isThere_41 : decode cX12_isThere 41 = .ok (.bipush 12, 2) := by decide +kernel
theorem dX12_isThere_43 : decode cX12_isThere 43 = .ok (.iload_n 1, 1) := by decide +kernel
theorem dX12_isThere_44 : decode cX12_isThere 44 = .ok (.imul, 1) := by decide +kernel
theorem dX12_isThere_45 : decode cX12_isThere 45 = .ok (.iload_n 2, 1) := by decide +kernel
theorem dX12_isThere_46 : decode cX12_isThere 46 = .ok (.iadd, 1) := by decide +kernel
theorem dX12_isThere_47 : decode cX12_isThere 47 = .ok (.baload, 1) := by decide +kernel
theorem dX12_isThere_48 : decode cX12_isThere 48 = .ok (.ireturn, 1) := by decide +kernel
theorem dX12_holds_0 : decode cX12_holds 0 = .ok (.aload_n 0, 1) := by decide +kernel
theorem dX12_holds_1 : decode cX12_holds 1 = .ok (.getfield 266, 3) := by decide +kernel
theorem dX12_holds_4 : decode cX12_holds 4 = .ok (.iload_n 3, 1) := by decide +kernel
theorem dX12_holds_5 : decode cX12_holds 5 = .ok (.iaload, 1) := by decide +kernel
theorem dX12_holds_6 : decode cX12_holds 6 = .ok (.istore 4, 2) := by decide +kernel
theorem dX12_holds_8 : decode cX12_holds 8 = .ok (.iload 4, 2) := by decide +kernel
theorem dX12_holds_10 : decode cX12_holds 10 = .ok (.bipush 7, 2) := by decide +kernel
theorem dX12_holds_12 : decode cX12_holds 12 = .ok (.if_icmp .ne 27, 3) := by decide +kernel
theorem dX12_holds_15 : decode cX12_holds 15 = .ok (.aload_n 0, 1) := by decide +kernel
theorem dX12_holds_16 : decode cX12_holds 16 = .ok (.iload_n 1, 1) := by decide +kernel
theorem dX12_holds_17 : decode cX12_holds 17 = .ok (.aload_n 0, 1) := by decide +kernel
theorem dX12_holds_18 : decode cX12_holds 18 = .ok (.getfield 288, 3) := by decide +kernel
theorem dX12_holds_21 : decode cX12_holds 21 = .ok (.iconst 4, 1) := by decide +kernel
theorem dX12_holds_22 : decode cX12_holds 22 = .ok (.iload_n 3, 1) := by decide +kernel
theorem dX12_holds_23 : decode cX12_holds 23 = .ok (.imul, 1) := by decide +kernel
theorem dX12_holds_24 : decode cX12_holds 24 = .ok (.iaload, 1) := by decide +kernel
theorem dX12_holds_25 : decode cX12_holds 25 = .ok (.aload_n 0, 1) := by decide +kernel
theorem dX12_holds_26 : decode cX12_holds 26 = .ok (.getfield 288, 3) := by decide +kernel
theorem dX12_holds_29 : decode cX12_holds 29 = .ok (.iconst 4, 1) := by decide +kernel
theorem dX12_holds_30 : decode cX12_holds 30 = .ok (.iload_n 3, 1) := by decide +kernel
theorem dX12_holds_31 : decode cX12_holds 31 = .ok (.imul, 1) := by decide +kernel
theorem dX12_holds_32 : decode cX12_holds 32 = .ok (.iconst 1, 1) := by decide +kernel
theorem dX12_holds_33 : decode cX12_holds 33 = .ok (.iadd, 1) := by decide +kernel
theorem dX12_holds_34 : decode cX12_holds 34 = .ok (.iaload, 1) := by decide +kernel
theorem dX12_holds_35 : decode cX12_holds 35 = .ok (.invokevirtual 666, 3) := by decide +kernel
theorem dX12_holds_38 : decode cX12_holds 38 = .ok (.ireturn, 1) := by decide +kernel
theorem dX12_holds_39 : decode cX12_holds 39 = .ok (.iload 4, 2) := by decide +kernel
theorem dX12_holds_41 : decode cX12_holds 41 = .ok (.bipush 8, 2) := by decide +kernel
theorem dX12_holds_43 : decode cX12_holds 43 = .ok (.if_icmp .ne 10, 3) := by decide +kernel
theorem dX12_holds_46 : decode cX12_holds 46 = .ok (.aload_n 0, 1) := by decide +kernel
theorem dX12_holds_47 : decode cX12_holds 47 = .ok (.iload_n 1, 1) := by decide +kernel
theorem dX12_holds_48 : decode cX12_holds 48 = .ok (.iload_n 3, 1) := by decide +kernel
theorem dX12_holds_49 : decode cX12_holds 49 = .ok (.invokevirtual 669, 3) := by decide +kernel
theorem dX12_holds_52 : decode cX12_holds 52 = .ok (.ireturn, 1) := by decide +kernel
theorem dX12_holds_53 : decode cX12_holds 53 = .ok (.bipush 12, 2) := by decide +kernel
theorem dX12_holds_55 : decode cX12_holds 55 = .ok (.iload_n 1, 1) := by decide +kernel
theorem dX12_holds_56 : decode cX12_holds 56 = .ok (.imul, 1) := by decide +kernel
theorem dX12_holds_57 : decode cX12_holds 57 = .ok (.iload_n 2, 1) := by decide +kernel
theorem dX12_holds_58 : decode cX12_holds 58 = .ok (.iadd, 1) := by decide +kernel
theorem dX12_holds_59 : decode cX12_holds 59 = .ok (.istore 5, 2) := by decide +kernel
theorem dX12_holds_61 : decode cX12_holds 61 = .ok (.iload 4, 2) := by decide +kernel
theorem dX12_holds_63 : decode cX12_holds 63 = .ok (.iconst 1, 1) := by decide +kernel
theorem dX12_holds_64 : decode cX12_holds 64 = .ok (.if_icmp .ne 10, 3) := by decide +kernel
theorem dX12_holds_67 : decode cX12_holds 67 = .ok (.aload_n 0, 1) := by decide +kernel
theorem dX12_holds_68 : decode cX12_holds 68 = .ok (.iload_n 1, 1) := by decide +kernel
theorem dX12_holds_69 : decode cX12_holds 69 = .ok (.iload_n 2, 1) := by decide +kernel
theorem dX12_holds_70 : decode cX12_holds 70 = .ok (.invokevirtual 672, 3) := by decide +kernel
theorem dX12_holds_73 : decode cX12_holds 73 = .ok (.ireturn, 1) := by decide +kernel
theorem dX12_holds_74 : decode cX12_holds 74 = .ok (.aload_n 0, 1) := by decide +kernel
theorem dX12_holds_75 : decode cX12_holds 75 = .ok (.aload_n 0, 1) := by decide +kernel
theorem dX12_holds_76 : decode cX12_holds 76 = .ok (.getfield 315, 3) := by decide +kernel
theorem dX12_holds_79 : decode cX12_holds 79 = .ok (.iload_n 1, 1) := by decide +kernel
theorem dX12_holds_80 : decode cX12_holds 80 = .ok (.iaload, 1) := by decide +kernel
theorem dX12_holds_81 : decode cX12_holds 81 = .ok (.iload_n 2, 1) := by decide +kernel
theorem dX12_holds_82 : decode cX12_holds 82 = .ok (.invokevirtual 569, 3) := by decide +kernel
theorem dX12_holds_85 : decode cX12_holds 85 = .ok (.istore 6, 2) := by decide +kernel
theorem dX12_holds_87 : decode cX12_holds 87 = .ok (.iload 6, 2) := by decide +kernel
theorem dX12_holds_89 : decode cX12_holds 89 = .ok (.iconst 2, 1) := by decide +kernel
theorem dX12_holds_90 : decode cX12_holds 90 = .ok (.if_icmp .eq 15, 3) := by decide +kernel
theorem dX12_holds_93 : decode cX12_holds 93 = .ok (.aload_n 0, 1) := by decide +kernel
theorem dX12_holds_94 : decode cX12_holds 94 = .ok (.getfield 334, 3) := by decide +kernel
theorem dX12_holds_97 : decode cX12_holds 97 = .ok (.iload 5, 2) := by decide +kernel
theorem dX12_holds_99 : decode cX12_holds 99 = .ok (.baload, 1) := by decide +kernel
theorem dX12_holds_100 : decode cX12_holds 100 = .ok (.ifCond .ne 5, 3) := by decide +kernel
theorem dX12_holds_103 : decode cX12_holds 103 = .ok (.iconst 1, 1) := by decide +kernel
theorem dX12_holds_104 : decode cX12_holds 104 = .ok (.ireturn, 1) := by decide +kernel
theorem dX12_holds_105 : decode cX12_holds 105 = .ok (.iload 6, 2) := by decide +kernel
theorem dX12_holds_107 : decode cX12_holds 107 = .ok (.ifCond .ne 13, 3) := by decide +kernel
theorem dX12_holds_110 : decode cX12_holds 110 = .ok (.aload_n 0, 1) := by decide +kernel
theorem dX12_holds_111 : decode cX12_holds 111 = .ok (.getfield 318, 3) := by decide +kernel
theorem dX12_holds_114 : decode cX12_holds 114 = .ok (.iload 5, 2) := by decide +kernel
theorem dX12_holds_116 : decode cX12_holds 116 = .ok (.iaload, 1) := by decide +kernel
theorem dX12_holds_117 : decode cX12_holds 117 = .ok (.goto 26, 3) := by decide +kernel
theorem dX12_holds_120 : decode cX12_holds 120 = .ok (.iload 6, 2) := by decide +kernel
theorem dX12_holds_122 : decode cX12_holds 122 = .ok (.iconst 1, 1) := by decide +kernel
theorem dX12_holds_123 : decode cX12_holds 123 = .ok (.if_icmp .ne 13, 3) := by decide +kernel
theorem dX12_holds_126 : decode cX12_holds 126 = .ok (.aload_n 0, 1) := by decide +kernel
theorem dX12_holds_127 : decode cX12_holds 127 = .ok (.getfield 321, 3) := by decide +kernel
theorem dX12_holds_130 : decode cX12_holds 130 = .ok (.iload 5, 2) := by decide +kernel
theorem dX12_holds_132 : decode cX12_holds 132 = .ok (.iaload, 1) := by decide +kernel
theorem dX12_holds_133 : decode cX12_holds 133 = .ok (.goto 10, 3) := by decide +kernel
theorem dX12_holds_136 : decode cX12_holds 136 = .ok (.aload_n 0, 1) := by decide +kernel
theorem dX12_holds_137 : decode cX12_holds 137 = .ok (.getfield 327, 3) := by decide +kernel
theorem dX12_holds_140 : decode cX12_holds 140 = .ok (.iload 5, 2) := by decide +kernel
theorem dX12_holds_142 : decode cX12_holds 142 = .ok (.iaload, 1) := by decide +kernel
theorem dX12_holds_143 : decode cX12_holds 143 = .ok (.istore 7, 2) := by decide +kernel
theorem dX12_holds_145 : decode cX12_holds 145 = .ok (.aload_n 0, 1) := by decide +kernel
theorem dX12_holds_146 : decode cX12_holds 146 = .ok (.iload 7, 2) := by decide +kernel
theorem dX12_holds_148 : decode cX12_holds 148 = .ok (.iload_n 3, 1) := by decide +kernel
theorem dX12_holds_149 : decode cX12_holds 149 = .ok (.invokevirtual 675, 3) := by decide +kernel
theorem dX12_holds_152 : decode cX12_holds 152 = .ok (.ireturn, 1) := by decide +kernel
theorem dX12_holdsAt_0 : decode cX12_holdsAt 0 = .ok (.aload_n 0, 1) := by decide +kernel
theorem dX12_holdsAt_1 : decode cX12_holdsAt 1 = .ok (.getfield 266, 3) := by decide +kernel
theorem dX12_holdsAt_4 : decode cX12_holdsAt 4 = .ok (.iload_n 2, 1) := by decide +kernel
theorem dX12_holdsAt_5 : decode cX12_holdsAt 5 = .ok (.iaload, 1) := by decide +kernel
theorem dX12_holdsAt_6 : decode cX12_holdsAt 6 = .ok (.istore_n 3, 1) := by decide +kernel
theorem dX12_holdsAt_7 : decode cX12_holdsAt 7 = .ok (.aload_n 0, 1) := by decide +kernel
theorem dX12_holdsAt_8 : decode cX12_holdsAt 8 = .ok (.getfield 288, 3) := by decide +kernel
theorem dX12_holdsAt_11 : decode cX12_holdsAt 11 = .ok (.iconst 4, 1) := by decide +kernel
theorem dX12_holdsAt_12 : decode cX12_holdsAt 12 = .ok (.iload_n 2, 1) := by decide +kernel
theorem dX12_holdsAt_13 : decode cX12_holdsAt 13 = .ok (.imul, 1) := by decide +kernel
theorem dX12_holdsAt_14 : decode cX12_holdsAt 14 = .ok (.iaload, 1) := by decide +kernel
theorem dX12_holdsAt_15 : decode cX12_holdsAt 15 = .ok (.istore 4, 2) := by decide +kernel
theorem dX12_holdsAt_17 : decode cX12_holdsAt 17 = .ok (.iload_n 3, 1) := by decide +kernel
theorem dX12_holdsAt_18 : decode cX12_holdsAt 18 = .ok (.iconst 3, 1) := by decide +kernel
theorem dX12_holdsAt_19 : decode cX12_holdsAt 19 = .ok (.if_icmp .ne 15, 3) := by decide +kernel
theorem dX12_holdsAt_22 : decode cX12_holdsAt 22 = .ok (.iload_n 1, 1) := by decide +kernel
theorem dX12_holdsAt_23 : decode cX12_holdsAt 23 = .ok (.iload 4, 2) := by decide +kernel
theorem dX12_holdsAt_25 : decode cX12_holdsAt 25 = .ok (.if_icmp .lt 7, 3) := by decide +kernel
theorem dX12_holdsAt_28 : decode cX12_holdsAt 28 = .ok (.iconst 1, 1) := by decide +kernel
theorem dX12_holdsAt_29 : decode cX12_holdsAt 29 = .ok (.goto 4, 3) := by decide +kernel
theorem dX12_holdsAt_32 : decode cX12_holdsAt 32 = .ok (.iconst 0, 1) := by decide +kernel
theorem dX12_holdsAt_33 : decode cX12_holdsAt 33 = .ok (.ireturn, 1) := by decide +kernel
theorem dX12_holdsAt_34 : decode cX12_holdsAt 34 = .ok (.iload_n 3, 1) := by decide +kernel
theorem dX12_holdsAt_35 : decode cX12_holdsAt 35 = .ok (.iconst 4, 1) := by decide +kernel
theorem dX12_holdsAt_36 : decode cX12_holdsAt 36 = .ok (.if_icmp .ne 15, 3) := by decide +kernel
theorem dX12_holdsAt_39 : decode cX12_holdsAt 39 = .ok (.iload_n 1, 1) := by decide +kernel
theorem dX12_holdsAt_40 : decode cX12_holdsAt 40 = .ok (.iload 4, 2) := by decide +kernel
theorem dX12_holdsAt_42 : decode cX12_holdsAt 42 = .ok (.if_icmp .gt 7, 3) := by decide +kernel
theorem dX12_holdsAt_45 : decode cX12_holdsAt 45 = .ok (.iconst 1, 1) := by decide +kernel
theorem dX12_holdsAt_46 : decode cX12_holdsAt 46 = .ok (.goto 4, 3) := by decide +kernel
theorem dX12_holdsAt_49 : decode cX12_holdsAt 49 = .ok (.iconst 0, 1) := by decide +kernel
theorem dX12_holdsAt_50 : decode cX12_holdsAt 50 = .ok (.ireturn, 1) := by decide +kernel
theorem dX12_holdsAt_51 : decode cX12_holdsAt 51 = .ok (.iload_n 3, 1) := by decide +kernel
theorem dX12_holdsAt_52 : decode cX12_holdsAt 52 = .ok (.iconst 5, 1) := by decide +kernel
theorem dX12_holdsAt_53 : decode cX12_holdsAt 53 = .ok (.if_icmp .ne 29, 3) := by decide +kernel
theorem dX12_holdsAt_56 : decode cX12_holdsAt 56 = .ok (.iload_n 1, 1) := by decide +kernel
theorem dX12_holdsAt_57 : decode cX12_holdsAt 57 = .ok (.iload 4, 2) := by decide +kernel
theorem dX12_holdsAt_59 : decode cX12_holdsAt 59 = .ok (.if_icmp .lt 21, 3) := by decide +kernel
theorem dX12_holdsAt_62 : decode cX12_holdsAt 62 = .ok (.iload_n 1, 1) := by decide +kernel
theorem dX12_holdsAt_63 : decode cX12_holdsAt 63 = .ok (.aload_n 0, 1) := by decide +kernel
theorem dX12_holdsAt_64 : decode cX12_holdsAt 64 = .ok (.getfield 288, 3) := by decide +kernel
theorem dX12_holdsAt_67 : decode cX12_holdsAt 67 = .ok (.iconst 4, 1) := by decide +kernel
theorem dX12_holdsAt_68 : decode cX12_holdsAt 68 = .ok (.iload_n 2, 1) := by decide +kernel
theorem dX12_holdsAt_69 : decode cX12_holdsAt 69 = .ok (.imul, 1) := by decide +kernel
theorem dX12_holdsAt_70 : decode cX12_holdsAt 70 = .ok (.iconst 1, 1) := by decide +kernel
theorem dX12_holdsAt_71 : decode cX12_holdsAt 71 = .ok (.iadd, 1) := by decide +kernel
theorem dX12_holdsAt_72 : decode cX12_holdsAt 72 = .ok (.iaload, 1) := by decide +kernel
theorem dX12_holdsAt_73 : decode cX12_holdsAt 73 = .ok (.if_icmp .gt 7, 3) := by decide +kernel
theorem dX12_holdsAt_76 : decode cX12_holdsAt 76 = .ok (.iconst 1, 1) := by decide +kernel
theorem dX12_holdsAt_77 : decode cX12_holdsAt 77 = .ok (.goto 4, 3) := by decide +kernel
theorem dX12_holdsAt_80 : decode cX12_holdsAt 80 = .ok (.iconst 0, 1) := by decide +kernel
theorem dX12_holdsAt_81 : decode cX12_holdsAt 81 = .ok (.ireturn, 1) := by decide +kernel
theorem dX12_holdsAt_82 : decode cX12_holdsAt 82 = .ok (.iload_n 3, 1) := by decide +kernel
theorem dX12_holdsAt_83 : decode cX12_holdsAt 83 = .ok (.bipush 6, 2) := by decide +kernel
theorem dX12_holdsAt_85 : decode cX12_holdsAt 85 = .ok (.if_icmp .ne 56, 3) := by decide +kernel
theorem dX12_holdsAt_88 : decode cX12_holdsAt 88 = .ok (.iconst 0, 1) := by decide +kernel
theorem dX12_holdsAt_89 : decode cX12_holdsAt 89 = .ok (.istore 5, 2) := by decide +kernel
theorem dX12_holdsAt_91 : decode cX12_holdsAt 91 = .ok (.iconst 0, 1) := by decide +kernel
theorem dX12_holdsAt_92 : decode cX12_holdsAt 92 = .ok (.istore 6, 2) := by decide +kernel
theorem dX12_holdsAt_94 : decode cX12_holdsAt 94 = .ok (.iload 6, 2) := by decide +kernel
theorem dX12_holdsAt_96 : decode cX12_holdsAt 96 = .ok (.aload_n 0, 1) := by decide +kernel
theorem dX12_holdsAt_97 : decode cX12_holdsAt 97 = .ok (.getfield 284, 3) := by decide +kernel
theorem dX12_holdsAt_100 : decode cX12_holdsAt 100 = .ok (.iload_n 2, 1) := by decide +kernel
theorem dX12_holdsAt_101 : decode cX12_holdsAt 101 = .ok (.iaload, 1) := by decide +kernel
theorem dX12_holdsAt_102 : decode cX12_holdsAt 102 = .ok (.if_icmp .ge 36, 3) := by decide +kernel
theorem dX12_holdsAt_105 : decode cX12_holdsAt 105 = .ok (.iload 5, 2) := by decide +kernel
theorem dX12_holdsAt_107 : decode cX12_holdsAt 107 = .ok (.ifCond .ne 18, 3) := by decide +kernel
theorem dX12_holdsAt_110 : decode cX12_holdsAt 110 = .ok (.aload_n 0, 1) := by decide +kernel
theorem dX12_holdsAt_111 : decode cX12_holdsAt 111 = .ok (.getfield 288, 3) := by decide +kernel
theorem dX12_holdsAt_114 : decode cX12_holdsAt 114 = .ok (.iconst 4, 1) := by decide +kernel
theorem dX12_holdsAt_115 : decode cX12_holdsAt 115 = .ok (.iload_n 2, 1) := by decide +kernel
theorem dX12_holdsAt_116 : decode cX12_holdsAt 116 = .ok (.imul, 1) := by decide +kernel
theorem dX12_holdsAt_117 : decode cX12_holdsAt 117 = .ok (.iload 6, 2) := by decide +kernel
theorem dX12_holdsAt_119 : decode cX12_holdsAt 119 = .ok (.iadd, 1) := by decide +kernel
theorem dX12_holdsAt_120 : decode cX12_holdsAt 120 = .ok (.iaload, 1) := by decide +kernel
theorem dX12_holdsAt_121 : decode cX12_holdsAt 121 = .ok (.iload_n 1, 1) := by decide +kernel
theorem dX12_holdsAt_122 : decode cX12_holdsAt 122 = .ok (.if_icmp .ne 7, 3) := by decide +kernel
theorem dX12_holdsAt_125 : decode cX12_holdsAt 125 = .ok (.iconst 1, 1) := by decide +kernel
theorem dX12_holdsAt_126 : decode cX12_holdsAt 126 = .ok (.goto 4, 3) := by decide +kernel
theorem dX12_holdsAt_129 : decode cX12_holdsAt 129 = .ok (.iconst 0, 1) := by decide +kernel
theorem dX12_holdsAt_130 : decode cX12_holdsAt 130 = .ok (.istore 5, 2) := by decide +kernel
theorem dX12_holdsAt_132 : decode cX12_holdsAt 132 = .ok (.iinc 6 1, 3) := by decide +kernel
theorem dX12_holdsAt_135 : decode cX12_holdsAt 135 = .ok (.goto (-41), 3) := by decide +kernel
theorem dX12_holdsAt_138 : decode cX12_holdsAt 138 = .ok (.iload 5, 2) := by decide +kernel
theorem dX12_holdsAt_140 : decode cX12_holdsAt 140 = .ok (.ireturn, 1) := by decide +kernel
theorem dX12_holdsAt_141 : decode cX12_holdsAt 141 = .ok (.aload_n 0, 1) := by decide +kernel
theorem dX12_holdsAt_142 : decode cX12_holdsAt 142 = .ok (.iload_n 3, 1) := by decide +kernel
theorem dX12_holdsAt_143 : decode cX12_holdsAt 143 = .ok (.bipush 100, 2) := by decide +kernel
theorem dX12_holdsAt_145 : decode cX12_holdsAt 145 = .ok (.isub, 1) := by decide +kernel
theorem dX12_holdsAt_146 : decode cX12_holdsAt 146 = .ok (.iload_n 1, 1) := by decide +kernel
theorem dX12_holdsAt_147 : decode cX12_holdsAt 147 = .ok (.iload_n 2, 1) := by decide +kernel
theorem dX12_holdsAt_148 : decode cX12_holdsAt 148 = .ok (.invokevirtual 678, 3) := by decide +kernel
theorem dX12_holdsAt_151 : decode cX12_holdsAt 151 = .ok (.istore 5, 2) := by decide +kernel
theorem dX12_holdsAt_153 : decode cX12_holdsAt 153 = .ok (.aload_n 0, 1) := by decide +kernel
theorem dX12_holdsAt_154 : decode cX12_holdsAt 154 = .ok (.getfield 601, 3) := by decide +kernel
theorem dX12_holdsAt_157 : decode cX12_holdsAt 157 = .ok (.istore 6, 2) := by decide +kernel
theorem dX12_holdsAt_159 : decode cX12_holdsAt 159 = .ok (.aload_n 0, 1) := by decide +kernel
theorem dX12_holdsAt_160 : decode cX12_holdsAt 160 = .ok (.iload 6, 2) := by decide +kernel
theorem dX12_holdsAt_162 : decode cX12_holdsAt 162 = .ok (.ifCond .eq 7, 3) := by decide +kernel
theorem dX12_holdsAt_165 : decode cX12_holdsAt 165 = .ok (.iconst 1, 1) := by decide +kernel
theorem dX12_holdsAt_166 : decode cX12_holdsAt 166 = .ok (.goto 4, 3) := by decide +kernel
theorem dX12_holdsAt_169 : decode cX12_holdsAt 169 = .ok (.iconst 0, 1) := by decide +kernel
theorem dX12_holdsAt_170 : decode cX12_holdsAt 170 = .ok (.putfield 654, 3) := by decide +kernel
theorem dX12_holdsAt_173 : decode cX12_holdsAt 173 = .ok (.iload 6, 2) := by decide +kernel
theorem dX12_holdsAt_175 : decode cX12_holdsAt 175 = .ok (.ifCond .eq 11, 3) := by decide +kernel
theorem dX12_holdsAt_178 : decode cX12_holdsAt 178 = .ok (.aload_n 0, 1) := by decide +kernel
theorem dX12_holdsAt_179 : decode cX12_holdsAt 179 = .ok (.iload_n 3, 1) := by decide +kernel
theorem dX12_holdsAt_180 : decode cX12_holdsAt 180 = .ok (.bipush 100, 2) := by decide +kernel
theorem dX12_holdsAt_182 : decode cX12_holdsAt 182 = .ok (.isub, 1) := by decide +kernel
theorem dX12_holdsAt_183 : decode cX12_holdsAt 183 = .ok (.invokevirtual 681, 3) := by decide +kernel
theorem dX12_holdsAt_186 : decode cX12_holdsAt 186 = .ok (.iload 6, 2) := by decide +kernel
theorem dX12_holdsAt_188 : decode cX12_holdsAt 188 = .ok (.ifCond .ne 12, 3) := by decide +kernel
theorem dX12_holdsAt_191 : decode cX12_holdsAt 191 = .ok (.iload 5, 2) := by decide +kernel
theorem dX12_holdsAt_193 : decode cX12_holdsAt 193 = .ok (.ifCond .eq 7, 3) := by decide +kernel
theorem dX12_holdsAt_196 : decode cX12_holdsAt 196 = .ok (.iconst 1, 1) := by decide +kernel
theorem dX12_holdsAt_197 : decode cX12_holdsAt 197 = .ok (.goto 4, 3) := by decide +kernel
theorem dX12_holdsAt_200 : decode cX12_holdsAt 200 = .ok (.iconst 0, 1) := by decide +kernel
theorem dX12_holdsAt_201 : decode cX12_holdsAt 201 = .ok (.ireturn, 1) := by decide +kernel
theorem dX12_breaksOff_0 : decode cX12_breaksOff 0 = .ok (.aload_n 0, 1) := by decide +kernel
theorem dX12_breaksOff_1 : decode cX12_breaksOff 1 = .ok (.getfield 343, 3) := by decide +kernel
theorem dX12_breaksOff_4 : decode cX12_breaksOff 4 = .ok (.iload_n 1, 1) := by decide +kernel
theorem dX12_breaksOff_5 : decode cX12_breaksOff 5 = .ok (.dup2, 1) := by decide +kernel
theorem dX12_breaksOff_6 : decode cX12_breaksOff 6 = .ok (.iaload, 1) := by decide +kernel
theorem dX12_breaksOff_7 : decode cX12_breaksOff 7 = .ok (.iconst 1, 1) := by decide +kernel
theorem dX12_breaksOff_8 : decode cX12_breaksOff 8 = .ok (.iadd, 1) := by decide +kernel
theorem dX12_breaksOff_9 : decode cX12_breaksOff 9 = .ok (.iastore, 1) := by decide +kernel
theorem dX12_breaksOff_10 : decode cX12_breaksOff 10 = .ok (.aload_n 0, 1) := by decide +kernel
theorem dX12_breaksOff_11 : decode cX12_breaksOff 11 = .ok (.getfield 343, 3) := by decide +kernel
theorem dX12_breaksOff_14 : decode cX12_breaksOff 14 = .ok (.iload_n 1, 1) := by decide +kernel
theorem dX12_breaksOff_15 : decode cX12_breaksOff 15 = .ok (.iaload, 1) := by decide +kernel
theorem dX12_breaksOff_16 : decode cX12_breaksOff 16 = .ok (.bipush 20, 2) := by decide +kernel
theorem dX12_breaksOff_18 : decode cX12_breaksOff 18 = .ok (.if_icmp .ge 4, 3) := by decide +kernel
theorem dX12_breaksOff_21 : decode cX12_breaksOff 21 = .ok (.return_, 1) := by decide +kernel
theorem dX12_breaksOff_22 : decode cX12_breaksOff 22 = .ok (.aload_n 0, 1) := by decide +kernel
theorem dX12_breaksOff_23 : decode cX12_breaksOff 23 = .ok (.getfield 337, 3) := by decide +kernel
theorem dX12_breaksOff_26 : decode cX12_breaksOff 26 = .ok (.iload_n 1, 1) := by decide +kernel
theorem dX12_breaksOff_27 : decode cX12_breaksOff 27 = .ok (.iconst 2, 1) := by decide +kernel
theorem dX12_breaksOff_28 : decode cX12_breaksOff 28 = .ok (.iastore, 1) := by decide +kernel
theorem dX12_breaksOff_29 : decode cX12_breaksOff 29 = .ok (.aload_n 0, 1) := by decide +kernel
theorem dX12_breaksOff_30 : decode cX12_breaksOff 30 = .ok (.getfield 346, 3) := by decide +kernel
theorem dX12_breaksOff_33 : decode cX12_breaksOff 33 = .ok (.aload_n 0, 1) := by decide +kernel
theorem dX12_breaksOff_34 : decode cX12_breaksOff 34 = .ok (.getfield 527, 3) := by decide +kernel
theorem dX12_breaksOff_37 : decode cX12_breaksOff 37 = .ok (.iload_n 1, 1) := by decide +kernel
theorem dX12_breaksOff_38 : decode cX12_breaksOff 38 = .ok (.iastore, 1) := by decide +kernel
theorem dX12_breaksOff_39 : decode cX12_breaksOff 39 = .ok (.aload_n 0, 1) := by decide +kernel
theorem dX12_breaksOff_40 : decode cX12_breaksOff 40 = .ok (.getfield 349, 3) := by decide +kernel
theorem dX12_breaksOff_43 : decode cX12_breaksOff 43 = .ok (.aload_n 0, 1) := by decide +kernel
theorem dX12_breaksOff_44 : decode cX12_breaksOff 44 = .ok (.getfield 527, 3) := by decide +kernel
theorem dX12_breaksOff_47 : decode cX12_breaksOff 47 = .ok (.iconst 3, 1) := by decide +kernel
theorem dX12_breaksOff_48 : decode cX12_breaksOff 48 = .ok (.iastore, 1) := by decide +kernel
theorem dX12_breaksOff_49 : decode cX12_breaksOff 49 = .ok (.aload_n 0, 1) := by decide +kernel
theorem dX12_breaksOff_50 : decode cX12_breaksOff 50 = .ok (.dup, 1) := by decide +kernel
theorem dX12_breaksOff_51 : decode cX12_breaksOff 51 = .ok (.getfield 527, 3) := by decide +kernel
theorem dX12_breaksOff_54 : decode cX12_breaksOff 54 = .ok (.iconst 1, 1) := by decide +kernel
theorem dX12_breaksOff_55 : decode cX12_breaksOff 55 = .ok (.iadd, 1) := by decide +kernel
theorem dX12_breaksOff_56 : decode cX12_breaksOff 56 = .ok (.putfield 527, 3) := by decide +kernel
theorem dX12_breaksOff_59 : decode cX12_breaksOff 59 = .ok (.return_, 1) := by decide +kernel
theorem dX12_isBelow_0 : decode cX12_isBelow 0 = .ok (.aload_n 0, 1) := by decide +kernel
theorem dX12_isBelow_1 : decode cX12_isBelow 1 = .ok (.getfield 334, 3) := by decide +kernel
theorem dX12_isBelow_4 : decode cX12_isBelow 4 = .ok (.bipush 12, 2) := by decide +kernel
theorem dX12_isBelow_6 : decode cX12_isBelow 6 = .ok (.iload_n 1, 1) := by decide +kernel
theorem dX12_isBelow_7 : decode cX12_isBelow 7 = .ok (.imul, 1) := by decide +kernel
theorem dX12_isBelow_8 : decode cX12_isBelow 8 = .ok (.iload_n 2, 1) := by decide +kernel
theorem dX12_isBelow_9 : decode cX12_isBelow 9 = .ok (.iadd, 1) := by decide +kernel
theorem dX12_isBelow_10 : decode cX12_isBelow 10 = .ok (.baload, 1) := by decide +kernel
theorem dX12_isBelow_11 : decode cX12_isBelow 11 = .ok (.ifCond .eq 42, 3) := by decide +kernel
theorem dX12_isBelow_14 : decode cX12_isBelow 14 = .ok (.aload_n 0, 1) := by decide +kernel
theorem dX12_isBelow_15 : decode cX12_isBelow 15 = .ok (.getfield 334, 3) := by decide +kernel
theorem dX12_isBelow_18 : decode cX12_isBelow 18 = .ok (.bipush 12, 2) := by decide +kernel
theorem dX12_isBelow_20 : decode cX12_isBelow 20 = .ok (.iload_n 1, 1) := by decide +kernel
theorem dX12_isBelow_21 : decode cX12_isBelow 21 = .ok (.imul, 1) := by decide +kernel
theorem dX12_isBelow_22 : decode cX12_isBelow 22 = .ok (.iload_n 3, 1) := by decide +kernel
theorem dX12_isBelow_23 : decode cX12_isBelow 23 = .ok (.iadd, 1) := by decide +kernel
theorem dX12_isBelow_24 : decode cX12_isBelow 24 = .ok (.baload, 1) := by decide +kernel
theorem dX12_isBelow_25 : decode cX12_isBelow 25 = .ok (.ifCond .eq 28, 3) := by decide +kernel
theorem dX12_isBelow_28 : decode cX12_isBelow 28 = .ok (.aload_n 0, 1) := by decide +kernel
theorem dX12_isBelow_29 : decode cX12_isBelow 29 = .ok (.getfield 318, 3) := by decide +kernel
theorem dX12_isBelow_32 : decode cX12_isBelow 32 = .ok (.bipush 12, 2) := by decide +kernel
theorem dX12_isBelow_34 : decode cX12_isBelow 34 = .ok (.iload_n 1, 1) := by decide +kernel
theorem dX12_isBelow_35 : decode cX12_isBelow 35 = .ok (.imul, 1) := by decide +kernel
theorem dX12_isBelow_36 : decode cX12_isBelow 36 = .ok (.iload_n 2, 1) := by decide +kernel
theorem dX12_isBelow_37 : decode cX12_isBelow 37 = .ok (.iadd, 1) := by decide +kernel
theorem dX12_isBelow_38 : decode cX12_isBelow 38 = .ok (.iaload, 1) := by decide +kernel
theorem dX12_isBelow_39 : decode cX12_isBelow 39 = .ok (.aload_n 0, 1) := by decide +kernel
theorem dX12_isBelow_40 : decode cX12_isBelow 40 = .ok (.getfield 318, 3) := by decide +kernel
theorem dX12_isBelow_43 : decode cX12_isBelow 43 = .ok (.bipush 12, 2) := by decide +kernel
theorem dX12_isBelow_45 : decode cX12_isBelow 45 = .ok (.iload_n 1, 1) := by decide +kernel
theorem dX12_isBelow_46 : decode cX12_isBelow 46 = .ok (.imul, 1) := by decide +kernel
theorem dX12_isBelow_47 : decode cX12_isBelow 47 = .ok (.iload_n 3, 1) := by decide +kernel
theorem dX12_isBelow_48 : decode cX12_isBelow 48 = .ok (.iadd, 1) := by decide +kernel
theorem dX12_isBelow_49 : decode cX12_isBelow 49 = .ok (.iaload, 1) := by decide +kernel
theorem dX12_isBelow_50 : decode cX12_isBelow 50 = .ok (.if_icmp .ge 7, 3) := by decide +kernel
theorem dX12_isBelow_53 : decode cX12_isBelow 53 = .ok (.iconst 1, 1) := by decide +kernel
theorem dX12_isBelow_54 : decode cX12_isBelow 54 = .ok (.goto 4, 3) := by decide +kernel
theorem dX12_isBelow_57 : decode cX12_isBelow 57 = .ok (.iconst 0, 1) := by decide +kernel
theorem dX12_isBelow_58 : decode cX12_isBelow 58 = .ok (.ireturn, 1) := by decide +kernel
theorem dX12_isTotal_0 : decode cX12_isTotal 0 = .ok (.bipush 12, 2) := by decide +kernel
theorem dX12_isTotal_2 : decode cX12_isTotal 2 = .ok (.iload_n 1, 1) := by decide +kernel
theorem dX12_isTotal_3 : decode cX12_isTotal 3 = .ok (.imul, 1) := by decide +kernel
theorem dX12_isTotal_4 : decode cX12_isTotal 4 = .ok (.aload_n 0, 1) := by decide +kernel
theorem dX12_isTotal_5 : decode cX12_isTotal 5 = .ok (.getfield 288, 3) := by decide +kernel
theorem dX12_isTotal_8 : decode cX12_isTotal 8 = .ok (.iconst 4, 1) := by decide +kernel
theorem dX12_isTotal_9 : decode cX12_isTotal 9 = .ok (.iload_n 2, 1) := by decide +kernel
theorem dX12_isTotal_10 : decode cX12_isTotal 10 = .ok (.imul, 1) := by decide +kernel
theorem dX12_isTotal_11 : decode cX12_isTotal 11 = .ok (.iconst 2, 1) := by decide +kernel
theorem dX12_isTotal_12 : decode cX12_isTotal 12 = .ok (.iadd, 1) := by decide +kernel
theorem dX12_isTotal_13 : decode cX12_isTotal 13 = .ok (.iaload, 1) := by decide +kernel
theorem dX12_isTotal_14 : decode cX12_isTotal 14 = .ok (.iadd, 1) := by decide +kernel
theorem dX12_isTotal_15 : decode cX12_isTotal 15 = .ok (.istore_n 3, 1) := by decide +kernel
theorem dX12_isTotal_16 : decode cX12_isTotal 16 = .ok (.aload_n 0, 1) := by decide +kernel
theorem dX12_isTotal_17 : decode cX12_isTotal 17 = .ok (.getfield 334, 3) := by decide +kernel
theorem dX12_isTotal_20 : decode cX12_isTotal 20 = .ok (.iload_n 3, 1) := by decide +kernel
theorem dX12_isTotal_21 : decode cX12_isTotal 21 = .ok (.baload, 1) := by decide +kernel
theorem dX12_isTotal_22 : decode cX12_isTotal 22 = .ok (.ifCond .ne 5, 3) := by decide +kernel
theorem dX12_isTotal_25 : decode cX12_isTotal 25 = .ok (.iconst 1, 1) := by decide +kernel
theorem dX12_isTotal_26 : decode cX12_isTotal 26 = .ok (.ireturn, 1) := by decide +kernel
theorem dX12_isTotal_27 : decode cX12_isTotal 27 = .ok (.bipush 12, 2) := by decide +kernel
theorem dX12_isTotal_29 : decode cX12_isTotal 29 = .ok (.iload_n 1, 1) := by decide +kernel
theorem dX12_isTotal_30 : decode cX12_isTotal 30 = .ok (.imul, 1) := by decide +kernel
theorem dX12_isTotal_31 : decode cX12_isTotal 31 = .ok (.aload_n 0, 1) := by decide +kernel
theorem dX12_isTotal_32 : decode cX12_isTotal 32 = .ok (.getfield 288, 3) := by decide +kernel
theorem dX12_isTotal_35 : decode cX12_isTotal 35 = .ok (.iconst 4, 1) := by decide +kernel
theorem dX12_isTotal_36 : decode cX12_isTotal 36 = .ok (.iload_n 2, 1) := by decide +kernel
theorem dX12_isTotal_37 : decode cX12_isTotal 37 = .ok (.imul, 1) := by decide +kernel
theorem dX12_isTotal_38 : decode cX12_isTotal 38 = .ok (.iaload, 1) := by decide +kernel
theorem dX12_isTotal_39 : decode cX12_isTotal 39 = .ok (.iadd, 1) := by decide +kernel
theorem dX12_isTotal_40 : decode cX12_isTotal 40 = .ok (.istore 4, 2) := by decide +kernel
theorem dX12_isTotal_42 : decode cX12_isTotal 42 = .ok (.lconst 0, 1) := by decide +kernel
theorem dX12_isTotal_43 : decode cX12_isTotal 43 = .ok (.lstore 5, 2) := by decide +kernel
theorem dX12_isTotal_45 : decode cX12_isTotal 45 = .ok (.iconst 0, 1) := by decide +kernel
theorem dX12_isTotal_46 : decode cX12_isTotal 46 = .ok (.istore 7, 2) := by decide +kernel
theorem dX12_isTotal_48 : decode cX12_isTotal 48 = .ok (.iload 7, 2) := by decide +kernel
theorem dX12_isTotal_50 : decode cX12_isTotal 50 = .ok (.aload_n 0, 1) := by decide +kernel
theorem dX12_isTotal_51 : decode cX12_isTotal 51 = .ok (.getfield 327, 3) := by decide +kernel
theorem dX12_isTotal_54 : decode cX12_isTotal 54 = .ok (.iload 4, 2) := by decide +kernel
theorem dX12_isTotal_56 : decode cX12_isTotal 56 = .ok (.iaload, 1) := by decide +kernel
theorem dX12_isTotal_57 : decode cX12_isTotal 57 = .ok (.if_icmp .ge 65, 3) := by decide +kernel
theorem dX12_isTotal_60 : decode cX12_isTotal 60 = .ok (.bipush 12, 2) := by decide +kernel
theorem dX12_isTotal_62 : decode cX12_isTotal 62 = .ok (.aload_n 0, 1) := by decide +kernel
theorem dX12_isTotal_63 : decode cX12_isTotal 63 = .ok (.getfield 331, 3) := by decide +kernel
theorem dX12_isTotal_66 : decode cX12_isTotal 66 = .ok (.bipush 20, 2) := by decide +kernel
theorem dX12_isTotal_68 : decode cX12_isTotal 68 = .ok (.iload 4, 2) := by decide +kernel
theorem dX12_isTotal_70 : decode cX12_isTotal 70 = .ok (.imul, 1) := by decide +kernel
theorem dX12_isTotal_71 : decode cX12_isTotal 71 = .ok (.iload 7, 2) := by decide +kernel
theorem dX12_isTotal_73 : decode cX12_isTotal 73 = .ok (.iadd, 1) := by decide +kernel
theorem dX12_isTotal_74 : decode cX12_isTotal 74 = .ok (.iaload, 1) := by decide +kernel
theorem dX12_isTotal_75 : decode cX12_isTotal 75 = .ok (.imul, 1) := by decide +kernel
theorem dX12_isTotal_76 : decode cX12_isTotal 76 = .ok (.aload_n 0, 1) := by decide +kernel
theorem dX12_isTotal_77 : decode cX12_isTotal 77 = .ok (.getfield 288, 3) := by decide +kernel
theorem dX12_isTotal_80 : decode cX12_isTotal 80 = .ok (.iconst 4, 1) := by decide +kernel
theorem dX12_isTotal_81 : decode cX12_isTotal 81 = .ok (.iload_n 2, 1) := by decide +kernel
theorem dX12_isTotal_82 : decode cX12_isTotal 82 = .ok (.imul, 1) := by decide +kernel
theorem dX12_isTotal_83 : decode cX12_isTotal 83 = .ok (.iconst 1, 1) := by decide +kernel
theorem dX12_isTotal_84 : decode cX12_isTotal 84 = .ok (.iadd, 1) := by decide +kernel
theorem dX12_isTotal_85 : decode cX12_isTotal 85 = .ok (.iaload, 1) := by decide +kernel
theorem dX12_isTotal_86 : decode cX12_isTotal 86 = .ok (.iadd, 1) := by decide +kernel
theorem dX12_isTotal_87 : decode cX12_isTotal 87 = .ok (.istore 8, 2) := by decide +kernel
theorem dX12_isTotal_89 : decode cX12_isTotal 89 = .ok (.lload 5, 2) := by decide +kernel
theorem dX12_isTotal_91 : decode cX12_isTotal 91 = .ok (.aload_n 0, 1) := by decide +kernel
theorem dX12_isTotal_92 : decode cX12_isTotal 92 = .ok (.getfield 334, 3) := by decide +kernel
theorem dX12_isTotal_95 : decode cX12_isTotal 95 = .ok (.iload 8, 2) := by decide +kernel
theorem dX12_isTotal_97 : decode cX12_isTotal 97 = .ok (.baload, 1) := by decide +kernel
theorem dX12_isTotal_98 : decode cX12_isTotal 98 = .ok (.ifCond .eq 14, 3) := by decide +kernel
theorem dX12_isTotal_101 : decode cX12_isTotal 101 = .ok (.aload_n 0, 1) := by decide +kernel
theorem dX12_isTotal_102 : decode cX12_isTotal 102 = .ok (.getfield 318, 3) := by decide +kernel
theorem dX12_isTotal_105 : decode cX12_isTotal 105 = .ok (.iload 8, 2) := by decide +kernel
theorem dX12_isTotal_107 : decode cX12_isTotal 107 = .ok (.iaload, 1) := by decide +kernel
theorem dX12_isTotal_108 : decode cX12_isTotal 108 = .ok (.i2l, 1) := by decide +kernel
theorem dX12_isTotal_109 : decode cX12_isTotal 109 = .ok (.goto 4, 3) := by decide +kernel
theorem dX12_isTotal_112 : decode cX12_isTotal 112 = .ok (.lconst 0, 1) := by decide +kernel
theorem dX12_isTotal_113 : decode cX12_isTotal 113 = .ok (.ladd, 1) := by decide +kernel
theorem dX12_isTotal_114 : decode cX12_isTotal 114 = .ok (.lstore 5, 2) := by decide +kernel
theorem dX12_isTotal_116 : decode cX12_isTotal 116 = .ok (.iinc 7 1, 3) := by decide +kernel
theorem dX12_isTotal_119 : decode cX12_isTotal 119 = .ok (.goto (-71), 3) := by decide +kernel
theorem dX12_isTotal_122 : decode cX12_isTotal 122 = .ok (.lload 5, 2) := by decide +kernel
theorem dX12_isTotal_124 : decode cX12_isTotal 124 = .ok (.aload_n 0, 1) := by decide +kernel
theorem dX12_isTotal_125 : decode cX12_isTotal 125 = .ok (.getfield 318, 3) := by decide +kernel
theorem dX12_isTotal_128 : decode cX12_isTotal 128 = .ok (.iload_n 3, 1) := by decide +kernel
theorem dX12_isTotal_129 : decode cX12_isTotal 129 = .ok (.iaload, 1) := by decide +kernel
theorem dX12_isTotal_130 : decode cX12_isTotal 130 = .ok (.i2l, 1) := by decide +kernel
theorem dX12_isTotal_131 : decode cX12_isTotal 131 = .ok (.lcmp, 1) := by decide +kernel
theorem dX12_isTotal_132 : decode cX12_isTotal 132 = .ok (.ifCond .ne 7, 3) := by decide +kernel
theorem dX12_isTotal_135 : decode cX12_isTotal 135 = .ok (.iconst 1, 1) := by decide +kernel
theorem dX12_isTotal_136 : decode cX12_isTotal 136 = .ok (.goto 4, 3) := by decide +kernel
theorem dX12_isTotal_139 : decode cX12_isTotal 139 = .ok (.iconst 0, 1) := by decide +kernel
theorem dX12_isTotal_140 : decode cX12_isTotal 140 = .ok (.ireturn, 1) := by decide +kernel
theorem dX12_note_0 : decode cX12_note 0 = .ok (.aload_n 0, 1) := by decide +kernel
theorem dX12_note_1 : decode cX12_note 1 = .ok (.getfield 534, 3) := by decide +kernel
theorem dX12_note_4 : decode cX12_note 4 = .ok (.istore 4, 2) := by decide +kernel
theorem dX12_note_6 : decode cX12_note 6 = .ok (.aload_n 0, 1) := by decide +kernel
theorem dX12_note_7 : decode cX12_note 7 = .ok (.getfield 266, 3) := by decide +kernel
theorem dX12_note_10 : decode cX12_note 10 = .ok (.iload_n 3, 1) := by decide +kernel
theorem dX12_note_11 : decode cX12_note 11 = .ok (.iaload, 1) := by decide +kernel
theorem dX12_note_12 : decode cX12_note 12 = .ok (.istore 5, 2) := by decide +kernel
theorem dX12_note_14 : decode cX12_note 14 = .ok (.aload_n 0, 1) := by decide +kernel
theorem dX12_note_15 : decode cX12_note 15 = .ok (.getfield 355, 3) := by decide +kernel
theorem dX12_note_18 : decode cX12_note 18 = .ok (.iload 4, 2) := by decide +kernel
theorem dX12_note_20 : decode cX12_note 20 = .ok (.iload 5, 2) := by decide +kernel
theorem dX12_note_22 : decode cX12_note 22 = .ok (.iastore, 1) := by decide +kernel
theorem dX12_note_23 : decode cX12_note 23 = .ok (.aload_n 0, 1) := by decide +kernel
theorem dX12_note_24 : decode cX12_note 24 = .ok (.getfield 358, 3) := by decide +kernel
theorem dX12_note_27 : decode cX12_note 27 = .ok (.iload 4, 2) := by decide +kernel
theorem dX12_note_29 : decode cX12_note 29 = .ok (.aload_n 0, 1) := by decide +kernel
theorem dX12_note_30 : decode cX12_note 30 = .ok (.getfield 269, 3) := by decide +kernel
theorem dX12_note_33 : decode cX12_note 33 = .ok (.iload_n 3, 1) := by decide +kernel
theorem dX12_note_34 : decode cX12_note 34 = .ok (.iaload, 1) := by decide +kernel
theorem dX12_note_35 : decode cX12_note 35 = .ok (.iastore, 1) := by decide +kernel
theorem dX12_note_36 : decode cX12_note 36 = .ok (.aload_n 0, 1) := by decide +kernel
theorem dX12_note_37 : decode cX12_note 37 = .ok (.getfield 361, 3) := by decide +kernel
theorem dX12_note_40 : decode cX12_note 40 = .ok (.iload 4, 2) := by decide +kernel
theorem dX12_note_42 : decode cX12_note 42 = .ok (.aload_n 0, 1) := by decide +kernel
theorem dX12_note_43 : decode cX12_note 43 = .ok (.getfield 275, 3) := by decide +kernel
theorem dX12_note_46 : decode cX12_note 46 = .ok (.iload_n 3, 1) := by decide +kernel
theorem dX12_note_47 : decode cX12_note 47 = .ok (.iaload, 1) := by decide +kernel
theorem dX12_note_48 : decode cX12_note 48 = .ok (.iastore, 1) := by decide +kernel
theorem dX12_note_49 : decode cX12_note 49 = .ok (.aload_n 0, 1) := by decide +kernel
theorem dX12_note_50 : decode cX12_note 50 = .ok (.getfield 364, 3) := by decide +kernel
theorem dX12_note_53 : decode cX12_note 53 = .ok (.iload 4, 2) := by decide +kernel
theorem dX12_note_55 : decode cX12_note 55 = .ok (.iload_n 1, 1) := by decide +kernel
theorem dX12_note_56 : decode cX12_note 56 = .ok (.iastore, 1) := by decide +kernel
theorem dX12_note_57 : decode cX12_note 57 = .ok (.aload_n 0, 1) := by decide +kernel
theorem dX12_note_58 : decode cX12_note 58 = .ok (.getfield 367, 3) := by decide +kernel
theorem dX12_note_61 : decode cX12_note 61 = .ok (.iload 4, 2) := by decide +kernel
theorem dX12_note_63 : decode cX12_note 63 = .ok (.iload_n 2, 1) := by decide +kernel
theorem dX12_note_64 : decode cX12_note 64 = .ok (.iastore, 1) := by decide +kernel
theorem dX12_note_65 : decode cX12_note 65 = .ok (.aload_n 0, 1) := by decide +kernel
theorem dX12_note_66 : decode cX12_note 66 = .ok (.getfield 370, 3) := by decide +kernel
theorem dX12_note_69 : decode cX12_note 69 = .ok (.iload 4, 2) := by decide +kernel
theorem dX12_note_71 : decode cX12_note 71 = .ok (.aload_n 0, 1) := by decide +kernel
theorem dX12_note_72 : decode cX12_note 72 = .ok (.getfield 654, 3) := by decide +kernel
theorem dX12_note_75 : decode cX12_note 75 = .ok (.iastore, 1) := by decide +kernel
theorem dX12_note_76 : decode cX12_note 76 = .ok (.aload_n 0, 1) := by decide +kernel
theorem dX12_note_77 : decode cX12_note 77 = .ok (.getfield 373, 3) := by decide +kernel
theorem dX12_note_80 : decode cX12_note 80 = .ok (.iload 4, 2) := by decide +kernel
theorem dX12_note_82 : decode cX12_note 82 = .ok (.aload_n 0, 1) := by decide +kernel
theorem dX12_note_83 : decode cX12_note 83 = .ok (.getfield 632, 3) := by decide +kernel
theorem dX12_note_86 : decode cX12_note 86 = .ok (.iconst 1, 1) := by decide +kernel
theorem dX12_note_87 : decode cX12_note 87 = .ok (.isub, 1) := by decide +kernel
theorem dX12_note_88 : decode cX12_note 88 = .ok (.iastore, 1) := by decide +kernel
theorem dX12_note_89 : decode cX12_note 89 = .ok (.iconst 1, 1) := by decide +kernel
theorem dX12_note_90 : decode cX12_note 90 = .ok (.istore 6, 2) := by decide +kernel
theorem dX12_note_92 : decode cX12_note 92 = .ok (.iload 6, 2) := by decide +kernel
theorem dX12_note_94 : decode cX12_note 94 = .ok (.aload_n 0, 1) := by decide +kernel
theorem dX12_note_95 : decode cX12_note 95 = .ok (.getfield 632, 3) := by decide +kernel
theorem dX12_note_98 : decode cX12_note 98 = .ok (.if_icmp .ge 38, 3) := by decide +kernel
theorem dX12_note_101 : decode cX12_note 101 = .ok (.iload 6, 2) := by decide +kernel
theorem dX12_note_103 : decode cX12_note 103 = .ok (.bipush 40, 2) := by decide +kernel
theorem dX12_note_105 : decode cX12_note 105 = .ok (.if_icmp .gt 31, 3) := by decide +kernel
theorem dX12_note_108 : decode cX12_note 108 = .ok (.aload_n 0, 1) := by decide +kernel
theorem dX12_note_109 : decode cX12_note 109 = .ok (.getfield 382, 3) := by decide +kernel
theorem dX12_note_112 : decode cX12_note 112 = .ok (.bipush 40, 2) := by decide +kernel
theorem dX12_note_114 : decode cX12_note 114 = .ok (.iload 4, 2) := by decide +kernel
theorem dX12_note_116 : decode cX12_note 116 = .ok (.imul, 1) := by decide +kernel
theorem dX12_note_117 : decode cX12_note 117 = .ok (.iload 6, 2) := by decide +kernel
theorem dX12_note_119 : decode cX12_note 119 = .ok (.iadd, 1) := by decide +kernel
theorem dX12_note_120 : decode cX12_note 120 = .ok (.iconst 1, 1) := by decide +kernel
theorem dX12_note_121 : decode cX12_note 121 = .ok (.isub, 1) := by decide +kernel
theorem dX12_note_122 : decode cX12_note 122 = .ok (.aload_n 0, 1) := by decide +kernel
theorem dX12_note_123 : decode cX12_note 123 = .ok (.getfield 407, 3) := by decide +kernel
theorem dX12_note_126 : decode cX12_note 126 = .ok (.iload 6, 2) := by decide +kernel
theorem dX12_note_128 : decode cX12_note 128 = .ok (.iaload, 1) := by decide +kernel
theorem dX12_note_129 : decode cX12_note 129 = .ok (.iastore, 1) := by decide +kernel
theorem dX12_note_130 : decode cX12_note 130 = .ok (.iinc 6 1, 3) := by decide +kernel
theorem dX12_note_133 : decode cX12_note 133 = .ok (.goto (-41), 3) := by decide +kernel
theorem dX12_note_136 : decode cX12_note 136 = .ok (.aload_n 0, 1) := by decide +kernel
theorem dX12_note_137 : decode cX12_note 137 = .ok (.getfield 385, 3) := by decide +kernel
theorem dX12_note_140 : decode cX12_note 140 = .ok (.iload 4, 2) := by decide +kernel
theorem dX12_note_142 : decode cX12_note 142 = .ok (.iload 5, 2) := by decide +kernel
theorem dX12_note_144 : decode cX12_note 144 = .ok (.iconst 3, 1) := by decide +kernel
theorem dX12_note_145 : decode cX12_note 145 = .ok (.if_icmp .eq 16, 3) := by decide +kernel
theorem dX12_note_148 : decode cX12_note 148 = .ok (.iload 5, 2) := by decide +kernel
theorem dX12_note_150 : decode cX12_note 150 = .ok (.iconst 4, 1) := by decide +kernel
theorem dX12_note_151 : decode cX12_note 151 = .ok (.if_icmp .eq 10, 3) := by decide +kernel
theorem dX12_note_154 : decode cX12_note 154 = .ok (.iload 5, 2) := by decide +kernel
theorem dX12_note_156 : decode cX12_note 156 = .ok (.bipush 6, 2) := by decide +kernel
theorem dX12_note_158 : decode cX12_note 158 = .ok (.if_icmp .ne 7, 3) := by decide +kernel
theorem dX12_note_161 : decode cX12_note 161 = .ok (.iconst 1, 1) := by decide +kernel
theorem dX12_note_162 : decode cX12_note 162 = .ok (.goto 4, 3) := by decide +kernel
theorem dX12_note_165 : decode cX12_note 165 = .ok (.iconst 0, 1) := by decide +kernel
theorem dX12_note_166 : decode cX12_note 166 = .ok (.bastore, 1) := by decide +kernel
theorem dX12_note_167 : decode cX12_note 167 = .ok (.aload_n 0, 1) := by decide +kernel
theorem dX12_note_168 : decode cX12_note 168 = .ok (.getfield 379, 3) := by decide +kernel
theorem dX12_note_171 : decode cX12_note 171 = .ok (.iload 4, 2) := by decide +kernel
theorem dX12_note_173 : decode cX12_note 173 = .ok (.aload_n 0, 1) := by decide +kernel
theorem dX12_note_174 : decode cX12_note 174 = .ok (.getfield 385, 3) := by decide +kernel
theorem dX12_note_177 : decode cX12_note 177 = .ok (.iload 4, 2) := by decide +kernel
theorem dX12_note_179 : decode cX12_note 179 = .ok (.baload, 1) := by decide +kernel
theorem dX12_note_180 : decode cX12_note 180 = .ok (.ifCond .eq 22, 3) := by decide +kernel
theorem dX12_note_183 : decode cX12_note 183 = .ok (.aload_n 0, 1) := by decide +kernel
theorem dX12_note_184 : decode cX12_note 184 = .ok (.aload_n 0, 1) := by decide +kernel
theorem dX12_note_185 : decode cX12_note 185 = .ok (.getfield 318, 3) := by decide +kernel
theorem dX12_note_188 : decode cX12_note 188 = .ok (.bipush 12, 2) := by decide +kernel
theorem dX12_note_190 : decode cX12_note 190 = .ok (.iload_n 1, 1) := by decide +kernel
theorem dX12_note_191 : decode cX12_note 191 = .ok (.imul, 1) := by decide +kernel
theorem dX12_note_192 : decode cX12_note 192 = .ok (.iload_n 2, 1) := by decide +kernel
theorem dX12_note_193 : decode cX12_note 193 = .ok (.iadd, 1) := by decide +kernel
theorem dX12_note_194 : decode cX12_note 194 = .ok (.iaload, 1) := by decide +kernel
theorem dX12_note_195 : decode cX12_note 195 = .ok (.iload_n 3, 1) := by decide +kernel
theorem dX12_note_196 : decode cX12_note 196 = .ok (.invokevirtual 684, 3) := by decide +kernel
theorem dX12_note_199 : decode cX12_note 199 = .ok (.goto 4, 3) := by decide +kernel
theorem dX12_note_202 : decode cX12_note 202 = .ok (.iconst 0, 1) := by decide +kernel
theorem dX12_note_203 : decode cX12_note 203 = .ok (.iastore, 1) := by decide +kernel
theorem dX12_note_204 : decode cX12_note 204 = .ok (.aload_n 0, 1) := by decide +kernel
theorem dX12_note_205 : decode cX12_note 205 = .ok (.iload 4, 2) := by decide +kernel
theorem dX12_note_207 : decode cX12_note 207 = .ok (.iload_n 1, 1) := by decide +kernel
theorem dX12_note_208 : decode cX12_note 208 = .ok (.iload_n 2, 1) := by decide +kernel
theorem dX12_note_209 : decode cX12_note 209 = .ok (.iload_n 3, 1) := by decide +kernel
theorem dX12_note_210 : decode cX12_note 210 = .ok (.invokevirtual 687, 3) := by decide +kernel
theorem dX12_note_213 : decode cX12_note 213 = .ok (.return_, 1) := by decide +kernel
theorem dX12_proposal_0 : decode cX12_proposal 0 = .ok (.aload_n 0, 1) := by decide +kernel
theorem dX12_proposal_1 : decode cX12_proposal 1 = .ok (.getfield 266, 3) := by decide +kernel
theorem dX12_proposal_4 : decode cX12_proposal 4 = .ok (.iload_n 2, 1) := by decide +kernel
theorem dX12_proposal_5 : decode cX12_proposal 5 = .ok (.iaload, 1) := by decide +kernel
theorem dX12_proposal_6 : decode cX12_proposal 6 = .ok (.bipush 6, 2) := by decide +kernel
theorem dX12_proposal_8 : decode cX12_proposal 8 = .ok (.if_icmp .eq 12, 3) := by decide +kernel
theorem dX12_proposal_11 : decode cX12_proposal 11 = .ok (.aload_n 0, 1) := by decide +kernel
theorem dX12_proposal_12 : decode cX12_proposal 12 = .ok (.getfield 288, 3) := by decide +kernel
theorem dX12_proposal_15 : decode cX12_proposal 15 = .ok (.iconst 4, 1) := by decide +kernel
theorem dX12_proposal_16 : decode cX12_proposal 16 = .ok (.iload_n 2, 1) := by decide +kernel
theorem dX12_proposal_17 : decode cX12_proposal 17 = .ok (.imul, 1) := by decide +kernel
theorem dX12_proposal_18 : decode cX12_proposal 18 = .ok (.iaload, 1) := by decide +kernel
theorem dX12_proposal_19 : decode cX12_proposal 19 = .ok (.ireturn, 1) := by decide +kernel
theorem dX12_proposal_20 : decode cX12_proposal 20 = .ok (.aload_n 0, 1) := by decide +kernel
theorem dX12_proposal_21 : decode cX12_proposal 21 = .ok (.getfield 288, 3) := by decide +kernel
theorem dX12_proposal_24 : decode cX12_proposal 24 = .ok (.iconst 4, 1) := by decide +kernel
theorem dX12_proposal_25 : decode cX12_proposal 25 = .ok (.iload_n 2, 1) := by decide +kernel
theorem dX12_proposal_26 : decode cX12_proposal 26 = .ok (.imul, 1) := by decide +kernel
theorem dX12_proposal_27 : decode cX12_proposal 27 = .ok (.iaload, 1) := by decide +kernel
theorem dX12_proposal_28 : decode cX12_proposal 28 = .ok (.istore_n 3, 1) := by decide +kernel
theorem dX12_proposal_29 : decode cX12_proposal 29 = .ok (.iconst 1, 1) := by decide +kernel
theorem dX12_proposal_30 : decode cX12_proposal 30 = .ok (.istore 4, 2) := by decide +kernel
theorem dX12_proposal_32 : decode cX12_proposal 32 = .ok (.iload 4, 2) := by decide +kernel
theorem dX12_proposal_34 : decode cX12_proposal 34 = .ok (.aload_n 0, 1) := by decide +kernel
theorem dX12_proposal_35 : decode cX12_proposal 35 = .ok (.getfield 284, 3) := by decide +kernel
theorem dX12_proposal_38 : decode cX12_proposal 38 = .ok (.iload_n 2, 1) := by decide +kernel
theorem dX12_proposal_39 : decode cX12_proposal 39 = .ok (.iaload, 1) := by decide +kernel
theorem dX12_proposal_40 : decode cX12_proposal 40 = .ok (.if_icmp .ge 68, 3) := by decide +kernel
theorem dX12_proposal_43 : decode cX12_proposal 43 = .ok (.aload_n 0, 1) := by decide +kernel
theorem dX12_proposal_44 : decode cX12_proposal 44 = .ok (.getfield 288, 3) := by decide +kernel
theorem dX12_proposal_47 : decode cX12_proposal 47 = .ok (.iconst 4, 1) := by decide +kernel
theorem dX12_proposal_48 : decode cX12_proposal 48 = .ok (.iload_n 2, 1) := by decide +kernel
theorem dX12_proposal_49 : decode cX12_proposal 49 = .ok (.imul, 1) := by decide +kernel
theorem dX12_proposal_50 : decode cX12_proposal 50 = .ok (.iload 4, 2) := by decide +kernel
theorem dX12_proposal_52 : decode cX12_proposal 52 = .ok (.iadd, 1) := by decide +kernel
theorem dX12_proposal_53 : decode cX12_proposal 53 = .ok (.iaload, 1) := by decide +kernel
theorem dX12_proposal_54 : decode cX12_proposal 54 = .ok (.istore 5, 2) := by decide +kernel
theorem dX12_proposal_56 : decode cX12_proposal 56 = .ok (.iload 5, 2) := by decide +kernel
theorem dX12_proposal_58 : decode cX12_proposal 58 = .ok (.i2l, 1) := by decide +kernel
theorem dX12_proposal_59 : decode cX12_proposal 59 = .ok (.iload_n 1, 1) := by decide +kernel
theorem dX12_proposal_60 : decode cX12_proposal 60 = .ok (.i2l, 1) := by decide +kernel
theorem dX12_proposal_61 : decode cX12_proposal 61 = .ok (.lsub, 1) := by decide +kernel
theorem dX12_proposal_62 : decode cX12_proposal 62 = .ok (.invokestatic 690, 3) := by decide +kernel
theorem dX12_proposal_65 : decode cX12_proposal 65 = .ok (.lstore 6, 2) := by decide +kernel
theorem dX12_proposal_67 : decode cX12_proposal 67 = .ok (.iload_n 3, 1) := by decide +kernel
theorem dX12_proposal_68 : decode cX12_proposal 68 = .ok (.i2l, 1) := by decide +kernel
theorem dX12_proposal_69 : decode cX12_proposal 69 = .ok (.iload_n 1, 1) := by decide +kernel
theorem dX12_proposal_70 : decode cX12_proposal 70 = .ok (.i2l, 1) := by decide +kernel
theorem dX12_proposal_71 : decode cX12_proposal 71 = .ok (.lsub, 1) := by decide +kernel
theorem dX12_proposal_72 : decode cX12_proposal 72 = .ok (.invokestatic 690, 3) := by decide +kernel
theorem dX12_proposal_75 : decode cX12_proposal 75 = .ok (.lstore 8, 2) := by decide +kernel
theorem dX12_proposal_77 : decode cX12_proposal 77 = .ok (.lload 6, 2) := by decide +kernel
theorem dX12_proposal_79 : decode cX12_proposal 79 = .ok (.lload 8, 2) := by decide +kernel
theorem dX12_proposal_81 : decode cX12_proposal 81 = .ok (.lcmp, 1) := by decide +kernel
theorem dX12_proposal_82 : decode cX12_proposal 82 = .ok (.ifCond .lt 17, 3) := by decide +kernel
theorem dX12_proposal_85 : decode cX12_proposal 85 = .ok (.lload 6, 2) := by decide +kernel
theorem dX12_proposal_87 : decode cX12_proposal 87 = .ok (.lload 8, 2) := by decide +kernel
theorem dX12_proposal_89 : decode cX12_proposal 89 = .ok (.lcmp, 1) := by decide +kernel
theorem dX12_proposal_90 : decode cX12_proposal 90 = .ok (.ifCond .ne 12, 3) := by decide +kernel
theorem dX12_proposal_93 : decode cX12_proposal 93 = .ok (.iload 5, 2) := by decide +kernel
theorem dX12_proposal_95 : decode cX12_proposal 95 = .ok (.iload_n 3, 1) := by decide +kernel
theorem dX12_proposal_96 : decode cX12_proposal 96 = .ok (.if_icmp .ge 6, 3) := by decide +kernel
theorem dX12_proposal_99 : decode cX12_proposal 99 = .ok (.iload 5, 2) := by decide +kernel
theorem dX12_proposal_101 : decode cX12_proposal 101 = .ok (.istore_n 3, 1) := by decide +kernel
theorem dX12_proposal_102 : decode cX12_proposal 102 = .ok (.iinc 4 1, 3) := by decide +kernel
theorem dX12_proposal_105 : decode cX12_proposal 105 = .ok (.goto (-73), 3) := by decide +kernel
theorem dX12_proposal_108 : decode cX12_proposal 108 = .ok (.iload_n 3, 1) := by decide +kernel
theorem dX12_proposal_109 : decode cX12_proposal 109 = .ok (.ireturn, 1) := by decide +kernel
theorem dX12_size_0 : decode cX12_size 0 = .ok (.lload_n 0, 1) := by decide +kernel
theorem dX12_size_1 : decode cX12_size 1 = .ok (.lconst 0, 1) := by decide +kernel
theorem dX12_size_2 : decode cX12_size 2 = .ok (.lcmp, 1) := by decide +kernel
theorem dX12_size_3 : decode cX12_size 3 = .ok (.ifCond .ge 8, 3) := by decide +kernel
theorem dX12_size_6 : decode cX12_size 6 = .ok (.lload_n 0, 1) := by decide +kernel
theorem dX12_size_7 : decode cX12_size 7 = .ok (.lneg, 1) := by decide +kernel
theorem dX12_size_8 : decode cX12_size 8 = .ok (.goto 4, 3) := by decide +kernel
theorem dX12_size_11 : decode cX12_size 11 = .ok (.lload_n 0, 1) := by decide +kernel
theorem dX12_size_12 : decode cX12_size 12 = .ok (.lreturn, 1) := by decide +kernel
theorem dX12_add2_0 : decode cX12_add2 0 = .ok (.aload_n 0, 1) := by decide +kernel
theorem dX12_add2_1 : decode cX12_add2 1 = .ok (.getfield 692, 3) := by decide +kernel
theorem dX12_add2_4 : decode cX12_add2 4 = .ok (.bipush 80, 2) := by decide +kernel
theorem dX12_add2_6 : decode cX12_add2 6 = .ok (.if_icmp .ge 19, 3) := by decide +kernel
theorem dX12_add2_9 : decode cX12_add2 9 = .ok (.aload_n 0, 1) := by decide +kernel
theorem dX12_add2_10 : decode cX12_add2 10 = .ok (.getfield 389, 3) := by decide +kernel
theorem dX12_add2_13 : decode cX12_add2 13 = .ok (.bipush 80, 2) := by decide +kernel
theorem dX12_add2_15 : decode cX12_add2 15 = .ok (.iload_n 1, 1) := by decide +kernel
theorem dX12_add2_16 : decode cX12_add2 16 = .ok (.imul, 1) := by decide +kernel
theorem dX12_add2_17 : decode cX12_add2 17 = .ok (.aload_n 0, 1) := by decide +kernel
theorem dX12_add2_18 : decode cX12_add2 18 = .ok (.getfield 692, 3) := by decide +kernel
theorem dX12_add2_21 : decode cX12_add2 21 = .ok (.iadd, 1) := by decide +kernel
theorem dX12_add2_22 : decode cX12_add2 22 = .ok (.iload_n 2, 1) := by decide +kernel
theorem dX12_add2_23 : decode cX12_add2 23 = .ok (.i2b, 1) := by decide +kernel
theorem dX12_add2_24 : decode cX12_add2 24 = .ok (.bastore, 1) := by decide +kernel
theorem dX12_add2_25 : decode cX12_add2 25 = .ok (.aload_n 0, 1) := by decide +kernel
theorem dX12_add2_26 : decode cX12_add2 26 = .ok (.dup, 1) := by decide +kernel
theorem dX12_add2_27 : decode cX12_add2 27 = .ok (.getfield 692, 3) := by decide +kernel
theorem dX12_add2_30 : decode cX12_add2 30 = .ok (.iconst 1, 1) := by decide +kernel
theorem dX12_add2_31 : decode cX12_add2 31 = .ok (.iadd, 1) := by decide +kernel
theorem dX12_add2_32 : decode cX12_add2 32 = .ok (.putfield 692, 3) := by decide +kernel
theorem dX12_add2_35 : decode cX12_add2 35 = .ok (.return_, 1) := by decide +kernel
theorem dX12_addNumber_0 : decode cX12_addNumber 0 = .ok (.iload_n 2, 1) := by decide +kernel
theorem dX12_addNumber_1 : decode cX12_addNumber 1 = .ok (.ifCond .ge 9, 3) := by decide +kernel
theorem dX12_addNumber_4 : decode cX12_addNumber 4 = .ok (.iload_n 2, 1) := by decide +kernel
theorem dX12_addNumber_5 : decode cX12_addNumber 5 = .ok (.i2l, 1) := by decide +kernel
theorem dX12_addNumber_6 : decode cX12_addNumber 6 = .ok (.lneg, 1) := by decide +kernel
theorem dX12_addNumber_7 : decode cX12_addNumber 7 = .ok (.goto 5, 3) := by decide +kernel
theorem dX12_addNumber_10 : decode cX12_addNumber 10 = .ok (.iload_n 2, 1) := by decide +kernel
theorem dX12_addNumber_11 : decode cX12_addNumber 11 = .ok (.i2l, 1) := by decide +kernel
theorem dX12_addNumber_12 : decode cX12_addNumber 12 = .ok (.lstore_n 3, 1) := by decide +kernel
theorem dX12_addNumber_13 : decode cX12_addNumber 13 = .ok (.iload_n 2, 1) := by decide +kernel
theorem dX12_addNumber_14 : decode cX12_addNumber 14 = .ok (.ifCond .ge 10, 3) := by decide +kernel
theorem dX12_addNumber_17 : decode cX12_addNumber 17 = .ok (.aload_n 0, 1) := by decide +kernel
theorem dX12_addNumber_18 : decode cX12_addNumber 18 = .ok (.iload_n 1, 1) := by decide +kernel
theorem dX12_addNumber_19 : decode cX12_addNumber 19 = .ok (.bipush 45, 2) := by decide +kernel
theorem dX12_addNumber_21 : decode cX12_addNumber 21 = .ok (.invokevirtual 695, 3) := by decide +kernel
theorem dX12_addNumber_24 : decode cX12_addNumber 24 = .ok (.lconst 1, 1) := by decide +kernel
theorem dX12_addNumber_25 : decode cX12_addNumber 25 = .ok (.lstore 5, 2) := by decide +kernel
theorem dX12_addNumber_27 : decode cX12_addNumber 27 = .ok (.lload_n 3, 1) := by decide +kernel
theorem dX12_addNumber_28 : decode cX12_addNumber 28 = .ok (.lload 5, 2) := by decide +kernel
theorem dX12_addNumber_30 : decode cX12_addNumber 30 = .ok (.ldiv, 1) := by decide +kernel
theorem dX12_addNumber_31 : decode cX12_addNumber 31 = .ok (.ldc2_w 698, 3) := by decide +kernel
theorem dX12_addNumber_34 : decode cX12_addNumber 34 = .ok (.lcmp, 1) := by decide +kernel
theorem dX12_addNumber_35 : decode cX12_addNumber 35 = .ok (.ifCond .le 14, 3) := by decide +kernel
theorem dX12_addNumber_38 : decode cX12_addNumber 38 = .ok (.lload 5, 2) := by decide +kernel
theorem dX12_addNumber_40 : decode cX12_addNumber 40 = .ok (.ldc2_w 700, 3) := by decide +kernel
theorem dX12_addNumber_43 : decode cX12_addNumber 43 = .ok (.lmul, 1) := by decide +kernel
theorem dX12_addNumber_44 : decode cX12_addNumber 44 = .ok (.lstore 5, 2) := by decide +kernel
theorem dX12_addNumber_46 : decode cX12_addNumber 46 = .ok (.goto (-19), 3) := by decide +kernel
theorem dX12_addNumber_49 : decode cX12_addNumber 49 = .ok (.lload 5, 2) := by decide +kernel
theorem dX12_addNumber_51 : decode cX12_addNumber 51 = .ok (.lconst 0, 1) := by decide +kernel
theorem dX12_addNumber_52 : decode cX12_addNumber 52 = .ok (.lcmp, 1) := by decide +kernel
theorem dX12_addNumber_53 : decode cX12_addNumber 53 = .ok (.ifCond .le 31, 3) := by decide +kernel
theorem dX12_addNumber_56 : decode cX12_addNumber 56 = .ok (.aload_n 0, 1) := by decide +kernel
theorem dX12_addNumber_57 : decode cX12_addNumber 57 = .ok (.iload_n 1, 1) := by decide +kernel
theorem dX12_addNumber_58 : decode cX12_addNumber 58 = .ok (.bipush 48, 2) := by decide +kernel
theorem dX12_addNumber_60 : decode cX12_addNumber 60 = .ok (.lload_n 3, 1) := by decide +kernel
theorem dX12_addNumber_61 : decode cX12_addNumber 61 = .ok (.lload 5, 2) := by decide +kernel
theorem dX12_addNumber_63 : decode cX12_addNumber 63 = .ok (.ldiv, 1) := by decide +kernel
theorem dX12_addNumber_64 : decode cX12_addNumber 64 = .ok (.ldc2_w 700, 3) := by decide +kernel
theorem dX12_addNumber_67 : decode cX12_addNumber 67 = .ok (.lrem, 1) := by decide +kernel
theorem dX12_addNumber_68 : decode cX12_addNumber 68 = .ok (.l2i, 1) := by decide +kernel
theorem dX12_addNumber_69 : decode cX12_addNumber 69 = .ok (.iadd, 1) := by decide +kernel
theorem dX12_addNumber_70 : decode cX12_addNumber 70 = .ok (.invokevirtual 695, 3) := by decide +kernel
theorem dX12_addNumber_73 : decode cX12_addNumber 73 = .ok (.lload 5, 2) := by decide +kernel
theorem dX12_addNumber_75 : decode cX12_addNumber 75 = .ok (.ldc2_w 700, 3) := by decide +kernel
theorem dX12_addNumber_78 : decode cX12_addNumber 78 = .ok (.ldiv, 1) := by decide +kernel
theorem dX12_addNumber_79 : decode cX12_addNumber 79 = .ok (.lstore 5, 2) := by decide +kernel
theorem dX12_addNumber_81 : decode cX12_addNumber 81 = .ok (.goto (-32), 3) := by decide +kernel
theorem dX12_addNumber_84 : decode cX12_addNumber 84 = .ok (.return_, 1) := by decide +kernel
theorem dX12_say_0 : decode cX12_say 0 = .ok (.aload_n 0, 1) := by decide +kernel
theorem dX12_say_1 : decode cX12_say 1 = .ok (.iconst 0, 1) := by decide +kernel
theorem dX12_say_2 : decode cX12_say 2 = .ok (.putfield 692, 3) := by decide +kernel
theorem dX12_say_5 : decode cX12_say 5 = .ok (.iload_n 3, 1) := by decide +kernel
theorem dX12_say_6 : decode cX12_say 6 = .ok (.ifCond .ge 7, 3) := by decide +kernel
theorem dX12_say_9 : decode cX12_say 9 = .ok (.iconst 0, 1) := by decide +kernel
theorem dX12_say_10 : decode cX12_say 10 = .ok (.goto 47, 3) := by decide +kernel
theorem dX12_say_13 : decode cX12_say 13 = .ok (.aload_n 0, 1) := by decide +kernel
theorem dX12_say_14 : decode cX12_say 14 = .ok (.aload_n 0, 1) := by decide +kernel
theorem dX12_say_15 : decode cX12_say 15 = .ok (.getfield 315, 3) := by decide +kernel
theorem dX12_say_18 : decode cX12_say 18 = .ok (.iload_n 2, 1) := by decide +kernel
theorem dX12_say_19 : decode cX12_say 19 = .ok (.iaload, 1) := by decide +kernel
theorem dX12_say_20 : decode cX12_say 20 = .ok (.iload_n 3, 1) := by decide +kernel
theorem dX12_say_21 : decode cX12_say 21 = .ok (.invokevirtual 569, 3) := by decide +kernel
theorem dX12_say_24 : decode cX12_say 24 = .ok (.iconst 3, 1) := by decide +kernel
theorem dX12_say_25 : decode cX12_say 25 = .ok (.if_icmp .ne 25, 3) := by decide +kernel
theorem dX12_say_28 : decode cX12_say 28 = .ok (.aload_n 0, 1) := by decide +kernel
theorem dX12_say_29 : decode cX12_say 29 = .ok (.getfield 334, 3) := by decide +kernel
theorem dX12_say_32 : decode cX12_say 32 = .ok (.bipush 12, 2) := by decide +kernel
theorem dX12_say_34 : decode cX12_say 34 = .ok (.iload_n 2, 1) := by decide +kernel
theorem dX12_say_35 : decode cX12_say 35 = .ok (.imul, 1) := by decide +kernel
theorem dX12_say_36 : decode cX12_say 36 = .ok (.iload_n 3, 1) := by decide +kernel
theorem dX12_say_37 : decode cX12_say 37 = .ok (.iadd, 1) := by decide +kernel
theorem dX12_say_38 : decode cX12_say 38 = .ok (.baload, 1) := by decide +kernel
theorem dX12_say_39 : decode cX12_say 39 = .ok (.ifCond .eq 7, 3) := by decide +kernel
theorem dX12_say_42 : decode cX12_say 42 = .ok (.iconst 1, 1) := by decide +kernel
theorem dX12_say_43 : decode cX12_say 43 = .ok (.goto 14, 3) := by decide +kernel
theorem dX12_say_46 : decode cX12_say 46 = .ok (.iconst 0, 1) := by decide +kernel
theorem dX12_say_47 : decode cX12_say 47 = .ok (.goto 10, 3) := by decide +kernel
theorem dX12_say_50 : decode cX12_say 50 = .ok (.aload_n 0, 1) := by decide +kernel
theorem dX12_say_51 : decode cX12_say 51 = .ok (.iload_n 2, 1) := by decide +kernel
theorem dX12_say_52 : decode cX12_say 52 = .ok (.iload_n 3, 1) := by decide +kernel
theorem dX12_say_53 : decode cX12_say 53 = .ok (.iconst 1, 1) := by decide +kernel
theorem dX12_say_54 : decode cX12_say 54 = .ok (.invokevirtual 702, 3) := by decide +kernel
theorem dX12_say_57 : decode cX12_say 57 = .ok (.istore 5, 2) := by decide +kernel
theorem dX12_say_59 : decode cX12_say 59 = .ok (.aload_n 0, 1) := by decide +kernel
theorem dX12_say_60 : decode cX12_say 60 = .ok (.getfield 266, 3) := by decide +kernel
theorem dX12_say_63 : decode cX12_say 63 = .ok (.iload 4, 2) := by decide +kernel
theorem dX12_say_65 : decode cX12_say 65 = .ok (.iaload, 1) := by decide +kernel
theorem dX12_say_66 : decode cX12_say 66 = .ok (.bipush 7, 2) := by decide +kernel
theorem dX12_say_68 : decode cX12_say 68 = .ok (.if_icmp .eq 19, 3) := by decide +kernel
theorem dX12_say_71 : decode cX12_say 71 = .ok (.aload_n 0, 1) := by decide +kernel
theorem dX12_say_72 : decode cX12_say 72 = .ok (.getfield 266, 3) := by decide +kernel
theorem dX12_say_75 : decode cX12_say 75 = .ok (.iload 4, 2) := by decide +kernel
theorem dX12_say_77 : decode cX12_say 77 = .ok (.iaload, 1) := by decide +kernel
theorem dX12_say_78 : decode cX12_say 78 = .ok (.bipush 8, 2) := by decide +kernel
theorem dX12_say_80 : decode cX12_say 80 = .ok (.if_icmp .eq 7, 3) := by decide +kernel
theorem dX12_say_83 : decode cX12_say 83 = .ok (.iconst 1, 1) := by decide +kernel
theorem dX12_say_84 : decode cX12_say 84 = .ok (.goto 4, 3) := by decide +kernel
theorem dX12_say_87 : decode cX12_say 87 = .ok (.iconst 0, 1) := by decide +kernel
theorem dX12_say_88 : decode cX12_say 88 = .ok (.istore 6, 2) := by decide +kernel
theorem dX12_say_90 : decode cX12_say 90 = .ok (.iload 6, 2) := by decide +kernel
theorem dX12_say_92 : decode cX12_say 92 = .ok (.ifCond .eq 25, 3) := by decide +kernel
theorem dX12_say_95 : decode cX12_say 95 = .ok (.aload_n 0, 1) := by decide +kernel
theorem dX12_say_96 : decode cX12_say 96 = .ok (.getfield 284, 3) := by decide +kernel
theorem dX12_say_99 : decode cX12_say 99 = .ok (.iload 4, 2) := by decide +kernel
theorem dX12_say_101 : decode cX12_say 101 = .ok (.iaload, 1) := by decide +kernel
theorem dX12_say_102 : decode cX12_say 102 = .ok (.ifCond .le 15, 3) := by decide +kernel
theorem dX12_say_105 : decode cX12_say 105 = .ok (.aload_n 0, 1) := by decide +kernel
theorem dX12_say_106 : decode cX12_say 106 = .ok (.getfield 288, 3) := by decide +kernel
theorem dX12_say_109 : decode cX12_say 109 = .ok (.iconst 4, 1) := by decide +kernel
theorem dX12_say_110 : decode cX12_say 110 = .ok (.iload 4, 2) := by decide +kernel
theorem dX12_say_112 : decode cX12_say 112 = .ok (.imul, 1) := by decide +kernel
theorem dX12_say_113 : decode cX12_say 113 = .ok (.iaload, 1) := by decide +kernel
theorem dX12_say_114 : decode cX12_say 114 = .ok (.goto 4, 3) := by decide +kernel
theorem dX12_say_117 : decode cX12_say 117 = .ok (.iconst 0, 1) := by decide +kernel
theorem dX12_say_118 : decode cX12_say 118 = .ok (.istore 7, 2) := by decide +kernel
theorem dX12_say_120 : decode cX12_say 120 = .ok (.iload 6, 2) := by decide +kernel
theorem dX12_say_122 : decode cX12_say 122 = .ok (.ifCond .eq 28, 3) := by decide +kernel
theorem dX12_say_125 : decode cX12_say 125 = .ok (.aload_n 0, 1) := by decide +kernel
theorem dX12_say_126 : decode cX12_say 126 = .ok (.getfield 284, 3) := by decide +kernel
theorem dX12_say_129 : decode cX12_say 129 = .ok (.iload 4, 2) := by decide +kernel
theorem dX12_say_131 : decode cX12_say 131 = .ok (.iaload, 1) := by decide +kernel
theorem dX12_say_132 : decode cX12_say 132 = .ok (.iconst 1, 1) := by decide +kernel
theorem dX12_say_133 : decode cX12_say 133 = .ok (.if_icmp .le 17, 3) := by decide +kernel
theorem dX12_say_136 : decode cX12_say 136 = .ok (.aload_n 0, 1) := by decide +kernel
theorem dX12_say_137 : decode cX12_say 137 = .ok (.getfield 288, 3) := by decide +kernel
theorem dX12_say_140 : decode cX12_say 140 = .ok (.iconst 4, 1) := by decide +kernel
theorem dX12_say_141 : decode cX12_say 141 = .ok (.iload 4, 2) := by decide +kernel
theorem dX12_say_143 : decode cX12_say 143 = .ok (.imul, 1) := by decide +kernel
theorem dX12_say_144 : decode cX12_say 144 = .ok (.iconst 1, 1) := by decide +kernel
theorem dX12_say_145 : decode cX12_say 145 = .ok (.iadd, 1) := by decide +kernel
theorem dX12_say_146 : decode cX12_say 146 = .ok (.iaload, 1) := by decide +kernel
theorem dX12_say_147 : decode cX12_say 147 = .ok (.goto 4, 3) := by decide +kernel
theorem dX12_say_150 : decode cX12_say 150 = .ok (.iconst 0, 1) := by decide +kernel
theorem dX12_say_151 : decode cX12_say 151 = .ok (.istore 8, 2) := by decide +kernel
theorem dX12_say_153 : decode cX12_say 153 = .ok (.iconst 0, 1) := by decide +kernel
theorem dX12_say_154 : decode cX12_say 154 = .ok (.istore 9, 2) := by decide +kernel
theorem dX12_say_156 : decode cX12_say 156 = .ok (.iload 9, 2) := by decide +kernel
theorem dX12_say_158 : decode cX12_say 158 = .ok (.aload_n 0, 1) := by decide +kernel
theorem dX12_say_159 : decode cX12_say 159 = .ok (.getfield 281, 3) := by decide +kernel
theorem dX12_say_162 : decode cX12_say 162 = .ok (.iload 4, 2) := by decide +kernel
theorem dX12_say_164 : decode cX12_say 164 = .ok (.iaload, 1) := by decide +kernel
theorem dX12_say_165 : decode cX12_say 165 = .ok (.if_icmp .ge 157, 3) := by decide +kernel
theorem dX12_say_168 : decode cX12_say 168 = .ok (.aload_n 0, 1) := by decide +kernel
theorem dX12_say_169 : decode cX12_say 169 = .ok (.getfield 7, 3) := by decide +kernel
theorem dX12_say_172 : decode cX12_say 172 = .ok (.aload_n 0, 1) := by decide +kernel
theorem dX12_say_173 : decode cX12_say 173 = .ok (.getfield 278, 3) := by decide +kernel
theorem dX12_say_176 : decode cX12_say 176 = .ok (.iload 4, 2) := by decide +kernel
theorem dX12_say_178 : decode cX12_say 178 = .ok (.iaload, 1) := by decide +kernel
theorem dX12_say_179 : decode cX12_say 179 = .ok (.iload 9, 2) := by decide +kernel
theorem dX12_say_181 : decode cX12_say 181 = .ok (.iadd, 1) := by decide +kernel
theorem dX12_say_182 : decode cX12_say 182 = .ok (.baload, 1) := by decide +kernel
theorem dX12_say_183 : decode cX12_say 183 = .ok (.istore 10, 2) := by decide +kernel
theorem dX12_say_185 : decode cX12_say 185 = .ok (.iload 9, 2) := by decide +kernel
theorem dX12_say_187 : decode cX12_say 187 = .ok (.iconst 2, 1) := by decide +kernel
theorem dX12_say_188 : decode cX12_say 188 = .ok (.iadd, 1) := by decide +kernel
theorem dX12_say_189 : decode cX12_say 189 = .ok (.aload_n 0, 1) := by decide +kernel
theorem dX12_say_190 : decode cX12_say 190 = .ok (.getfield 281, 3) := by decide +kernel
theorem dX12_say_193 : decode cX12_say 193 = .ok (.iload 4, 2) := by decide +kernel
theorem dX12_say_195 : decode cX12_say 195 = .ok (.iaload, 1) := by decide +kernel
theorem dX12_say_196 : decode cX12_say 196 = .ok (.if_icmp .ge 52, 3) := by decide +kernel
theorem dX12_say_199 : decode cX12_say 199 = .ok (.iload 10, 2) := by decide +kernel
theorem dX12_say_201 : decode cX12_say 201 = .ok (.bipush 123, 2) := by decide +kernel
theorem dX12_say_203 : decode cX12_say 203 = .ok (.if_icmp .ne 45, 3) := by decide +kernel
theorem dX12_say_206 : decode cX12_say 206 = .ok (.aload_n 0, 1) := by decide +kernel
theorem dX12_say_207 : decode cX12_say 207 = .ok (.getfield 7, 3) := by decide +kernel
theorem dX12_say_210 : decode cX12_say 210 = .ok (.aload_n 0, 1) := by decide +kernel
theorem dX12_say_211 : decode cX12_say 211 = .ok (.getfield 278, 3) := by decide +kernel
theorem dX12_say_214 : decode cX12_say 214 = .ok (.iload 4, 2) := by decide +kernel
theorem dX12_say_216 : decode cX12_say 216 = .ok (.iaload, 1) := by decide +kernel
theorem dX12_say_217 : decode cX12_say 217 = .ok (.iload 9, 2) := by decide +kernel
theorem dX12_say_219 : decode cX12_say 219 = .ok (.iadd, 1) := by decide +kernel
theorem dX12_say_220 : decode cX12_say 220 = .ok (.iconst 2, 1) := by decide +kernel
theorem dX12_say_221 : decode cX12_say 221 = .ok (.iadd, 1) := by decide +kernel
theorem dX12_say_222 : decode cX12_say 222 = .ok (.baload, 1) := by decide +kernel
theorem dX12_say_223 : decode cX12_say 223 = .ok (.bipush 125, 2) := by decide +kernel
theorem dX12_say_225 : decode cX12_say 225 = .ok (.if_icmp .ne 23, 3) := by decide +kernel
theorem dX12_say_228 : decode cX12_say 228 = .ok (.aload_n 0, 1) := by decide +kernel
theorem dX12_say_229 : decode cX12_say 229 = .ok (.getfield 7, 3) := by decide +kernel
theorem dX12_say_232 : decode cX12_say 232 = .ok (.aload_n 0, 1) := by decide +kernel
theorem dX12_say_233 : decode cX12_say 233 = .ok (.getfield 278, 3) := by decide +kernel
theorem dX12_say_236 : decode cX12_say 236 = .ok (.iload 4, 2) := by decide +kernel
theorem dX12_say_238 : decode cX12_say 238 = .ok (.iaload, 1) := by decide +kernel
theorem dX12_say_239 : decode cX12_say 239 = .ok (.iload 9, 2) := by decide +kernel
theorem dX12_say_241 : decode cX12_say 241 = .ok (.iadd, 1) := by decide +kernel
theorem dX12_say_242 : decode cX12_say 242 = .ok (.iconst 1, 1) := by decide +kernel
theorem dX12_say_243 : decode cX12_say 243 = .ok (.iadd, 1) := by decide +kernel
theorem dX12_say_244 : decode cX12_say 244 = .ok (.baload, 1) := by decide +kernel
theorem dX12_say_245 : decode cX12_say 245 = .ok (.goto 4, 3) := by decide +kernel
theorem dX12_say_248 : decode cX12_say 248 = .ok (.iconst 0, 1) := by decide +kernel
theorem dX12_say_249 : decode cX12_say 249 = .ok (.istore 11, 2) := by decide +kernel
theorem dX12_say_251 : decode cX12_say 251 = .ok (.iload 11, 2) := by decide +kernel
theorem dX12_say_253 : decode cX12_say 253 = .ok (.bipush 118, 2) := by decide +kernel
theorem dX12_say_255 : decode cX12_say 255 = .ok (.if_icmp .eq 17, 3) := by decide +kernel
theorem dX12_say_258 : decode cX12_say 258 = .ok (.iload 11, 2) := by decide +kernel
theorem dX12_say_260 : decode cX12_say 260 = .ok (.bipush 97, 2) := by decide +kernel
theorem dX12_say_262 : decode cX12_say 262 = .ok (.if_icmp .eq 10, 3) := by decide +kernel
theorem dX12_say_265 : decode cX12_say 265 = .ok (.iload 11, 2) := by decide +kernel
theorem dX12_say_267 : decode cX12_say 267 = .ok (.bipush 98, 2) := by decide +kernel
theorem dX12_say_269 : decode cX12_say 269 = .ok (.if_icmp .ne 40, 3) := by decide +kernel
theorem dX12_say_272 : decode cX12_say 272 = .ok (.aload_n 0, 1) := by decide +kernel
theorem dX12_say_273 : decode cX12_say 273 = .ok (.iload_n 1, 1) := by decide +kernel
theorem dX12_say_274 : decode cX12_say 274 = .ok (.iload 11, 2) := by decide +kernel
theorem dX12_say_276 : decode cX12_say 276 = .ok (.bipush 118, 2) := by decide +kernel
theorem dX12_say_278 : decode cX12_say 278 = .ok (.if_icmp .ne 8, 3) := by decide +kernel
theorem dX12_say_281 : decode cX12_say 281 = .ok (.iload 5, 2) := by decide +kernel
theorem dX12_say_283 : decode cX12_say 283 = .ok (.goto 17, 3) := by decide +kernel
theorem dX12_say_286 : decode cX12_say 286 = .ok (.iload 11, 2) := by decide +kernel
theorem dX12_say_288 : decode cX12_say 288 = .ok (.bipush 97, 2) := by decide +kernel
theorem dX12_say_290 : decode cX12_say 290 = .ok (.if_icmp .ne 8, 3) := by decide +kernel
theorem dX12_say_293 : decode cX12_say 293 = .ok (.iload 7, 2) := by decide +kernel
theorem dX12_say_295 : decode cX12_say 295 = .ok (.goto 5, 3) := by decide +kernel
theorem dX12_say_298 : decode cX12_say 298 = .ok (.iload 8, 2) := by decide +kernel
theorem dX12_say_300 : decode cX12_say 300 = .ok (.invokevirtual 705, 3) := by decide +kernel
theorem dX12_say_303 : decode cX12_say 303 = .ok (.iinc 9 2, 3) := by decide +kernel
theorem dX12_say_306 : decode cX12_say 306 = .ok (.goto 10, 3) := by decide +kernel
theorem dX12_say_309 : decode cX12_say 309 = .ok (.aload_n 0, 1) := by decide +kernel
theorem dX12_say_310 : decode cX12_say 310 = .ok (.iload_n 1, 1) := by decide +kernel
theorem dX12_say_311 : decode cX12_say 311 = .ok (.iload 10, 2) := by decide +kernel
theorem dX12_say_313 : decode cX12_say 313 = .ok (.invokevirtual 695, 3) := by decide +kernel
theorem dX12_say_316 : decode cX12_say 316 = .ok (.iinc 9 1, 3) := by decide +kernel
theorem dX12_say_319 : decode cX12_say 319 = .ok (.goto (-163), 3) := by decide +kernel
theorem dX12_say_322 : decode cX12_say 322 = .ok (.aload_n 0, 1) := by decide +kernel
theorem dX12_say_323 : decode cX12_say 323 = .ok (.getfield 376, 3) := by decide +kernel
theorem dX12_say_326 : decode cX12_say 326 = .ok (.iload_n 1, 1) := by decide +kernel
theorem dX12_say_327 : decode cX12_say 327 = .ok (.aload_n 0, 1) := by decide +kernel
theorem dX12_say_328 : decode cX12_say 328 = .ok (.getfield 692, 3) := by decide +kernel
theorem dX12_say_331 : decode cX12_say 331 = .ok (.bipush 80, 2) := by decide +kernel
theorem dX12_say_333 : decode cX12_say 333 = .ok (.if_icmp .ge 10, 3) := by decide +kernel
theorem dX12_say_336 : decode cX12_say 336 = .ok (.aload_n 0, 1) := by decide +kernel
theorem dX12_say_337 : decode cX12_say 337 = .ok (.getfield 692, 3) := by decide +kernel
theorem dX12_say_340 : decode cX12_say 340 = .ok (.goto 5, 3) := by decide +kernel
theorem dX12_say_343 : decode cX12_say 343 = .ok (.bipush 80, 2) := by decide +kernel
theorem dX12_say_345 : decode cX12_say 345 = .ok (.iastore, 1) := by decide +kernel
theorem dX12_say_346 : decode cX12_say 346 = .ok (.return_, 1) := by decide +kernel
theorem dX12_kept_0 : decode cX12_kept 0 = .ok (.aload_n 0, 1) := by decide +kernel
theorem dX12_kept_1 : decode cX12_kept 1 = .ok (.getfield 534, 3) := by decide +kernel
theorem dX12_kept_4 : decode cX12_kept 4 = .ok (.sipush 500, 3) := by decide +kernel
theorem dX12_kept_7 : decode cX12_kept 7 = .ok (.if_icmp .ge 10, 3) := by decide +kernel
theorem dX12_kept_10 : decode cX12_kept 10 = .ok (.aload_n 0, 1) := by decide +kernel
theorem dX12_kept_11 : decode cX12_kept 11 = .ok (.getfield 534, 3) := by decide +kernel
theorem dX12_kept_14 : decode cX12_kept 14 = .ok (.goto 6, 3) := by decide +kernel
theorem dX12_kept_17 : decode cX12_kept 17 = .ok (.sipush 500, 3) := by decide +kernel
theorem dX12_kept_20 : decode cX12_kept 20 = .ok (.ireturn, 1) := by decide +kernel
theorem dX12_found_0 : decode cX12_found 0 = .ok (.iload_n 1, 1) := by decide +kernel
theorem dX12_found_1 : decode cX12_found 1 = .ok (.ifCond .lt 11, 3) := by decide +kernel
theorem dX12_found_4 : decode cX12_found 4 = .ok (.iload_n 1, 1) := by decide +kernel
theorem dX12_found_5 : decode cX12_found 5 = .ok (.aload_n 0, 1) := by decide +kernel
theorem dX12_found_6 : decode cX12_found 6 = .ok (.invokevirtual 708, 3) := by decide +kernel
theorem dX12_found_9 : decode cX12_found 9 = .ok (.if_icmp .lt 5, 3) := by decide +kernel
theorem dX12_found_12 : decode cX12_found 12 = .ok (.iconst (-1), 1) := by decide +kernel
theorem dX12_found_13 : decode cX12_found 13 = .ok (.ireturn, 1) := by decide +kernel
theorem dX12_found_14 : decode cX12_found 14 = .ok (.iload_n 2, 1) := by decide +kernel
theorem dX12_found_15 : decode cX12_found 15 = .ok (.tableswitch 131 0 9 #[53, 60, 67, 74, 81, 88, 95, 102, 109, 124], 53) := by decide +kernel
theorem dX12_found_68 : decode cX12_found 68 = .ok (.aload_n 0, 1) := by decide +kernel
theorem dX12_found_69 : decode cX12_found 69 = .ok (.getfield 355, 3) := by decide +kernel
theorem dX12_found_72 : decode cX12_found 72 = .ok (.iload_n 1, 1) := by decide +kernel
theorem dX12_found_73 : decode cX12_found 73 = .ok (.iaload, 1) := by decide +kernel
theorem dX12_found_74 : decode cX12_found 74 = .ok (.ireturn, 1) := by decide +kernel
theorem dX12_found_75 : decode cX12_found 75 = .ok (.aload_n 0, 1) := by decide +kernel
theorem dX12_found_76 : decode cX12_found 76 = .ok (.getfield 358, 3) := by decide +kernel
theorem dX12_found_79 : decode cX12_found 79 = .ok (.iload_n 1, 1) := by decide +kernel
theorem dX12_found_80 : decode cX12_found 80 = .ok (.iaload, 1) := by decide +kernel
theorem dX12_found_81 : decode cX12_found 81 = .ok (.ireturn, 1) := by decide +kernel
theorem dX12_found_82 : decode cX12_found 82 = .ok (.aload_n 0, 1) := by decide +kernel
theorem dX12_found_83 : decode cX12_found 83 = .ok (.getfield 361, 3) := by decide +kernel
theorem dX12_found_86 : decode cX12_found 86 = .ok (.iload_n 1, 1) := by decide +kernel
theorem dX12_found_87 : decode cX12_found 87 = .ok (.iaload, 1) := by decide +kernel
theorem dX12_found_88 : decode cX12_found 88 = .ok (.ireturn, 1) := by decide +kernel
theorem dX12_found_89 : decode cX12_found 89 = .ok (.aload_n 0, 1) := by decide +kernel
theorem dX12_found_90 : decode cX12_found 90 = .ok (.getfield 364, 3) := by decide +kernel
theorem dX12_found_93 : decode cX12_found 93 = .ok (.iload_n 1, 1) := by decide +kernel
theorem dX12_found_94 : decode cX12_found 94 = .ok (.iaload, 1) := by decide +kernel
theorem dX12_found_95 : decode cX12_found 95 = .ok (.ireturn, 1) := by decide +kernel
theorem dX12_found_96 : decode cX12_found 96 = .ok (.aload_n 0, 1) := by decide +kernel
theorem dX12_found_97 : decode cX12_found 97 = .ok (.getfield 367, 3) := by decide +kernel
theorem dX12_found_100 : decode cX12_found 100 = .ok (.iload_n 1, 1) := by decide +kernel
theorem dX12_found_101 : decode cX12_found 101 = .ok (.iaload, 1) := by decide +kernel
theorem dX12_found_102 : decode cX12_found 102 = .ok (.ireturn, 1) := by decide +kernel
theorem dX12_found_103 : decode cX12_found 103 = .ok (.aload_n 0, 1) := by decide +kernel
theorem dX12_found_104 : decode cX12_found 104 = .ok (.getfield 370, 3) := by decide +kernel
theorem dX12_found_107 : decode cX12_found 107 = .ok (.iload_n 1, 1) := by decide +kernel
theorem dX12_found_108 : decode cX12_found 108 = .ok (.iaload, 1) := by decide +kernel
theorem dX12_found_109 : decode cX12_found 109 = .ok (.ireturn, 1) := by decide +kernel
theorem dX12_found_110 : decode cX12_found 110 = .ok (.aload_n 0, 1) := by decide +kernel
theorem dX12_found_111 : decode cX12_found 111 = .ok (.getfield 373, 3) := by decide +kernel
theorem dX12_found_114 : decode cX12_found 114 = .ok (.iload_n 1, 1) := by decide +kernel
theorem dX12_found_115 : decode cX12_found 115 = .ok (.iaload, 1) := by decide +kernel
theorem dX12_found_116 : decode cX12_found 116 = .ok (.ireturn, 1) := by decide +kernel
theorem dX12_found_117 : decode cX12_found 117 = .ok (.aload_n 0, 1) := by decide +kernel
theorem dX12_found_118 : decode cX12_found 118 = .ok (.getfield 376, 3) := by decide +kernel
theorem dX12_found_121 : decode cX12_found 121 = .ok (.iload_n 1, 1) := by decide +kernel
theorem dX12_found_122 : decode cX12_found 122 = .ok (.iaload, 1) := by decide +kernel
theorem dX12_found_123 : decode cX12_found 123 = .ok (.ireturn, 1) := by decide +kernel
theorem dX12_found_124 : decode cX12_found 124 = .ok (.aload_n 0, 1) := by decide +kernel
theorem dX12_found_125 : decode cX12_found 125 = .ok (.getfield 385, 3) := by decide +kernel
theorem dX12_found_128 : decode cX12_found 128 = .ok (.iload_n 1, 1) := by decide +kernel
theorem dX12_found_129 : decode cX12_found 129 = .ok (.baload, 1) := by decide +kernel
theorem dX12_found_130 : decode cX12_found 130 = .ok (.ifCond .eq 7, 3) := by decide +kernel
theorem dX12_found_133 : decode cX12_found 133 = .ok (.iconst 1, 1) := by decide +kernel
theorem dX12_found_134 : decode cX12_found 134 = .ok (.goto 4, 3) := by decide +kernel
theorem dX12_found_137 : decode cX12_found 137 = .ok (.iconst 0, 1) := by decide +kernel
theorem dX12_found_138 : decode cX12_found 138 = .ok (.ireturn, 1) := by decide +kernel
theorem dX12_found_139 : decode cX12_found 139 = .ok (.aload_n 0, 1) := by decide +kernel
theorem dX12_found_140 : decode cX12_found 140 = .ok (.getfield 379, 3) := by decide +kernel
theorem dX12_found_143 : decode cX12_found 143 = .ok (.iload_n 1, 1) := by decide +kernel
theorem dX12_found_144 : decode cX12_found 144 = .ok (.iaload, 1) := by decide +kernel
theorem dX12_found_145 : decode cX12_found 145 = .ok (.ireturn, 1) := by decide +kernel
theorem dX12_found_146 : decode cX12_found 146 = .ok (.iconst (-1), 1) := by decide +kernel
theorem dX12_found_147 : decode cX12_found 147 = .ok (.ireturn, 1) := by decide +kernel
theorem dX12_way_0 : decode cX12_way 0 = .ok (.iload_n 1, 1) := by decide +kernel
theorem dX12_way_1 : decode cX12_way 1 = .ok (.ifCond .lt 31, 3) := by decide +kernel
theorem dX12_way_4 : decode cX12_way 4 = .ok (.iload_n 1, 1) := by decide +kernel
theorem dX12_way_5 : decode cX12_way 5 = .ok (.aload_n 0, 1) := by decide +kernel
theorem dX12_way_6 : decode cX12_way 6 = .ok (.invokevirtual 708, 3) := by decide +kernel
theorem dX12_way_9 : decode cX12_way 9 = .ok (.if_icmp .ge 23, 3) := by decide +kernel
theorem dX12_way_12 : decode cX12_way 12 = .ok (.iload_n 2, 1) := by decide +kernel
theorem dX12_way_13 : decode cX12_way 13 = .ok (.ifCond .lt 19, 3) := by decide +kernel
theorem dX12_way_16 : decode cX12_way 16 = .ok (.iload_n 2, 1) := by decide +kernel
theorem dX12_way_17 : decode cX12_way 17 = .ok (.aload_n 0, 1) := by decide +kernel
theorem dX12_way_18 : decode cX12_way 18 = .ok (.getfield 373, 3) := by decide +kernel
theorem dX12_way_21 : decode cX12_way 21 = .ok (.iload_n 1, 1) := by decide +kernel
theorem dX12_way_22 : decode cX12_way 22 = .ok (.iaload, 1) := by decide +kernel
theorem dX12_way_23 : decode cX12_way 23 = .ok (.if_icmp .ge 9, 3) := by decide +kernel
theorem dX12_way_26 : decode cX12_way 26 = .ok (.iload_n 2, 1) := by decide +kernel
theorem dX12_way_27 : decode cX12_way 27 = .ok (.bipush 40, 2) := by decide +kernel
theorem dX12_way_29 : decode cX12_way 29 = .ok (.if_icmp .lt 7, 3) := by decide +kernel
theorem dX12_way_32 : decode cX12_way 32 = .ok (.iconst (-1), 1) := by decide +kernel
theorem dX12_way_33 : decode cX12_way 33 = .ok (.goto 14, 3) := by decide +kernel
theorem dX12_way_36 : decode cX12_way 36 = .ok (.aload_n 0, 1) := by decide +kernel
theorem dX12_way_37 : decode cX12_way 37 = .ok (.getfield 382, 3) := by decide +kernel
theorem dX12_way_40 : decode cX12_way 40 = .ok (.bipush 40, 2) := by decide +kernel
theorem dX12_way_42 : decode cX12_way 42 = .ok (.iload_n 1, 1) := by decide +kernel
theorem dX12_way_43 : decode cX12_way 43 = .ok (.imul, 1) := by decide +kernel
theorem dX12_way_44 : decode cX12_way 44 = .ok (.iload_n 2, 1) := by decide +kernel
theorem dX12_way_45 : decode cX12_way 45 = .ok (.iadd, 1) := by decide +kernel
theorem dX12_way_46 : decode cX12_way 46 = .ok (.iaload, 1) := by decide +kernel
theorem dX12_way_47 : decode cX12_way 47 = .ok (.ireturn, 1) := by decide +kernel
theorem dX12_text_0 : decode cX12_text 0 = .ok (.iload_n 1, 1) := by decide +kernel
theorem dX12_text_1 : decode cX12_text 1 = .ok (.ifCond .lt 25, 3) := by decide +kernel
theorem dX12_text_4 : decode cX12_text 4 = .ok (.iload_n 1, 1) := by decide +kernel
theorem dX12_text_5 : decode cX12_text 5 = .ok (.aload_n 0, 1) := by decide +kernel
theorem dX12_text_6 : decode cX12_text 6 = .ok (.invokevirtual 708, 3) := by decide +kernel
theorem dX12_text_9 : decode cX12_text 9 = .ok (.if_icmp .ge 17, 3) := by decide +kernel
theorem dX12_text_12 : decode cX12_text 12 = .ok (.iload_n 2, 1) := by decide +kernel
theorem dX12_text_13 : decode cX12_text 13 = .ok (.ifCond .lt 13, 3) := by decide +kernel
theorem dX12_text_16 : decode cX12_text 16 = .ok (.iload_n 2, 1) := by decide +kernel
theorem dX12_text_17 : decode cX12_text 17 = .ok (.aload_n 0, 1) := by decide +kernel
theorem dX12_text_18 : decode cX12_text 18 = .ok (.getfield 376, 3) := by decide +kernel
theorem dX12_text_21 : decode cX12_text 21 = .ok (.iload_n 1, 1) := by decide +kernel
theorem dX12_text_22 : decode cX12_text 22 = .ok (.iaload, 1) := by decide +kernel
theorem dX12_text_23 : decode cX12_text 23 = .ok (.if_icmp .lt 7, 3) := by decide +kernel
theorem dX12_text_26 : decode cX12_text 26 = .ok (.iconst (-1), 1) := by decide +kernel
theorem dX12_text_27 : decode cX12_text 27 = .ok (.goto 14, 3) := by decide +kernel
theorem dX12_text_30 : decode cX12_text 30 = .ok (.aload_n 0, 1) := by decide +kernel
theorem dX12_text_31 : decode cX12_text 31 = .ok (.getfield 389, 3) := by decide +kernel
theorem dX12_text_34 : decode cX12_text 34 = .ok (.bipush 80, 2) := by decide +kernel
theorem dX12_text_36 : decode cX12_text 36 = .ok (.iload_n 1, 1) := by decide +kernel
theorem dX12_text_37 : decode cX12_text 37 = .ok (.imul, 1) := by decide +kernel
theorem dX12_text_38 : decode cX12_text 38 = .ok (.iload_n 2, 1) := by decide +kernel
theorem dX12_text_39 : decode cX12_text 39 = .ok (.iadd, 1) := by decide +kernel
theorem dX12_text_40 : decode cX12_text 40 = .ok (.baload, 1) := by decide +kernel
theorem dX12_text_41 : decode cX12_text 41 = .ok (.ireturn, 1) := by decide +kernel
theorem dX12_cut_0 : decode cX12_cut 0 = .ok (.iload_n 1, 1) := by decide +kernel
theorem dX12_cut_1 : decode cX12_cut 1 = .ok (.ifCond .lt 17, 3) := by decide +kernel
theorem dX12_cut_4 : decode cX12_cut 4 = .ok (.iload_n 1, 1) := by decide +kernel
theorem dX12_cut_5 : decode cX12_cut 5 = .ok (.aload_n 0, 1) := by decide +kernel
theorem dX12_cut_6 : decode cX12_cut 6 = .ok (.getfield 537, 3) := by decide +kernel
theorem dX12_cut_9 : decode cX12_cut 9 = .ok (.if_icmp .ge 9, 3) := by decide +kernel
theorem dX12_cut_12 : decode cX12_cut 12 = .ok (.iload_n 1, 1) := by decide +kernel
theorem dX12_cut_13 : decode cX12_cut 13 = .ok (.bipush 60, 2) := by decide +kernel
theorem dX12_cut_15 : decode cX12_cut 15 = .ok (.if_icmp .lt 7, 3) := by decide +kernel
theorem dX12_cut_18 : decode cX12_cut 18 = .ok (.iconst (-1), 1) := by decide +kernel
theorem dX12_cut_19 : decode cX12_cut 19 = .ok (.goto 9, 3) := by decide +kernel
theorem dX12_cut_22 : decode cX12_cut 22 = .ok (.aload_n 0, 1) := by decide +kernel
theorem dX12_cut_23 : decode cX12_cut 23 = .ok (.getfield 392, 3) := by decide +kernel
theorem dX12_cut_26 : decode cX12_cut 26 = .ok (.iload_n 1, 1) := by decide +kernel
theorem dX12_cut_27 : decode cX12_cut 27 = .ok (.iaload, 1) := by decide +kernel
theorem dX12_cut_28 : decode cX12_cut 28 = .ok (.ireturn, 1) := by decide +kernel
theorem dX12_groups_0 : decode cX12_groups 0 = .ok (.aload_n 0, 1) := by decide +kernel
theorem dX12_groups_1 : decode cX12_groups 1 = .ok (.getfield 530, 3) := by decide +kernel
theorem dX12_groups_4 : decode cX12_groups 4 = .ok (.ifCond .eq 10, 3) := by decide +kernel
theorem dX12_groups_7 : decode cX12_groups 7 = .ok (.aload_n 0, 1) := by decide +kernel
theorem dX12_groups_8 : decode cX12_groups 8 = .ok (.getfield 614, 3) := by decide +kernel
theorem dX12_groups_11 : decode cX12_groups 11 = .ok (.goto 4, 3) := by decide +kernel
theorem dX12_groups_14 : decode cX12_groups 14 = .ok (.iconst (-1), 1) := by decide +kernel
theorem dX12_groups_15 : decode cX12_groups 15 = .ok (.ireturn, 1) := by decide +kernel
theorem dX12_wouldBe_0 : decode cX12_wouldBe 0 = .ok (.aload_n 0, 1) := by decide +kernel
theorem dX12_wouldBe_1 : decode cX12_wouldBe 1 = .ok (.iload_n 1, 1) := by decide +kernel
theorem dX12_wouldBe_2 : decode cX12_wouldBe 2 = .ok (.iload_n 2, 1) := by decide +kernel
theorem dX12_wouldBe_3 : decode cX12_wouldBe 3 = .ok (.iconst 0, 1) := by decide +kernel
theorem dX12_wouldBe_4 : decode cX12_wouldBe 4 = .ok (.invokevirtual 595, 3) := by decide +kernel
theorem dX12_wouldBe_7 : decode cX12_wouldBe 7 = .ok (.ifCond .ne 5, 3) := by decide +kernel
theorem dX12_wouldBe_10 : decode cX12_wouldBe 10 = .ok (.iconst (-1), 1) := by decide +kernel
theorem dX12_wouldBe_11 : decode cX12_wouldBe 11 = .ok (.ireturn, 1) := by decide +kernel
theorem dX12_wouldBe_12 : decode cX12_wouldBe 12 = .ok (.aload_n 0, 1) := by decide +kernel
theorem dX12_wouldBe_13 : decode cX12_wouldBe 13 = .ok (.aload_n 0, 1) := by decide +kernel
theorem dX12_wouldBe_14 : decode cX12_wouldBe 14 = .ok (.getfield 315, 3) := by decide +kernel
theorem dX12_wouldBe_17 : decode cX12_wouldBe 17 = .ok (.iload_n 1, 1) := by decide +kernel
theorem dX12_wouldBe_18 : decode cX12_wouldBe 18 = .ok (.iaload, 1) := by decide +kernel
theorem dX12_wouldBe_19 : decode cX12_wouldBe 19 = .ok (.iload_n 2, 1) := by decide +kernel
theorem dX12_wouldBe_20 : decode cX12_wouldBe 20 = .ok (.invokevirtual 644, 3) := by decide +kernel
theorem dX12_wouldBe_23 : decode cX12_wouldBe 23 = .ok (.istore 4, 2) := by decide +kernel
theorem dX12_wouldBe_25 : decode cX12_wouldBe 25 = .ok (.iconst 0, 1) := by decide +kernel
theorem dX12_wouldBe_26 : decode cX12_wouldBe 26 = .ok (.istore 5, 2) := by decide +kernel
theorem dX12_wouldBe_28 : decode cX12_wouldBe 28 = .ok (.iconst 0, 1) := by decide +kernel
theorem dX12_wouldBe_29 : decode cX12_wouldBe 29 = .ok (.istore 6, 2) := by decide +kernel
theorem dX12_wouldBe_31 : decode cX12_wouldBe 31 = .ok (.iload 6, 2) := by decide +kernel
theorem dX12_wouldBe_33 : decode cX12_wouldBe 33 = .ok (.aload_n 0, 1) := by decide +kernel
theorem dX12_wouldBe_34 : decode cX12_wouldBe 34 = .ok (.getfield 263, 3) := by decide +kernel
theorem dX12_wouldBe_37 : decode cX12_wouldBe 37 = .ok (.iload 4, 2) := by decide +kernel
theorem dX12_wouldBe_39 : decode cX12_wouldBe 39 = .ok (.iaload, 1) := by decide +kernel
theorem dX12_wouldBe_40 : decode cX12_wouldBe 40 = .ok (.if_icmp .ge 96, 3) := by decide +kernel
theorem dX12_wouldBe_43 : decode cX12_wouldBe 43 = .ok (.bipush 40, 2) := by decide +kernel
theorem dX12_wouldBe_45 : decode cX12_wouldBe 45 = .ok (.iload 4, 2) := by decide +kernel
theorem dX12_wouldBe_47 : decode cX12_wouldBe 47 = .ok (.imul, 1) := by decide +kernel
theorem dX12_wouldBe_48 : decode cX12_wouldBe 48 = .ok (.iload 6, 2) := by decide +kernel
theorem dX12_wouldBe_50 : decode cX12_wouldBe 50 = .ok (.iadd, 1) := by decide +kernel
theorem dX12_wouldBe_51 : decode cX12_wouldBe 51 = .ok (.istore 7, 2) := by decide +kernel
theorem dX12_wouldBe_53 : decode cX12_wouldBe 53 = .ok (.aload_n 0, 1) := by decide +kernel
theorem dX12_wouldBe_54 : decode cX12_wouldBe 54 = .ok (.getfield 266, 3) := by decide +kernel
theorem dX12_wouldBe_57 : decode cX12_wouldBe 57 = .ok (.iload 7, 2) := by decide +kernel
theorem dX12_wouldBe_59 : decode cX12_wouldBe 59 = .ok (.iaload, 1) := by decide +kernel
theorem dX12_wouldBe_60 : decode cX12_wouldBe 60 = .ok (.istore 8, 2) := by decide +kernel
theorem dX12_wouldBe_62 : decode cX12_wouldBe 62 = .ok (.iload 8, 2) := by decide +kernel
theorem dX12_wouldBe_64 : decode cX12_wouldBe 64 = .ok (.iconst 1, 1) := by decide +kernel
theorem dX12_wouldBe_65 : decode cX12_wouldBe 65 = .ok (.if_icmp .eq 65, 3) := by decide +kernel
theorem dX12_wouldBe_68 : decode cX12_wouldBe 68 = .ok (.iload 8, 2) := by decide +kernel
theorem dX12_wouldBe_70 : decode cX12_wouldBe 70 = .ok (.bipush 100, 2) := by decide +kernel
theorem dX12_wouldBe_72 : decode cX12_wouldBe 72 = .ok (.if_icmp .lt 20, 3) := by decide +kernel
theorem dX12_wouldBe_75 : decode cX12_wouldBe 75 = .ok (.aload_n 0, 1) := by decide +kernel
theorem dX12_wouldBe_76 : decode cX12_wouldBe 76 = .ok (.getfield 337, 3) := by decide +kernel
theorem dX12_wouldBe_79 : decode cX12_wouldBe 79 = .ok (.iload 8, 2) := by decide +kernel
theorem dX12_wouldBe_81 : decode cX12_wouldBe 81 = .ok (.bipush 100, 2) := by decide +kernel
theorem dX12_wouldBe_83 : decode cX12_wouldBe 83 = .ok (.isub, 1) := by decide +kernel
theorem dX12_wouldBe_84 : decode cX12_wouldBe 84 = .ok (.iaload, 1) := by decide +kernel
theorem dX12_wouldBe_85 : decode cX12_wouldBe 85 = .ok (.iconst 1, 1) := by decide +kernel
theorem dX12_wouldBe_86 : decode cX12_wouldBe 86 = .ok (.if_icmp .eq 6, 3) := by decide +kernel
theorem dX12_wouldBe_89 : decode cX12_wouldBe 89 = .ok (.goto 41, 3) := by decide +kernel
theorem dX12_wouldBe_92 : decode cX12_wouldBe 92 = .ok (.aload_n 0, 1) := by decide +kernel
theorem dX12_wouldBe_93 : decode cX12_wouldBe 93 = .ok (.iload_n 3, 1) := by decide +kernel
theorem dX12_wouldBe_94 : decode cX12_wouldBe 94 = .ok (.iload 7, 2) := by decide +kernel
theorem dX12_wouldBe_96 : decode cX12_wouldBe 96 = .ok (.invokevirtual 675, 3) := by decide +kernel
theorem dX12_wouldBe_99 : decode cX12_wouldBe 99 = .ok (.istore 9, 2) := by decide +kernel
theorem dX12_wouldBe_101 : decode cX12_wouldBe 101 = .ok (.iload 5, 2) := by decide +kernel
theorem dX12_wouldBe_103 : decode cX12_wouldBe 103 = .ok (.iload 9, 2) := by decide +kernel
theorem dX12_wouldBe_105 : decode cX12_wouldBe 105 = .ok (.ifCond .ne 17, 3) := by decide +kernel
theorem dX12_wouldBe_108 : decode cX12_wouldBe 108 = .ok (.iload 8, 2) := by decide +kernel
theorem dX12_wouldBe_110 : decode cX12_wouldBe 110 = .ok (.bipush 100, 2) := by decide +kernel
theorem dX12_wouldBe_112 : decode cX12_wouldBe 112 = .ok (.if_icmp .lt 14, 3) := by decide +kernel
theorem dX12_wouldBe_115 : decode cX12_wouldBe 115 = .ok (.aload_n 0, 1) := by decide +kernel
theorem dX12_wouldBe_116 : decode cX12_wouldBe 116 = .ok (.getfield 654, 3) := by decide +kernel
theorem dX12_wouldBe_119 : decode cX12_wouldBe 119 = .ok (.ifCond .le 7, 3) := by decide +kernel
theorem dX12_wouldBe_122 : decode cX12_wouldBe 122 = .ok (.iconst 0, 1) := by decide +kernel
theorem dX12_wouldBe_123 : decode cX12_wouldBe 123 = .ok (.goto 4, 3) := by decide +kernel
theorem dX12_wouldBe_126 : decode cX12_wouldBe 126 = .ok (.iconst 1, 1) := by decide +kernel
theorem dX12_wouldBe_127 : decode cX12_wouldBe 127 = .ok (.iadd, 1) := by decide +kernel
theorem dX12_wouldBe_128 : decode cX12_wouldBe 128 = .ok (.istore 5, 2) := by decide +kernel
theorem dX12_wouldBe_130 : decode cX12_wouldBe 130 = .ok (.iinc 6 1, 3) := by decide +kernel
theorem dX12_wouldBe_133 : decode cX12_wouldBe 133 = .ok (.goto (-102), 3) := by decide +kernel
theorem dX12_wouldBe_136 : decode cX12_wouldBe 136 = .ok (.iload 5, 2) := by decide +kernel
theorem dX12_wouldBe_138 : decode cX12_wouldBe 138 = .ok (.ireturn, 1) := by decide +kernel
theorem dX12_isRead_0 : decode cX12_isRead 0 = .ok (.iconst 0, 1) := by decide +kernel
theorem dX12_isRead_1 : decode cX12_isRead 1 = .ok (.istore_n 3, 1) := by decide +kernel
theorem dX12_isRead_2 : decode cX12_isRead 2 = .ok (.iload_n 3, 1) := by decide +kernel
theorem dX12_isRead_3 : decode cX12_isRead 3 = .ok (.aload_n 0, 1) := by decide +kernel
theorem dX12_isRead_4 : decode cX12_isRead 4 = .ok (.getfield 478, 3) := by decide +kernel
theorem dX12_isRead_7 : decode cX12_isRead 7 = .ok (.if_icmp .ge 177, 3) := by decide +kernel
theorem dX12_isRead_10 : decode cX12_isRead 10 = .ok (.iconst 0, 1) := by decide +kernel
theorem dX12_isRead_11 : decode cX12_isRead 11 = .ok (.istore 4, 2) := by decide +kernel
theorem dX12_isRead_13 : decode cX12_isRead 13 = .ok (.iload 4, 2) := by decide +kernel
theorem dX12_isRead_15 : decode cX12_isRead 15 = .ok (.aload_n 0, 1) := by decide +kernel
theorem dX12_isRead_16 : decode cX12_isRead 16 = .ok (.getfield 263, 3) := by decide +kernel
theorem dX12_isRead_19 : decode cX12_isRead 19 = .ok (.sipush 200, 3) := by decide +kernel
theorem dX12_isRead_22 : decode cX12_isRead 22 = .ok (.iload_n 3, 1) := by decide +kernel
theorem dX12_isRead_23 : decode cX12_isRead 23 = .ok (.iadd, 1) := by decide +kernel
theorem dX12_isRead_24 : decode cX12_isRead 24 = .ok (.iaload, 1) := by decide +kernel
theorem dX12_isRead_25 : decode cX12_isRead 25 = .ok (.if_icmp .ge 153, 3) := by decide +kernel
theorem dX12_isRead_28 : decode cX12_isRead 28 = .ok (.bipush 40, 2) := by decide +kernel
theorem dX12_isRead_30 : decode cX12_isRead 30 = .ok (.sipush 200, 3) := by decide +kernel
theorem dX12_isRead_33 : decode cX12_isRead 33 = .ok (.iload_n 3, 1) := by decide +kernel
theorem dX12_isRead_34 : decode cX12_isRead 34 = .ok (.iadd, 1) := by decide +kernel
theorem dX12_isRead_35 : decode cX12_isRead 35 = .ok (.imul, 1) := by decide +kernel
theorem dX12_isRead_36 : decode cX12_isRead 36 = .ok (.iload 4, 2) := by decide +kernel
theorem dX12_isRead_38 : decode cX12_isRead 38 = .ok (.iadd, 1) := by decide +kernel
theorem dX12_isRead_39 : decode cX12_isRead 39 = .ok (.istore 5, 2) := by decide +kernel
theorem dX12_isRead_41 : decode cX12_isRead 41 = .ok (.aload_n 0, 1) := by decide +kernel
theorem dX12_isRead_42 : decode cX12_isRead 42 = .ok (.getfield 266, 3) := by decide +kernel
theorem dX12_isRead_45 : decode cX12_isRead 45 = .ok (.iload 5, 2) := by decide +kernel
theorem dX12_isRead_47 : decode cX12_isRead 47 = .ok (.iaload, 1) := by decide +kernel
theorem dX12_isRead_48 : decode cX12_isRead 48 = .ok (.bipush 7, 2) := by decide +kernel
theorem dX12_isRead_50 : decode cX12_isRead 50 = .ok (.if_icmp .ne 42, 3) := by decide +kernel
theorem dX12_isRead_53 : decode cX12_isRead 53 = .ok (.aload_n 0, 1) := by decide +kernel
theorem dX12_isRead_54 : decode cX12_isRead 54 = .ok (.iload_n 1, 1) := by decide +kernel
theorem dX12_isRead_55 : decode cX12_isRead 55 = .ok (.iload_n 3, 1) := by decide +kernel
theorem dX12_isRead_56 : decode cX12_isRead 56 = .ok (.invokevirtual 598, 3) := by decide +kernel
theorem dX12_isRead_59 : decode cX12_isRead 59 = .ok (.ifCond .eq 33, 3) := by decide +kernel
theorem dX12_isRead_62 : decode cX12_isRead 62 = .ok (.aload_n 0, 1) := by decide +kernel
theorem dX12_isRead_63 : decode cX12_isRead 63 = .ok (.getfield 288, 3) := by decide +kernel
theorem dX12_isRead_66 : decode cX12_isRead 66 = .ok (.iconst 4, 1) := by decide +kernel
theorem dX12_isRead_67 : decode cX12_isRead 67 = .ok (.iload 5, 2) := by decide +kernel
theorem dX12_isRead_69 : decode cX12_isRead 69 = .ok (.imul, 1) := by decide +kernel
theorem dX12_isRead_70 : decode cX12_isRead 70 = .ok (.iaload, 1) := by decide +kernel
theorem dX12_isRead_71 : decode cX12_isRead 71 = .ok (.iload_n 2, 1) := by decide +kernel
theorem dX12_isRead_72 : decode cX12_isRead 72 = .ok (.if_icmp .eq 18, 3) := by decide +kernel
theorem dX12_isRead_75 : decode cX12_isRead 75 = .ok (.aload_n 0, 1) := by decide +kernel
theorem dX12_isRead_76 : decode cX12_isRead 76 = .ok (.getfield 288, 3) := by decide +kernel
theorem dX12_isRead_79 : decode cX12_isRead 79 = .ok (.iconst 4, 1) := by decide +kernel
theorem dX12_isRead_80 : decode cX12_isRead 80 = .ok (.iload 5, 2) := by decide +kernel
theorem dX12_isRead_82 : decode cX12_isRead 82 = .ok (.imul, 1) := by decide +kernel
theorem dX12_isRead_83 : decode cX12_isRead 83 = .ok (.iconst 1, 1) := by decide +kernel
theorem dX12_isRead_84 : decode cX12_isRead 84 = .ok (.iadd, 1) := by decide +kernel
theorem dX12_isRead_85 : decode cX12_isRead 85 = .ok (.iaload, 1) := by decide +kernel
theorem dX12_isRead_86 : decode cX12_isRead 86 = .ok (.iload_n 2, 1) := by decide +kernel
theorem dX12_isRead_87 : decode cX12_isRead 87 = .ok (.if_icmp .ne 5, 3) := by decide +kernel
theorem dX12_isRead_90 : decode cX12_isRead 90 = .ok (.iconst 1, 1) := by decide +kernel
theorem dX12_isRead_91 : decode cX12_isRead 91 = .ok (.ireturn, 1) := by decide +kernel
theorem dX12_isRead_92 : decode cX12_isRead 92 = .ok (.aload_n 0, 1) := by decide +kernel
theorem dX12_isRead_93 : decode cX12_isRead 93 = .ok (.getfield 266, 3) := by decide +kernel
theorem dX12_isRead_96 : decode cX12_isRead 96 = .ok (.iload 5, 2) := by decide +kernel
theorem dX12_isRead_98 : decode cX12_isRead 98 = .ok (.iaload, 1) := by decide +kernel
theorem dX12_isRead_99 : decode cX12_isRead 99 = .ok (.bipush 8, 2) := by decide +kernel
theorem dX12_isRead_101 : decode cX12_isRead 101 = .ok (.if_icmp .eq 6, 3) := by decide +kernel
theorem dX12_isRead_104 : decode cX12_isRead 104 = .ok (.goto 68, 3) := by decide +kernel
theorem dX12_isRead_107 : decode cX12_isRead 107 = .ok (.aload_n 0, 1) := by decide +kernel
theorem dX12_isRead_108 : decode cX12_isRead 108 = .ok (.iload_n 1, 1) := by decide +kernel
theorem dX12_isRead_109 : decode cX12_isRead 109 = .ok (.iload_n 3, 1) := by decide +kernel
theorem dX12_isRead_110 : decode cX12_isRead 110 = .ok (.invokevirtual 598, 3) := by decide +kernel
theorem dX12_isRead_113 : decode cX12_isRead 113 = .ok (.ifCond .eq 20, 3) := by decide +kernel
theorem dX12_isRead_116 : decode cX12_isRead 116 = .ok (.aload_n 0, 1) := by decide +kernel
theorem dX12_isRead_117 : decode cX12_isRead 117 = .ok (.getfield 288, 3) := by decide +kernel
theorem dX12_isRead_120 : decode cX12_isRead 120 = .ok (.iconst 4, 1) := by decide +kernel
theorem dX12_isRead_121 : decode cX12_isRead 121 = .ok (.iload 5, 2) := by decide +kernel
theorem dX12_isRead_123 : decode cX12_isRead 123 = .ok (.imul, 1) := by decide +kernel
theorem dX12_isRead_124 : decode cX12_isRead 124 = .ok (.iconst 2, 1) := by decide +kernel
theorem dX12_isRead_125 : decode cX12_isRead 125 = .ok (.iadd, 1) := by decide +kernel
theorem dX12_isRead_126 : decode cX12_isRead 126 = .ok (.iaload, 1) := by decide +kernel
theorem dX12_isRead_127 : decode cX12_isRead 127 = .ok (.iload_n 2, 1) := by decide +kernel
theorem dX12_isRead_128 : decode cX12_isRead 128 = .ok (.if_icmp .ne 5, 3) := by decide +kernel
theorem dX12_isRead_131 : decode cX12_isRead 131 = .ok (.iconst 1, 1) := by decide +kernel
theorem dX12_isRead_132 : decode cX12_isRead 132 = .ok (.ireturn, 1) := by decide +kernel
theorem dX12_isRead_133 : decode cX12_isRead 133 = .ok (.aload_n 0, 1) := by decide +kernel
theorem dX12_isRead_134 : decode cX12_isRead 134 = .ok (.iload_n 1, 1) := by decide +kernel
theorem dX12_isRead_135 : decode cX12_isRead 135 = .ok (.aload_n 0, 1) := by decide +kernel
theorem dX12_isRead_136 : decode cX12_isRead 136 = .ok (.iload_n 3, 1) := by decide +kernel
theorem dX12_isRead_137 : decode cX12_isRead 137 = .ok (.aload_n 0, 1) := by decide +kernel
theorem dX12_isRead_138 : decode cX12_isRead 138 = .ok (.getfield 288, 3) := by decide +kernel
theorem dX12_isRead_141 : decode cX12_isRead 141 = .ok (.iconst 4, 1) := by decide +kernel
theorem dX12_isRead_142 : decode cX12_isRead 142 = .ok (.iload 5, 2) := by decide +kernel
theorem dX12_isRead_144 : decode cX12_isRead 144 = .ok (.imul, 1) := by decide +kernel
theorem dX12_isRead_145 : decode cX12_isRead 145 = .ok (.iaload, 1) := by decide +kernel
theorem dX12_isRead_146 : decode cX12_isRead 146 = .ok (.invokevirtual 580, 3) := by decide +kernel
theorem dX12_isRead_149 : decode cX12_isRead 149 = .ok (.invokevirtual 598, 3) := by decide +kernel
theorem dX12_isRead_152 : decode cX12_isRead 152 = .ok (.ifCond .eq 20, 3) := by decide +kernel
theorem dX12_isRead_155 : decode cX12_isRead 155 = .ok (.aload_n 0, 1) := by decide +kernel
theorem dX12_isRead_156 : decode cX12_isRead 156 = .ok (.getfield 288, 3) := by decide +kernel
theorem dX12_isRead_159 : decode cX12_isRead 159 = .ok (.iconst 4, 1) := by decide +kernel
theorem dX12_isRead_160 : decode cX12_isRead 160 = .ok (.iload 5, 2) := by decide +kernel
theorem dX12_isRead_162 : decode cX12_isRead 162 = .ok (.imul, 1) := by decide +kernel
theorem dX12_isRead_163 : decode cX12_isRead 163 = .ok (.iconst 1, 1) := by decide +kernel
theorem dX12_isRead_164 : decode cX12_isRead 164 = .ok (.iadd, 1) := by decide +kernel
theorem dX12_isRead_165 : decode cX12_isRead 165 = .ok (.iaload, 1) := by decide +kernel
theorem dX12_isRead_166 : decode cX12_isRead 166 = .ok (.iload_n 2, 1) := by decide +kernel
theorem dX12_isRead_167 : decode cX12_isRead 167 = .ok (.if_icmp .ne 5, 3) := by decide +kernel
theorem dX12_isRead_170 : decode cX12_isRead 170 = .ok (.iconst 1, 1) := by decide +kernel
theorem dX12_isRead_171 : decode cX12_isRead 171 = .ok (.ireturn, 1) := by decide +kernel
theorem dX12_isRead_172 : decode cX12_isRead 172 = .ok (.iinc 4 1, 3) := by decide +kernel
theorem dX12_isRead_175 : decode cX12_isRead 175 = .ok (.goto (-162), 3) := by decide +kernel
theorem dX12_isRead_178 : decode cX12_isRead 178 = .ok (.iinc 3 1, 3) := by decide +kernel
theorem dX12_isRead_181 : decode cX12_isRead 181 = .ok (.goto (-179), 3) := by decide +kernel
theorem dX12_isRead_184 : decode cX12_isRead 184 = .ok (.iconst 0, 1) := by decide +kernel
theorem dX12_isRead_185 : decode cX12_isRead 185 = .ok (.ireturn, 1) := by decide +kernel
