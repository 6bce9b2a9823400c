theorem dX4_usedMarks_0 : decode cX4_usedMarks 0 = .ok (.iconst 0, 1) := by decide +kernel
theorem dX4_usedMarks_1 : decode cX4_usedMarks 1 = .ok (.istore_n 1, 1) := by decide +kernel
theorem dX4_usedMarks_2 : decode cX4_usedMarks 2 = .ok (.iconst 0, 1) := by decide +kernel
theorem dX4_usedMarks_3 : decode cX4_usedMarks 3 = .ok (.istore_n 2, 1) := by decide +kernel
theorem dX4_usedMarks_4 : decode cX4_usedMarks 4 = .ok (.iload_n 2, 1) := by decide +kernel
theorem dX4_usedMarks_5 : decode cX4_usedMarks 5 = .ok (.aload_n 0, 1) := by decide +kernel
theorem dX4_usedMarks_6 : decode cX4_usedMarks 6 = .ok (.invokevirtual 40, 3) := by decide +kernel
theorem dX4_usedMarks_9 : decode cX4_usedMarks 9 = .ok (.if_icmp .ge 41, 3) := by decide +kernel
theorem dX4_usedMarks_12 : decode cX4_usedMarks 12 = .ok (.aload_n 0, 1) := by decide +kernel
theorem dX4_usedMarks_13 : decode cX4_usedMarks 13 = .ok (.iload_n 2, 1) := by decide +kernel
theorem dX4_usedMarks_14 : decode cX4_usedMarks 14 = .ok (.invokevirtual 46, 3) := by decide +kernel
theorem dX4_usedMarks_17 : decode cX4_usedMarks 17 = .ok (.checkcast 95, 3) := by decide +kernel
theorem dX4_usedMarks_20 : decode cX4_usedMarks 20 = .ok (.getfield 97, 3) := by decide +kernel
theorem dX4_usedMarks_23 : decode cX4_usedMarks 23 = .ok (.sipush 200, 3) := by decide +kernel
theorem dX4_usedMarks_26 : decode cX4_usedMarks 26 = .ok (.isub, 1) := by decide +kernel
theorem dX4_usedMarks_27 : decode cX4_usedMarks 27 = .ok (.istore_n 3, 1) := by decide +kernel
theorem dX4_usedMarks_28 : decode cX4_usedMarks 28 = .ok (.iload_n 3, 1) := by decide +kernel
theorem dX4_usedMarks_29 : decode cX4_usedMarks 29 = .ok (.ifCond .lt 15, 3) := by decide +kernel
theorem dX4_usedMarks_32 : decode cX4_usedMarks 32 = .ok (.iload_n 3, 1) := by decide +kernel
theorem dX4_usedMarks_33 : decode cX4_usedMarks 33 = .ok (.bipush 16, 2) := by decide +kernel
theorem dX4_usedMarks_35 : decode cX4_usedMarks 35 = .ok (.if_icmp .ge 9, 3) := by decide +kernel
theorem dX4_usedMarks_38 : decode cX4_usedMarks 38 = .ok (.iload_n 1, 1) := by decide +kernel
theorem dX4_usedMarks_39 : decode cX4_usedMarks 39 = .ok (.iconst 1, 1) := by decide +kernel
theorem dX4_usedMarks_40 : decode cX4_usedMarks 40 = .ok (.iload_n 3, 1) := by decide +kernel
theorem dX4_usedMarks_41 : decode cX4_usedMarks 41 = .ok (.ishl, 1) := by decide +kernel
theorem dX4_usedMarks_42 : decode cX4_usedMarks 42 = .ok (.ior, 1) := by decide +kernel
theorem dX4_usedMarks_43 : decode cX4_usedMarks 43 = .ok (.istore_n 1, 1) := by decide +kernel
theorem dX4_usedMarks_44 : decode cX4_usedMarks 44 = .ok (.iinc 2 1, 3) := by decide +kernel
theorem dX4_usedMarks_47 : decode cX4_usedMarks 47 = .ok (.goto (-43), 3) := by decide +kernel
theorem dX4_usedMarks_50 : decode cX4_usedMarks 50 = .ok (.iload_n 1, 1) := by decide +kernel
theorem dX4_usedMarks_51 : decode cX4_usedMarks 51 = .ok (.ireturn, 1) := by decide +kernel
theorem dX4_turnTo_0 : decode cX4_turnTo 0 = .ok (.aload_n 0, 1) := by decide +kernel
theorem dX4_turnTo_1 : decode cX4_turnTo 1 = .ok (.aload_n 1, 1) := by decide +kernel
theorem dX4_turnTo_2 : decode cX4_turnTo 2 = .ok (.putfield 64, 3) := by decide +kernel
theorem dX4_turnTo_5 : decode cX4_turnTo 5 = .ok (.aload_n 0, 1) := by decide +kernel
theorem dX4_turnTo_6 : decode cX4_turnTo 6 = .ok (.iload_n 2, 1) := by decide +kernel
theorem dX4_turnTo_7 : decode cX4_turnTo 7 = .ok (.putfield 100, 3) := by decide +kernel
theorem dX4_turnTo_10 : decode cX4_turnTo 10 = .ok (.aload_n 0, 1) := by decide +kernel
theorem dX4_turnTo_11 : decode cX4_turnTo 11 = .ok (.iconst 0, 1) := by decide +kernel
theorem dX4_turnTo_12 : decode cX4_turnTo 12 = .ok (.putfield 103, 3) := by decide +kernel
theorem dX4_turnTo_15 : decode cX4_turnTo 15 = .ok (.aload_n 0, 1) := by decide +kernel
theorem dX4_turnTo_16 : decode cX4_turnTo 16 = .ok (.getfield 20, 3) := by decide +kernel
theorem dX4_turnTo_19 : decode cX4_turnTo 19 = .ok (.iconst 0, 1) := by decide +kernel
theorem dX4_turnTo_20 : decode cX4_turnTo 20 = .ok (.aaload, 1) := by decide +kernel
theorem dX4_turnTo_21 : decode cX4_turnTo 21 = .ok (.astore_n 3, 1) := by decide +kernel
theorem dX4_turnTo_22 : decode cX4_turnTo 22 = .ok (.aload_n 3, 1) := by decide +kernel
theorem dX4_turnTo_23 : decode cX4_turnTo 23 = .ok (.iconst (-1), 1) := by decide +kernel
theorem dX4_turnTo_24 : decode cX4_turnTo 24 = .ok (.invokestatic 106, 3) := by decide +kernel
theorem dX4_turnTo_27 : decode cX4_turnTo 27 = .ok (.aload_n 3, 1) := by decide +kernel
theorem dX4_turnTo_28 : decode cX4_turnTo 28 = .ok (.iconst 2, 1) := by decide +kernel
theorem dX4_turnTo_29 : decode cX4_turnTo 29 = .ok (.iconst 0, 1) := by decide +kernel
theorem dX4_turnTo_30 : decode cX4_turnTo 30 = .ok (.iastore, 1) := by decide +kernel
theorem dX4_turnTo_31 : decode cX4_turnTo 31 = .ok (.aload_n 3, 1) := by decide +kernel
theorem dX4_turnTo_32 : decode cX4_turnTo 32 = .ok (.iconst 3, 1) := by decide +kernel
theorem dX4_turnTo_33 : decode cX4_turnTo 33 = .ok (.iconst 0, 1) := by decide +kernel
theorem dX4_turnTo_34 : decode cX4_turnTo 34 = .ok (.iastore, 1) := by decide +kernel
theorem dX4_turnTo_35 : decode cX4_turnTo 35 = .ok (.aload_n 3, 1) := by decide +kernel
theorem dX4_turnTo_36 : decode cX4_turnTo 36 = .ok (.iconst 5, 1) := by decide +kernel
theorem dX4_turnTo_37 : decode cX4_turnTo 37 = .ok (.iconst 0, 1) := by decide +kernel
theorem dX4_turnTo_38 : decode cX4_turnTo 38 = .ok (.iastore, 1) := by decide +kernel
theorem dX4_turnTo_39 : decode cX4_turnTo 39 = .ok (.return_, 1) := by decide +kernel
theorem dX4_openUses_0 : decode cX4_openUses 0 = .ok (.iload_n 2, 1) := by decide +kernel
theorem dX4_openUses_1 : decode cX4_openUses 1 = .ok (.bipush 16, 2) := by decide +kernel
theorem dX4_openUses_3 : decode cX4_openUses 3 = .ok (.if_icmp .le 4, 3) := by decide +kernel
theorem dX4_openUses_6 : decode cX4_openUses 6 = .ok (.return_, 1) := by decide +kernel
theorem dX4_openUses_7 : decode cX4_openUses 7 = .ok (.iconst 0, 1) := by decide +kernel
theorem dX4_openUses_8 : decode cX4_openUses 8 = .ok (.istore_n 3, 1) := by decide +kernel
theorem dX4_openUses_9 : decode cX4_openUses 9 = .ok (.iload_n 3, 1) := by decide +kernel
theorem dX4_openUses_10 : decode cX4_openUses 10 = .ok (.aload_n 1, 1) := by decide +kernel
theorem dX4_openUses_11 : decode cX4_openUses 11 = .ok (.invokevirtual 40, 3) := by decide +kernel
theorem dX4_openUses_14 : decode cX4_openUses 14 = .ok (.if_icmp .ge 139, 3) := by decide +kernel
theorem dX4_openUses_17 : decode cX4_openUses 17 = .ok (.aload_n 0, 1) := by decide +kernel
theorem dX4_openUses_18 : decode cX4_openUses 18 = .ok (.getfield 103, 3) := by decide +kernel
theorem dX4_openUses_21 : decode cX4_openUses 21 = .ok (.bipush 100, 2) := by decide +kernel
theorem dX4_openUses_23 : decode cX4_openUses 23 = .ok (.if_icmp .ge 130, 3) := by decide +kernel
theorem dX4_openUses_26 : decode cX4_openUses 26 = .ok (.aload_n 1, 1) := by decide +kernel
theorem dX4_openUses_27 : decode cX4_openUses 27 = .ok (.iload_n 3, 1) := by decide +kernel
theorem dX4_openUses_28 : decode cX4_openUses 28 = .ok (.invokevirtual 46, 3) := by decide +kernel
theorem dX4_openUses_31 : decode cX4_openUses 31 = .ok (.checkcast 95, 3) := by decide +kernel
theorem dX4_openUses_34 : decode cX4_openUses 34 = .ok (.astore 4, 2) := by decide +kernel
theorem dX4_openUses_36 : decode cX4_openUses 36 = .ok (.aload 4, 2) := by decide +kernel
theorem dX4_openUses_38 : decode cX4_openUses 38 = .ok (.aload_n 0, 1) := by decide +kernel
theorem dX4_openUses_39 : decode cX4_openUses 39 = .ok (.getfield 20, 3) := by decide +kernel
theorem dX4_openUses_42 : decode cX4_openUses 42 = .ok (.iload_n 2, 1) := by decide +kernel
theorem dX4_openUses_43 : decode cX4_openUses 43 = .ok (.aaload, 1) := by decide +kernel
theorem dX4_openUses_44 : decode cX4_openUses 44 = .ok (.aload_n 0, 1) := by decide +kernel
theorem dX4_openUses_45 : decode cX4_openUses 45 = .ok (.getfield 20, 3) := by decide +kernel
theorem dX4_openUses_48 : decode cX4_openUses 48 = .ok (.iload_n 2, 1) := by decide +kernel
theorem dX4_openUses_49 : decode cX4_openUses 49 = .ok (.iconst 1, 1) := by decide +kernel
theorem dX4_openUses_50 : decode cX4_openUses 50 = .ok (.iadd, 1) := by decide +kernel
theorem dX4_openUses_51 : decode cX4_openUses 51 = .ok (.aaload, 1) := by decide +kernel
theorem dX4_openUses_52 : decode cX4_openUses 52 = .ok (.invokestatic 112, 3) := by decide +kernel
theorem dX4_openUses_55 : decode cX4_openUses 55 = .ok (.aload 4, 2) := by decide +kernel
theorem dX4_openUses_57 : decode cX4_openUses 57 = .ok (.getfield 97, 3) := by decide +kernel
theorem dX4_openUses_60 : decode cX4_openUses 60 = .ok (.sipush 200, 3) := by decide +kernel
theorem dX4_openUses_63 : decode cX4_openUses 63 = .ok (.isub, 1) := by decide +kernel
theorem dX4_openUses_64 : decode cX4_openUses 64 = .ok (.istore 5, 2) := by decide +kernel
theorem dX4_openUses_66 : decode cX4_openUses 66 = .ok (.iload 5, 2) := by decide +kernel
theorem dX4_openUses_68 : decode cX4_openUses 68 = .ok (.ifCond .lt 55, 3) := by decide +kernel
theorem dX4_openUses_71 : decode cX4_openUses 71 = .ok (.iload 5, 2) := by decide +kernel
theorem dX4_openUses_73 : decode cX4_openUses 73 = .ok (.aload_n 0, 1) := by decide +kernel
theorem dX4_openUses_74 : decode cX4_openUses 74 = .ok (.getfield 23, 3) := by decide +kernel
theorem dX4_openUses_77 : decode cX4_openUses 77 = .ok (.getfield 82, 3) := by decide +kernel
theorem dX4_openUses_80 : decode cX4_openUses 80 = .ok (.invokevirtual 40, 3) := by decide +kernel
theorem dX4_openUses_83 : decode cX4_openUses 83 = .ok (.if_icmp .ge 40, 3) := by decide +kernel
theorem dX4_openUses_86 : decode cX4_openUses 86 = .ok (.aload_n 0, 1) := by decide +kernel
theorem dX4_openUses_87 : decode cX4_openUses 87 = .ok (.iload 5, 2) := by decide +kernel
theorem dX4_openUses_89 : decode cX4_openUses 89 = .ok (.invokevirtual 116, 3) := by decide +kernel
theorem dX4_openUses_92 : decode cX4_openUses 92 = .ok (.ifCond .ne 31, 3) := by decide +kernel
theorem dX4_openUses_95 : decode cX4_openUses 95 = .ok (.aload_n 0, 1) := by decide +kernel
theorem dX4_openUses_96 : decode cX4_openUses 96 = .ok (.aload_n 0, 1) := by decide +kernel
theorem dX4_openUses_97 : decode cX4_openUses 97 = .ok (.getfield 23, 3) := by decide +kernel
theorem dX4_openUses_100 : decode cX4_openUses 100 = .ok (.getfield 82, 3) := by decide +kernel
theorem dX4_openUses_103 : decode cX4_openUses 103 = .ok (.iload 5, 2) := by decide +kernel
theorem dX4_openUses_105 : decode cX4_openUses 105 = .ok (.invokevirtual 46, 3) := by decide +kernel
theorem dX4_openUses_108 : decode cX4_openUses 108 = .ok (.checkcast 68, 3) := by decide +kernel
theorem dX4_openUses_111 : decode cX4_openUses 111 = .ok (.getfield 67, 3) := by decide +kernel
theorem dX4_openUses_114 : decode cX4_openUses 114 = .ok (.iload_n 2, 1) := by decide +kernel
theorem dX4_openUses_115 : decode cX4_openUses 115 = .ok (.iconst 1, 1) := by decide +kernel
theorem dX4_openUses_116 : decode cX4_openUses 116 = .ok (.iadd, 1) := by decide +kernel
theorem dX4_openUses_117 : decode cX4_openUses 117 = .ok (.invokevirtual 72, 3) := by decide +kernel
theorem dX4_openUses_120 : decode cX4_openUses 120 = .ok (.goto 27, 3) := by decide +kernel
theorem dX4_openUses_123 : decode cX4_openUses 123 = .ok (.aload_n 0, 1) := by decide +kernel
theorem dX4_openUses_124 : decode cX4_openUses 124 = .ok (.dup, 1) := by decide +kernel
theorem dX4_openUses_125 : decode cX4_openUses 125 = .ok (.getfield 103, 3) := by decide +kernel
theorem dX4_openUses_128 : decode cX4_openUses 128 = .ok (.iconst 1, 1) := by decide +kernel
theorem dX4_openUses_129 : decode cX4_openUses 129 = .ok (.iadd, 1) := by decide +kernel
theorem dX4_openUses_130 : decode cX4_openUses 130 = .ok (.putfield 103, 3) := by decide +kernel
theorem dX4_openUses_133 : decode cX4_openUses 133 = .ok (.aload_n 0, 1) := by decide +kernel
theorem dX4_openUses_134 : decode cX4_openUses 134 = .ok (.aload 4, 2) := by decide +kernel
theorem dX4_openUses_136 : decode cX4_openUses 136 = .ok (.aload_n 0, 1) := by decide +kernel
theorem dX4_openUses_137 : decode cX4_openUses 137 = .ok (.getfield 20, 3) := by decide +kernel
theorem dX4_openUses_140 : decode cX4_openUses 140 = .ok (.iload_n 2, 1) := by decide +kernel
theorem dX4_openUses_141 : decode cX4_openUses 141 = .ok (.iconst 1, 1) := by decide +kernel
theorem dX4_openUses_142 : decode cX4_openUses 142 = .ok (.iadd, 1) := by decide +kernel
theorem dX4_openUses_143 : decode cX4_openUses 143 = .ok (.aaload, 1) := by decide +kernel
theorem dX4_openUses_144 : decode cX4_openUses 144 = .ok (.invokevirtual 120, 3) := by decide +kernel
theorem dX4_openUses_147 : decode cX4_openUses 147 = .ok (.iinc 3 1, 3) := by decide +kernel
theorem dX4_openUses_150 : decode cX4_openUses 150 = .ok (.goto (-141), 3) := by decide +kernel
theorem dX4_openUses_153 : decode cX4_openUses 153 = .ok (.return_, 1) := by decide +kernel
theorem dX4_joinRow_0 : decode cX4_joinRow 0 = .ok (.aload_n 2, 1) := by decide +kernel
theorem dX4_joinRow_1 : decode cX4_joinRow 1 = .ok (.iconst 0, 1) := by decide +kernel
theorem dX4_joinRow_2 : decode cX4_joinRow 2 = .ok (.aload_n 1, 1) := by decide +kernel
theorem dX4_joinRow_3 : decode cX4_joinRow 3 = .ok (.iconst 0, 1) := by decide +kernel
theorem dX4_joinRow_4 : decode cX4_joinRow 4 = .ok (.iaload, 1) := by decide +kernel
theorem dX4_joinRow_5 : decode cX4_joinRow 5 = .ok (.iconst (-1), 1) := by decide +kernel
theorem dX4_joinRow_6 : decode cX4_joinRow 6 = .ok (.if_icmp .eq 9, 3) := by decide +kernel
theorem dX4_joinRow_9 : decode cX4_joinRow 9 = .ok (.aload_n 1, 1) := by decide +kernel
theorem dX4_joinRow_10 : decode cX4_joinRow 10 = .ok (.iconst 0, 1) := by decide +kernel
theorem dX4_joinRow_11 : decode cX4_joinRow 11 = .ok (.iaload, 1) := by decide +kernel
theorem dX4_joinRow_12 : decode cX4_joinRow 12 = .ok (.goto 7, 3) := by decide +kernel
theorem dX4_joinRow_15 : decode cX4_joinRow 15 = .ok (.aload_n 0, 1) := by decide +kernel
theorem dX4_joinRow_16 : decode cX4_joinRow 16 = .ok (.getfield 124, 3) := by decide +kernel
theorem dX4_joinRow_19 : decode cX4_joinRow 19 = .ok (.iastore, 1) := by decide +kernel
theorem dX4_joinRow_20 : decode cX4_joinRow 20 = .ok (.aload_n 2, 1) := by decide +kernel
theorem dX4_joinRow_21 : decode cX4_joinRow 21 = .ok (.iconst 1, 1) := by decide +kernel
theorem dX4_joinRow_22 : decode cX4_joinRow 22 = .ok (.aload_n 1, 1) := by decide +kernel
theorem dX4_joinRow_23 : decode cX4_joinRow 23 = .ok (.iconst 1, 1) := by decide +kernel
theorem dX4_joinRow_24 : decode cX4_joinRow 24 = .ok (.iaload, 1) := by decide +kernel
theorem dX4_joinRow_25 : decode cX4_joinRow 25 = .ok (.iconst (-1), 1) := by decide +kernel
theorem dX4_joinRow_26 : decode cX4_joinRow 26 = .ok (.if_icmp .eq 9, 3) := by decide +kernel
theorem dX4_joinRow_29 : decode cX4_joinRow 29 = .ok (.aload_n 1, 1) := by decide +kernel
theorem dX4_joinRow_30 : decode cX4_joinRow 30 = .ok (.iconst 1, 1) := by decide +kernel
theorem dX4_joinRow_31 : decode cX4_joinRow 31 = .ok (.iaload, 1) := by decide +kernel
theorem dX4_joinRow_32 : decode cX4_joinRow 32 = .ok (.goto 7, 3) := by decide +kernel
theorem dX4_joinRow_35 : decode cX4_joinRow 35 = .ok (.aload_n 0, 1) := by decide +kernel
theorem dX4_joinRow_36 : decode cX4_joinRow 36 = .ok (.getfield 127, 3) := by decide +kernel
theorem dX4_joinRow_39 : decode cX4_joinRow 39 = .ok (.iastore, 1) := by decide +kernel
theorem dX4_joinRow_40 : decode cX4_joinRow 40 = .ok (.aload_n 1, 1) := by decide +kernel
theorem dX4_joinRow_41 : decode cX4_joinRow 41 = .ok (.iconst 2, 1) := by decide +kernel
theorem dX4_joinRow_42 : decode cX4_joinRow 42 = .ok (.iaload, 1) := by decide +kernel
theorem dX4_joinRow_43 : decode cX4_joinRow 43 = .ok (.ifCond .eq 7, 3) := by decide +kernel
theorem dX4_joinRow_46 : decode cX4_joinRow 46 = .ok (.iconst 1, 1) := by decide +kernel
theorem dX4_joinRow_47 : decode cX4_joinRow 47 = .ok (.goto 4, 3) := by decide +kernel
theorem dX4_joinRow_50 : decode cX4_joinRow 50 = .ok (.iconst 0, 1) := by decide +kernel
theorem dX4_joinRow_51 : decode cX4_joinRow 51 = .ok (.istore_n 3, 1) := by decide +kernel
theorem dX4_joinRow_52 : decode cX4_joinRow 52 = .ok (.aload_n 2, 1) := by decide +kernel
theorem dX4_joinRow_53 : decode cX4_joinRow 53 = .ok (.iconst 2, 1) := by decide +kernel
theorem dX4_joinRow_54 : decode cX4_joinRow 54 = .ok (.iload_n 3, 1) := by decide +kernel
theorem dX4_joinRow_55 : decode cX4_joinRow 55 = .ok (.ifCond .ne 10, 3) := by decide +kernel
theorem dX4_joinRow_58 : decode cX4_joinRow 58 = .ok (.aload_n 0, 1) := by decide +kernel
theorem dX4_joinRow_59 : decode cX4_joinRow 59 = .ok (.getfield 130, 3) := by decide +kernel
theorem dX4_joinRow_62 : decode cX4_joinRow 62 = .ok (.ifCond .eq 7, 3) := by decide +kernel
theorem dX4_joinRow_65 : decode cX4_joinRow 65 = .ok (.iconst 1, 1) := by decide +kernel
theorem dX4_joinRow_66 : decode cX4_joinRow 66 = .ok (.goto 4, 3) := by decide +kernel
theorem dX4_joinRow_69 : decode cX4_joinRow 69 = .ok (.iconst 0, 1) := by decide +kernel
theorem dX4_joinRow_70 : decode cX4_joinRow 70 = .ok (.iastore, 1) := by decide +kernel
theorem dX4_joinRow_71 : decode cX4_joinRow 71 = .ok (.aload_n 2, 1) := by decide +kernel
theorem dX4_joinRow_72 : decode cX4_joinRow 72 = .ok (.iconst 3, 1) := by decide +kernel
theorem dX4_joinRow_73 : decode cX4_joinRow 73 = .ok (.iload_n 3, 1) := by decide +kernel
theorem dX4_joinRow_74 : decode cX4_joinRow 74 = .ok (.ifCond .eq 9, 3) := by decide +kernel
theorem dX4_joinRow_77 : decode cX4_joinRow 77 = .ok (.aload_n 1, 1) := by decide +kernel
theorem dX4_joinRow_78 : decode cX4_joinRow 78 = .ok (.iconst 3, 1) := by decide +kernel
theorem dX4_joinRow_79 : decode cX4_joinRow 79 = .ok (.iaload, 1) := by decide +kernel
theorem dX4_joinRow_80 : decode cX4_joinRow 80 = .ok (.goto 7, 3) := by decide +kernel
theorem dX4_joinRow_83 : decode cX4_joinRow 83 = .ok (.aload_n 0, 1) := by decide +kernel
theorem dX4_joinRow_84 : decode cX4_joinRow 84 = .ok (.getfield 134, 3) := by decide +kernel
theorem dX4_joinRow_87 : decode cX4_joinRow 87 = .ok (.iastore, 1) := by decide +kernel
theorem dX4_joinRow_88 : decode cX4_joinRow 88 = .ok (.aload_n 1, 1) := by decide +kernel
theorem dX4_joinRow_89 : decode cX4_joinRow 89 = .ok (.iconst 4, 1) := by decide +kernel
theorem dX4_joinRow_90 : decode cX4_joinRow 90 = .ok (.iaload, 1) := by decide +kernel
theorem dX4_joinRow_91 : decode cX4_joinRow 91 = .ok (.iconst (-1), 1) := by decide +kernel
theorem dX4_joinRow_92 : decode cX4_joinRow 92 = .ok (.if_icmp .eq 7, 3) := by decide +kernel
theorem dX4_joinRow_95 : decode cX4_joinRow 95 = .ok (.iconst 1, 1) := by decide +kernel
theorem dX4_joinRow_96 : decode cX4_joinRow 96 = .ok (.goto 4, 3) := by decide +kernel
theorem dX4_joinRow_99 : decode cX4_joinRow 99 = .ok (.iconst 0, 1) := by decide +kernel
theorem dX4_joinRow_100 : decode cX4_joinRow 100 = .ok (.istore 4, 2) := by decide +kernel
theorem dX4_joinRow_102 : decode cX4_joinRow 102 = .ok (.aload_n 2, 1) := by decide +kernel
theorem dX4_joinRow_103 : decode cX4_joinRow 103 = .ok (.iconst 4, 1) := by decide +kernel
theorem dX4_joinRow_104 : decode cX4_joinRow 104 = .ok (.iload 4, 2) := by decide +kernel
theorem dX4_joinRow_106 : decode cX4_joinRow 106 = .ok (.ifCond .eq 9, 3) := by decide +kernel
theorem dX4_joinRow_109 : decode cX4_joinRow 109 = .ok (.aload_n 1, 1) := by decide +kernel
theorem dX4_joinRow_110 : decode cX4_joinRow 110 = .ok (.iconst 4, 1) := by decide +kernel
theorem dX4_joinRow_111 : decode cX4_joinRow 111 = .ok (.iaload, 1) := by decide +kernel
theorem dX4_joinRow_112 : decode cX4_joinRow 112 = .ok (.goto 7, 3) := by decide +kernel
theorem dX4_joinRow_115 : decode cX4_joinRow 115 = .ok (.aload_n 0, 1) := by decide +kernel
theorem dX4_joinRow_116 : decode cX4_joinRow 116 = .ok (.getfield 137, 3) := by decide +kernel
theorem dX4_joinRow_119 : decode cX4_joinRow 119 = .ok (.iastore, 1) := by decide +kernel
theorem dX4_joinRow_120 : decode cX4_joinRow 120 = .ok (.aload_n 2, 1) := by decide +kernel
theorem dX4_joinRow_121 : decode cX4_joinRow 121 = .ok (.iconst 5, 1) := by decide +kernel
theorem dX4_joinRow_122 : decode cX4_joinRow 122 = .ok (.iload 4, 2) := by decide +kernel
theorem dX4_joinRow_124 : decode cX4_joinRow 124 = .ok (.ifCond .eq 9, 3) := by decide +kernel
theorem dX4_joinRow_127 : decode cX4_joinRow 127 = .ok (.aload_n 1, 1) := by decide +kernel
theorem dX4_joinRow_128 : decode cX4_joinRow 128 = .ok (.iconst 5, 1) := by decide +kernel
theorem dX4_joinRow_129 : decode cX4_joinRow 129 = .ok (.iaload, 1) := by decide +kernel
theorem dX4_joinRow_130 : decode cX4_joinRow 130 = .ok (.goto 7, 3) := by decide +kernel
theorem dX4_joinRow_133 : decode cX4_joinRow 133 = .ok (.aload_n 0, 1) := by decide +kernel
theorem dX4_joinRow_134 : decode cX4_joinRow 134 = .ok (.getfield 140, 3) := by decide +kernel
theorem dX4_joinRow_137 : decode cX4_joinRow 137 = .ok (.iastore, 1) := by decide +kernel
theorem dX4_joinRow_138 : decode cX4_joinRow 138 = .ok (.return_, 1) := by decide +kernel
theorem dX4_isRing_0 : decode cX4_isRing 0 = .ok (.iload_n 1, 1) := by decide +kernel
theorem dX4_isRing_1 : decode cX4_isRing 1 = .ok (.ifCond .lt 22, 3) := by decide +kernel
theorem dX4_isRing_4 : decode cX4_isRing 4 = .ok (.iload_n 1, 1) := by decide +kernel
theorem dX4_isRing_5 : decode cX4_isRing 5 = .ok (.bipush 16, 2) := by decide +kernel
theorem dX4_isRing_7 : decode cX4_isRing 7 = .ok (.if_icmp .ge 16, 3) := by decide +kernel
theorem dX4_isRing_10 : decode cX4_isRing 10 = .ok (.aload_n 0, 1) := by decide +kernel
theorem dX4_isRing_11 : decode cX4_isRing 11 = .ok (.getfield 16, 3) := by decide +kernel
theorem dX4_isRing_14 : decode cX4_isRing 14 = .ok (.iload_n 1, 1) := by decide +kernel
theorem dX4_isRing_15 : decode cX4_isRing 15 = .ok (.iaload, 1) := by decide +kernel
theorem dX4_isRing_16 : decode cX4_isRing 16 = .ok (.iconst 1, 1) := by decide +kernel
theorem dX4_isRing_17 : decode cX4_isRing 17 = .ok (.iload_n 1, 1) := by decide +kernel
theorem dX4_isRing_18 : decode cX4_isRing 18 = .ok (.ishl, 1) := by decide +kernel
theorem dX4_isRing_19 : decode cX4_isRing 19 = .ok (.iand, 1) := by decide +kernel
theorem dX4_isRing_20 : decode cX4_isRing 20 = .ok (.ifCond .eq 7, 3) := by decide +kernel
theorem dX4_isRing_23 : decode cX4_isRing 23 = .ok (.iconst 1, 1) := by decide +kernel
theorem dX4_isRing_24 : decode cX4_isRing 24 = .ok (.goto 4, 3) := by decide +kernel
theorem dX4_isRing_27 : decode cX4_isRing 27 = .ok (.iconst 0, 1) := by decide +kernel
theorem dX4_isRing_28 : decode cX4_isRing 28 = .ok (.ireturn, 1) := by decide +kernel
theorem dX4_settle_0 : decode cX4_settle 0 = .ok (.aconst_null, 1) := by decide +kernel
theorem dX4_settle_1 : decode cX4_settle 1 = .ok (.astore_n 3, 1) := by decide +kernel
theorem dX4_settle_2 : decode cX4_settle 2 = .ok (.iconst 0, 1) := by decide +kernel
theorem dX4_settle_3 : decode cX4_settle 3 = .ok (.istore 4, 2) := by decide +kernel
theorem dX4_settle_5 : decode cX4_settle 5 = .ok (.aload_n 1, 1) := by decide +kernel
theorem dX4_settle_6 : decode cX4_settle 6 = .ok (.getfield 97, 3) := by decide +kernel
theorem dX4_settle_9 : decode cX4_settle 9 = .ok (.sipush 200, 3) := by decide +kernel
theorem dX4_settle_12 : decode cX4_settle 12 = .ok (.if_icmp .lt 9, 3) := by decide +kernel
theorem dX4_settle_15 : decode cX4_settle 15 = .ok (.iconst 1, 1) := by decide +kernel
theorem dX4_settle_16 : decode cX4_settle 16 = .ok (.istore 4, 2) := by decide +kernel
theorem dX4_settle_18 : decode cX4_settle 18 = .ok (.goto 91, 3) := by decide +kernel
theorem dX4_settle_21 : decode cX4_settle 21 = .ok (.aload_n 1, 1) := by decide +kernel
theorem dX4_settle_22 : decode cX4_settle 22 = .ok (.getfield 97, 3) := by decide +kernel
theorem dX4_settle_25 : decode cX4_settle 25 = .ok (.aload_n 0, 1) := by decide +kernel
theorem dX4_settle_26 : decode cX4_settle 26 = .ok (.getfield 64, 3) := by decide +kernel
theorem dX4_settle_29 : decode cX4_settle 29 = .ok (.getfield 143, 3) := by decide +kernel
theorem dX4_settle_32 : decode cX4_settle 32 = .ok (.invokestatic 146, 3) := by decide +kernel
theorem dX4_settle_35 : decode cX4_settle 35 = .ok (.ifCond .ne 9, 3) := by decide +kernel
theorem dX4_settle_38 : decode cX4_settle 38 = .ok (.iconst 2, 1) := by decide +kernel
theorem dX4_settle_39 : decode cX4_settle 39 = .ok (.istore 4, 2) := by decide +kernel
theorem dX4_settle_41 : decode cX4_settle 41 = .ok (.goto 68, 3) := by decide +kernel
theorem dX4_settle_44 : decode cX4_settle 44 = .ok (.aload_n 1, 1) := by decide +kernel
theorem dX4_settle_45 : decode cX4_settle 45 = .ok (.getfield 97, 3) := by decide +kernel
theorem dX4_settle_48 : decode cX4_settle 48 = .ok (.bipush 7, 2) := by decide +kernel
theorem dX4_settle_50 : decode cX4_settle 50 = .ok (.if_icmp .eq 12, 3) := by decide +kernel
theorem dX4_settle_53 : decode cX4_settle 53 = .ok (.aload_n 1, 1) := by decide +kernel
theorem dX4_settle_54 : decode cX4_settle 54 = .ok (.getfield 97, 3) := by decide +kernel
theorem dX4_settle_57 : decode cX4_settle 57 = .ok (.bipush 8, 2) := by decide +kernel
theorem dX4_settle_59 : decode cX4_settle 59 = .ok (.if_icmp .ne 40, 3) := by decide +kernel
theorem dX4_settle_62 : decode cX4_settle 62 = .ok (.aload_n 1, 1) := by decide +kernel
theorem dX4_settle_63 : decode cX4_settle 63 = .ok (.getfield 97, 3) := by decide +kernel
theorem dX4_settle_66 : decode cX4_settle 66 = .ok (.bipush 7, 2) := by decide +kernel
theorem dX4_settle_68 : decode cX4_settle 68 = .ok (.if_icmp .ne 11, 3) := by decide +kernel
theorem dX4_settle_71 : decode cX4_settle 71 = .ok (.aload_n 0, 1) := by decide +kernel
theorem dX4_settle_72 : decode cX4_settle 72 = .ok (.aload_n 1, 1) := by decide +kernel
theorem dX4_settle_73 : decode cX4_settle 73 = .ok (.invokevirtual 150, 3) := by decide +kernel
theorem dX4_settle_76 : decode cX4_settle 76 = .ok (.goto 8, 3) := by decide +kernel
theorem dX4_settle_79 : decode cX4_settle 79 = .ok (.aload_n 0, 1) := by decide +kernel
theorem dX4_settle_80 : decode cX4_settle 80 = .ok (.aload_n 1, 1) := by decide +kernel
theorem dX4_settle_81 : decode cX4_settle 81 = .ok (.invokevirtual 154, 3) := by decide +kernel
theorem dX4_settle_84 : decode cX4_settle 84 = .ok (.astore_n 3, 1) := by decide +kernel
theorem dX4_settle_85 : decode cX4_settle 85 = .ok (.aload_n 3, 1) := by decide +kernel
theorem dX4_settle_86 : decode cX4_settle 86 = .ok (.ifnonnull 7, 3) := by decide +kernel
theorem dX4_settle_89 : decode cX4_settle 89 = .ok (.iconst 3, 1) := by decide +kernel
theorem dX4_settle_90 : decode cX4_settle 90 = .ok (.goto 4, 3) := by decide +kernel
theorem dX4_settle_93 : decode cX4_settle 93 = .ok (.iconst 0, 1) := by decide +kernel
theorem dX4_settle_94 : decode cX4_settle 94 = .ok (.istore 4, 2) := by decide +kernel
theorem dX4_settle_96 : decode cX4_settle 96 = .ok (.goto 13, 3) := by decide +kernel
theorem dX4_settle_99 : decode cX4_settle 99 = .ok (.aload_n 1, 1) := by decide +kernel
theorem dX4_settle_100 : decode cX4_settle 100 = .ok (.invokestatic 157, 3) := by decide +kernel
theorem dX4_settle_103 : decode cX4_settle 103 = .ok (.ifCond .ne 6, 3) := by decide +kernel
theorem dX4_settle_106 : decode cX4_settle 106 = .ok (.iconst 3, 1) := by decide +kernel
theorem dX4_settle_107 : decode cX4_settle 107 = .ok (.istore 4, 2) := by decide +kernel
theorem dX4_settle_109 : decode cX4_settle 109 = .ok (.iload 4, 2) := by decide +kernel
theorem dX4_settle_111 : decode cX4_settle 111 = .ok (.ifCond .eq 16, 3) := by decide +kernel
theorem dX4_settle_114 : decode cX4_settle 114 = .ok (.aload_n 0, 1) := by decide +kernel
theorem dX4_settle_115 : decode cX4_settle 115 = .ok (.iload 4, 2) := by decide +kernel
theorem dX4_settle_117 : decode cX4_settle 117 = .ok (.aload_n 1, 1) := by decide +kernel
theorem dX4_settle_118 : decode cX4_settle 118 = .ok (.getfield 97, 3) := by decide +kernel
theorem dX4_settle_121 : decode cX4_settle 121 = .ok (.invokevirtual 161, 3) := by decide +kernel
theorem dX4_settle_124 : decode cX4_settle 124 = .ok (.goto 65, 3) := by decide +kernel
theorem dX4_settle_127 : decode cX4_settle 127 = .ok (.aload_n 0, 1) := by decide +kernel
theorem dX4_settle_128 : decode cX4_settle 128 = .ok (.getfield 64, 3) := by decide +kernel
theorem dX4_settle_131 : decode cX4_settle 131 = .ok (.getfield 165, 3) := by decide +kernel
theorem dX4_settle_134 : decode cX4_settle 134 = .ok (.invokevirtual 40, 3) := by decide +kernel
theorem dX4_settle_137 : decode cX4_settle 137 = .ok (.bipush 40, 2) := by decide +kernel
theorem dX4_settle_139 : decode cX4_settle 139 = .ok (.if_icmp .ge 50, 3) := by decide +kernel
theorem dX4_settle_142 : decode cX4_settle 142 = .ok (.aload_n 0, 1) := by decide +kernel
theorem dX4_settle_143 : decode cX4_settle 143 = .ok (.getfield 64, 3) := by decide +kernel
theorem dX4_settle_146 : decode cX4_settle 146 = .ok (.getfield 165, 3) := by decide +kernel
theorem dX4_settle_149 : decode cX4_settle 149 = .ok (.aload_n 1, 1) := by decide +kernel
theorem dX4_settle_150 : decode cX4_settle 150 = .ok (.aload_n 2, 1) := by decide +kernel
theorem dX4_settle_151 : decode cX4_settle 151 = .ok (.aload_n 3, 1) := by decide +kernel
theorem dX4_settle_152 : decode cX4_settle 152 = .ok (.invokestatic 168, 3) := by decide +kernel
theorem dX4_settle_155 : decode cX4_settle 155 = .ok (.invokevirtual 172, 3) := by decide +kernel
theorem dX4_settle_158 : decode cX4_settle 158 = .ok (.pop, 1) := by decide +kernel
theorem dX4_settle_159 : decode cX4_settle 159 = .ok (.aload_n 0, 1) := by decide +kernel
theorem dX4_settle_160 : decode cX4_settle 160 = .ok (.getfield 64, 3) := by decide +kernel
theorem dX4_settle_163 : decode cX4_settle 163 = .ok (.aload_n 0, 1) := by decide +kernel
theorem dX4_settle_164 : decode cX4_settle 164 = .ok (.getfield 64, 3) := by decide +kernel
theorem dX4_settle_167 : decode cX4_settle 167 = .ok (.getfield 176, 3) := by decide +kernel
theorem dX4_settle_170 : decode cX4_settle 170 = .ok (.ifCond .ne 11, 3) := by decide +kernel
theorem dX4_settle_173 : decode cX4_settle 173 = .ok (.aload_n 1, 1) := by decide +kernel
theorem dX4_settle_174 : decode cX4_settle 174 = .ok (.getfield 97, 3) := by decide +kernel
theorem dX4_settle_177 : decode cX4_settle 177 = .ok (.iconst 2, 1) := by decide +kernel
theorem dX4_settle_178 : decode cX4_settle 178 = .ok (.if_icmp .ne 7, 3) := by decide +kernel
theorem dX4_settle_181 : decode cX4_settle 181 = .ok (.iconst 1, 1) := by decide +kernel
theorem dX4_settle_182 : decode cX4_settle 182 = .ok (.goto 4, 3) := by decide +kernel
theorem dX4_settle_185 : decode cX4_settle 185 = .ok (.iconst 0, 1) := by decide +kernel
theorem dX4_settle_186 : decode cX4_settle 186 = .ok (.putfield 176, 3) := by decide +kernel
theorem dX4_settle_189 : decode cX4_settle 189 = .ok (.return_, 1) := by decide +kernel
theorem dX4_fitsType_0 : decode cX4_fitsType 0 = .ok (.iload_n 1, 1) := by decide +kernel
theorem dX4_fitsType_1 : decode cX4_fitsType 1 = .ok (.iconst 5, 1) := by decide +kernel
theorem dX4_fitsType_2 : decode cX4_fitsType 2 = .ok (.if_icmp .eq 15, 3) := by decide +kernel
theorem dX4_fitsType_5 : decode cX4_fitsType 5 = .ok (.iload_n 0, 1) := by decide +kernel
theorem dX4_fitsType_6 : decode cX4_fitsType 6 = .ok (.bipush 7, 2) := by decide +kernel
theorem dX4_fitsType_8 : decode cX4_fitsType 8 = .ok (.if_icmp .eq 9, 3) := by decide +kernel
theorem dX4_fitsType_11 : decode cX4_fitsType 11 = .ok (.iload_n 0, 1) := by decide +kernel
theorem dX4_fitsType_12 : decode cX4_fitsType 12 = .ok (.bipush 8, 2) := by decide +kernel
theorem dX4_fitsType_14 : decode cX4_fitsType 14 = .ok (.if_icmp .ne 26, 3) := by decide +kernel
theorem dX4_fitsType_17 : decode cX4_fitsType 17 = .ok (.iload_n 1, 1) := by decide +kernel
theorem dX4_fitsType_18 : decode cX4_fitsType 18 = .ok (.iconst 5, 1) := by decide +kernel
theorem dX4_fitsType_19 : decode cX4_fitsType 19 = .ok (.if_icmp .ne 19, 3) := by decide +kernel
theorem dX4_fitsType_22 : decode cX4_fitsType 22 = .ok (.iload_n 0, 1) := by decide +kernel
theorem dX4_fitsType_23 : decode cX4_fitsType 23 = .ok (.bipush 7, 2) := by decide +kernel
theorem dX4_fitsType_25 : decode cX4_fitsType 25 = .ok (.if_icmp .eq 9, 3) := by decide +kernel
theorem dX4_fitsType_28 : decode cX4_fitsType 28 = .ok (.iload_n 0, 1) := by decide +kernel
theorem dX4_fitsType_29 : decode cX4_fitsType 29 = .ok (.bipush 8, 2) := by decide +kernel
theorem dX4_fitsType_31 : decode cX4_fitsType 31 = .ok (.if_icmp .ne 7, 3) := by decide +kernel
theorem dX4_fitsType_34 : decode cX4_fitsType 34 = .ok (.iconst 1, 1) := by decide +kernel
theorem dX4_fitsType_35 : decode cX4_fitsType 35 = .ok (.goto 4, 3) := by decide +kernel
theorem dX4_fitsType_38 : decode cX4_fitsType 38 = .ok (.iconst 0, 1) := by decide +kernel
theorem dX4_fitsType_39 : decode cX4_fitsType 39 = .ok (.ireturn, 1) := by decide +kernel
theorem dX4_fitsType_40 : decode cX4_fitsType 40 = .ok (.iload_n 0, 1) := by decide +kernel
theorem dX4_fitsType_41 : decode cX4_fitsType 41 = .ok (.iconst 1, 1) := by decide +kernel
theorem dX4_fitsType_42 : decode cX4_fitsType 42 = .ok (.if_icmp .ne 5, 3) := by decide +kernel
theorem dX4_fitsType_45 : decode cX4_fitsType 45 = .ok (.iconst 1, 1) := by decide +kernel
theorem dX4_fitsType_46 : decode cX4_fitsType 46 = .ok (.ireturn, 1) := by decide +kernel
theorem dX4_fitsType_47 : decode cX4_fitsType 47 = .ok (.iload_n 0, 1) := by decide +kernel
theorem dX4_fitsType_48 : decode cX4_fitsType 48 = .ok (.iconst 2, 1) := by decide +kernel
theorem dX4_fitsType_49 : decode cX4_fitsType 49 = .ok (.if_icmp .ne 19, 3) := by decide +kernel
theorem dX4_fitsType_52 : decode cX4_fitsType 52 = .ok (.iload_n 1, 1) := by decide +kernel
theorem dX4_fitsType_53 : decode cX4_fitsType 53 = .ok (.iconst 3, 1) := by decide +kernel
theorem dX4_fitsType_54 : decode cX4_fitsType 54 = .ok (.if_icmp .eq 8, 3) := by decide +kernel
theorem dX4_fitsType_57 : decode cX4_fitsType 57 = .ok (.iload_n 1, 1) := by decide +kernel
theorem dX4_fitsType_58 : decode cX4_fitsType 58 = .ok (.iconst 4, 1) := by decide +kernel
theorem dX4_fitsType_59 : decode cX4_fitsType 59 = .ok (.if_icmp .ne 7, 3) := by decide +kernel
theorem dX4_fitsType_62 : decode cX4_fitsType 62 = .ok (.iconst 1, 1) := by decide +kernel
theorem dX4_fitsType_63 : decode cX4_fitsType 63 = .ok (.goto 4, 3) := by decide +kernel
theorem dX4_fitsType_66 : decode cX4_fitsType 66 = .ok (.iconst 0, 1) := by decide +kernel
theorem dX4_fitsType_67 : decode cX4_fitsType 67 = .ok (.ireturn, 1) := by decide +kernel
theorem dX4_fitsType_68 : decode cX4_fitsType 68 = .ok (.iload_n 0, 1) := by decide +kernel
theorem dX4_fitsType_69 : decode cX4_fitsType 69 = .ok (.iconst 5, 1) := by decide +kernel
theorem dX4_fitsType_70 : decode cX4_fitsType 70 = .ok (.if_icmp .ne 19, 3) := by decide +kernel
theorem dX4_fitsType_73 : decode cX4_fitsType 73 = .ok (.iload_n 1, 1) := by decide +kernel
theorem dX4_fitsType_74 : decode cX4_fitsType 74 = .ok (.iconst 2, 1) := by decide +kernel
theorem dX4_fitsType_75 : decode cX4_fitsType 75 = .ok (.if_icmp .eq 8, 3) := by decide +kernel
theorem dX4_fitsType_78 : decode cX4_fitsType 78 = .ok (.iload_n 1, 1) := by decide +kernel
theorem dX4_fitsType_79 : decode cX4_fitsType 79 = .ok (.iconst 4, 1) := by decide +kernel
theorem dX4_fitsType_80 : decode cX4_fitsType 80 = .ok (.if_icmp .ne 7, 3) := by decide +kernel
theorem dX4_fitsType_83 : decode cX4_fitsType 83 = .ok (.iconst 1, 1) := by decide +kernel
theorem dX4_fitsType_84 : decode cX4_fitsType 84 = .ok (.goto 4, 3) := by decide +kernel
theorem dX4_fitsType_87 : decode cX4_fitsType 87 = .ok (.iconst 0, 1) := by decide +kernel
theorem dX4_fitsType_88 : decode cX4_fitsType 88 = .ok (.ireturn, 1) := by decide +kernel
theorem dX4_fitsType_89 : decode cX4_fitsType 89 = .ok (.iload_n 1, 1) := by decide +kernel
theorem dX4_fitsType_90 : decode cX4_fitsType 90 = .ok (.iconst 1, 1) := by decide +kernel
theorem dX4_fitsType_91 : decode cX4_fitsType 91 = .ok (.if_icmp .ne 7, 3) := by decide +kernel
theorem dX4_fitsType_94 : decode cX4_fitsType 94 = .ok (.iconst 1, 1) := by decide +kernel
theorem dX4_fitsType_95 : decode cX4_fitsType 95 = .ok (.goto 4, 3) := by decide +kernel
theorem dX4_fitsType_98 : decode cX4_fitsType 98 = .ok (.iconst 0, 1) := by decide +kernel
theorem dX4_fitsType_99 : decode cX4_fitsType 99 = .ok (.ireturn, 1) := by decide +kernel
theorem dX4_membersOfBelow_0 : decode cX4_membersOfBelow 0 = .ok (.aload_n 0, 1) := by decide +kernel
theorem dX4_membersOfBelow_1 : decode cX4_membersOfBelow 1 = .ok (.getfield 52, 3) := by decide +kernel
theorem dX4_membersOfBelow_4 : decode cX4_membersOfBelow 4 = .ok (.aload_n 1, 1) := by decide +kernel
theorem dX4_membersOfBelow_5 : decode cX4_membersOfBelow 5 = .ok (.iconst 0, 1) := by decide +kernel
theorem dX4_membersOfBelow_6 : decode cX4_membersOfBelow 6 = .ok (.invokevirtual 185, 3) := by decide +kernel
theorem dX4_membersOfBelow_9 : decode cX4_membersOfBelow 9 = .ok (.iconst 1, 1) := by decide +kernel
theorem dX4_membersOfBelow_10 : decode cX4_membersOfBelow 10 = .ok (.invokevirtual 189, 3) := by decide +kernel
theorem dX4_membersOfBelow_13 : decode cX4_membersOfBelow 13 = .ok (.istore_n 2, 1) := by decide +kernel
theorem dX4_membersOfBelow_14 : decode cX4_membersOfBelow 14 = .ok (.aload_n 0, 1) := by decide +kernel
theorem dX4_membersOfBelow_15 : decode cX4_membersOfBelow 15 = .ok (.getfield 52, 3) := by decide +kernel
theorem dX4_membersOfBelow_18 : decode cX4_membersOfBelow 18 = .ok (.aload_n 1, 1) := by decide +kernel
theorem dX4_membersOfBelow_19 : decode cX4_membersOfBelow 19 = .ok (.iconst 1, 1) := by decide +kernel
theorem dX4_membersOfBelow_20 : decode cX4_membersOfBelow 20 = .ok (.invokevirtual 185, 3) := by decide +kernel
theorem dX4_membersOfBelow_23 : decode cX4_membersOfBelow 23 = .ok (.iconst 1, 1) := by decide +kernel
theorem dX4_membersOfBelow_24 : decode cX4_membersOfBelow 24 = .ok (.invokevirtual 189, 3) := by decide +kernel
theorem dX4_membersOfBelow_27 : decode cX4_membersOfBelow 27 = .ok (.istore_n 3, 1) := by decide +kernel
theorem dX4_membersOfBelow_28 : decode cX4_membersOfBelow 28 = .ok (.aload_n 1, 1) := by decide +kernel
theorem dX4_membersOfBelow_29 : decode cX4_membersOfBelow 29 = .ok (.getfield 179, 3) := by decide +kernel
theorem dX4_membersOfBelow_32 : decode cX4_membersOfBelow 32 = .ok (.iconst 2, 1) := by decide +kernel
theorem dX4_membersOfBelow_33 : decode cX4_membersOfBelow 33 = .ok (.if_icmp .ne 13, 3) := by decide +kernel
theorem dX4_membersOfBelow_36 : decode cX4_membersOfBelow 36 = .ok (.iload_n 2, 1) := by decide +kernel
theorem dX4_membersOfBelow_37 : decode cX4_membersOfBelow 37 = .ok (.iconst (-1), 1) := by decide +kernel
theorem dX4_membersOfBelow_38 : decode cX4_membersOfBelow 38 = .ok (.if_icmp .eq 8, 3) := by decide +kernel
theorem dX4_membersOfBelow_41 : decode cX4_membersOfBelow 41 = .ok (.iload_n 3, 1) := by decide +kernel
theorem dX4_membersOfBelow_42 : decode cX4_membersOfBelow 42 = .ok (.iconst (-1), 1) := by decide +kernel
theorem dX4_membersOfBelow_43 : decode cX4_membersOfBelow 43 = .ok (.if_icmp .ne 5, 3) := by decide +kernel
theorem dX4_membersOfBelow_46 : decode cX4_membersOfBelow 46 = .ok (.aconst_null, 1) := by decide +kernel
theorem dX4_membersOfBelow_47 : decode cX4_membersOfBelow 47 = .ok (.areturn, 1) := by decide +kernel
theorem dX4_membersOfBelow_48 : decode cX4_membersOfBelow 48 = .ok (.iconst 2, 1) := by decide +kernel
theorem dX4_membersOfBelow_49 : decode cX4_membersOfBelow 49 = .ok (.newarray .int, 2) := by decide +kernel
theorem dX4_membersOfBelow_51 : decode cX4_membersOfBelow 51 = .ok (.dup, 1) := by decide +kernel
theorem dX4_membersOfBelow_52 : decode cX4_membersOfBelow 52 = .ok (.iconst 0, 1) := by decide +kernel
theorem dX4_membersOfBelow_53 : decode cX4_membersOfBelow 53 = .ok (.iload_n 2, 1) := by decide +kernel
theorem dX4_membersOfBelow_54 : decode cX4_membersOfBelow 54 = .ok (.iastore, 1) := by decide +kernel
theorem dX4_membersOfBelow_55 : decode cX4_membersOfBelow 55 = .ok (.dup, 1) := by decide +kernel
theorem dX4_membersOfBelow_56 : decode cX4_membersOfBelow 56 = .ok (.iconst 1, 1) := by decide +kernel
theorem dX4_membersOfBelow_57 : decode cX4_membersOfBelow 57 = .ok (.iload_n 3, 1) := by decide +kernel
theorem dX4_membersOfBelow_58 : decode cX4_membersOfBelow 58 = .ok (.iastore, 1) := by decide +kernel
theorem dX4_membersOfBelow_59 : decode cX4_membersOfBelow 59 = .ok (.astore 4, 2) := by decide +kernel
theorem dX4_membersOfBelow_61 : decode cX4_membersOfBelow 61 = .ok (.aload 4, 2) := by decide +kernel
theorem dX4_membersOfBelow_63 : decode cX4_membersOfBelow 63 = .ok (.areturn, 1) := by decide +kernel
theorem dX10_name_0 : decode cX10_name 0 = .ok (.aload_n 0, 1) := by decide +kernel
theorem dX10_name_1 : decode cX10_name 1 = .ok (.getfield 31, 3) := by decide +kernel
theorem dX10_name_4 : decode cX10_name 4 = .ok (.ifnull 33, 3) := by decide +kernel
theorem dX10_name_7 : decode cX10_name 7 = .ok (.iload_n 1, 1) := by decide +kernel
theorem dX10_name_8 : decode cX10_name 8 = .ok (.ifCond .lt 29, 3) := by decide +kernel
theorem dX10_name_11 : decode cX10_name 11 = .ok (.iload_n 1, 1) := by decide +kernel
theorem dX10_name_12 : decode cX10_name 12 = .ok (.aload_n 0, 1) := by decide +kernel
theorem dX10_name_13 : decode cX10_name 13 = .ok (.getfield 28, 3) := by decide +kernel
theorem dX10_name_16 : decode cX10_name 16 = .ok (.if_icmp .ge 21, 3) := by decide +kernel
theorem dX10_name_19 : decode cX10_name 19 = .ok (.iload_n 1, 1) := by decide +kernel
theorem dX10_name_20 : decode cX10_name 20 = .ok (.aload_n 0, 1) := by decide +kernel
theorem dX10_name_21 : decode cX10_name 21 = .ok (.getfield 31, 3) := by decide +kernel
theorem dX10_name_24 : decode cX10_name 24 = .ok (.arraylength, 1) := by decide +kernel
theorem dX10_name_25 : decode cX10_name 25 = .ok (.if_icmp .ge 12, 3) := by decide +kernel
theorem dX10_name_28 : decode cX10_name 28 = .ok (.aload_n 0, 1) := by decide +kernel
theorem dX10_name_29 : decode cX10_name 29 = .ok (.getfield 31, 3) := by decide +kernel
theorem dX10_name_32 : decode cX10_name 32 = .ok (.iload_n 1, 1) := by decide +kernel
theorem dX10_name_33 : decode cX10_name 33 = .ok (.laload, 1) := by decide +kernel
theorem dX10_name_34 : decode cX10_name 34 = .ok (.goto 4, 3) := by decide +kernel
theorem dX10_name_37 : decode cX10_name 37 = .ok (.lconst 0, 1) := by decide +kernel
theorem dX10_name_38 : decode cX10_name 38 = .ok (.lreturn, 1) := by decide +kernel
theorem dX3_findTyped_0 : decode cX3_findTyped 0 = .ok (.aload_n 0, 1) := by decide +kernel
theorem dX3_findTyped_1 : decode cX3_findTyped 1 = .ok (.lload_n 1, 1) := by decide +kernel
theorem dX3_findTyped_2 : decode cX3_findTyped 2 = .ok (.invokevirtual 63, 3) := by decide +kernel
theorem dX3_findTyped_5 : decode cX3_findTyped 5 = .ok (.istore 4, 2) := by decide +kernel
theorem dX3_findTyped_7 : decode cX3_findTyped 7 = .ok (.iload 4, 2) := by decide +kernel
theorem dX3_findTyped_9 : decode cX3_findTyped 9 = .ok (.iconst (-1), 1) := by decide +kernel
theorem dX3_findTyped_10 : decode cX3_findTyped 10 = .ok (.if_icmp .eq 27, 3) := by decide +kernel
theorem dX3_findTyped_13 : decode cX3_findTyped 13 = .ok (.aload_n 0, 1) := by decide +kernel
theorem dX3_findTyped_14 : decode cX3_findTyped 14 = .ok (.getfield 18, 3) := by decide +kernel
theorem dX3_findTyped_17 : decode cX3_findTyped 17 = .ok (.iload 4, 2) := by decide +kernel
theorem dX3_findTyped_19 : decode cX3_findTyped 19 = .ok (.invokevirtual 48, 3) := by decide +kernel
theorem dX3_findTyped_22 : decode cX3_findTyped 22 = .ok (.checkcast 22, 3) := by decide +kernel
theorem dX3_findTyped_25 : decode cX3_findTyped 25 = .ok (.getfield 67, 3) := by decide +kernel
theorem dX3_findTyped_28 : decode cX3_findTyped 28 = .ok (.iload_n 3, 1) := by decide +kernel
theorem dX3_findTyped_29 : decode cX3_findTyped 29 = .ok (.if_icmp .ne 8, 3) := by decide +kernel
theorem dX3_findTyped_32 : decode cX3_findTyped 32 = .ok (.iload 4, 2) := by decide +kernel
theorem dX3_findTyped_34 : decode cX3_findTyped 34 = .ok (.goto 4, 3) := by decide +kernel
theorem dX3_findTyped_37 : decode cX3_findTyped 37 = .ok (.iconst (-1), 1) := by decide +kernel
theorem dX3_findTyped_38 : decode cX3_findTyped 38 = .ok (.ireturn, 1) := by decide +kernel
theorem dX4_membersOfTotal_0 : decode cX4_membersOfTotal 0 = .ok (.aload_n 0, 1) := by decide +kernel
theorem dX4_membersOfTotal_1 : decode cX4_membersOfTotal 1 = .ok (.getfield 52, 3) := by decide +kernel
theorem dX4_membersOfTotal_4 : decode cX4_membersOfTotal 4 = .ok (.aload_n 1, 1) := by decide +kernel
theorem dX4_membersOfTotal_5 : decode cX4_membersOfTotal 5 = .ok (.iconst 0, 1) := by decide +kernel
theorem dX4_membersOfTotal_6 : decode cX4_membersOfTotal 6 = .ok (.invokevirtual 185, 3) := by decide +kernel
theorem dX4_membersOfTotal_9 : decode cX4_membersOfTotal 9 = .ok (.iconst 4, 1) := by decide +kernel
theorem dX4_membersOfTotal_10 : decode cX4_membersOfTotal 10 = .ok (.invokevirtual 189, 3) := by decide +kernel
theorem dX4_membersOfTotal_13 : decode cX4_membersOfTotal 13 = .ok (.istore_n 2, 1) := by decide +kernel
theorem dX4_membersOfTotal_14 : decode cX4_membersOfTotal 14 = .ok (.aload_n 0, 1) := by decide +kernel
theorem dX4_membersOfTotal_15 : decode cX4_membersOfTotal 15 = .ok (.getfield 52, 3) := by decide +kernel
theorem dX4_membersOfTotal_18 : decode cX4_membersOfTotal 18 = .ok (.aload_n 1, 1) := by decide +kernel
theorem dX4_membersOfTotal_19 : decode cX4_membersOfTotal 19 = .ok (.iconst 2, 1) := by decide +kernel
theorem dX4_membersOfTotal_20 : decode cX4_membersOfTotal 20 = .ok (.invokevirtual 185, 3) := by decide +kernel
theorem dX4_membersOfTotal_23 : decode cX4_membersOfTotal 23 = .ok (.iconst 1, 1) := by decide +kernel
theorem dX4_membersOfTotal_24 : decode cX4_membersOfTotal 24 = .ok (.invokevirtual 189, 3) := by decide +kernel
theorem dX4_membersOfTotal_27 : decode cX4_membersOfTotal 27 = .ok (.istore_n 3, 1) := by decide +kernel
theorem dX4_membersOfTotal_28 : decode cX4_membersOfTotal 28 = .ok (.aload_n 1, 1) := by decide +kernel
theorem dX4_membersOfTotal_29 : decode cX4_membersOfTotal 29 = .ok (.getfield 179, 3) := by decide +kernel
theorem dX4_membersOfTotal_32 : decode cX4_membersOfTotal 32 = .ok (.iconst 3, 1) := by decide +kernel
theorem dX4_membersOfTotal_33 : decode cX4_membersOfTotal 33 = .ok (.if_icmp .ne 13, 3) := by decide +kernel
theorem dX4_membersOfTotal_36 : decode cX4_membersOfTotal 36 = .ok (.iload_n 2, 1) := by decide +kernel
theorem dX4_membersOfTotal_37 : decode cX4_membersOfTotal 37 = .ok (.iconst (-1), 1) := by decide +kernel
theorem dX4_membersOfTotal_38 : decode cX4_membersOfTotal 38 = .ok (.if_icmp .eq 8, 3) := by decide +kernel
theorem dX4_membersOfTotal_41 : decode cX4_membersOfTotal 41 = .ok (.iload_n 3, 1) := by decide +kernel
theorem dX4_membersOfTotal_42 : decode cX4_membersOfTotal 42 = .ok (.iconst (-1), 1) := by decide +kernel
theorem dX4_membersOfTotal_43 : decode cX4_membersOfTotal 43 = .ok (.if_icmp .ne 5, 3) := by decide +kernel
theorem dX4_membersOfTotal_46 : decode cX4_membersOfTotal 46 = .ok (.aconst_null, 1) := by decide +kernel
theorem dX4_membersOfTotal_47 : decode cX4_membersOfTotal 47 = .ok (.areturn, 1) := by decide +kernel
theorem dX4_membersOfTotal_48 : decode cX4_membersOfTotal 48 = .ok (.aload_n 0, 1) := by decide +kernel
theorem dX4_membersOfTotal_49 : decode cX4_membersOfTotal 49 = .ok (.getfield 23, 3) := by decide +kernel
theorem dX4_membersOfTotal_52 : decode cX4_membersOfTotal 52 = .ok (.aload_n 0, 1) := by decide +kernel
theorem dX4_membersOfTotal_53 : decode cX4_membersOfTotal 53 = .ok (.getfield 52, 3) := by decide +kernel
theorem dX4_membersOfTotal_56 : decode cX4_membersOfTotal 56 = .ok (.getfield 79, 3) := by decide +kernel
theorem dX4_membersOfTotal_59 : decode cX4_membersOfTotal 59 = .ok (.iload_n 2, 1) := by decide +kernel
theorem dX4_membersOfTotal_60 : decode cX4_membersOfTotal 60 = .ok (.invokevirtual 46, 3) := by decide +kernel
theorem dX4_membersOfTotal_63 : decode cX4_membersOfTotal 63 = .ok (.checkcast 68, 3) := by decide +kernel
theorem dX4_membersOfTotal_66 : decode cX4_membersOfTotal 66 = .ok (.getfield 193, 3) := by decide +kernel
theorem dX4_membersOfTotal_69 : decode cX4_membersOfTotal 69 = .ok (.invokevirtual 195, 3) := by decide +kernel
theorem dX4_membersOfTotal_72 : decode cX4_membersOfTotal 72 = .ok (.astore 4, 2) := by decide +kernel
theorem dX4_membersOfTotal_74 : decode cX4_membersOfTotal 74 = .ok (.aload 4, 2) := by decide +kernel
theorem dX4_membersOfTotal_76 : decode cX4_membersOfTotal 76 = .ok (.ifnonnull 7, 3) := by decide +kernel
theorem dX4_membersOfTotal_79 : decode cX4_membersOfTotal 79 = .ok (.iconst (-1), 1) := by decide +kernel
theorem dX4_membersOfTotal_80 : decode cX4_membersOfTotal 80 = .ok (.goto 14, 3) := by decide +kernel
theorem dX4_membersOfTotal_83 : decode cX4_membersOfTotal 83 = .ok (.aload 4, 2) := by decide +kernel
theorem dX4_membersOfTotal_85 : decode cX4_membersOfTotal 85 = .ok (.aload_n 1, 1) := by decide +kernel
theorem dX4_membersOfTotal_86 : decode cX4_membersOfTotal 86 = .ok (.iconst 1, 1) := by decide +kernel
theorem dX4_membersOfTotal_87 : decode cX4_membersOfTotal 87 = .ok (.invokevirtual 185, 3) := by decide +kernel
theorem dX4_membersOfTotal_90 : decode cX4_membersOfTotal 90 = .ok (.iconst 1, 1) := by decide +kernel
theorem dX4_membersOfTotal_91 : decode cX4_membersOfTotal 91 = .ok (.invokevirtual 189, 3) := by decide +kernel
theorem dX4_membersOfTotal_94 : decode cX4_membersOfTotal 94 = .ok (.istore 5, 2) := by decide +kernel
theorem dX4_membersOfTotal_96 : decode cX4_membersOfTotal 96 = .ok (.iload 5, 2) := by decide +kernel
theorem dX4_membersOfTotal_98 : decode cX4_membersOfTotal 98 = .ok (.iconst (-1), 1) := by decide +kernel
theorem dX4_membersOfTotal_99 : decode cX4_membersOfTotal 99 = .ok (.if_icmp .ne 5, 3) := by decide +kernel
theorem dX4_membersOfTotal_102 : decode cX4_membersOfTotal 102 = .ok (.aconst_null, 1) := by decide +kernel
theorem dX4_membersOfTotal_103 : decode cX4_membersOfTotal 103 = .ok (.areturn, 1) := by decide +kernel
theorem dX4_membersOfTotal_104 : decode cX4_membersOfTotal 104 = .ok (.iconst 3, 1) := by decide +kernel
theorem dX4_membersOfTotal_105 : decode cX4_membersOfTotal 105 = .ok (.newarray .int, 2) := by decide +kernel
theorem dX4_membersOfTotal_107 : decode cX4_membersOfTotal 107 = .ok (.dup, 1) := by decide +kernel
theorem dX4_membersOfTotal_108 : decode cX4_membersOfTotal 108 = .ok (.iconst 0, 1) := by decide +kernel
theorem dX4_membersOfTotal_109 : decode cX4_membersOfTotal 109 = .ok (.iload_n 2, 1) := by decide +kernel
theorem dX4_membersOfTotal_110 : decode cX4_membersOfTotal 110 = .ok (.iastore, 1) := by decide +kernel
theorem dX4_membersOfTotal_111 : decode cX4_membersOfTotal 111 = .ok (.dup, 1) := by decide +kernel
theorem dX4_membersOfTotal_112 : decode cX4_membersOfTotal 112 = .ok (.iconst 1, 1) := by decide +kernel
theorem dX4_membersOfTotal_113 : decode cX4_membersOfTotal 113 = .ok (.iload 5, 2) := by decide +kernel
theorem dX4_membersOfTotal_115 : decode cX4_membersOfTotal 115 = .ok (.iastore, 1) := by decide +kernel
theorem dX4_membersOfTotal_116 : decode cX4_membersOfTotal 116 = .ok (.dup, 1) := by decide +kernel
theorem dX4_membersOfTotal_117 : decode cX4_membersOfTotal 117 = .ok (.iconst 2, 1) := by decide +kernel
theorem dX4_membersOfTotal_118 : decode cX4_membersOfTotal 118 = .ok (.iload_n 3, 1) := by decide +kernel
theorem dX4_membersOfTotal_119 : decode cX4_membersOfTotal 119 = .ok (.iastore, 1) := by decide +kernel
theorem dX4_membersOfTotal_120 : decode cX4_membersOfTotal 120 = .ok (.astore 6, 2) := by decide +kernel
theorem dX4_membersOfTotal_122 : decode cX4_membersOfTotal 122 = .ok (.aload 6, 2) := by decide +kernel
theorem dX4_membersOfTotal_124 : decode cX4_membersOfTotal 124 = .ok (.areturn, 1) := by decide +kernel
theorem dX4_fitsNumbers_0 : decode cX4_fitsNumbers 0 = .ok (.aload_n 0, 1) := by decide +kernel
theorem dX4_fitsNumbers_1 : decode cX4_fitsNumbers 1 = .ok (.getfield 97, 3) := by decide +kernel
theorem dX4_fitsNumbers_4 : decode cX4_fitsNumbers 4 = .ok (.tableswitch 74 1 6 #[40, 40, 53, 53, 60, 67], 40) := by decide +kernel
theorem dX4_fitsNumbers_44 : decode cX4_fitsNumbers 44 = .ok (.aload_n 0, 1) := by decide +kernel
theorem dX4_fitsNumbers_45 : decode cX4_fitsNumbers 45 = .ok (.getfield 179, 3) := by decide +kernel
theorem dX4_fitsNumbers_48 : decode cX4_fitsNumbers 48 = .ok (.ifCond .ne 7, 3) := by decide +kernel
theorem dX4_fitsNumbers_51 : decode cX4_fitsNumbers 51 = .ok (.iconst 1, 1) := by decide +kernel
theorem dX4_fitsNumbers_52 : decode cX4_fitsNumbers 52 = .ok (.goto 4, 3) := by decide +kernel
theorem dX4_fitsNumbers_55 : decode cX4_fitsNumbers 55 = .ok (.iconst 0, 1) := by decide +kernel
theorem dX4_fitsNumbers_56 : decode cX4_fitsNumbers 56 = .ok (.ireturn, 1) := by decide +kernel
theorem dX4_fitsNumbers_57 : decode cX4_fitsNumbers 57 = .ok (.aload_n 0, 1) := by decide +kernel
theorem dX4_fitsNumbers_58 : decode cX4_fitsNumbers 58 = .ok (.iconst 1, 1) := by decide +kernel
theorem dX4_fitsNumbers_59 : decode cX4_fitsNumbers 59 = .ok (.iconst 1, 1) := by decide +kernel
theorem dX4_fitsNumbers_60 : decode cX4_fitsNumbers 60 = .ok (.invokevirtual 182, 3) := by decide +kernel
theorem dX4_fitsNumbers_63 : decode cX4_fitsNumbers 63 = .ok (.ireturn, 1) := by decide +kernel
theorem dX4_fitsNumbers_64 : decode cX4_fitsNumbers 64 = .ok (.aload_n 0, 1) := by decide +kernel
theorem dX4_fitsNumbers_65 : decode cX4_fitsNumbers 65 = .ok (.iconst 2, 1) := by decide +kernel
theorem dX4_fitsNumbers_66 : decode cX4_fitsNumbers 66 = .ok (.iconst 2, 1) := by decide +kernel
theorem dX4_fitsNumbers_67 : decode cX4_fitsNumbers 67 = .ok (.invokevirtual 182, 3) := by decide +kernel
theorem dX4_fitsNumbers_70 : decode cX4_fitsNumbers 70 = .ok (.ireturn, 1) := by decide +kernel
theorem dX4_fitsNumbers_71 : decode cX4_fitsNumbers 71 = .ok (.aload_n 0, 1) := by decide +kernel
theorem dX4_fitsNumbers_72 : decode cX4_fitsNumbers 72 = .ok (.iconst 1, 1) := by decide +kernel
theorem dX4_fitsNumbers_73 : decode cX4_fitsNumbers 73 = .ok (.iconst 4, 1) := by decide +kernel
theorem dX4_fitsNumbers_74 : decode cX4_fitsNumbers 74 = .ok (.invokevirtual 182, 3) := by decide +kernel
theorem dX4_fitsNumbers_77 : decode cX4_fitsNumbers 77 = .ok (.ireturn, 1) := by decide +kernel
theorem dX4_fitsNumbers_78 : decode cX4_fitsNumbers 78 = .ok (.aload_n 0, 1) := by decide +kernel
theorem dX4_fitsNumbers_79 : decode cX4_fitsNumbers 79 = .ok (.iconst 0, 1) := by decide +kernel
theorem dX4_fitsNumbers_80 : decode cX4_fitsNumbers 80 = .ok (.iconst 2, 1) := by decide +kernel
theorem dX4_fitsNumbers_81 : decode cX4_fitsNumbers 81 = .ok (.invokevirtual 182, 3) := by decide +kernel
theorem dX4_fitsNumbers_84 : decode cX4_fitsNumbers 84 = .ok (.ireturn, 1) := by decide +kernel
theorem dX10_takesNumbers_0 : decode cX10_takesNumbers 0 = .ok (.iconst 0, 1) := by decide +kernel
theorem dX10_takesNumbers_1 : decode cX10_takesNumbers 1 = .ok (.istore_n 3, 1) := by decide +kernel
theorem dX10_takesNumbers_2 : decode cX10_takesNumbers 2 = .ok (.iload_n 3, 1) := by decide +kernel
theorem dX10_takesNumbers_3 : decode cX10_takesNumbers 3 = .ok (.aload_n 0, 1) := by decide +kernel
theorem dX10_takesNumbers_4 : decode cX10_takesNumbers 4 = .ok (.getfield 28, 3) := by decide +kernel
theorem dX10_takesNumbers_7 : decode cX10_takesNumbers 7 = .ok (.if_icmp .ge 21, 3) := by decide +kernel
theorem dX10_takesNumbers_10 : decode cX10_takesNumbers 10 = .ok (.aload_n 0, 1) := by decide +kernel
theorem dX10_takesNumbers_11 : decode cX10_takesNumbers 11 = .ok (.iload_n 3, 1) := by decide +kernel
theorem dX10_takesNumbers_12 : decode cX10_takesNumbers 12 = .ok (.invokevirtual 38, 3) := by decide +kernel
theorem dX10_takesNumbers_15 : decode cX10_takesNumbers 15 = .ok (.lconst 0, 1) := by decide +kernel
theorem dX10_takesNumbers_16 : decode cX10_takesNumbers 16 = .ok (.lcmp, 1) := by decide +kernel
theorem dX10_takesNumbers_17 : decode cX10_takesNumbers 17 = .ok (.ifCond .eq 5, 3) := by decide +kernel
theorem dX10_takesNumbers_20 : decode cX10_takesNumbers 20 = .ok (.iconst 0, 1) := by decide +kernel
theorem dX10_takesNumbers_21 : decode cX10_takesNumbers 21 = .ok (.ireturn, 1) := by decide +kernel
theorem dX10_takesNumbers_22 : decode cX10_takesNumbers 22 = .ok (.iinc 3 1, 3) := by decide +kernel
theorem dX10_takesNumbers_25 : decode cX10_takesNumbers 25 = .ok (.goto (-23), 3) := by decide +kernel
theorem dX10_takesNumbers_28 : decode cX10_takesNumbers 28 = .ok (.aload_n 0, 1) := by decide +kernel
theorem dX10_takesNumbers_29 : decode cX10_takesNumbers 29 = .ok (.getfield 28, 3) := by decide +kernel
theorem dX10_takesNumbers_32 : decode cX10_takesNumbers 32 = .ok (.iload_n 1, 1) := by decide +kernel
theorem dX10_takesNumbers_33 : decode cX10_takesNumbers 33 = .ok (.if_icmp .lt 15, 3) := by decide +kernel
theorem dX10_takesNumbers_36 : decode cX10_takesNumbers 36 = .ok (.aload_n 0, 1) := by decide +kernel
theorem dX10_takesNumbers_37 : decode cX10_takesNumbers 37 = .ok (.getfield 28, 3) := by decide +kernel
theorem dX10_takesNumbers_40 : decode cX10_takesNumbers 40 = .ok (.iload_n 2, 1) := by decide +kernel
theorem dX10_takesNumbers_41 : decode cX10_takesNumbers 41 = .ok (.if_icmp .gt 7, 3) := by decide +kernel
theorem dX10_takesNumbers_44 : decode cX10_takesNumbers 44 = .ok (.iconst 1, 1) := by decide +kernel
theorem dX10_takesNumbers_45 : decode cX10_takesNumbers 45 = .ok (.goto 4, 3) := by decide +kernel
theorem dX10_takesNumbers_48 : decode cX10_takesNumbers 48 = .ok (.iconst 0, 1) := by decide +kernel
theorem dX10_takesNumbers_49 : decode cX10_takesNumbers 49 = .ok (.ireturn, 1) := by decide +kernel
theorem dX4_keepMisuse_0 : decode cX4_keepMisuse 0 = .ok (.aload_n 0, 1) := by decide +kernel
theorem dX4_keepMisuse_1 : decode cX4_keepMisuse 1 = .ok (.getfield 27, 3) := by decide +kernel
theorem dX4_keepMisuse_4 : decode cX4_keepMisuse 4 = .ok (.sipush 200, 3) := by decide +kernel
theorem dX4_keepMisuse_7 : decode cX4_keepMisuse 7 = .ok (.if_icmp .ge 48, 3) := by decide +kernel
theorem dX4_keepMisuse_10 : decode cX4_keepMisuse 10 = .ok (.aload_n 0, 1) := by decide +kernel
theorem dX4_keepMisuse_11 : decode cX4_keepMisuse 11 = .ok (.getfield 11, 3) := by decide +kernel
theorem dX4_keepMisuse_14 : decode cX4_keepMisuse 14 = .ok (.aload_n 0, 1) := by decide +kernel
theorem dX4_keepMisuse_15 : decode cX4_keepMisuse 15 = .ok (.getfield 27, 3) := by decide +kernel
theorem dX4_keepMisuse_18 : decode cX4_keepMisuse 18 = .ok (.aaload, 1) := by decide +kernel
theorem dX4_keepMisuse_19 : decode cX4_keepMisuse 19 = .ok (.astore_n 3, 1) := by decide +kernel
theorem dX4_keepMisuse_20 : decode cX4_keepMisuse 20 = .ok (.aload_n 3, 1) := by decide +kernel
theorem dX4_keepMisuse_21 : decode cX4_keepMisuse 21 = .ok (.iconst 0, 1) := by decide +kernel
theorem dX4_keepMisuse_22 : decode cX4_keepMisuse 22 = .ok (.aload_n 0, 1) := by decide +kernel
theorem dX4_keepMisuse_23 : decode cX4_keepMisuse 23 = .ok (.getfield 52, 3) := by decide +kernel
theorem dX4_keepMisuse_26 : decode cX4_keepMisuse 26 = .ok (.getfield 199, 3) := by decide +kernel
theorem dX4_keepMisuse_29 : decode cX4_keepMisuse 29 = .ok (.iastore, 1) := by decide +kernel
theorem dX4_keepMisuse_30 : decode cX4_keepMisuse 30 = .ok (.aload_n 3, 1) := by decide +kernel
theorem dX4_keepMisuse_31 : decode cX4_keepMisuse 31 = .ok (.iconst 1, 1) := by decide +kernel
theorem dX4_keepMisuse_32 : decode cX4_keepMisuse 32 = .ok (.aload_n 0, 1) := by decide +kernel
theorem dX4_keepMisuse_33 : decode cX4_keepMisuse 33 = .ok (.getfield 100, 3) := by decide +kernel
theorem dX4_keepMisuse_36 : decode cX4_keepMisuse 36 = .ok (.iastore, 1) := by decide +kernel
theorem dX4_keepMisuse_37 : decode cX4_keepMisuse 37 = .ok (.aload_n 3, 1) := by decide +kernel
theorem dX4_keepMisuse_38 : decode cX4_keepMisuse 38 = .ok (.iconst 2, 1) := by decide +kernel
theorem dX4_keepMisuse_39 : decode cX4_keepMisuse 39 = .ok (.iload_n 1, 1) := by decide +kernel
theorem dX4_keepMisuse_40 : decode cX4_keepMisuse 40 = .ok (.iastore, 1) := by decide +kernel
theorem dX4_keepMisuse_41 : decode cX4_keepMisuse 41 = .ok (.aload_n 3, 1) := by decide +kernel
theorem dX4_keepMisuse_42 : decode cX4_keepMisuse 42 = .ok (.iconst 3, 1) := by decide +kernel
theorem dX4_keepMisuse_43 : decode cX4_keepMisuse 43 = .ok (.iload_n 2, 1) := by decide +kernel
theorem dX4_keepMisuse_44 : decode cX4_keepMisuse 44 = .ok (.iastore, 1) := by decide +kernel
theorem dX4_keepMisuse_45 : decode cX4_keepMisuse 45 = .ok (.aload_n 0, 1) := by decide +kernel
theorem dX4_keepMisuse_46 : decode cX4_keepMisuse 46 = .ok (.dup, 1) := by decide +kernel
theorem dX4_keepMisuse_47 : decode cX4_keepMisuse 47 = .ok (.getfield 27, 3) := by decide +kernel
theorem dX4_keepMisuse_50 : decode cX4_keepMisuse 50 = .ok (.iconst 1, 1) := by decide +kernel
theorem dX4_keepMisuse_51 : decode cX4_keepMisuse 51 = .ok (.iadd, 1) := by decide +kernel
theorem dX4_keepMisuse_52 : decode cX4_keepMisuse 52 = .ok (.putfield 27, 3) := by decide +kernel
theorem dX4_keepMisuse_55 : decode cX4_keepMisuse 55 = .ok (.return_, 1) := by decide +kernel
theorem dX4_hold_0 : decode cX4_hold 0 = .ok (.new 95, 3) := by decide +kernel
theorem dX4_hold_3 : decode cX4_hold 3 = .ok (.dup, 1) := by decide +kernel
theorem dX4_hold_4 : decode cX4_hold 4 = .ok (.aload_n 0, 1) := by decide +kernel
theorem dX4_hold_5 : decode cX4_hold 5 = .ok (.getfield 97, 3) := by decide +kernel
theorem dX4_hold_8 : decode cX4_hold 8 = .ok (.invokespecial 202, 3) := by decide +kernel
theorem dX4_hold_11 : decode cX4_hold 11 = .ok (.astore_n 3, 1) := by decide +kernel
theorem dX4_hold_12 : decode cX4_hold 12 = .ok (.aload_n 3, 1) := by decide +kernel
theorem dX4_hold_13 : decode cX4_hold 13 = .ok (.aload_n 0, 1) := by decide +kernel
theorem dX4_hold_14 : decode cX4_hold 14 = .ok (.getfield 179, 3) := by decide +kernel
theorem dX4_hold_17 : decode cX4_hold 17 = .ok (.putfield 179, 3) := by decide +kernel
theorem dX4_hold_20 : decode cX4_hold 20 = .ok (.aload_n 3, 1) := by decide +kernel
theorem dX4_hold_21 : decode cX4_hold 21 = .ok (.aload_n 0, 1) := by decide +kernel
theorem dX4_hold_22 : decode cX4_hold 22 = .ok (.getfield 205, 3) := by decide +kernel
theorem dX4_hold_25 : decode cX4_hold 25 = .ok (.putfield 205, 3) := by decide +kernel
theorem dX4_hold_28 : decode cX4_hold 28 = .ok (.aload_n 3, 1) := by decide +kernel
theorem dX4_hold_29 : decode cX4_hold 29 = .ok (.aload_n 0, 1) := by decide +kernel
theorem dX4_hold_30 : decode cX4_hold 30 = .ok (.getfield 208, 3) := by decide +kernel
theorem dX4_hold_33 : decode cX4_hold 33 = .ok (.putfield 208, 3) := by decide +kernel
theorem dX4_hold_36 : decode cX4_hold 36 = .ok (.aload_n 3, 1) := by decide +kernel
theorem dX4_hold_37 : decode cX4_hold 37 = .ok (.aload_n 2, 1) := by decide +kernel
theorem dX4_hold_38 : decode cX4_hold 38 = .ok (.putfield 212, 3) := by decide +kernel
theorem dX4_hold_41 : decode cX4_hold 41 = .ok (.aload_n 3, 1) := by decide +kernel
theorem dX4_hold_42 : decode cX4_hold 42 = .ok (.aload_n 1, 1) := by decide +kernel
theorem dX4_hold_43 : decode cX4_hold 43 = .ok (.iconst 0, 1) := by decide +kernel
theorem dX4_hold_44 : decode cX4_hold 44 = .ok (.iaload, 1) := by decide +kernel
theorem dX4_hold_45 : decode cX4_hold 45 = .ok (.iconst 0, 1) := by decide +kernel
theorem dX4_hold_46 : decode cX4_hold 46 = .ok (.invokestatic 215, 3) := by decide +kernel
theorem dX4_hold_49 : decode cX4_hold 49 = .ok (.putfield 124, 3) := by decide +kernel
theorem dX4_hold_52 : decode cX4_hold 52 = .ok (.aload_n 3, 1) := by decide +kernel
theorem dX4_hold_53 : decode cX4_hold 53 = .ok (.aload_n 1, 1) := by decide +kernel
theorem dX4_hold_54 : decode cX4_hold 54 = .ok (.iconst 1, 1) := by decide +kernel
theorem dX4_hold_55 : decode cX4_hold 55 = .ok (.iaload, 1) := by decide +kernel
theorem dX4_hold_56 : decode cX4_hold 56 = .ok (.iconst 0, 1) := by decide +kernel
theorem dX4_hold_57 : decode cX4_hold 57 = .ok (.invokestatic 215, 3) := by decide +kernel
theorem dX4_hold_60 : decode cX4_hold 60 = .ok (.putfield 127, 3) := by decide +kernel
theorem dX4_hold_63 : decode cX4_hold 63 = .ok (.aload_n 3, 1) := by decide +kernel
theorem dX4_hold_64 : decode cX4_hold 64 = .ok (.aload_n 1, 1) := by decide +kernel
theorem dX4_hold_65 : decode cX4_hold 65 = .ok (.iconst 3, 1) := by decide +kernel
theorem dX4_hold_66 : decode cX4_hold 66 = .ok (.iaload, 1) := by decide +kernel
theorem dX4_hold_67 : decode cX4_hold 67 = .ok (.putfield 134, 3) := by decide +kernel
theorem dX4_hold_70 : decode cX4_hold 70 = .ok (.aload_n 3, 1) := by decide +kernel
theorem dX4_hold_71 : decode cX4_hold 71 = .ok (.aload_n 1, 1) := by decide +kernel
theorem dX4_hold_72 : decode cX4_hold 72 = .ok (.iconst 4, 1) := by decide +kernel
theorem dX4_hold_73 : decode cX4_hold 73 = .ok (.iaload, 1) := by decide +kernel
theorem dX4_hold_74 : decode cX4_hold 74 = .ok (.putfield 137, 3) := by decide +kernel
theorem dX4_hold_77 : decode cX4_hold 77 = .ok (.aload_n 3, 1) := by decide +kernel
theorem dX4_hold_78 : decode cX4_hold 78 = .ok (.aload_n 1, 1) := by decide +kernel
theorem dX4_hold_79 : decode cX4_hold 79 = .ok (.iconst 5, 1) := by decide +kernel
theorem dX4_hold_80 : decode cX4_hold 80 = .ok (.iaload, 1) := by decide +kernel
theorem dX4_hold_81 : decode cX4_hold 81 = .ok (.putfield 140, 3) := by decide +kernel
theorem dX4_hold_84 : decode cX4_hold 84 = .ok (.aload_n 3, 1) := by decide +kernel
theorem dX4_hold_85 : decode cX4_hold 85 = .ok (.areturn, 1) := by decide +kernel
theorem dX11_fault_0 : decode cX11_fault 0 = .ok (.iload_n 1, 1) := by decide +kernel
theorem dX11_fault_1 : decode cX11_fault 1 = .ok (.ifCond .ne 8, 3) := by decide +kernel
theorem dX11_fault_4 : decode cX11_fault 4 = .ok (.aload_n 0, 1) := by decide +kernel
theorem dX11_fault_5 : decode cX11_fault 5 = .ok (.getfield 88, 3) := by decide +kernel
theorem dX11_fault_8 : decode cX11_fault 8 = .ok (.ireturn, 1) := by decide +kernel
theorem dX11_fault_9 : decode cX11_fault 9 = .ok (.iload_n 1, 1) := by decide +kernel
theorem dX11_fault_10 : decode cX11_fault 10 = .ok (.iconst 1, 1) := by decide +kernel
theorem dX11_fault_11 : decode cX11_fault 11 = .ok (.if_icmp .ne 10, 3) := by decide +kernel
theorem dX11_fault_14 : decode cX11_fault 14 = .ok (.aload_n 0, 1) := by decide +kernel
theorem dX11_fault_15 : decode cX11_fault 15 = .ok (.getfield 61, 3) := by decide +kernel
theorem dX11_fault_18 : decode cX11_fault 18 = .ok (.goto 4, 3) := by decide +kernel
theorem dX11_fault_21 : decode cX11_fault 21 = .ok (.iconst (-1), 1) := by decide +kernel
theorem dX11_fault_22 : decode cX11_fault 22 = .ok (.ireturn, 1) := by decide +kernel
theorem dX11_named_0 : decode cX11_named 0 = .ok (.aload_n 0, 1) := by decide +kernel
theorem dX11_named_1 : decode cX11_named 1 = .ok (.getfield 53, 3) := by decide +kernel
theorem dX11_named_4 : decode cX11_named 4 = .ok (.lload_n 1, 1) := by decide +kernel
theorem dX11_named_5 : decode cX11_named 5 = .ok (.invokestatic 116, 3) := by decide +kernel
theorem dX11_named_8 : decode cX11_named 8 = .ok (.invokevirtual 120, 3) := by decide +kernel
theorem dX11_named_11 : decode cX11_named 11 = .ok (.ireturn, 1) := by decide +kernel
theorem dX0_pack_0 : decode cX0_pack 0 = .ok (.lconst 0, 1) := by decide +kernel
theorem dX0_pack_1 : decode cX0_pack 1 = .ok (.lstore_n 2, 1) := by decide +kernel
theorem dX0_pack_2 : decode cX0_pack 2 = .ok (.bipush 56, 2) := by decide +kernel
theorem dX0_pack_4 : decode cX0_pack 4 = .ok (.istore 4, 2) := by decide +kernel
theorem dX0_pack_6 : decode cX0_pack 6 = .ok (.iload 4, 2) := by decide +kernel
theorem dX0_pack_8 : decode cX0_pack 8 = .ok (.ifCond .lt 34, 3) := by decide +kernel
theorem dX0_pack_11 : decode cX0_pack 11 = .ok (.lload_n 0, 1) := by decide +kernel
theorem dX0_pack_12 : decode cX0_pack 12 = .ok (.iload 4, 2) := by decide +kernel
theorem dX0_pack_14 : decode cX0_pack 14 = .ok (.lushr, 1) := by decide +kernel
theorem dX0_pack_15 : decode cX0_pack 15 = .ok (.ldc2_w 52, 3) := by decide +kernel
theorem dX0_pack_18 : decode cX0_pack 18 = .ok (.land, 1) := by decide +kernel
theorem dX0_pack_19 : decode cX0_pack 19 = .ok (.lstore 5, 2) := by decide +kernel
theorem dX0_pack_21 : decode cX0_pack 21 = .ok (.lload 5, 2) := by decide +kernel
theorem dX0_pack_23 : decode cX0_pack 23 = .ok (.lconst 0, 1) := by decide +kernel
theorem dX0_pack_24 : decode cX0_pack 24 = .ok (.lcmp, 1) := by decide +kernel
theorem dX0_pack_25 : decode cX0_pack 25 = .ok (.ifCond .eq 11, 3) := by decide +kernel
theorem dX0_pack_28 : decode cX0_pack 28 = .ok (.lload_n 2, 1) := by decide +kernel
theorem dX0_pack_29 : decode cX0_pack 29 = .ok (.bipush 8, 2) := by decide +kernel
theorem dX0_pack_31 : decode cX0_pack 31 = .ok (.lshl, 1) := by decide +kernel
theorem dX0_pack_32 : decode cX0_pack 32 = .ok (.lload 5, 2) := by decide +kernel
theorem dX0_pack_34 : decode cX0_pack 34 = .ok (.lor, 1) := by decide +kernel
theorem dX0_pack_35 : decode cX0_pack 35 = .ok (.lstore_n 2, 1) := by decide +kernel
theorem dX0_pack_36 : decode cX0_pack 36 = .ok (.iinc 4 (-8), 3) := by decide +kernel
theorem dX0_pack_39 : decode cX0_pack 39 = .ok (.goto (-33), 3) := by decide +kernel
theorem dX0_pack_42 : decode cX0_pack 42 = .ok (.lload_n 2, 1) := by decide +kernel
theorem dX0_pack_43 : decode cX0_pack 43 = .ok (.lreturn, 1) := by decide +kernel
theorem dX11_kind_0 : decode cX11_kind 0 = .ok (.aload_n 0, 1) := by decide +kernel
theorem dX11_kind_1 : decode cX11_kind 1 = .ok (.getfield 53, 3) := by decide +kernel
theorem dX11_kind_4 : decode cX11_kind 4 = .ok (.iload_n 1, 1) := by decide +kernel
theorem dX11_kind_5 : decode cX11_kind 5 = .ok (.invokevirtual 124, 3) := by decide +kernel
theorem dX11_kind_8 : decode cX11_kind 8 = .ok (.astore_n 3, 1) := by decide +kernel
theorem dX11_kind_9 : decode cX11_kind 9 = .ok (.aload_n 3, 1) := by decide +kernel
theorem dX11_kind_10 : decode cX11_kind 10 = .ok (.ifnonnull 5, 3) := by decide +kernel
theorem dX11_kind_13 : decode cX11_kind 13 = .ok (.iconst (-1), 1) := by decide +kernel
theorem dX11_kind_14 : decode cX11_kind 14 = .ok (.ireturn, 1) := by decide +kernel
theorem dX11_kind_15 : decode cX11_kind 15 = .ok (.iload_n 2, 1) := by decide +kernel
theorem dX11_kind_16 : decode cX11_kind 16 = .ok (.ifCond .ne 11, 3) := by decide +kernel
theorem dX11_kind_19 : decode cX11_kind 19 = .ok (.aload_n 3, 1) := by decide +kernel
theorem dX11_kind_20 : decode cX11_kind 20 = .ok (.getfield 128, 3) := by decide +kernel
theorem dX11_kind_23 : decode cX11_kind 23 = .ok (.invokevirtual 112, 3) := by decide +kernel
theorem dX11_kind_26 : decode cX11_kind 26 = .ok (.ireturn, 1) := by decide +kernel
theorem dX11_kind_27 : decode cX11_kind 27 = .ok (.iload_n 2, 1) := by decide +kernel
theorem dX11_kind_28 : decode cX11_kind 28 = .ok (.iconst 1, 1) := by decide +kernel
theorem dX11_kind_29 : decode cX11_kind 29 = .ok (.if_icmp .ne 10, 3) := by decide +kernel
theorem dX11_kind_32 : decode cX11_kind 32 = .ok (.aload_n 3, 1) := by decide +kernel
theorem dX11_kind_33 : decode cX11_kind 33 = .ok (.getfield 133, 3) := by decide +kernel
theorem dX11_kind_36 : decode cX11_kind 36 = .ok (.goto 4, 3) := by decide +kernel
theorem dX11_kind_39 : decode cX11_kind 39 = .ok (.iconst (-1), 1) := by decide +kernel
theorem dX11_kind_40 : decode cX11_kind 40 = .ok (.ireturn, 1) := by decide +kernel
theorem dX11_member_0 : decode cX11_member 0 = .ok (.aload_n 0, 1) := by decide +kernel
theorem dX11_member_1 : decode cX11_member 1 = .ok (.getfield 53, 3) := by decide +kernel
theorem dX11_member_4 : decode cX11_member 4 = .ok (.iload_n 1, 1) := by decide +kernel
theorem dX11_member_5 : decode cX11_member 5 = .ok (.invokevirtual 124, 3) := by decide +kernel
theorem dX11_member_8 : decode cX11_member 8 = .ok (.astore 4, 2) := by decide +kernel
theorem dX11_member_10 : decode cX11_member 10 = .ok (.aload 4, 2) := by decide +kernel
theorem dX11_member_12 : decode cX11_member 12 = .ok (.ifnonnull 7, 3) := by decide +kernel
theorem dX11_member_15 : decode cX11_member 15 = .ok (.iconst (-1), 1) := by decide +kernel
theorem dX11_member_16 : decode cX11_member 16 = .ok (.goto 12, 3) := by decide +kernel
theorem dX11_member_19 : decode cX11_member 19 = .ok (.aload 4, 2) := by decide +kernel
theorem dX11_member_21 : decode cX11_member 21 = .ok (.lload_n 2, 1) := by decide +kernel
theorem dX11_member_22 : decode cX11_member 22 = .ok (.invokestatic 116, 3) := by decide +kernel
theorem dX11_member_25 : decode cX11_member 25 = .ok (.invokevirtual 136, 3) := by decide +kernel
theorem dX11_member_28 : decode cX11_member 28 = .ok (.ireturn, 1) := by decide +kernel
theorem dX11_misuse_0 : decode cX11_misuse 0 = .ok (.iload_n 1, 1) := by decide +kernel
theorem dX11_misuse_1 : decode cX11_misuse 1 = .ok (.ifCond .lt 23, 3) := by decide +kernel
theorem dX11_misuse_4 : decode cX11_misuse 4 = .ok (.iload_n 1, 1) := by decide +kernel
theorem dX11_misuse_5 : decode cX11_misuse 5 = .ok (.aload_n 0, 1) := by decide +kernel
theorem dX11_misuse_6 : decode cX11_misuse 6 = .ok (.getfield 23, 3) := by decide +kernel
theorem dX11_misuse_9 : decode cX11_misuse 9 = .ok (.getfield 137, 3) := by decide +kernel
theorem dX11_misuse_12 : decode cX11_misuse 12 = .ok (.if_icmp .ge 12, 3) := by decide +kernel
theorem dX11_misuse_15 : decode cX11_misuse 15 = .ok (.iload_n 2, 1) := by decide +kernel
theorem dX11_misuse_16 : decode cX11_misuse 16 = .ok (.ifCond .lt 8, 3) := by decide +kernel
theorem dX11_misuse_19 : decode cX11_misuse 19 = .ok (.iload_n 2, 1) := by decide +kernel
theorem dX11_misuse_20 : decode cX11_misuse 20 = .ok (.iconst 3, 1) := by decide +kernel
theorem dX11_misuse_21 : decode cX11_misuse 21 = .ok (.if_icmp .le 5, 3) := by decide +kernel
theorem dX11_misuse_24 : decode cX11_misuse 24 = .ok (.iconst (-1), 1) := by decide +kernel
theorem dX11_misuse_25 : decode cX11_misuse 25 = .ok (.ireturn, 1) := by decide +kernel
theorem dX11_misuse_26 : decode cX11_misuse 26 = .ok (.aload_n 0, 1) := by decide +kernel
theorem dX11_misuse_27 : decode cX11_misuse 27 = .ok (.getfield 23, 3) := by decide +kernel
theorem dX11_misuse_30 : decode cX11_misuse 30 = .ok (.getfield 140, 3) := by decide +kernel
theorem dX11_misuse_33 : decode cX11_misuse 33 = .ok (.iload_n 1, 1) := by decide +kernel
theorem dX11_misuse_34 : decode cX11_misuse 34 = .ok (.aaload, 1) := by decide +kernel
theorem dX11_misuse_35 : decode cX11_misuse 35 = .ok (.iload_n 2, 1) := by decide +kernel
theorem dX11_misuse_36 : decode cX11_misuse 36 = .ok (.iaload, 1) := by decide +kernel
theorem dX11_misuse_37 : decode cX11_misuse 37 = .ok (.ireturn, 1) := by decide +kernel
theorem dX11_paper_0 : decode cX11_paper 0 = .ok (.aload_n 0, 1) := by decide +kernel
theorem dX11_paper_1 : decode cX11_paper 1 = .ok (.getfield 53, 3) := by decide +kernel
theorem dX11_paper_4 : decode cX11_paper 4 = .ok (.iload_n 1, 1) := by decide +kernel
theorem dX11_paper_5 : decode cX11_paper 5 = .ok (.invokevirtual 124, 3) := by decide +kernel
theorem dX11_paper_8 : decode cX11_paper 8 = .ok (.astore_n 2, 1) := by decide +kernel
theorem dX11_paper_9 : decode cX11_paper 9 = .ok (.aload_n 2, 1) := by decide +kernel
theorem dX11_paper_10 : decode cX11_paper 10 = .ok (.ifnull 16, 3) := by decide +kernel
theorem dX11_paper_13 : decode cX11_paper 13 = .ok (.aload_n 0, 1) := by decide +kernel
theorem dX11_paper_14 : decode cX11_paper 14 = .ok (.getfield 30, 3) := by decide +kernel
theorem dX11_paper_17 : decode cX11_paper 17 = .ok (.invokevirtual 112, 3) := by decide +kernel
theorem dX11_paper_20 : decode cX11_paper 20 = .ok (.sipush 200, 3) := by decide +kernel
theorem dX11_paper_23 : decode cX11_paper 23 = .ok (.if_icmp .lt 5, 3) := by decide +kernel
theorem dX11_paper_26 : decode cX11_paper 26 = .ok (.iconst (-1), 1) := by decide +kernel
theorem dX11_paper_27 : decode cX11_paper 27 = .ok (.ireturn, 1) := by decide +kernel
theorem dX11_paper_28 : decode cX11_paper 28 = .ok (.aload_n 0, 1) := by decide +kernel
theorem dX11_paper_29 : decode cX11_paper 29 = .ok (.getfield 30, 3) := by decide +kernel
theorem dX11_paper_32 : decode cX11_paper 32 = .ok (.new 144, 3) := by decide +kernel
theorem dX11_paper_35 : decode cX11_paper 35 = .ok (.dup, 1) := by decide +kernel
theorem dX11_paper_36 : decode cX11_paper 36 = .ok (.aload_n 2, 1) := by decide +kernel
theorem dX11_paper_37 : decode cX11_paper 37 = .ok (.invokespecial 146, 3) := by decide +kernel
theorem dX11_paper_40 : decode cX11_paper 40 = .ok (.invokevirtual 149, 3) := by decide +kernel
theorem dX11_paper_43 : decode cX11_paper 43 = .ok (.pop, 1) := by decide +kernel
theorem dX11_paper_44 : decode cX11_paper 44 = .ok (.aload_n 0, 1) := by decide +kernel
theorem dX11_paper_45 : decode cX11_paper 45 = .ok (.getfield 30, 3) := by decide +kernel
theorem dX11_paper_48 : decode cX11_paper 48 = .ok (.invokevirtual 112, 3) := by decide +kernel
theorem dX11_paper_51 : decode cX11_paper 51 = .ok (.iconst 1, 1) := by decide +kernel
theorem dX11_paper_52 : decode cX11_paper 52 = .ok (.isub, 1) := by decide +kernel
theorem dX11_paper_53 : decode cX11_paper 53 = .ok (.ireturn, 1) := by decide +kernel
theorem dX5_init_0 : decode cX5_init 0 = .ok (.aload_n 0, 1) := by decide +kernel
theorem dX5_init_1 : decode cX5_init 1 = .ok (.invokespecial 3, 3) := by decide +kernel
theorem dX5_init_4 : decode cX5_init 4 = .ok (.aload_n 0, 1) := by decide +kernel
theorem dX5_init_5 : decode cX5_init 5 = .ok (.aload_n 1, 1) := by decide +kernel
theorem dX5_init_6 : decode cX5_init 6 = .ok (.putfield 9, 3) := by decide +kernel
theorem dX5_init_9 : decode cX5_init 9 = .ok (.aload_n 1, 1) := by decide +kernel
theorem dX5_init_10 : decode cX5_init 10 = .ok (.getfield 15, 3) := by decide +kernel
theorem dX5_init_13 : decode cX5_init 13 = .ok (.invokevirtual 21, 3) := by decide +kernel
theorem dX5_init_16 : decode cX5_init 16 = .ok (.istore_n 2, 1) := by decide +kernel
theorem dX5_init_17 : decode cX5_init 17 = .ok (.aload_n 0, 1) := by decide +kernel
theorem dX5_init_18 : decode cX5_init 18 = .ok (.iload_n 2, 1) := by decide +kernel
theorem dX5_init_19 : decode cX5_init 19 = .ok (.newarray .int, 2) := by decide +kernel
theorem dX5_init_21 : decode cX5_init 21 = .ok (.putfield 27, 3) := by decide +kernel
theorem dX5_init_24 : decode cX5_init 24 = .ok (.aload_n 0, 1) := by decide +kernel
theorem dX5_init_25 : decode cX5_init 25 = .ok (.iload_n 2, 1) := by decide +kernel
theorem dX5_init_26 : decode cX5_init 26 = .ok (.newarray .boolean, 2) := by decide +kernel
theorem dX5_init_28 : decode cX5_init 28 = .ok (.putfield 31, 3) := by decide +kernel
theorem dX5_init_31 : decode cX5_init 31 = .ok (.aload_n 0, 1) := by decide +kernel
theorem dX5_init_32 : decode cX5_init 32 = .ok (.iload_n 2, 1) := by decide +kernel
theorem dX5_init_33 : decode cX5_init 33 = .ok (.anewarray 35, 3) := by decide +kernel
theorem dX5_init_36 : decode cX5_init 36 = .ok (.putfield 36, 3) := by decide +kernel
theorem dX5_init_39 : decode cX5_init 39 = .ok (.aload_n 0, 1) := by decide +kernel
theorem dX5_init_40 : decode cX5_init 40 = .ok (.iload_n 2, 1) := by decide +kernel
theorem dX5_init_41 : decode cX5_init 41 = .ok (.newarray .int, 2) := by decide +kernel
theorem dX5_init_43 : decode cX5_init 43 = .ok (.putfield 40, 3) := by decide +kernel
theorem dX5_init_46 : decode cX5_init 46 = .ok (.return_, 1) := by decide +kernel
theorem dX11_setInt_0 : decode cX11_setInt 0 = .ok (.aload_n 0, 1) := by decide +kernel
theorem dX11_setInt_1 : decode cX11_setInt 1 = .ok (.iload_n 1, 1) := by decide +kernel
theorem dX11_setInt_2 : decode cX11_setInt 2 = .ok (.invokevirtual 157, 3) := by decide +kernel
theorem dX11_setInt_5 : decode cX11_setInt 5 = .ok (.astore 5, 2) := by decide +kernel
theorem dX11_setInt_7 : decode cX11_setInt 7 = .ok (.aload 5, 2) := by decide +kernel
theorem dX11_setInt_9 : decode cX11_setInt 9 = .ok (.ifnull 13, 3) := by decide +kernel
theorem dX11_setInt_12 : decode cX11_setInt 12 = .ok (.aload 5, 2) := by decide +kernel
theorem dX11_setInt_14 : decode cX11_setInt 14 = .ok (.iload_n 2, 1) := by decide +kernel
theorem dX11_setInt_15 : decode cX11_setInt 15 = .ok (.invokevirtual 161, 3) := by decide +kernel
theorem dX11_setInt_18 : decode cX11_setInt 18 = .ok (.iconst 1, 1) := by decide +kernel
theorem dX11_setInt_19 : decode cX11_setInt 19 = .ok (.if_icmp .eq 5, 3) := by decide +kernel
theorem dX11_setInt_22 : decode cX11_setInt 22 = .ok (.iconst 0, 1) := by decide +kernel
theorem dX11_setInt_23 : decode cX11_setInt 23 = .ok (.ireturn, 1) := by decide +kernel
theorem dX11_setInt_24 : decode cX11_setInt 24 = .ok (.aload 5, 2) := by decide +kernel
theorem dX11_setInt_26 : decode cX11_setInt 26 = .ok (.iload_n 2, 1) := by decide +kernel
theorem dX11_setInt_27 : decode cX11_setInt 27 = .ok (.iload_n 3, 1) := by decide +kernel
theorem dX11_setInt_28 : decode cX11_setInt 28 = .ok (.iload 4, 2) := by decide +kernel
theorem dX11_setInt_30 : decode cX11_setInt 30 = .ok (.invokevirtual 165, 3) := by decide +kernel
theorem dX11_setInt_33 : decode cX11_setInt 33 = .ok (.iconst 1, 1) := by decide +kernel
theorem dX11_setInt_34 : decode cX11_setInt 34 = .ok (.ireturn, 1) := by decide +kernel
theorem dX11_paperAt_0 : decode cX11_paperAt 0 = .ok (.iload_n 1, 1) := by decide +kernel
theorem dX11_paperAt_1 : decode cX11_paperAt 1 = .ok (.ifCond .lt 28, 3) := by decide +kernel
theorem dX11_paperAt_4 : decode cX11_paperAt 4 = .ok (.iload_n 1, 1) := by decide +kernel
theorem dX11_paperAt_5 : decode cX11_paperAt 5 = .ok (.aload_n 0, 1) := by decide +kernel
theorem dX11_paperAt_6 : decode cX11_paperAt 6 = .ok (.getfield 30, 3) := by decide +kernel
theorem dX11_paperAt_9 : decode cX11_paperAt 9 = .ok (.invokevirtual 112, 3) := by decide +kernel
theorem dX11_paperAt_12 : decode cX11_paperAt 12 = .ok (.if_icmp .ge 17, 3) := by decide +kernel
theorem dX11_paperAt_15 : decode cX11_paperAt 15 = .ok (.aload_n 0, 1) := by decide +kernel
theorem dX11_paperAt_16 : decode cX11_paperAt 16 = .ok (.getfield 30, 3) := by decide +kernel
theorem dX11_paperAt_19 : decode cX11_paperAt 19 = .ok (.iload_n 1, 1) := by decide +kernel
theorem dX11_paperAt_20 : decode cX11_paperAt 20 = .ok (.invokevirtual 153, 3) := by decide +kernel
theorem dX11_paperAt_23 : decode cX11_paperAt 23 = .ok (.checkcast 144, 3) := by decide +kernel
theorem dX11_paperAt_26 : decode cX11_paperAt 26 = .ok (.goto 4, 3) := by decide +kernel
theorem dX11_paperAt_29 : decode cX11_paperAt 29 = .ok (.aconst_null, 1) := by decide +kernel
theorem dX11_paperAt_30 : decode cX11_paperAt 30 = .ok (.areturn, 1) := by decide +kernel
theorem dX5_typeOf_0 : decode cX5_typeOf 0 = .ok (.iload_n 1, 1) := by decide +kernel
theorem dX5_typeOf_1 : decode cX5_typeOf 1 = .ok (.ifCond .lt 32, 3) := by decide +kernel
theorem dX5_typeOf_4 : decode cX5_typeOf 4 = .ok (.iload_n 1, 1) := by decide +kernel
theorem dX5_typeOf_5 : decode cX5_typeOf 5 = .ok (.aload_n 0, 1) := by decide +kernel
theorem dX5_typeOf_6 : decode cX5_typeOf 6 = .ok (.getfield 27, 3) := by decide +kernel
theorem dX5_typeOf_9 : decode cX5_typeOf 9 = .ok (.arraylength, 1) := by decide +kernel
theorem dX5_typeOf_10 : decode cX5_typeOf 10 = .ok (.if_icmp .ge 23, 3) := by decide +kernel
theorem dX5_typeOf_13 : decode cX5_typeOf 13 = .ok (.aload_n 0, 1) := by decide +kernel
theorem dX5_typeOf_14 : decode cX5_typeOf 14 = .ok (.getfield 9, 3) := by decide +kernel
theorem dX5_typeOf_17 : decode cX5_typeOf 17 = .ok (.getfield 15, 3) := by decide +kernel
theorem dX5_typeOf_20 : decode cX5_typeOf 20 = .ok (.iload_n 1, 1) := by decide +kernel
theorem dX5_typeOf_21 : decode cX5_typeOf 21 = .ok (.invokevirtual 43, 3) := by decide +kernel
theorem dX5_typeOf_24 : decode cX5_typeOf 24 = .ok (.checkcast 47, 3) := by decide +kernel
theorem dX5_typeOf_27 : decode cX5_typeOf 27 = .ok (.getfield 49, 3) := by decide +kernel
theorem dX5_typeOf_30 : decode cX5_typeOf 30 = .ok (.goto 4, 3) := by decide +kernel
theorem dX5_typeOf_33 : decode cX5_typeOf 33 = .ok (.iconst (-1), 1) := by decide +kernel
theorem dX5_typeOf_34 : decode cX5_typeOf 34 = .ok (.ireturn, 1) := by decide +kernel
theorem dX5_put_0 : decode cX5_put 0 = .ok (.iload_n 1, 1) := by decide +kernel
theorem dX5_put_1 : decode cX5_put 1 = .ok (.ifCond .lt 34, 3) := by decide +kernel
theorem dX5_put_4 : decode cX5_put 4 = .ok (.iload_n 1, 1) := by decide +kernel
theorem dX5_put_5 : decode cX5_put 5 = .ok (.aload_n 0, 1) := by decide +kernel
theorem dX5_put_6 : decode cX5_put 6 = .ok (.getfield 27, 3) := by decide +kernel
theorem dX5_put_9 : decode cX5_put 9 = .ok (.arraylength, 1) := by decide +kernel
theorem dX5_put_10 : decode cX5_put 10 = .ok (.if_icmp .ge 25, 3) := by decide +kernel
theorem dX5_put_13 : decode cX5_put 13 = .ok (.aload_n 0, 1) := by decide +kernel
theorem dX5_put_14 : decode cX5_put 14 = .ok (.getfield 27, 3) := by decide +kernel
theorem dX5_put_17 : decode cX5_put 17 = .ok (.iload_n 1, 1) := by decide +kernel
theorem dX5_put_18 : decode cX5_put 18 = .ok (.iload_n 3, 1) := by decide +kernel
theorem dX5_put_19 : decode cX5_put 19 = .ok (.ifCond .eq 7, 3) := by decide +kernel
theorem dX5_put_22 : decode cX5_put 22 = .ok (.iload_n 2, 1) := by decide +kernel
theorem dX5_put_23 : decode cX5_put 23 = .ok (.goto 4, 3) := by decide +kernel
theorem dX5_put_26 : decode cX5_put 26 = .ok (.iconst 0, 1) := by decide +kernel
theorem dX5_put_27 : decode cX5_put 27 = .ok (.iastore, 1) := by decide +kernel
theorem dX5_put_28 : decode cX5_put 28 = .ok (.aload_n 0, 1) := by decide +kernel
theorem dX5_put_29 : decode cX5_put 29 = .ok (.getfield 31, 3) := by decide +kernel
theorem dX5_put_32 : decode cX5_put 32 = .ok (.iload_n 1, 1) := by decide +kernel
theorem dX5_put_33 : decode cX5_put 33 = .ok (.iload_n 3, 1) := by decide +kernel
theorem dX5_put_34 : decode cX5_put 34 = .ok (.bastore, 1) := by decide +kernel
theorem dX5_put_35 : decode cX5_put 35 = .ok (.return_, 1) := by decide +kernel
theorem dX11_setText_0 : decode cX11_setText 0 = .ok (.aload_n 0, 1) := by decide +kernel
theorem dX11_setText_1 : decode cX11_setText 1 = .ok (.iload_n 1, 1) := by decide +kernel
theorem dX11_setText_2 : decode cX11_setText 2 = .ok (.invokevirtual 157, 3) := by decide +kernel
theorem dX11_setText_5 : decode cX11_setText 5 = .ok (.astore 6, 2) := by decide +kernel
theorem dX11_setText_7 : decode cX11_setText 7 = .ok (.aload 6, 2) := by decide +kernel
theorem dX11_setText_9 : decode cX11_setText 9 = .ok (.ifnull 13, 3) := by decide +kernel
theorem dX11_setText_12 : decode cX11_setText 12 = .ok (.aload 6, 2) := by decide +kernel
theorem dX11_setText_14 : decode cX11_setText 14 = .ok (.iload_n 2, 1) := by decide +kernel
theorem dX11_setText_15 : decode cX11_setText 15 = .ok (.invokevirtual 161, 3) := by decide +kernel
theorem dX11_setText_18 : decode cX11_setText 18 = .ok (.iconst 2, 1) := by decide +kernel
theorem dX11_setText_19 : decode cX11_setText 19 = .ok (.if_icmp .eq 5, 3) := by decide +kernel
theorem dX11_setText_22 : decode cX11_setText 22 = .ok (.iconst 0, 1) := by decide +kernel
theorem dX11_setText_23 : decode cX11_setText 23 = .ok (.ireturn, 1) := by decide +kernel
theorem dX11_setText_24 : decode cX11_setText 24 = .ok (.lload_n 3, 1) := by decide +kernel
theorem dX11_setText_25 : decode cX11_setText 25 = .ok (.invokestatic 169, 3) := by decide +kernel
theorem dX11_setText_28 : decode cX11_setText 28 = .ok (.istore 7, 2) := by decide +kernel
theorem dX11_setText_30 : decode cX11_setText 30 = .ok (.iload 7, 2) := by decide +kernel
theorem dX11_setText_32 : decode cX11_setText 32 = .ok (.iconst (-1), 1) := by decide +kernel
theorem dX11_setText_33 : decode cX11_setText 33 = .ok (.if_icmp .ne 5, 3) := by decide +kernel
theorem dX11_setText_36 : decode cX11_setText 36 = .ok (.iconst 0, 1) := by decide +kernel
theorem dX11_setText_37 : decode cX11_setText 37 = .ok (.ireturn, 1) := by decide +kernel
theorem dX11_setText_38 : decode cX11_setText 38 = .ok (.aload 6, 2) := by decide +kernel
theorem dX11_setText_40 : decode cX11_setText 40 = .ok (.iload_n 2, 1) := by decide +kernel
theorem dX11_setText_41 : decode cX11_setText 41 = .ok (.iload 7, 2) := by decide +kernel
theorem dX11_setText_43 : decode cX11_setText 43 = .ok (.iload 5, 2) := by decide +kernel
theorem dX11_setText_45 : decode cX11_setText 45 = .ok (.invokevirtual 165, 3) := by decide +kernel
theorem dX11_setText_48 : decode cX11_setText 48 = .ok (.iconst 1, 1) := by decide +kernel
theorem dX11_setText_49 : decode cX11_setText 49 = .ok (.ireturn, 1) := by decide +kernel
theorem dX11_countLetters_0 : decode cX11_countLetters 0 = .ok (.iconst 0, 1) := by decide +kernel
theorem dX11_countLetters_1 : decode cX11_countLetters 1 = .ok (.istore_n 2, 1) := by decide +kernel
theorem dX11_countLetters_2 : decode cX11_countLetters 2 = .ok (.iconst 0, 1) := by decide +kernel
theorem dX11_countLetters_3 : decode cX11_countLetters 3 = .ok (.istore_n 3, 1) := by decide +kernel
theorem dX11_countLetters_4 : decode cX11_countLetters 4 = .ok (.iload_n 3, 1) := by decide +kernel
theorem dX11_countLetters_5 : decode cX11_countLetters 5 = .ok (.bipush 64, 2) := by decide +kernel
theorem dX11_countLetters_7 : decode cX11_countLetters 7 = .ok (.if_icmp .ge 48, 3) := by decide +kernel
theorem dX11_countLetters_10 : decode cX11_countLetters 10 = .ok (.lload_n 0, 1) := by decide +kernel
theorem dX11_countLetters_11 : decode cX11_countLetters 11 = .ok (.iload_n 3, 1) := by decide +kernel
theorem dX11_countLetters_12 : decode cX11_countLetters 12 = .ok (.lushr, 1) := by decide +kernel
theorem dX11_countLetters_13 : decode cX11_countLetters 13 = .ok (.l2i, 1) := by decide +kernel
theorem dX11_countLetters_14 : decode cX11_countLetters 14 = .ok (.sipush 255, 3) := by decide +kernel
theorem dX11_countLetters_17 : decode cX11_countLetters 17 = .ok (.iand, 1) := by decide +kernel
theorem dX11_countLetters_18 : decode cX11_countLetters 18 = .ok (.istore 4, 2) := by decide +kernel
theorem dX11_countLetters_20 : decode cX11_countLetters 20 = .ok (.iload 4, 2) := by decide +kernel
theorem dX11_countLetters_22 : decode cX11_countLetters 22 = .ok (.ifCond .eq 19, 3) := by decide +kernel
theorem dX11_countLetters_25 : decode cX11_countLetters 25 = .ok (.iload 4, 2) := by decide +kernel
theorem dX11_countLetters_27 : decode cX11_countLetters 27 = .ok (.bipush 32, 2) := by decide +kernel
theorem dX11_countLetters_29 : decode cX11_countLetters 29 = .ok (.if_icmp .lt 10, 3) := by decide +kernel
theorem dX11_countLetters_32 : decode cX11_countLetters 32 = .ok (.iload 4, 2) := by decide +kernel
theorem dX11_countLetters_34 : decode cX11_countLetters 34 = .ok (.bipush 126, 2) := by decide +kernel
theorem dX11_countLetters_36 : decode cX11_countLetters 36 = .ok (.if_icmp .le 5, 3) := by decide +kernel
theorem dX11_countLetters_39 : decode cX11_countLetters 39 = .ok (.iconst (-1), 1) := by decide +kernel
theorem dX11_countLetters_40 : decode cX11_countLetters 40 = .ok (.ireturn, 1) := by decide +kernel
theorem dX11_countLetters_41 : decode cX11_countLetters 41 = .ok (.iload 4, 2) := by decide +kernel
theorem dX11_countLetters_43 : decode cX11_countLetters 43 = .ok (.ifCond .eq 6, 3) := by decide +kernel
theorem dX11_countLetters_46 : decode cX11_countLetters 46 = .ok (.iinc 2 1, 3) := by decide +kernel
theorem dX11_countLetters_49 : decode cX11_countLetters 49 = .ok (.iinc 3 8, 3) := by decide +kernel
theorem dX11_countLetters_52 : decode cX11_countLetters 52 = .ok (.goto (-48), 3) := by decide +kernel
theorem dX11_countLetters_55 : decode cX11_countLetters 55 = .ok (.iload_n 2, 1) := by decide +kernel
theorem dX11_countLetters_56 : decode cX11_countLetters 56 = .ok (.ireturn, 1) := by decide +kernel
theorem dX11_link_0 : decode cX11_link 0 = .ok (.aload_n 0, 1) := by decide +kernel
theorem dX11_link_1 : decode cX11_link 1 = .ok (.iload_n 1, 1) := by decide +kernel
theorem dX11_link_2 : decode cX11_link 2 = .ok (.invokevirtual 157, 3) := by decide +kernel
theorem dX11_link_5 : decode cX11_link 5 = .ok (.astore 4, 2) := by decide +kernel
theorem dX11_link_7 : decode cX11_link 7 = .ok (.aload 4, 2) := by decide +kernel
theorem dX11_link_9 : decode cX11_link 9 = .ok (.ifnull 13, 3) := by decide +kernel
theorem dX11_link_12 : decode cX11_link 12 = .ok (.aload 4, 2) := by decide +kernel
theorem dX11_link_14 : decode cX11_link 14 = .ok (.iload_n 2, 1) := by decide +kernel
theorem dX11_link_15 : decode cX11_link 15 = .ok (.invokevirtual 161, 3) := by decide +kernel
theorem dX11_link_18 : decode cX11_link 18 = .ok (.iconst 3, 1) := by decide +kernel
theorem dX11_link_19 : decode cX11_link 19 = .ok (.if_icmp .eq 5, 3) := by decide +kernel
theorem dX11_link_22 : decode cX11_link 22 = .ok (.iconst 0, 1) := by decide +kernel
theorem dX11_link_23 : decode cX11_link 23 = .ok (.ireturn, 1) := by decide +kernel
theorem dX11_link_24 : decode cX11_link 24 = .ok (.iload_n 3, 1) := by decide +kernel
theorem dX11_link_25 : decode cX11_link 25 = .ok (.iconst (-1), 1) := by decide +kernel
theorem dX11_link_26 : decode cX11_link 26 = .ok (.if_icmp .ne 13, 3) := by decide +kernel
theorem dX11_link_29 : decode cX11_link 29 = .ok (.aload 4, 2) := by decide +kernel
theorem dX11_link_31 : decode cX11_link 31 = .ok (.iload_n 2, 1) := by decide +kernel
theorem dX11_link_32 : decode cX11_link 32 = .ok (.iconst 0, 1) := by decide +kernel
theorem dX11_link_33 : decode cX11_link 33 = .ok (.iconst 0, 1) := by decide +kernel
theorem dX11_link_34 : decode cX11_link 34 = .ok (.invokevirtual 165, 3) := by decide +kernel
theorem dX11_link_37 : decode cX11_link 37 = .ok (.iconst 1, 1) := by decide +kernel
theorem dX11_link_38 : decode cX11_link 38 = .ok (.ireturn, 1) := by decide +kernel
theorem dX11_link_39 : decode cX11_link 39 = .ok (.aload_n 0, 1) := by decide +kernel
theorem dX11_link_40 : decode cX11_link 40 = .ok (.iload_n 3, 1) := by decide +kernel
theorem dX11_link_41 : decode cX11_link 41 = .ok (.invokevirtual 157, 3) := by decide +kernel
theorem dX11_link_44 : decode cX11_link 44 = .ok (.astore 5, 2) := by decide +kernel
theorem dX11_link_46 : decode cX11_link 46 = .ok (.aload 5, 2) := by decide +kernel
theorem dX11_link_48 : decode cX11_link 48 = .ok (.ifnull 20, 3) := by decide +kernel
theorem dX11_link_51 : decode cX11_link 51 = .ok (.aload 5, 2) := by decide +kernel
theorem dX11_link_53 : decode cX11_link 53 = .ok (.getfield 172, 3) := by decide +kernel
theorem dX11_link_56 : decode cX11_link 56 = .ok (.aload 4, 2) := by decide +kernel
theorem dX11_link_58 : decode cX11_link 58 = .ok (.iload_n 2, 1) := by decide +kernel
theorem dX11_link_59 : decode cX11_link 59 = .ok (.invokevirtual 176, 3) := by decide +kernel
theorem dX11_link_62 : decode cX11_link 62 = .ok (.invokevirtual 179, 3) := by decide +kernel
theorem dX11_link_65 : decode cX11_link 65 = .ok (.ifCond .ne 5, 3) := by decide +kernel
theorem dX11_link_68 : decode cX11_link 68 = .ok (.iconst 0, 1) := by decide +kernel
theorem dX11_link_69 : decode cX11_link 69 = .ok (.ireturn, 1) := by decide +kernel
theorem dX11_link_70 : decode cX11_link 70 = .ok (.aload 4, 2) := by decide +kernel
theorem dX11_link_72 : decode cX11_link 72 = .ok (.iload_n 2, 1) := by decide +kernel
theorem dX11_link_73 : decode cX11_link 73 = .ok (.iload_n 3, 1) := by decide +kernel
theorem dX11_link_74 : decode cX11_link 74 = .ok (.iconst 1, 1) := by decide +kernel
theorem dX11_link_75 : decode cX11_link 75 = .ok (.invokevirtual 165, 3) := by decide +kernel
theorem dX11_link_78 : decode cX11_link 78 = .ok (.iconst 1, 1) := by decide +kernel
theorem dX11_link_79 : decode cX11_link 79 = .ok (.ireturn, 1) := by decide +kernel
theorem dX5_kindOf_0 : decode cX5_kindOf 0 = .ok (.iload_n 1, 1) := by decide +kernel
theorem dX5_kindOf_1 : decode cX5_kindOf 1 = .ok (.ifCond .lt 32, 3) := by decide +kernel
theorem dX5_kindOf_4 : decode cX5_kindOf 4 = .ok (.iload_n 1, 1) := by decide +kernel
theorem dX5_kindOf_5 : decode cX5_kindOf 5 = .ok (.aload_n 0, 1) := by decide +kernel
theorem dX5_kindOf_6 : decode cX5_kindOf 6 = .ok (.getfield 27, 3) := by decide +kernel
theorem dX5_kindOf_9 : decode cX5_kindOf 9 = .ok (.arraylength, 1) := by decide +kernel
theorem dX5_kindOf_10 : decode cX5_kindOf 10 = .ok (.if_icmp .ge 23, 3) := by decide +kernel
theorem dX5_kindOf_13 : decode cX5_kindOf 13 = .ok (.aload_n 0, 1) := by decide +kernel
theorem dX5_kindOf_14 : decode cX5_kindOf 14 = .ok (.getfield 9, 3) := by decide +kernel
theorem dX5_kindOf_17 : decode cX5_kindOf 17 = .ok (.getfield 15, 3) := by decide +kernel
theorem dX5_kindOf_20 : decode cX5_kindOf 20 = .ok (.iload_n 1, 1) := by decide +kernel
theorem dX5_kindOf_21 : decode cX5_kindOf 21 = .ok (.invokevirtual 43, 3) := by decide +kernel
theorem dX5_kindOf_24 : decode cX5_kindOf 24 = .ok (.checkcast 47, 3) := by decide +kernel
theorem dX5_kindOf_27 : decode cX5_kindOf 27 = .ok (.getfield 53, 3) := by decide +kernel
theorem dX5_kindOf_30 : decode cX5_kindOf 30 = .ok (.goto 4, 3) := by decide +kernel
theorem dX5_kindOf_33 : decode cX5_kindOf 33 = .ok (.iconst (-1), 1) := by decide +kernel
theorem dX5_kindOf_34 : decode cX5_kindOf 34 = .ok (.ireturn, 1) := by decide +kernel
theorem dX3_isOf_0 : decode cX3_isOf 0 = .ok (.iconst 0, 1) := by decide +kernel
theorem dX3_isOf_1 : decode cX3_isOf 1 = .ok (.istore_n 2, 1) := by decide +kernel
theorem dX3_isOf_2 : decode cX3_isOf 2 = .ok (.iload_n 2, 1) := by decide +kernel
theorem dX3_isOf_3 : decode cX3_isOf 3 = .ok (.aload_n 0, 1) := by decide +kernel
theorem dX3_isOf_4 : decode cX3_isOf 4 = .ok (.getfield 34, 3) := by decide +kernel
theorem dX3_isOf_7 : decode cX3_isOf 7 = .ok (.arraylength, 1) := by decide +kernel
theorem dX3_isOf_8 : decode cX3_isOf 8 = .ok (.if_icmp .ge 21, 3) := by decide +kernel
theorem dX3_isOf_11 : decode cX3_isOf 11 = .ok (.aload_n 0, 1) := by decide +kernel
theorem dX3_isOf_12 : decode cX3_isOf 12 = .ok (.getfield 34, 3) := by decide +kernel
theorem dX3_isOf_15 : decode cX3_isOf 15 = .ok (.iload_n 2, 1) := by decide +kernel
theorem dX3_isOf_16 : decode cX3_isOf 16 = .ok (.iaload, 1) := by decide +kernel
theorem dX3_isOf_17 : decode cX3_isOf 17 = .ok (.iload_n 1, 1) := by decide +kernel
theorem dX3_isOf_18 : decode cX3_isOf 18 = .ok (.if_icmp .ne 5, 3) := by decide +kernel
theorem dX3_isOf_21 : decode cX3_isOf 21 = .ok (.iconst 1, 1) := by decide +kernel
theorem dX3_isOf_22 : decode cX3_isOf 22 = .ok (.ireturn, 1) := by decide +kernel
theorem dX3_isOf_23 : decode cX3_isOf 23 = .ok (.iinc 2 1, 3) := by decide +kernel
theorem dX3_isOf_26 : decode cX3_isOf 26 = .ok (.goto (-24), 3) := by decide +kernel
theorem dX3_isOf_29 : decode cX3_isOf 29 = .ok (.iconst 0, 1) := by decide +kernel
theorem dX3_isOf_30 : decode cX3_isOf 30 = .ok (.ireturn, 1) := by decide +kernel
theorem dX11_item_0 : decode cX11_item 0 = .ok (.aload_n 0, 1) := by decide +kernel
theorem dX11_item_1 : decode cX11_item 1 = .ok (.iload_n 1, 1) := by decide +kernel
theorem dX11_item_2 : decode cX11_item 2 = .ok (.invokevirtual 157, 3) := by decide +kernel
theorem dX11_item_5 : decode cX11_item 5 = .ok (.astore 4, 2) := by decide +kernel
theorem dX11_item_7 : decode cX11_item 7 = .ok (.aload_n 0, 1) := by decide +kernel
theorem dX11_item_8 : decode cX11_item 8 = .ok (.iload_n 3, 1) := by decide +kernel
theorem dX11_item_9 : decode cX11_item 9 = .ok (.invokevirtual 157, 3) := by decide +kernel
theorem dX11_item_12 : decode cX11_item 12 = .ok (.astore 5, 2) := by decide +kernel
theorem dX11_item_14 : decode cX11_item 14 = .ok (.aload 4, 2) := by decide +kernel
theorem dX11_item_16 : decode cX11_item 16 = .ok (.ifnull 18, 3) := by decide +kernel
theorem dX11_item_19 : decode cX11_item 19 = .ok (.aload 5, 2) := by decide +kernel
theorem dX11_item_21 : decode cX11_item 21 = .ok (.ifnull 13, 3) := by decide +kernel
theorem dX11_item_24 : decode cX11_item 24 = .ok (.aload 4, 2) := by decide +kernel
theorem dX11_item_26 : decode cX11_item 26 = .ok (.iload_n 2, 1) := by decide +kernel
theorem dX11_item_27 : decode cX11_item 27 = .ok (.invokevirtual 161, 3) := by decide +kernel
theorem dX11_item_30 : decode cX11_item 30 = .ok (.iconst 4, 1) := by decide +kernel
theorem dX11_item_31 : decode cX11_item 31 = .ok (.if_icmp .eq 5, 3) := by decide +kernel
theorem dX11_item_34 : decode cX11_item 34 = .ok (.iconst (-1), 1) := by decide +kernel
theorem dX11_item_35 : decode cX11_item 35 = .ok (.ireturn, 1) := by decide +kernel
theorem dX11_item_36 : decode cX11_item 36 = .ok (.aload 5, 2) := by decide +kernel
theorem dX11_item_38 : decode cX11_item 38 = .ok (.getfield 172, 3) := by decide +kernel
theorem dX11_item_41 : decode cX11_item 41 = .ok (.aload 4, 2) := by decide +kernel
theorem dX11_item_43 : decode cX11_item 43 = .ok (.iload_n 2, 1) := by decide +kernel
theorem dX11_item_44 : decode cX11_item 44 = .ok (.invokevirtual 176, 3) := by decide +kernel
theorem dX11_item_47 : decode cX11_item 47 = .ok (.invokevirtual 179, 3) := by decide +kernel
theorem dX11_item_50 : decode cX11_item 50 = .ok (.ifCond .ne 5, 3) := by decide +kernel
theorem dX11_item_53 : decode cX11_item 53 = .ok (.iconst (-1), 1) := by decide +kernel
theorem dX11_item_54 : decode cX11_item 54 = .ok (.ireturn, 1) := by decide +kernel
theorem dX11_item_55 : decode cX11_item 55 = .ok (.aload 4, 2) := by decide +kernel
theorem dX11_item_57 : decode cX11_item 57 = .ok (.iload_n 2, 1) := by decide +kernel
theorem dX11_item_58 : decode cX11_item 58 = .ok (.iload_n 3, 1) := by decide +kernel
theorem dX11_item_59 : decode cX11_item 59 = .ok (.invokevirtual 183, 3) := by decide +kernel
theorem dX11_item_62 : decode cX11_item 62 = .ok (.ireturn, 1) := by decide +kernel
theorem dX5_append_0 : decode cX5_append 0 = .ok (.iload_n 1, 1) := by decide +kernel
theorem dX5_append_1 : decode cX5_append 1 = .ok (.ifCond .lt 32, 3) := by decide +kernel
theorem dX5_append_4 : decode cX5_append 4 = .ok (.iload_n 1, 1) := by decide +kernel
theorem dX5_append_5 : decode cX5_append 5 = .ok (.aload_n 0, 1) := by decide +kernel
theorem dX5_append_6 : decode cX5_append 6 = .ok (.getfield 27, 3) := by decide +kernel
theorem dX5_append_9 : decode cX5_append 9 = .ok (.arraylength, 1) := by decide +kernel
theorem dX5_append_10 : decode cX5_append 10 = .ok (.if_icmp .ge 23, 3) := by decide +kernel
theorem dX5_append_13 : decode cX5_append 13 = .ok (.aload_n 0, 1) := by decide +kernel
theorem dX5_append_14 : decode cX5_append 14 = .ok (.getfield 27, 3) := by decide +kernel
theorem dX5_append_17 : decode cX5_append 17 = .ok (.iload_n 1, 1) := by decide +kernel
theorem dX5_append_18 : decode cX5_append 18 = .ok (.iaload, 1) := by decide +kernel
theorem dX5_append_19 : decode cX5_append 19 = .ok (.ifCond .lt 14, 3) := by decide +kernel
theorem dX5_append_22 : decode cX5_append 22 = .ok (.aload_n 0, 1) := by decide +kernel
theorem dX5_append_23 : decode cX5_append 23 = .ok (.getfield 27, 3) := by decide +kernel
theorem dX5_append_26 : decode cX5_append 26 = .ok (.iload_n 1, 1) := by decide +kernel
theorem dX5_append_27 : decode cX5_append 27 = .ok (.iaload, 1) := by decide +kernel
theorem dX5_append_28 : decode cX5_append 28 = .ok (.bipush 20, 2) := by decide +kernel
theorem dX5_append_30 : decode cX5_append 30 = .ok (.if_icmp .lt 5, 3) := by decide +kernel
theorem dX5_append_33 : decode cX5_append 33 = .ok (.iconst (-1), 1) := by decide +kernel
theorem dX5_append_34 : decode cX5_append 34 = .ok (.ireturn, 1) := by decide +kernel
theorem dX5_append_35 : decode cX5_append 35 = .ok (.aload_n 0, 1) := by decide +kernel
theorem dX5_append_36 : decode cX5_append 36 = .ok (.getfield 36, 3) := by decide +kernel
theorem dX5_append_39 : decode cX5_append 39 = .ok (.iload_n 1, 1) := by decide +kernel
theorem dX5_append_40 : decode cX5_append 40 = .ok (.aaload, 1) := by decide +kernel
theorem dX5_append_41 : decode cX5_append 41 = .ok (.ifnonnull 13, 3) := by decide +kernel
theorem dX5_append_44 : decode cX5_append 44 = .ok (.aload_n 0, 1) := by decide +kernel
theorem dX5_append_45 : decode cX5_append 45 = .ok (.getfield 36, 3) := by decide +kernel
theorem dX5_append_48 : decode cX5_append 48 = .ok (.iload_n 1, 1) := by decide +kernel
theorem dX5_append_49 : decode cX5_append 49 = .ok (.bipush 20, 2) := by decide +kernel
theorem dX5_append_51 : decode cX5_append 51 = .ok (.newarray .int, 2) := by decide +kernel
theorem dX5_append_53 : decode cX5_append 53 = .ok (.aastore, 1) := by decide +kernel
theorem dX5_append_54 : decode cX5_append 54 = .ok (.aload_n 0, 1) := by decide +kernel
theorem dX5_append_55 : decode cX5_append 55 = .ok (.getfield 36, 3) := by decide +kernel
theorem dX5_append_58 : decode cX5_append 58 = .ok (.iload_n 1, 1) := by decide +kernel
theorem dX5_append_59 : decode cX5_append 59 = .ok (.aaload, 1) := by decide +kernel
theorem dX5_append_60 : decode cX5_append 60 = .ok (.aload_n 0, 1) := by decide +kernel
theorem dX5_append_61 : decode cX5_append 61 = .ok (.getfield 27, 3) := by decide +kernel
theorem dX5_append_64 : decode cX5_append 64 = .ok (.iload_n 1, 1) := by decide +kernel
theorem dX5_append_65 : decode cX5_append 65 = .ok (.iaload, 1) := by decide +kernel
theorem dX5_append_66 : decode cX5_append 66 = .ok (.iload_n 2, 1) := by decide +kernel
theorem dX5_append_67 : decode cX5_append 67 = .ok (.iastore, 1) := by decide +kernel
theorem dX5_append_68 : decode cX5_append 68 = .ok (.aload_n 0, 1) := by decide +kernel
theorem dX5_append_69 : decode cX5_append 69 = .ok (.getfield 27, 3) := by decide +kernel
theorem dX5_append_72 : decode cX5_append 72 = .ok (.iload_n 1, 1) := by decide +kernel
theorem dX5_append_73 : decode cX5_append 73 = .ok (.dup2, 1) := by decide +kernel
theorem dX5_append_74 : decode cX5_append 74 = .ok (.iaload, 1) := by decide +kernel
theorem dX5_append_75 : decode cX5_append 75 = .ok (.iconst 1, 1) := by decide +kernel
theorem dX5_append_76 : decode cX5_append 76 = .ok (.iadd, 1) := by decide +kernel
theorem dX5_append_77 : decode cX5_append 77 = .ok (.iastore, 1) := by decide +kernel
theorem dX5_append_78 : decode cX5_append 78 = .ok (.aload_n 0, 1) := by decide +kernel
theorem dX5_append_79 : decode cX5_append 79 = .ok (.getfield 27, 3) := by decide +kernel
theorem dX5_append_82 : decode cX5_append 82 = .ok (.iload_n 1, 1) := by decide +kernel
theorem dX5_append_83 : decode cX5_append 83 = .ok (.iaload, 1) := by decide +kernel
theorem dX5_append_84 : decode cX5_append 84 = .ok (.ireturn, 1) := by decide +kernel
theorem dX11_value_0 : decode cX11_value 0 = .ok (.aload_n 0, 1) := by decide +kernel
theorem dX11_value_1 : decode cX11_value 1 = .ok (.iload_n 1, 1) := by decide +kernel
theorem dX11_value_2 : decode cX11_value 2 = .ok (.invokevirtual 157, 3) := by decide +kernel
theorem dX11_value_5 : decode cX11_value 5 = .ok (.astore 4, 2) := by decide +kernel
theorem dX11_value_7 : decode cX11_value 7 = .ok (.aload 4, 2) := by decide +kernel
theorem dX11_value_9 : decode cX11_value 9 = .ok (.ifnull 22, 3) := by decide +kernel
theorem dX11_value_12 : decode cX11_value 12 = .ok (.aload 4, 2) := by decide +kernel
theorem dX11_value_14 : decode cX11_value 14 = .ok (.iload_n 2, 1) := by decide +kernel
theorem dX11_value_15 : decode cX11_value 15 = .ok (.invokevirtual 161, 3) := by decide +kernel
theorem dX11_value_18 : decode cX11_value 18 = .ok (.iconst (-1), 1) := by decide +kernel
theorem dX11_value_19 : decode cX11_value 19 = .ok (.if_icmp .eq 12, 3) := by decide +kernel
theorem dX11_value_22 : decode cX11_value 22 = .ok (.iload_n 3, 1) := by decide +kernel
theorem dX11_value_23 : decode cX11_value 23 = .ok (.ifCond .lt 8, 3) := by decide +kernel
theorem dX11_value_26 : decode cX11_value 26 = .ok (.iload_n 3, 1) := by decide +kernel
theorem dX11_value_27 : decode cX11_value 27 = .ok (.iconst 1, 1) := by decide +kernel
theorem dX11_value_28 : decode cX11_value 28 = .ok (.if_icmp .le 5, 3) := by decide +kernel
theorem dX11_value_31 : decode cX11_value 31 = .ok (.iconst (-1), 1) := by decide +kernel
theorem dX11_value_32 : decode cX11_value 32 = .ok (.ireturn, 1) := by decide +kernel
theorem dX11_value_33 : decode cX11_value 33 = .ok (.iload_n 3, 1) := by decide +kernel
theorem dX11_value_34 : decode cX11_value 34 = .ok (.ifCond .ne 18, 3) := by decide +kernel
theorem dX11_value_37 : decode cX11_value 37 = .ok (.aload 4, 2) := by decide +kernel
theorem dX11_value_39 : decode cX11_value 39 = .ok (.iload_n 2, 1) := by decide +kernel
theorem dX11_value_40 : decode cX11_value 40 = .ok (.invokevirtual 187, 3) := by decide +kernel
theorem dX11_value_43 : decode cX11_value 43 = .ok (.ifCond .eq 7, 3) := by decide +kernel
theorem dX11_value_46 : decode cX11_value 46 = .ok (.iconst 1, 1) := by decide +kernel
theorem dX11_value_47 : decode cX11_value 47 = .ok (.goto 4, 3) := by decide +kernel
theorem dX11_value_50 : decode cX11_value 50 = .ok (.iconst 0, 1) := by decide +kernel
theorem dX11_value_51 : decode cX11_value 51 = .ok (.ireturn, 1) := by decide +kernel
theorem dX11_value_52 : decode cX11_value 52 = .ok (.aload 4, 2) := by decide +kernel
theorem dX11_value_54 : decode cX11_value 54 = .ok (.iload_n 2, 1) := by decide +kernel
theorem dX11_value_55 : decode cX11_value 55 = .ok (.invokevirtual 190, 3) := by decide +kernel
theorem dX11_value_58 : decode cX11_value 58 = .ok (.ireturn, 1) := by decide +kernel
theorem dX5_has_0 : decode cX5_has 0 = .ok (.aload_n 0, 1) := by decide +kernel
theorem dX5_has_1 : decode cX5_has 1 = .ok (.iload_n 1, 1) := by decide +kernel
theorem dX5_has_2 : decode cX5_has 2 = .ok (.invokevirtual 55, 3) := by decide +kernel
theorem dX5_has_5 : decode cX5_has 5 = .ok (.istore_n 2, 1) := by decide +kernel
theorem dX5_has_6 : decode cX5_has 6 = .ok (.iload_n 2, 1) := by decide +kernel
theorem dX5_has_7 : decode cX5_has 7 = .ok (.iconst 4, 1) := by decide +kernel
theorem dX5_has_8 : decode cX5_has 8 = .ok (.if_icmp .eq 17, 3) := by decide +kernel
theorem dX5_has_11 : decode cX5_has 11 = .ok (.iload_n 2, 1) := by decide +kernel
theorem dX5_has_12 : decode cX5_has 12 = .ok (.iconst (-1), 1) := by decide +kernel
theorem dX5_has_13 : decode cX5_has 13 = .ok (.if_icmp .eq 16, 3) := by decide +kernel
theorem dX5_has_16 : decode cX5_has 16 = .ok (.aload_n 0, 1) := by decide +kernel
theorem dX5_has_17 : decode cX5_has 17 = .ok (.getfield 31, 3) := by decide +kernel
theorem dX5_has_20 : decode cX5_has 20 = .ok (.iload_n 1, 1) := by decide +kernel
theorem dX5_has_21 : decode cX5_has 21 = .ok (.baload, 1) := by decide +kernel
theorem dX5_has_22 : decode cX5_has 22 = .ok (.ifCond .eq 7, 3) := by decide +kernel
theorem dX5_has_25 : decode cX5_has 25 = .ok (.iconst 1, 1) := by decide +kernel
theorem dX5_has_26 : decode cX5_has 26 = .ok (.goto 4, 3) := by decide +kernel
theorem dX5_has_29 : decode cX5_has 29 = .ok (.iconst 0, 1) := by decide +kernel
theorem dX5_has_30 : decode cX5_has 30 = .ok (.ireturn, 1) := by decide +kernel
