theorem dX5_valueOf_0 : decode cX5_valueOf 0 = .ok (.iload_n 1, 1) := by decide +kernel
theorem dX5_valueOf_1 : decode cX5_valueOf 1 = .ok (.ifCond .lt 21, 3) := by decide +kernel
theorem dX5_valueOf_4 : decode cX5_valueOf 4 = .ok (.iload_n 1, 1) := by decide +kernel
theorem dX5_valueOf_5 : decode cX5_valueOf 5 = .ok (.aload_n 0, 1) := by decide +kernel
theorem dX5_valueOf_6 : decode cX5_valueOf 6 = .ok (.getfield 27, 3) := by decide +kernel
theorem dX5_valueOf_9 : decode cX5_valueOf 9 = .ok (.arraylength, 1) := by decide +kernel
theorem dX5_valueOf_10 : decode cX5_valueOf 10 = .ok (.if_icmp .ge 12, 3) := by decide +kernel
theorem dX5_valueOf_13 : decode cX5_valueOf 13 = .ok (.aload_n 0, 1) := by decide +kernel
theorem dX5_valueOf_14 : decode cX5_valueOf 14 = .ok (.getfield 27, 3) := by decide +kernel
theorem dX5_valueOf_17 : decode cX5_valueOf 17 = .ok (.iload_n 1, 1) := by decide +kernel
theorem dX5_valueOf_18 : decode cX5_valueOf 18 = .ok (.iaload, 1) := by decide +kernel
theorem dX5_valueOf_19 : decode cX5_valueOf 19 = .ok (.goto 4, 3) := by decide +kernel
theorem dX5_valueOf_22 : decode cX5_valueOf 22 = .ok (.iconst 0, 1) := by decide +kernel
theorem dX5_valueOf_23 : decode cX5_valueOf 23 = .ok (.ireturn, 1) := by decide +kernel
theorem dX11_check_0 : decode cX11_check 0 = .ok (.aload_n 0, 1) := by decide +kernel
theorem dX11_check_1 : decode cX11_check 1 = .ok (.iload_n 1, 1) := by decide +kernel
theorem dX11_check_2 : decode cX11_check 2 = .ok (.invokevirtual 157, 3) := by decide +kernel
theorem dX11_check_5 : decode cX11_check 5 = .ok (.ifnull 18, 3) := by decide +kernel
theorem dX11_check_8 : decode cX11_check 8 = .ok (.iload_n 2, 1) := by decide +kernel
theorem dX11_check_9 : decode cX11_check 9 = .ok (.ifCond .lt 14, 3) := by decide +kernel
theorem dX11_check_12 : decode cX11_check 12 = .ok (.iload_n 2, 1) := by decide +kernel
theorem dX11_check_13 : decode cX11_check 13 = .ok (.aload_n 0, 1) := by decide +kernel
theorem dX11_check_14 : decode cX11_check 14 = .ok (.getfield 53, 3) := by decide +kernel
theorem dX11_check_17 : decode cX11_check 17 = .ok (.getfield 193, 3) := by decide +kernel
theorem dX11_check_20 : decode cX11_check 20 = .ok (.if_icmp .lt 5, 3) := by decide +kernel
theorem dX11_check_23 : decode cX11_check 23 = .ok (.iconst (-1), 1) := by decide +kernel
theorem dX11_check_24 : decode cX11_check 24 = .ok (.ireturn, 1) := by decide +kernel
theorem dX11_check_25 : decode cX11_check 25 = .ok (.aload_n 0, 1) := by decide +kernel
theorem dX11_check_26 : decode cX11_check 26 = .ok (.getfield 39, 3) := by decide +kernel
theorem dX11_check_29 : decode cX11_check 29 = .ok (.iload_n 1, 1) := by decide +kernel
theorem dX11_check_30 : decode cX11_check 30 = .ok (.aload_n 0, 1) := by decide +kernel
theorem dX11_check_31 : decode cX11_check 31 = .ok (.getfield 53, 3) := by decide +kernel
theorem dX11_check_34 : decode cX11_check 34 = .ok (.getfield 196, 3) := by decide +kernel
theorem dX11_check_37 : decode cX11_check 37 = .ok (.iload_n 2, 1) := by decide +kernel
theorem dX11_check_38 : decode cX11_check 38 = .ok (.aaload, 1) := by decide +kernel
theorem dX11_check_39 : decode cX11_check 39 = .ok (.invokevirtual 199, 3) := by decide +kernel
theorem dX11_check_42 : decode cX11_check 42 = .ok (.aload_n 0, 1) := by decide +kernel
theorem dX11_check_43 : decode cX11_check 43 = .ok (.getfield 39, 3) := by decide +kernel
theorem dX11_check_46 : decode cX11_check 46 = .ok (.getfield 203, 3) := by decide +kernel
theorem dX11_check_49 : decode cX11_check 49 = .ok (.ireturn, 1) := by decide +kernel
theorem dX1_run_0 : decode cX1_run 0 = .ok (.aload_n 0, 1) := by decide +kernel
theorem dX1_run_1 : decode cX1_run 1 = .ok (.invokevirtual 63, 3) := by decide +kernel
theorem dX1_run_4 : decode cX1_run 4 = .ok (.aload_n 0, 1) := by decide +kernel
theorem dX1_run_5 : decode cX1_run 5 = .ok (.dup, 1) := by decide +kernel
theorem dX1_run_6 : decode cX1_run 6 = .ok (.getfield 73, 3) := by decide +kernel
theorem dX1_run_9 : decode cX1_run 9 = .ok (.iconst 1, 1) := by decide +kernel
theorem dX1_run_10 : decode cX1_run 10 = .ok (.iadd, 1) := by decide +kernel
theorem dX1_run_11 : decode cX1_run 11 = .ok (.putfield 73, 3) := by decide +kernel
theorem dX1_run_14 : decode cX1_run 14 = .ok (.aload_n 0, 1) := by decide +kernel
theorem dX1_run_15 : decode cX1_run 15 = .ok (.iconst 0, 1) := by decide +kernel
theorem dX1_run_16 : decode cX1_run 16 = .ok (.putfield 70, 3) := by decide +kernel
theorem dX1_run_19 : decode cX1_run 19 = .ok (.iconst 0, 1) := by decide +kernel
theorem dX1_run_20 : decode cX1_run 20 = .ok (.istore_n 3, 1) := by decide +kernel
theorem dX1_run_21 : decode cX1_run 21 = .ok (.iload_n 3, 1) := by decide +kernel
theorem dX1_run_22 : decode cX1_run 22 = .ok (.aload_n 0, 1) := by decide +kernel
theorem dX1_run_23 : decode cX1_run 23 = .ok (.getfield 66, 3) := by decide +kernel
theorem dX1_run_26 : decode cX1_run 26 = .ok (.getfield 76, 3) := by decide +kernel
theorem dX1_run_29 : decode cX1_run 29 = .ok (.invokevirtual 81, 3) := by decide +kernel
theorem dX1_run_32 : decode cX1_run 32 = .ok (.if_icmp .ge 27, 3) := by decide +kernel
theorem dX1_run_35 : decode cX1_run 35 = .ok (.aload_n 0, 1) := by decide +kernel
theorem dX1_run_36 : decode cX1_run 36 = .ok (.getfield 66, 3) := by decide +kernel
theorem dX1_run_39 : decode cX1_run 39 = .ok (.getfield 76, 3) := by decide +kernel
theorem dX1_run_42 : decode cX1_run 42 = .ok (.iload_n 3, 1) := by decide +kernel
theorem dX1_run_43 : decode cX1_run 43 = .ok (.invokevirtual 85, 3) := by decide +kernel
theorem dX1_run_46 : decode cX1_run 46 = .ok (.checkcast 89, 3) := by decide +kernel
theorem dX1_run_49 : decode cX1_run 49 = .ok (.iconst 0, 1) := by decide +kernel
theorem dX1_run_50 : decode cX1_run 50 = .ok (.putfield 91, 3) := by decide +kernel
theorem dX1_run_53 : decode cX1_run 53 = .ok (.iinc 3 1, 3) := by decide +kernel
theorem dX1_run_56 : decode cX1_run 56 = .ok (.goto (-35), 3) := by decide +kernel
theorem dX1_run_59 : decode cX1_run 59 = .ok (.iconst 0, 1) := by decide +kernel
theorem dX1_run_60 : decode cX1_run 60 = .ok (.istore_n 3, 1) := by decide +kernel
theorem dX1_run_61 : decode cX1_run 61 = .ok (.iload_n 3, 1) := by decide +kernel
theorem dX1_run_62 : decode cX1_run 62 = .ok (.aload_n 2, 1) := by decide +kernel
theorem dX1_run_63 : decode cX1_run 63 = .ok (.arraylength, 1) := by decide +kernel
theorem dX1_run_64 : decode cX1_run 64 = .ok (.if_icmp .ge 137, 3) := by decide +kernel
theorem dX1_run_67 : decode cX1_run 67 = .ok (.aload_n 0, 1) := by decide +kernel
theorem dX1_run_68 : decode cX1_run 68 = .ok (.getfield 56, 3) := by decide +kernel
theorem dX1_run_71 : decode cX1_run 71 = .ok (.ifCond .ne 130, 3) := by decide +kernel
theorem dX1_run_74 : decode cX1_run 74 = .ok (.aload_n 0, 1) := by decide +kernel
theorem dX1_run_75 : decode cX1_run 75 = .ok (.getfield 53, 3) := by decide +kernel
theorem dX1_run_78 : decode cX1_run 78 = .ok (.sipush 5000, 3) := by decide +kernel
theorem dX1_run_81 : decode cX1_run 81 = .ok (.if_icmp .ge 120, 3) := by decide +kernel
theorem dX1_run_84 : decode cX1_run 84 = .ok (.aload_n 0, 1) := by decide +kernel
theorem dX1_run_85 : decode cX1_run 85 = .ok (.dup, 1) := by decide +kernel
theorem dX1_run_86 : decode cX1_run 86 = .ok (.getfield 70, 3) := by decide +kernel
theorem dX1_run_89 : decode cX1_run 89 = .ok (.iconst 1, 1) := by decide +kernel
theorem dX1_run_90 : decode cX1_run 90 = .ok (.iadd, 1) := by decide +kernel
theorem dX1_run_91 : decode cX1_run 91 = .ok (.putfield 70, 3) := by decide +kernel
theorem dX1_run_94 : decode cX1_run 94 = .ok (.aload_n 0, 1) := by decide +kernel
theorem dX1_run_95 : decode cX1_run 95 = .ok (.dup, 1) := by decide +kernel
theorem dX1_run_96 : decode cX1_run 96 = .ok (.getfield 94, 3) := by decide +kernel
theorem dX1_run_99 : decode cX1_run 99 = .ok (.iconst 1, 1) := by decide +kernel
theorem dX1_run_100 : decode cX1_run 100 = .ok (.iadd, 1) := by decide +kernel
theorem dX1_run_101 : decode cX1_run 101 = .ok (.putfield 94, 3) := by decide +kernel
theorem dX1_run_104 : decode cX1_run 104 = .ok (.aload_n 0, 1) := by decide +kernel
theorem dX1_run_105 : decode cX1_run 105 = .ok (.aload_n 0, 1) := by decide +kernel
theorem dX1_run_106 : decode cX1_run 106 = .ok (.getfield 66, 3) := by decide +kernel
theorem dX1_run_109 : decode cX1_run 109 = .ok (.aload_n 2, 1) := by decide +kernel
theorem dX1_run_110 : decode cX1_run 110 = .ok (.iload_n 3, 1) := by decide +kernel
theorem dX1_run_111 : decode cX1_run 111 = .ok (.iaload, 1) := by decide +kernel
theorem dX1_run_112 : decode cX1_run 112 = .ok (.invokevirtual 97, 3) := by decide +kernel
theorem dX1_run_115 : decode cX1_run 115 = .ok (.putfield 101, 3) := by decide +kernel
theorem dX1_run_118 : decode cX1_run 118 = .ok (.aload_n 0, 1) := by decide +kernel
theorem dX1_run_119 : decode cX1_run 119 = .ok (.iload_n 1, 1) := by decide +kernel
theorem dX1_run_120 : decode cX1_run 120 = .ok (.iconst (-1), 1) := by decide +kernel
theorem dX1_run_121 : decode cX1_run 121 = .ok (.iconst 0, 1) := by decide +kernel
theorem dX1_run_122 : decode cX1_run 122 = .ok (.invokevirtual 104, 3) := by decide +kernel
theorem dX1_run_125 : decode cX1_run 125 = .ok (.istore 4, 2) := by decide +kernel
theorem dX1_run_127 : decode cX1_run 127 = .ok (.iconst 0, 1) := by decide +kernel
theorem dX1_run_128 : decode cX1_run 128 = .ok (.istore 5, 2) := by decide +kernel
theorem dX1_run_130 : decode cX1_run 130 = .ok (.iload 5, 2) := by decide +kernel
theorem dX1_run_132 : decode cX1_run 132 = .ok (.ldc 108, 2) := by decide +kernel
theorem dX1_run_134 : decode cX1_run 134 = .ok (.if_icmp .ge 61, 3) := by decide +kernel
theorem dX1_run_137 : decode cX1_run 137 = .ok (.iload 4, 2) := by decide +kernel
theorem dX1_run_139 : decode cX1_run 139 = .ok (.iconst (-1), 1) := by decide +kernel
theorem dX1_run_140 : decode cX1_run 140 = .ok (.if_icmp .eq 55, 3) := by decide +kernel
theorem dX1_run_143 : decode cX1_run 143 = .ok (.aload_n 0, 1) := by decide +kernel
theorem dX1_run_144 : decode cX1_run 144 = .ok (.getfield 53, 3) := by decide +kernel
theorem dX1_run_147 : decode cX1_run 147 = .ok (.sipush 5000, 3) := by decide +kernel
theorem dX1_run_150 : decode cX1_run 150 = .ok (.if_icmp .ge 45, 3) := by decide +kernel
theorem dX1_run_153 : decode cX1_run 153 = .ok (.aload_n 0, 1) := by decide +kernel
theorem dX1_run_154 : decode cX1_run 154 = .ok (.getfield 37, 3) := by decide +kernel
theorem dX1_run_157 : decode cX1_run 157 = .ok (.iload 4, 2) := by decide +kernel
theorem dX1_run_159 : decode cX1_run 159 = .ok (.iaload, 1) := by decide +kernel
theorem dX1_run_160 : decode cX1_run 160 = .ok (.iconst (-1), 1) := by decide +kernel
theorem dX1_run_161 : decode cX1_run 161 = .ok (.if_icmp .ne 20, 3) := by decide +kernel
theorem dX1_run_164 : decode cX1_run 164 = .ok (.aload_n 0, 1) := by decide +kernel
theorem dX1_run_165 : decode cX1_run 165 = .ok (.getfield 37, 3) := by decide +kernel
theorem dX1_run_168 : decode cX1_run 168 = .ok (.iload 4, 2) := by decide +kernel
theorem dX1_run_170 : decode cX1_run 170 = .ok (.iconst 0, 1) := by decide +kernel
theorem dX1_run_171 : decode cX1_run 171 = .ok (.iastore, 1) := by decide +kernel
theorem dX1_run_172 : decode cX1_run 172 = .ok (.aload_n 0, 1) := by decide +kernel
theorem dX1_run_173 : decode cX1_run 173 = .ok (.iload 4, 2) := by decide +kernel
theorem dX1_run_175 : decode cX1_run 175 = .ok (.invokevirtual 109, 3) := by decide +kernel
theorem dX1_run_178 : decode cX1_run 178 = .ok (.goto 11, 3) := by decide +kernel
theorem dX1_run_181 : decode cX1_run 181 = .ok (.aload_n 0, 1) := by decide +kernel
theorem dX1_run_182 : decode cX1_run 182 = .ok (.iload 4, 2) := by decide +kernel
theorem dX1_run_184 : decode cX1_run 184 = .ok (.invokevirtual 113, 3) := by decide +kernel
theorem dX1_run_187 : decode cX1_run 187 = .ok (.istore 4, 2) := by decide +kernel
theorem dX1_run_189 : decode cX1_run 189 = .ok (.iinc 5 1, 3) := by decide +kernel
theorem dX1_run_192 : decode cX1_run 192 = .ok (.goto (-62), 3) := by decide +kernel
theorem dX1_run_195 : decode cX1_run 195 = .ok (.iinc 3 1, 3) := by decide +kernel
theorem dX1_run_198 : decode cX1_run 198 = .ok (.goto (-137), 3) := by decide +kernel
theorem dX1_run_201 : decode cX1_run 201 = .ok (.return_, 1) := by decide +kernel
theorem dX1_enter_0 : decode cX1_enter 0 = .ok (.aload_n 0, 1) := by decide +kernel
theorem dX1_enter_1 : decode cX1_enter 1 = .ok (.getfield 50, 3) := by decide +kernel
theorem dX1_enter_4 : decode cX1_enter 4 = .ok (.sipush 1600, 3) := by decide +kernel
theorem dX1_enter_7 : decode cX1_enter 7 = .ok (.if_icmp .ge 18, 3) := by decide +kernel
theorem dX1_enter_10 : decode cX1_enter 10 = .ok (.iload_n 1, 1) := by decide +kernel
theorem dX1_enter_11 : decode cX1_enter 11 = .ok (.ifCond .lt 14, 3) := by decide +kernel
theorem dX1_enter_14 : decode cX1_enter 14 = .ok (.iload_n 1, 1) := by decide +kernel
theorem dX1_enter_15 : decode cX1_enter 15 = .ok (.aload_n 0, 1) := by decide +kernel
theorem dX1_enter_16 : decode cX1_enter 16 = .ok (.getfield 9, 3) := by decide +kernel
theorem dX1_enter_19 : decode cX1_enter 19 = .ok (.invokevirtual 81, 3) := by decide +kernel
theorem dX1_enter_22 : decode cX1_enter 22 = .ok (.if_icmp .lt 5, 3) := by decide +kernel
theorem dX1_enter_25 : decode cX1_enter 25 = .ok (.iconst (-1), 1) := by decide +kernel
theorem dX1_enter_26 : decode cX1_enter 26 = .ok (.ireturn, 1) := by decide +kernel
theorem dX1_enter_27 : decode cX1_enter 27 = .ok (.aload_n 0, 1) := by decide +kernel
theorem dX1_enter_28 : decode cX1_enter 28 = .ok (.getfield 9, 3) := by decide +kernel
theorem dX1_enter_31 : decode cX1_enter 31 = .ok (.iload_n 1, 1) := by decide +kernel
theorem dX1_enter_32 : decode cX1_enter 32 = .ok (.invokevirtual 85, 3) := by decide +kernel
theorem dX1_enter_35 : decode cX1_enter 35 = .ok (.checkcast 116, 3) := by decide +kernel
theorem dX1_enter_38 : decode cX1_enter 38 = .ok (.aload_n 0, 1) := by decide +kernel
theorem dX1_enter_39 : decode cX1_enter 39 = .ok (.getfield 94, 3) := by decide +kernel
theorem dX1_enter_42 : decode cX1_enter 42 = .ok (.putfield 118, 3) := by decide +kernel
theorem dX1_enter_45 : decode cX1_enter 45 = .ok (.aload_n 0, 1) := by decide +kernel
theorem dX1_enter_46 : decode cX1_enter 46 = .ok (.getfield 50, 3) := by decide +kernel
theorem dX1_enter_49 : decode cX1_enter 49 = .ok (.istore 4, 2) := by decide +kernel
theorem dX1_enter_51 : decode cX1_enter 51 = .ok (.aload_n 0, 1) := by decide +kernel
theorem dX1_enter_52 : decode cX1_enter 52 = .ok (.getfield 25, 3) := by decide +kernel
theorem dX1_enter_55 : decode cX1_enter 55 = .ok (.iload 4, 2) := by decide +kernel
theorem dX1_enter_57 : decode cX1_enter 57 = .ok (.iload_n 1, 1) := by decide +kernel
theorem dX1_enter_58 : decode cX1_enter 58 = .ok (.iastore, 1) := by decide +kernel
theorem dX1_enter_59 : decode cX1_enter 59 = .ok (.aload_n 0, 1) := by decide +kernel
theorem dX1_enter_60 : decode cX1_enter 60 = .ok (.getfield 28, 3) := by decide +kernel
theorem dX1_enter_63 : decode cX1_enter 63 = .ok (.iload 4, 2) := by decide +kernel
theorem dX1_enter_65 : decode cX1_enter 65 = .ok (.iload_n 2, 1) := by decide +kernel
theorem dX1_enter_66 : decode cX1_enter 66 = .ok (.iastore, 1) := by decide +kernel
theorem dX1_enter_67 : decode cX1_enter 67 = .ok (.aload_n 0, 1) := by decide +kernel
theorem dX1_enter_68 : decode cX1_enter 68 = .ok (.getfield 31, 3) := by decide +kernel
theorem dX1_enter_71 : decode cX1_enter 71 = .ok (.iload 4, 2) := by decide +kernel
theorem dX1_enter_73 : decode cX1_enter 73 = .ok (.iload_n 3, 1) := by decide +kernel
theorem dX1_enter_74 : decode cX1_enter 74 = .ok (.iastore, 1) := by decide +kernel
theorem dX1_enter_75 : decode cX1_enter 75 = .ok (.aload_n 0, 1) := by decide +kernel
theorem dX1_enter_76 : decode cX1_enter 76 = .ok (.getfield 34, 3) := by decide +kernel
theorem dX1_enter_79 : decode cX1_enter 79 = .ok (.iload 4, 2) := by decide +kernel
theorem dX1_enter_81 : decode cX1_enter 81 = .ok (.iload_n 2, 1) := by decide +kernel
theorem dX1_enter_82 : decode cX1_enter 82 = .ok (.iconst (-1), 1) := by decide +kernel
theorem dX1_enter_83 : decode cX1_enter 83 = .ok (.if_icmp .ne 7, 3) := by decide +kernel
theorem dX1_enter_86 : decode cX1_enter 86 = .ok (.iconst 0, 1) := by decide +kernel
theorem dX1_enter_87 : decode cX1_enter 87 = .ok (.goto 11, 3) := by decide +kernel
theorem dX1_enter_90 : decode cX1_enter 90 = .ok (.aload_n 0, 1) := by decide +kernel
theorem dX1_enter_91 : decode cX1_enter 91 = .ok (.getfield 34, 3) := by decide +kernel
theorem dX1_enter_94 : decode cX1_enter 94 = .ok (.iload_n 2, 1) := by decide +kernel
theorem dX1_enter_95 : decode cX1_enter 95 = .ok (.iaload, 1) := by decide +kernel
theorem dX1_enter_96 : decode cX1_enter 96 = .ok (.iconst 1, 1) := by decide +kernel
theorem dX1_enter_97 : decode cX1_enter 97 = .ok (.iadd, 1) := by decide +kernel
theorem dX1_enter_98 : decode cX1_enter 98 = .ok (.iastore, 1) := by decide +kernel
theorem dX1_enter_99 : decode cX1_enter 99 = .ok (.aload_n 0, 1) := by decide +kernel
theorem dX1_enter_100 : decode cX1_enter 100 = .ok (.getfield 37, 3) := by decide +kernel
theorem dX1_enter_103 : decode cX1_enter 103 = .ok (.iload 4, 2) := by decide +kernel
theorem dX1_enter_105 : decode cX1_enter 105 = .ok (.iconst (-1), 1) := by decide +kernel
theorem dX1_enter_106 : decode cX1_enter 106 = .ok (.iastore, 1) := by decide +kernel
theorem dX1_enter_107 : decode cX1_enter 107 = .ok (.aload_n 0, 1) := by decide +kernel
theorem dX1_enter_108 : decode cX1_enter 108 = .ok (.getfield 40, 3) := by decide +kernel
theorem dX1_enter_111 : decode cX1_enter 111 = .ok (.iload 4, 2) := by decide +kernel
theorem dX1_enter_113 : decode cX1_enter 113 = .ok (.iconst 0, 1) := by decide +kernel
theorem dX1_enter_114 : decode cX1_enter 114 = .ok (.iastore, 1) := by decide +kernel
theorem dX1_enter_115 : decode cX1_enter 115 = .ok (.aload_n 0, 1) := by decide +kernel
theorem dX1_enter_116 : decode cX1_enter 116 = .ok (.dup, 1) := by decide +kernel
theorem dX1_enter_117 : decode cX1_enter 117 = .ok (.getfield 50, 3) := by decide +kernel
theorem dX1_enter_120 : decode cX1_enter 120 = .ok (.iconst 1, 1) := by decide +kernel
theorem dX1_enter_121 : decode cX1_enter 121 = .ok (.iadd, 1) := by decide +kernel
theorem dX1_enter_122 : decode cX1_enter 122 = .ok (.putfield 50, 3) := by decide +kernel
theorem dX1_enter_125 : decode cX1_enter 125 = .ok (.iload 4, 2) := by decide +kernel
theorem dX1_enter_127 : decode cX1_enter 127 = .ok (.ireturn, 1) := by decide +kernel
theorem dX1_askPaper_0 : decode cX1_askPaper 0 = .ok (.aload_n 0, 1) := by decide +kernel
theorem dX1_askPaper_1 : decode cX1_askPaper 1 = .ok (.getfield 9, 3) := by decide +kernel
theorem dX1_askPaper_4 : decode cX1_askPaper 4 = .ok (.aload_n 0, 1) := by decide +kernel
theorem dX1_askPaper_5 : decode cX1_askPaper 5 = .ok (.getfield 25, 3) := by decide +kernel
theorem dX1_askPaper_8 : decode cX1_askPaper 8 = .ok (.iload_n 1, 1) := by decide +kernel
theorem dX1_askPaper_9 : decode cX1_askPaper 9 = .ok (.iaload, 1) := by decide +kernel
theorem dX1_askPaper_10 : decode cX1_askPaper 10 = .ok (.invokevirtual 85, 3) := by decide +kernel
theorem dX1_askPaper_13 : decode cX1_askPaper 13 = .ok (.checkcast 116, 3) := by decide +kernel
theorem dX1_askPaper_16 : decode cX1_askPaper 16 = .ok (.getfield 121, 3) := by decide +kernel
theorem dX1_askPaper_19 : decode cX1_askPaper 19 = .ok (.astore_n 2, 1) := by decide +kernel
theorem dX1_askPaper_20 : decode cX1_askPaper 20 = .ok (.iconst 0, 1) := by decide +kernel
theorem dX1_askPaper_21 : decode cX1_askPaper 21 = .ok (.istore_n 3, 1) := by decide +kernel
theorem dX1_askPaper_22 : decode cX1_askPaper 22 = .ok (.iload_n 3, 1) := by decide +kernel
theorem dX1_askPaper_23 : decode cX1_askPaper 23 = .ok (.aload_n 2, 1) := by decide +kernel
theorem dX1_askPaper_24 : decode cX1_askPaper 24 = .ok (.getfield 145, 3) := by decide +kernel
theorem dX1_askPaper_27 : decode cX1_askPaper 27 = .ok (.arraylength, 1) := by decide +kernel
theorem dX1_askPaper_28 : decode cX1_askPaper 28 = .ok (.if_icmp .ge 43, 3) := by decide +kernel
theorem dX1_askPaper_31 : decode cX1_askPaper 31 = .ok (.aload_n 0, 1) := by decide +kernel
theorem dX1_askPaper_32 : decode cX1_askPaper 32 = .ok (.getfield 66, 3) := by decide +kernel
theorem dX1_askPaper_35 : decode cX1_askPaper 35 = .ok (.aload_n 2, 1) := by decide +kernel
theorem dX1_askPaper_36 : decode cX1_askPaper 36 = .ok (.getfield 145, 3) := by decide +kernel
theorem dX1_askPaper_39 : decode cX1_askPaper 39 = .ok (.iload_n 3, 1) := by decide +kernel
theorem dX1_askPaper_40 : decode cX1_askPaper 40 = .ok (.iaload, 1) := by decide +kernel
theorem dX1_askPaper_41 : decode cX1_askPaper 41 = .ok (.invokevirtual 148, 3) := by decide +kernel
theorem dX1_askPaper_44 : decode cX1_askPaper 44 = .ok (.astore 4, 2) := by decide +kernel
theorem dX1_askPaper_46 : decode cX1_askPaper 46 = .ok (.aload 4, 2) := by decide +kernel
theorem dX1_askPaper_48 : decode cX1_askPaper 48 = .ok (.ifnull 17, 3) := by decide +kernel
theorem dX1_askPaper_51 : decode cX1_askPaper 51 = .ok (.aload_n 0, 1) := by decide +kernel
theorem dX1_askPaper_52 : decode cX1_askPaper 52 = .ok (.aload 4, 2) := by decide +kernel
theorem dX1_askPaper_54 : decode cX1_askPaper 54 = .ok (.getfield 152, 3) := by decide +kernel
theorem dX1_askPaper_57 : decode cX1_askPaper 57 = .ok (.getfield 156, 3) := by decide +kernel
theorem dX1_askPaper_60 : decode cX1_askPaper 60 = .ok (.iload_n 1, 1) := by decide +kernel
theorem dX1_askPaper_61 : decode cX1_askPaper 61 = .ok (.iconst (-1), 1) := by decide +kernel
theorem dX1_askPaper_62 : decode cX1_askPaper 62 = .ok (.invokevirtual 159, 3) := by decide +kernel
theorem dX1_askPaper_65 : decode cX1_askPaper 65 = .ok (.iinc 3 1, 3) := by decide +kernel
theorem dX1_askPaper_68 : decode cX1_askPaper 68 = .ok (.goto (-46), 3) := by decide +kernel
theorem dX1_askPaper_71 : decode cX1_askPaper 71 = .ok (.iconst 0, 1) := by decide +kernel
theorem dX1_askPaper_72 : decode cX1_askPaper 72 = .ok (.istore_n 3, 1) := by decide +kernel
theorem dX1_askPaper_73 : decode cX1_askPaper 73 = .ok (.iload_n 3, 1) := by decide +kernel
theorem dX1_askPaper_74 : decode cX1_askPaper 74 = .ok (.aload_n 2, 1) := by decide +kernel
theorem dX1_askPaper_75 : decode cX1_askPaper 75 = .ok (.getfield 125, 3) := by decide +kernel
theorem dX1_askPaper_78 : decode cX1_askPaper 78 = .ok (.invokevirtual 81, 3) := by decide +kernel
theorem dX1_askPaper_81 : decode cX1_askPaper 81 = .ok (.if_icmp .ge 29, 3) := by decide +kernel
theorem dX1_askPaper_84 : decode cX1_askPaper 84 = .ok (.aload_n 0, 1) := by decide +kernel
theorem dX1_askPaper_85 : decode cX1_askPaper 85 = .ok (.aload_n 2, 1) := by decide +kernel
theorem dX1_askPaper_86 : decode cX1_askPaper 86 = .ok (.getfield 125, 3) := by decide +kernel
theorem dX1_askPaper_89 : decode cX1_askPaper 89 = .ok (.iload_n 3, 1) := by decide +kernel
theorem dX1_askPaper_90 : decode cX1_askPaper 90 = .ok (.invokevirtual 85, 3) := by decide +kernel
theorem dX1_askPaper_93 : decode cX1_askPaper 93 = .ok (.checkcast 130, 3) := by decide +kernel
theorem dX1_askPaper_96 : decode cX1_askPaper 96 = .ok (.getfield 156, 3) := by decide +kernel
theorem dX1_askPaper_99 : decode cX1_askPaper 99 = .ok (.iload_n 1, 1) := by decide +kernel
theorem dX1_askPaper_100 : decode cX1_askPaper 100 = .ok (.iload_n 3, 1) := by decide +kernel
theorem dX1_askPaper_101 : decode cX1_askPaper 101 = .ok (.invokevirtual 159, 3) := by decide +kernel
theorem dX1_askPaper_104 : decode cX1_askPaper 104 = .ok (.iinc 3 1, 3) := by decide +kernel
theorem dX1_askPaper_107 : decode cX1_askPaper 107 = .ok (.goto (-34), 3) := by decide +kernel
theorem dX1_askPaper_110 : decode cX1_askPaper 110 = .ok (.return_, 1) := by decide +kernel
theorem dX1_askUses_0 : decode cX1_askUses 0 = .ok (.iconst 0, 1) := by decide +kernel
theorem dX1_askUses_1 : decode cX1_askUses 1 = .ok (.istore 4, 2) := by decide +kernel
theorem dX1_askUses_3 : decode cX1_askUses 3 = .ok (.iload 4, 2) := by decide +kernel
theorem dX1_askUses_5 : decode cX1_askUses 5 = .ok (.aload_n 1, 1) := by decide +kernel
theorem dX1_askUses_6 : decode cX1_askUses 6 = .ok (.invokevirtual 81, 3) := by decide +kernel
theorem dX1_askUses_9 : decode cX1_askUses 9 = .ok (.if_icmp .ge 120, 3) := by decide +kernel
theorem dX1_askUses_12 : decode cX1_askUses 12 = .ok (.aload_n 0, 1) := by decide +kernel
theorem dX1_askUses_13 : decode cX1_askUses 13 = .ok (.getfield 53, 3) := by decide +kernel
theorem dX1_askUses_16 : decode cX1_askUses 16 = .ok (.sipush 5000, 3) := by decide +kernel
theorem dX1_askUses_19 : decode cX1_askUses 19 = .ok (.if_icmp .ge 110, 3) := by decide +kernel
theorem dX1_askUses_22 : decode cX1_askUses 22 = .ok (.aload_n 1, 1) := by decide +kernel
theorem dX1_askUses_23 : decode cX1_askUses 23 = .ok (.iload 4, 2) := by decide +kernel
theorem dX1_askUses_25 : decode cX1_askUses 25 = .ok (.invokevirtual 85, 3) := by decide +kernel
theorem dX1_askUses_28 : decode cX1_askUses 28 = .ok (.checkcast 163, 3) := by decide +kernel
theorem dX1_askUses_31 : decode cX1_askUses 31 = .ok (.astore 5, 2) := by decide +kernel
theorem dX1_askUses_33 : decode cX1_askUses 33 = .ok (.aload 5, 2) := by decide +kernel
theorem dX1_askUses_35 : decode cX1_askUses 35 = .ok (.getfield 165, 3) := by decide +kernel
theorem dX1_askUses_38 : decode cX1_askUses 38 = .ok (.iconst 2, 1) := by decide +kernel
theorem dX1_askUses_39 : decode cX1_askUses 39 = .ok (.if_icmp .eq 84, 3) := by decide +kernel
theorem dX1_askUses_42 : decode cX1_askUses 42 = .ok (.aload_n 0, 1) := by decide +kernel
theorem dX1_askUses_43 : decode cX1_askUses 43 = .ok (.getfield 101, 3) := by decide +kernel
theorem dX1_askUses_46 : decode cX1_askUses 46 = .ok (.iconst 1, 1) := by decide +kernel
theorem dX1_askUses_47 : decode cX1_askUses 47 = .ok (.aload 5, 2) := by decide +kernel
theorem dX1_askUses_49 : decode cX1_askUses 49 = .ok (.getfield 168, 3) := by decide +kernel
theorem dX1_askUses_52 : decode cX1_askUses 52 = .ok (.ishl, 1) := by decide +kernel
theorem dX1_askUses_53 : decode cX1_askUses 53 = .ok (.iand, 1) := by decide +kernel
theorem dX1_askUses_54 : decode cX1_askUses 54 = .ok (.ifCond .eq 69, 3) := by decide +kernel
theorem dX1_askUses_57 : decode cX1_askUses 57 = .ok (.aload_n 0, 1) := by decide +kernel
theorem dX1_askUses_58 : decode cX1_askUses 58 = .ok (.dup, 1) := by decide +kernel
theorem dX1_askUses_59 : decode cX1_askUses 59 = .ok (.getfield 53, 3) := by decide +kernel
theorem dX1_askUses_62 : decode cX1_askUses 62 = .ok (.iconst 1, 1) := by decide +kernel
theorem dX1_askUses_63 : decode cX1_askUses 63 = .ok (.iadd, 1) := by decide +kernel
theorem dX1_askUses_64 : decode cX1_askUses 64 = .ok (.putfield 53, 3) := by decide +kernel
theorem dX1_askUses_67 : decode cX1_askUses 67 = .ok (.aload 5, 2) := by decide +kernel
theorem dX1_askUses_69 : decode cX1_askUses 69 = .ok (.getfield 165, 3) := by decide +kernel
theorem dX1_askUses_72 : decode cX1_askUses 72 = .ok (.bipush 100, 2) := by decide +kernel
theorem dX1_askUses_74 : decode cX1_askUses 74 = .ok (.if_icmp .lt 14, 3) := by decide +kernel
theorem dX1_askUses_77 : decode cX1_askUses 77 = .ok (.aload_n 0, 1) := by decide +kernel
theorem dX1_askUses_78 : decode cX1_askUses 78 = .ok (.aload 5, 2) := by decide +kernel
theorem dX1_askUses_80 : decode cX1_askUses 80 = .ok (.iload_n 2, 1) := by decide +kernel
theorem dX1_askUses_81 : decode cX1_askUses 81 = .ok (.iload_n 3, 1) := by decide +kernel
theorem dX1_askUses_82 : decode cX1_askUses 82 = .ok (.invokevirtual 171, 3) := by decide +kernel
theorem dX1_askUses_85 : decode cX1_askUses 85 = .ok (.goto 38, 3) := by decide +kernel
theorem dX1_askUses_88 : decode cX1_askUses 88 = .ok (.aload_n 0, 1) := by decide +kernel
theorem dX1_askUses_89 : decode cX1_askUses 89 = .ok (.aload 5, 2) := by decide +kernel
theorem dX1_askUses_91 : decode cX1_askUses 91 = .ok (.aload_n 0, 1) := by decide +kernel
theorem dX1_askUses_92 : decode cX1_askUses 92 = .ok (.getfield 9, 3) := by decide +kernel
theorem dX1_askUses_95 : decode cX1_askUses 95 = .ok (.aload_n 0, 1) := by decide +kernel
theorem dX1_askUses_96 : decode cX1_askUses 96 = .ok (.getfield 25, 3) := by decide +kernel
theorem dX1_askUses_99 : decode cX1_askUses 99 = .ok (.iload_n 2, 1) := by decide +kernel
theorem dX1_askUses_100 : decode cX1_askUses 100 = .ok (.iaload, 1) := by decide +kernel
theorem dX1_askUses_101 : decode cX1_askUses 101 = .ok (.invokevirtual 85, 3) := by decide +kernel
theorem dX1_askUses_104 : decode cX1_askUses 104 = .ok (.checkcast 116, 3) := by decide +kernel
theorem dX1_askUses_107 : decode cX1_askUses 107 = .ok (.iload_n 3, 1) := by decide +kernel
theorem dX1_askUses_108 : decode cX1_askUses 108 = .ok (.invokevirtual 175, 3) := by decide +kernel
theorem dX1_askUses_111 : decode cX1_askUses 111 = .ok (.ifCond .ne 12, 3) := by decide +kernel
theorem dX1_askUses_114 : decode cX1_askUses 114 = .ok (.aload_n 0, 1) := by decide +kernel
theorem dX1_askUses_115 : decode cX1_askUses 115 = .ok (.aload 5, 2) := by decide +kernel
theorem dX1_askUses_117 : decode cX1_askUses 117 = .ok (.iload_n 2, 1) := by decide +kernel
theorem dX1_askUses_118 : decode cX1_askUses 118 = .ok (.iload_n 3, 1) := by decide +kernel
theorem dX1_askUses_119 : decode cX1_askUses 119 = .ok (.iconst 0, 1) := by decide +kernel
theorem dX1_askUses_120 : decode cX1_askUses 120 = .ok (.invokevirtual 179, 3) := by decide +kernel
theorem dX1_askUses_123 : decode cX1_askUses 123 = .ok (.iinc 4 1, 3) := by decide +kernel
theorem dX1_askUses_126 : decode cX1_askUses 126 = .ok (.goto (-123), 3) := by decide +kernel
theorem dX1_askUses_129 : decode cX1_askUses 129 = .ok (.return_, 1) := by decide +kernel
theorem dX1_askOwn_0 : decode cX1_askOwn 0 = .ok (.aload_n 0, 1) := by decide +kernel
theorem dX1_askOwn_1 : decode cX1_askOwn 1 = .ok (.getfield 66, 3) := by decide +kernel
theorem dX1_askOwn_4 : decode cX1_askOwn 4 = .ok (.aload_n 1, 1) := by decide +kernel
theorem dX1_askOwn_5 : decode cX1_askOwn 5 = .ok (.getfield 165, 3) := by decide +kernel
theorem dX1_askOwn_8 : decode cX1_askOwn 8 = .ok (.bipush 100, 2) := by decide +kernel
theorem dX1_askOwn_10 : decode cX1_askOwn 10 = .ok (.isub, 1) := by decide +kernel
theorem dX1_askOwn_11 : decode cX1_askOwn 11 = .ok (.invokevirtual 183, 3) := by decide +kernel
theorem dX1_askOwn_14 : decode cX1_askOwn 14 = .ok (.astore 4, 2) := by decide +kernel
theorem dX1_askOwn_16 : decode cX1_askOwn 16 = .ok (.aload 4, 2) := by decide +kernel
theorem dX1_askOwn_18 : decode cX1_askOwn 18 = .ok (.ifnull 15, 3) := by decide +kernel
theorem dX1_askOwn_21 : decode cX1_askOwn 21 = .ok (.aload_n 0, 1) := by decide +kernel
theorem dX1_askOwn_22 : decode cX1_askOwn 22 = .ok (.getfield 66, 3) := by decide +kernel
theorem dX1_askOwn_25 : decode cX1_askOwn 25 = .ok (.aload 4, 2) := by decide +kernel
theorem dX1_askOwn_27 : decode cX1_askOwn 27 = .ok (.invokevirtual 187, 3) := by decide +kernel
theorem dX1_askOwn_30 : decode cX1_askOwn 30 = .ok (.ifCond .ne 4, 3) := by decide +kernel
theorem dX1_askOwn_33 : decode cX1_askOwn 33 = .ok (.return_, 1) := by decide +kernel
theorem dX1_askOwn_34 : decode cX1_askOwn 34 = .ok (.aload 4, 2) := by decide +kernel
theorem dX1_askOwn_36 : decode cX1_askOwn 36 = .ok (.dup, 1) := by decide +kernel
theorem dX1_askOwn_37 : decode cX1_askOwn 37 = .ok (.getfield 91, 3) := by decide +kernel
theorem dX1_askOwn_40 : decode cX1_askOwn 40 = .ok (.iconst 1, 1) := by decide +kernel
theorem dX1_askOwn_41 : decode cX1_askOwn 41 = .ok (.iadd, 1) := by decide +kernel
theorem dX1_askOwn_42 : decode cX1_askOwn 42 = .ok (.putfield 91, 3) := by decide +kernel
theorem dX1_askOwn_45 : decode cX1_askOwn 45 = .ok (.aload_n 0, 1) := by decide +kernel
theorem dX1_askOwn_46 : decode cX1_askOwn 46 = .ok (.getfield 9, 3) := by decide +kernel
theorem dX1_askOwn_49 : decode cX1_askOwn 49 = .ok (.aload_n 0, 1) := by decide +kernel
theorem dX1_askOwn_50 : decode cX1_askOwn 50 = .ok (.getfield 25, 3) := by decide +kernel
theorem dX1_askOwn_53 : decode cX1_askOwn 53 = .ok (.iload_n 2, 1) := by decide +kernel
theorem dX1_askOwn_54 : decode cX1_askOwn 54 = .ok (.iaload, 1) := by decide +kernel
theorem dX1_askOwn_55 : decode cX1_askOwn 55 = .ok (.invokevirtual 85, 3) := by decide +kernel
theorem dX1_askOwn_58 : decode cX1_askOwn 58 = .ok (.checkcast 116, 3) := by decide +kernel
theorem dX1_askOwn_61 : decode cX1_askOwn 61 = .ok (.astore 5, 2) := by decide +kernel
theorem dX1_askOwn_63 : decode cX1_askOwn 63 = .ok (.aload 5, 2) := by decide +kernel
theorem dX1_askOwn_65 : decode cX1_askOwn 65 = .ok (.iload_n 3, 1) := by decide +kernel
theorem dX1_askOwn_66 : decode cX1_askOwn 66 = .ok (.invokevirtual 191, 3) := by decide +kernel
theorem dX1_askOwn_69 : decode cX1_askOwn 69 = .ok (.ifCond .ne 4, 3) := by decide +kernel
theorem dX1_askOwn_72 : decode cX1_askOwn 72 = .ok (.return_, 1) := by decide +kernel
theorem dX1_askOwn_73 : decode cX1_askOwn 73 = .ok (.aload_n 0, 1) := by decide +kernel
theorem dX1_askOwn_74 : decode cX1_askOwn 74 = .ok (.getfield 66, 3) := by decide +kernel
theorem dX1_askOwn_77 : decode cX1_askOwn 77 = .ok (.aload 4, 2) := by decide +kernel
theorem dX1_askOwn_79 : decode cX1_askOwn 79 = .ok (.aload 5, 2) := by decide +kernel
theorem dX1_askOwn_81 : decode cX1_askOwn 81 = .ok (.iload_n 3, 1) := by decide +kernel
theorem dX1_askOwn_82 : decode cX1_askOwn 82 = .ok (.invokevirtual 195, 3) := by decide +kernel
theorem dX1_askOwn_85 : decode cX1_askOwn 85 = .ok (.aload_n 1, 1) := by decide +kernel
theorem dX1_askOwn_86 : decode cX1_askOwn 86 = .ok (.invokevirtual 198, 3) := by decide +kernel
theorem dX1_askOwn_89 : decode cX1_askOwn 89 = .ok (.istore 6, 2) := by decide +kernel
theorem dX1_askOwn_91 : decode cX1_askOwn 91 = .ok (.iload 6, 2) := by decide +kernel
theorem dX1_askOwn_93 : decode cX1_askOwn 93 = .ok (.ifCond .eq 11, 3) := by decide +kernel
theorem dX1_askOwn_96 : decode cX1_askOwn 96 = .ok (.aload 4, 2) := by decide +kernel
theorem dX1_askOwn_98 : decode cX1_askOwn 98 = .ok (.getfield 202, 3) := by decide +kernel
theorem dX1_askOwn_101 : decode cX1_askOwn 101 = .ok (.ifCond .ne 20, 3) := by decide +kernel
theorem dX1_askOwn_104 : decode cX1_askOwn 104 = .ok (.aload_n 0, 1) := by decide +kernel
theorem dX1_askOwn_105 : decode cX1_askOwn 105 = .ok (.aload_n 1, 1) := by decide +kernel
theorem dX1_askOwn_106 : decode cX1_askOwn 106 = .ok (.iload_n 2, 1) := by decide +kernel
theorem dX1_askOwn_107 : decode cX1_askOwn 107 = .ok (.iload_n 3, 1) := by decide +kernel
theorem dX1_askOwn_108 : decode cX1_askOwn 108 = .ok (.iload 6, 2) := by decide +kernel
theorem dX1_askOwn_110 : decode cX1_askOwn 110 = .ok (.ifCond .eq 7, 3) := by decide +kernel
theorem dX1_askOwn_113 : decode cX1_askOwn 113 = .ok (.iconst 0, 1) := by decide +kernel
theorem dX1_askOwn_114 : decode cX1_askOwn 114 = .ok (.goto 4, 3) := by decide +kernel
theorem dX1_askOwn_117 : decode cX1_askOwn 117 = .ok (.iconst 1, 1) := by decide +kernel
theorem dX1_askOwn_118 : decode cX1_askOwn 118 = .ok (.invokevirtual 179, 3) := by decide +kernel
theorem dX1_askOwn_121 : decode cX1_askOwn 121 = .ok (.return_, 1) := by decide +kernel
theorem dX0_ruleAt_0 : decode cX0_ruleAt 0 = .ok (.iload_n 1, 1) := by decide +kernel
theorem dX0_ruleAt_1 : decode cX0_ruleAt 1 = .ok (.ifCond .lt 28, 3) := by decide +kernel
theorem dX0_ruleAt_4 : decode cX0_ruleAt 4 = .ok (.iload_n 1, 1) := by decide +kernel
theorem dX0_ruleAt_5 : decode cX0_ruleAt 5 = .ok (.aload_n 0, 1) := by decide +kernel
theorem dX0_ruleAt_6 : decode cX0_ruleAt 6 = .ok (.getfield 12, 3) := by decide +kernel
theorem dX0_ruleAt_9 : decode cX0_ruleAt 9 = .ok (.invokevirtual 70, 3) := by decide +kernel
theorem dX0_ruleAt_12 : decode cX0_ruleAt 12 = .ok (.if_icmp .ge 17, 3) := by decide +kernel
theorem dX0_ruleAt_15 : decode cX0_ruleAt 15 = .ok (.aload_n 0, 1) := by decide +kernel
theorem dX0_ruleAt_16 : decode cX0_ruleAt 16 = .ok (.getfield 12, 3) := by decide +kernel
theorem dX0_ruleAt_19 : decode cX0_ruleAt 19 = .ok (.iload_n 1, 1) := by decide +kernel
theorem dX0_ruleAt_20 : decode cX0_ruleAt 20 = .ok (.invokevirtual 74, 3) := by decide +kernel
theorem dX0_ruleAt_23 : decode cX0_ruleAt 23 = .ok (.checkcast 80, 3) := by decide +kernel
theorem dX0_ruleAt_26 : decode cX0_ruleAt 26 = .ok (.goto 4, 3) := by decide +kernel
theorem dX0_ruleAt_29 : decode cX0_ruleAt 29 = .ok (.aconst_null, 1) := by decide +kernel
theorem dX0_ruleAt_30 : decode cX0_ruleAt 30 = .ok (.areturn, 1) := by decide +kernel
theorem dX0_isReady_0 : decode cX0_isReady 0 = .ok (.aload_n 1, 1) := by decide +kernel
theorem dX0_isReady_1 : decode cX0_isReady 1 = .ok (.getfield 82, 3) := by decide +kernel
theorem dX0_isReady_4 : decode cX0_isReady 4 = .ok (.ifCond .ne 42, 3) := by decide +kernel
theorem dX0_isReady_7 : decode cX0_isReady 7 = .ok (.aload_n 1, 1) := by decide +kernel
theorem dX0_isReady_8 : decode cX0_isReady 8 = .ok (.iconst 1, 1) := by decide +kernel
theorem dX0_isReady_9 : decode cX0_isReady 9 = .ok (.iconst 0, 1) := by decide +kernel
theorem dX0_isReady_10 : decode cX0_isReady 10 = .ok (.iconst 0, 1) := by decide +kernel
theorem dX0_isReady_11 : decode cX0_isReady 11 = .ok (.iconst 0, 1) := by decide +kernel
theorem dX0_isReady_12 : decode cX0_isReady 12 = .ok (.invokevirtual 85, 3) := by decide +kernel
theorem dX0_isReady_15 : decode cX0_isReady 15 = .ok (.istore_n 2, 1) := by decide +kernel
theorem dX0_isReady_16 : decode cX0_isReady 16 = .ok (.aload_n 1, 1) := by decide +kernel
theorem dX0_isReady_17 : decode cX0_isReady 17 = .ok (.iconst 1, 1) := by decide +kernel
theorem dX0_isReady_18 : decode cX0_isReady 18 = .ok (.putfield 82, 3) := by decide +kernel
theorem dX0_isReady_21 : decode cX0_isReady 21 = .ok (.iload_n 2, 1) := by decide +kernel
theorem dX0_isReady_22 : decode cX0_isReady 22 = .ok (.ifCond .eq 10, 3) := by decide +kernel
theorem dX0_isReady_25 : decode cX0_isReady 25 = .ok (.aload_n 1, 1) := by decide +kernel
theorem dX0_isReady_26 : decode cX0_isReady 26 = .ok (.getfield 89, 3) := by decide +kernel
theorem dX0_isReady_29 : decode cX0_isReady 29 = .ok (.ifCond .ne 17, 3) := by decide +kernel
theorem dX0_isReady_32 : decode cX0_isReady 32 = .ok (.aload_n 0, 1) := by decide +kernel
theorem dX0_isReady_33 : decode cX0_isReady 33 = .ok (.aload_n 1, 1) := by decide +kernel
theorem dX0_isReady_34 : decode cX0_isReady 34 = .ok (.iload_n 2, 1) := by decide +kernel
theorem dX0_isReady_35 : decode cX0_isReady 35 = .ok (.ifCond .eq 7, 3) := by decide +kernel
theorem dX0_isReady_38 : decode cX0_isReady 38 = .ok (.iconst 2, 1) := by decide +kernel
theorem dX0_isReady_39 : decode cX0_isReady 39 = .ok (.goto 4, 3) := by decide +kernel
theorem dX0_isReady_42 : decode cX0_isReady 42 = .ok (.iconst 1, 1) := by decide +kernel
theorem dX0_isReady_43 : decode cX0_isReady 43 = .ok (.invokevirtual 92, 3) := by decide +kernel
theorem dX0_isReady_46 : decode cX0_isReady 46 = .ok (.aload_n 1, 1) := by decide +kernel
theorem dX0_isReady_47 : decode cX0_isReady 47 = .ok (.getfield 82, 3) := by decide +kernel
theorem dX0_isReady_50 : decode cX0_isReady 50 = .ok (.iconst 1, 1) := by decide +kernel
theorem dX0_isReady_51 : decode cX0_isReady 51 = .ok (.if_icmp .ne 7, 3) := by decide +kernel
theorem dX0_isReady_54 : decode cX0_isReady 54 = .ok (.iconst 1, 1) := by decide +kernel
theorem dX0_isReady_55 : decode cX0_isReady 55 = .ok (.goto 4, 3) := by decide +kernel
theorem dX0_isReady_58 : decode cX0_isReady 58 = .ok (.iconst 0, 1) := by decide +kernel
theorem dX0_isReady_59 : decode cX0_isReady 59 = .ok (.ireturn, 1) := by decide +kernel
theorem dX7_work_0 : decode cX7_work 0 = .ok (.iload_n 1, 1) := by decide +kernel
theorem dX7_work_1 : decode cX7_work 1 = .ok (.ifCond .eq 10, 3) := by decide +kernel
theorem dX7_work_4 : decode cX7_work 4 = .ok (.aload_n 0, 1) := by decide +kernel
theorem dX7_work_5 : decode cX7_work 5 = .ok (.getfield 15, 3) := by decide +kernel
theorem dX7_work_8 : decode cX7_work 8 = .ok (.goto 7, 3) := by decide +kernel
theorem dX7_work_11 : decode cX7_work 11 = .ok (.aload_n 0, 1) := by decide +kernel
theorem dX7_work_12 : decode cX7_work 12 = .ok (.getfield 22, 3) := by decide +kernel
theorem dX7_work_15 : decode cX7_work 15 = .ok (.astore 5, 2) := by decide +kernel
theorem dX7_work_17 : decode cX7_work 17 = .ok (.iload_n 1, 1) := by decide +kernel
theorem dX7_work_18 : decode cX7_work 18 = .ok (.ifCond .eq 10, 3) := by decide +kernel
theorem dX7_work_21 : decode cX7_work 21 = .ok (.aload_n 0, 1) := by decide +kernel
theorem dX7_work_22 : decode cX7_work 22 = .ok (.getfield 19, 3) := by decide +kernel
theorem dX7_work_25 : decode cX7_work 25 = .ok (.goto 7, 3) := by decide +kernel
theorem dX7_work_28 : decode cX7_work 28 = .ok (.aload_n 0, 1) := by decide +kernel
theorem dX7_work_29 : decode cX7_work 29 = .ok (.getfield 25, 3) := by decide +kernel
theorem dX7_work_32 : decode cX7_work 32 = .ok (.astore 6, 2) := by decide +kernel
theorem dX7_work_34 : decode cX7_work 34 = .ok (.iconst 0, 1) := by decide +kernel
theorem dX7_work_35 : decode cX7_work 35 = .ok (.istore 7, 2) := by decide +kernel
theorem dX7_work_37 : decode cX7_work 37 = .ok (.iconst 0, 1) := by decide +kernel
theorem dX7_work_38 : decode cX7_work 38 = .ok (.istore 8, 2) := by decide +kernel
theorem dX7_work_40 : decode cX7_work 40 = .ok (.iload 8, 2) := by decide +kernel
theorem dX7_work_42 : decode cX7_work 42 = .ok (.aload 5, 2) := by decide +kernel
theorem dX7_work_44 : decode cX7_work 44 = .ok (.arraylength, 1) := by decide +kernel
theorem dX7_work_45 : decode cX7_work 45 = .ok (.if_icmp .ge 458, 3) := by decide +kernel
theorem dX7_work_48 : decode cX7_work 48 = .ok (.iload 8, 2) := by decide +kernel
theorem dX7_work_50 : decode cX7_work 50 = .ok (.aload 6, 2) := by decide +kernel
theorem dX7_work_52 : decode cX7_work 52 = .ok (.arraylength, 1) := by decide +kernel
theorem dX7_work_53 : decode cX7_work 53 = .ok (.if_icmp .ge 450, 3) := by decide +kernel
theorem dX7_work_56 : decode cX7_work 56 = .ok (.aload 5, 2) := by decide +kernel
theorem dX7_work_58 : decode cX7_work 58 = .ok (.iload 8, 2) := by decide +kernel
theorem dX7_work_60 : decode cX7_work 60 = .ok (.iaload, 1) := by decide +kernel
theorem dX7_work_61 : decode cX7_work 61 = .ok (.istore 9, 2) := by decide +kernel
theorem dX7_work_63 : decode cX7_work 63 = .ok (.iload 9, 2) := by decide +kernel
theorem dX7_work_65 : decode cX7_work 65 = .ok (.bipush 110, 2) := by decide +kernel
theorem dX7_work_67 : decode cX7_work 67 = .ok (.if_icmp .eq 24, 3) := by decide +kernel
theorem dX7_work_70 : decode cX7_work 70 = .ok (.iload 9, 2) := by decide +kernel
theorem dX7_work_72 : decode cX7_work 72 = .ok (.bipush 118, 2) := by decide +kernel
theorem dX7_work_74 : decode cX7_work 74 = .ok (.if_icmp .eq 17, 3) := by decide +kernel
theorem dX7_work_77 : decode cX7_work 77 = .ok (.iload 9, 2) := by decide +kernel
theorem dX7_work_79 : decode cX7_work 79 = .ok (.bipush 97, 2) := by decide +kernel
theorem dX7_work_81 : decode cX7_work 81 = .ok (.if_icmp .eq 10, 3) := by decide +kernel
theorem dX7_work_84 : decode cX7_work 84 = .ok (.iload 9, 2) := by decide +kernel
theorem dX7_work_86 : decode cX7_work 86 = .ok (.bipush 98, 2) := by decide +kernel
theorem dX7_work_88 : decode cX7_work 88 = .ok (.if_icmp .ne 64, 3) := by decide +kernel
theorem dX7_work_91 : decode cX7_work 91 = .ok (.iload 7, 2) := by decide +kernel
theorem dX7_work_93 : decode cX7_work 93 = .ok (.bipush 16, 2) := by decide +kernel
theorem dX7_work_95 : decode cX7_work 95 = .ok (.if_icmp .lt 5, 3) := by decide +kernel
theorem dX7_work_98 : decode cX7_work 98 = .ok (.iconst 0, 1) := by decide +kernel
theorem dX7_work_99 : decode cX7_work 99 = .ok (.ireturn, 1) := by decide +kernel
theorem dX7_work_100 : decode cX7_work 100 = .ok (.aload_n 0, 1) := by decide +kernel
theorem dX7_work_101 : decode cX7_work 101 = .ok (.getfield 28, 3) := by decide +kernel
theorem dX7_work_104 : decode cX7_work 104 = .ok (.iload 7, 2) := by decide +kernel
theorem dX7_work_106 : decode cX7_work 106 = .ok (.iload 9, 2) := by decide +kernel
theorem dX7_work_108 : decode cX7_work 108 = .ok (.bipush 110, 2) := by decide +kernel
theorem dX7_work_110 : decode cX7_work 110 = .ok (.if_icmp .ne 11, 3) := by decide +kernel
theorem dX7_work_113 : decode cX7_work 113 = .ok (.aload 6, 2) := by decide +kernel
theorem dX7_work_115 : decode cX7_work 115 = .ok (.iload 8, 2) := by decide +kernel
theorem dX7_work_117 : decode cX7_work 117 = .ok (.iaload, 1) := by decide +kernel
theorem dX7_work_118 : decode cX7_work 118 = .ok (.goto 27, 3) := by decide +kernel
theorem dX7_work_121 : decode cX7_work 121 = .ok (.iload 9, 2) := by decide +kernel
theorem dX7_work_123 : decode cX7_work 123 = .ok (.bipush 118, 2) := by decide +kernel
theorem dX7_work_125 : decode cX7_work 125 = .ok (.if_icmp .ne 7, 3) := by decide +kernel
theorem dX7_work_128 : decode cX7_work 128 = .ok (.iload_n 2, 1) := by decide +kernel
theorem dX7_work_129 : decode cX7_work 129 = .ok (.goto 16, 3) := by decide +kernel
theorem dX7_work_132 : decode cX7_work 132 = .ok (.iload 9, 2) := by decide +kernel
theorem dX7_work_134 : decode cX7_work 134 = .ok (.bipush 97, 2) := by decide +kernel
theorem dX7_work_136 : decode cX7_work 136 = .ok (.if_icmp .ne 7, 3) := by decide +kernel
theorem dX7_work_139 : decode cX7_work 139 = .ok (.iload_n 3, 1) := by decide +kernel
theorem dX7_work_140 : decode cX7_work 140 = .ok (.goto 5, 3) := by decide +kernel
theorem dX7_work_143 : decode cX7_work 143 = .ok (.iload 4, 2) := by decide +kernel
theorem dX7_work_145 : decode cX7_work 145 = .ok (.iastore, 1) := by decide +kernel
theorem dX7_work_146 : decode cX7_work 146 = .ok (.iinc 7 1, 3) := by decide +kernel
theorem dX7_work_149 : decode cX7_work 149 = .ok (.goto 348, 3) := by decide +kernel
theorem dX7_work_152 : decode cX7_work 152 = .ok (.iload 9, 2) := by decide +kernel
theorem dX7_work_154 : decode cX7_work 154 = .ok (.bipush 126, 2) := by decide +kernel
theorem dX7_work_156 : decode cX7_work 156 = .ok (.if_icmp .ne 40, 3) := by decide +kernel
theorem dX7_work_159 : decode cX7_work 159 = .ok (.iload 7, 2) := by decide +kernel
theorem dX7_work_161 : decode cX7_work 161 = .ok (.iconst 1, 1) := by decide +kernel
theorem dX7_work_162 : decode cX7_work 162 = .ok (.if_icmp .ge 5, 3) := by decide +kernel
theorem dX7_work_165 : decode cX7_work 165 = .ok (.iconst 0, 1) := by decide +kernel
theorem dX7_work_166 : decode cX7_work 166 = .ok (.ireturn, 1) := by decide +kernel
theorem dX7_work_167 : decode cX7_work 167 = .ok (.aload_n 0, 1) := by decide +kernel
theorem dX7_work_168 : decode cX7_work 168 = .ok (.getfield 28, 3) := by decide +kernel
theorem dX7_work_171 : decode cX7_work 171 = .ok (.iload 7, 2) := by decide +kernel
theorem dX7_work_173 : decode cX7_work 173 = .ok (.iconst 1, 1) := by decide +kernel
theorem dX7_work_174 : decode cX7_work 174 = .ok (.isub, 1) := by decide +kernel
theorem dX7_work_175 : decode cX7_work 175 = .ok (.aload_n 0, 1) := by decide +kernel
theorem dX7_work_176 : decode cX7_work 176 = .ok (.getfield 28, 3) := by decide +kernel
theorem dX7_work_179 : decode cX7_work 179 = .ok (.iload 7, 2) := by decide +kernel
theorem dX7_work_181 : decode cX7_work 181 = .ok (.iconst 1, 1) := by decide +kernel
theorem dX7_work_182 : decode cX7_work 182 = .ok (.isub, 1) := by decide +kernel
theorem dX7_work_183 : decode cX7_work 183 = .ok (.iaload, 1) := by decide +kernel
theorem dX7_work_184 : decode cX7_work 184 = .ok (.ifCond .ne 7, 3) := by decide +kernel
theorem dX7_work_187 : decode cX7_work 187 = .ok (.iconst 1, 1) := by decide +kernel
theorem dX7_work_188 : decode cX7_work 188 = .ok (.goto 4, 3) := by decide +kernel
theorem dX7_work_191 : decode cX7_work 191 = .ok (.iconst 0, 1) := by decide +kernel
theorem dX7_work_192 : decode cX7_work 192 = .ok (.iastore, 1) := by decide +kernel
theorem dX7_work_193 : decode cX7_work 193 = .ok (.goto 304, 3) := by decide +kernel
theorem dX7_work_196 : decode cX7_work 196 = .ok (.iload 7, 2) := by decide +kernel
theorem dX7_work_198 : decode cX7_work 198 = .ok (.iconst 2, 1) := by decide +kernel
theorem dX7_work_199 : decode cX7_work 199 = .ok (.if_icmp .ge 5, 3) := by decide +kernel
theorem dX7_work_202 : decode cX7_work 202 = .ok (.iconst 0, 1) := by decide +kernel
theorem dX7_work_203 : decode cX7_work 203 = .ok (.ireturn, 1) := by decide +kernel
theorem dX7_work_204 : decode cX7_work 204 = .ok (.iinc 7 (-1), 3) := by decide +kernel
theorem dX7_work_207 : decode cX7_work 207 = .ok (.aload_n 0, 1) := by decide +kernel
theorem dX7_work_208 : decode cX7_work 208 = .ok (.getfield 28, 3) := by decide +kernel
theorem dX7_work_211 : decode cX7_work 211 = .ok (.iload 7, 2) := by decide +kernel
theorem dX7_work_213 : decode cX7_work 213 = .ok (.iaload, 1) := by decide +kernel
theorem dX7_work_214 : decode cX7_work 214 = .ok (.istore 10, 2) := by decide +kernel
theorem dX7_work_216 : decode cX7_work 216 = .ok (.iload 10, 2) := by decide +kernel
theorem dX7_work_218 : decode cX7_work 218 = .ok (.ifCond .ne 19, 3) := by decide +kernel
theorem dX7_work_221 : decode cX7_work 221 = .ok (.iload 9, 2) := by decide +kernel
theorem dX7_work_223 : decode cX7_work 223 = .ok (.bipush 47, 2) := by decide +kernel
theorem dX7_work_225 : decode cX7_work 225 = .ok (.if_icmp .eq 10, 3) := by decide +kernel
theorem dX7_work_228 : decode cX7_work 228 = .ok (.iload 9, 2) := by decide +kernel
theorem dX7_work_230 : decode cX7_work 230 = .ok (.bipush 37, 2) := by decide +kernel
theorem dX7_work_232 : decode cX7_work 232 = .ok (.if_icmp .ne 5, 3) := by decide +kernel
theorem dX7_work_235 : decode cX7_work 235 = .ok (.iconst 0, 1) := by decide +kernel
theorem dX7_work_236 : decode cX7_work 236 = .ok (.ireturn, 1) := by decide +kernel
theorem dX7_work_237 : decode cX7_work 237 = .ok (.aload_n 0, 1) := by decide +kernel
theorem dX7_work_238 : decode cX7_work 238 = .ok (.getfield 28, 3) := by decide +kernel
theorem dX7_work_241 : decode cX7_work 241 = .ok (.iload 7, 2) := by decide +kernel
theorem dX7_work_243 : decode cX7_work 243 = .ok (.iconst 1, 1) := by decide +kernel
theorem dX7_work_244 : decode cX7_work 244 = .ok (.isub, 1) := by decide +kernel
theorem dX7_work_245 : decode cX7_work 245 = .ok (.iaload, 1) := by decide +kernel
theorem dX7_work_246 : decode cX7_work 246 = .ok (.istore 11, 2) := by decide +kernel
theorem dX7_work_248 : decode cX7_work 248 = .ok (.iload 9, 2) := by decide +kernel
theorem dX7_work_250 : decode cX7_work 250 = .ok (.tableswitch 229 37 62 #[158, 219, 229, 229, 229, 138, 118, 229, 128, 229, 148, 229, 229, 229, 229, 229, 229, 229, 229, 229, 229, 229, 229, 168, 202, 185], 118) := by decide +kernel
theorem dX7_work_368 : decode cX7_work 368 = .ok (.iload 11, 2) := by decide +kernel
theorem dX7_work_370 : decode cX7_work 370 = .ok (.iload 10, 2) := by decide +kernel
theorem dX7_work_372 : decode cX7_work 372 = .ok (.iadd, 1) := by decide +kernel
theorem dX7_work_373 : decode cX7_work 373 = .ok (.istore 11, 2) := by decide +kernel
theorem dX7_work_375 : decode cX7_work 375 = .ok (.goto 111, 3) := by decide +kernel
theorem dX7_work_378 : decode cX7_work 378 = .ok (.iload 11, 2) := by decide +kernel
theorem dX7_work_380 : decode cX7_work 380 = .ok (.iload 10, 2) := by decide +kernel
theorem dX7_work_382 : decode cX7_work 382 = .ok (.isub, 1) := by decide +kernel
theorem dX7_work_383 : decode cX7_work 383 = .ok (.istore 11, 2) := by decide +kernel
theorem dX7_work_385 : decode cX7_work 385 = .ok (.goto 101, 3) := by decide +kernel
theorem dX7_work_388 : decode cX7_work 388 = .ok (.iload 11, 2) := by decide +kernel
theorem dX7_work_390 : decode cX7_work 390 = .ok (.iload 10, 2) := by decide +kernel
theorem dX7_work_392 : decode cX7_work 392 = .ok (.imul, 1) := by decide +kernel
theorem dX7_work_393 : decode cX7_work 393 = .ok (.istore 11, 2) := by decide +kernel
theorem dX7_work_395 : decode cX7_work 395 = .ok (.goto 91, 3) := by decide +kernel
theorem dX7_work_398 : decode cX7_work 398 = .ok (.iload 11, 2) := by decide +kernel
theorem dX7_work_400 : decode cX7_work 400 = .ok (.iload 10, 2) := by decide +kernel
theorem dX7_work_402 : decode cX7_work 402 = .ok (.idiv, 1) := by decide +kernel
theorem dX7_work_403 : decode cX7_work 403 = .ok (.istore 11, 2) := by decide +kernel
theorem dX7_work_405 : decode cX7_work 405 = .ok (.goto 81, 3) := by decide +kernel
theorem dX7_work_408 : decode cX7_work 408 = .ok (.iload 11, 2) := by decide +kernel
theorem dX7_work_410 : decode cX7_work 410 = .ok (.iload 10, 2) := by decide +kernel
theorem dX7_work_412 : decode cX7_work 412 = .ok (.irem, 1) := by decide +kernel
theorem dX7_work_413 : decode cX7_work 413 = .ok (.istore 11, 2) := by decide +kernel
theorem dX7_work_415 : decode cX7_work 415 = .ok (.goto 71, 3) := by decide +kernel
theorem dX7_work_418 : decode cX7_work 418 = .ok (.iload 11, 2) := by decide +kernel
theorem dX7_work_420 : decode cX7_work 420 = .ok (.iload 10, 2) := by decide +kernel
theorem dX7_work_422 : decode cX7_work 422 = .ok (.if_icmp .ge 7, 3) := by decide +kernel
theorem dX7_work_425 : decode cX7_work 425 = .ok (.iconst 1, 1) := by decide +kernel
theorem dX7_work_426 : decode cX7_work 426 = .ok (.goto 4, 3) := by decide +kernel
theorem dX7_work_429 : decode cX7_work 429 = .ok (.iconst 0, 1) := by decide +kernel
theorem dX7_work_430 : decode cX7_work 430 = .ok (.istore 11, 2) := by decide +kernel
theorem dX7_work_432 : decode cX7_work 432 = .ok (.goto 54, 3) := by decide +kernel
theorem dX7_work_435 : decode cX7_work 435 = .ok (.iload 11, 2) := by decide +kernel
theorem dX7_work_437 : decode cX7_work 437 = .ok (.iload 10, 2) := by decide +kernel
theorem dX7_work_439 : decode cX7_work 439 = .ok (.if_icmp .le 7, 3) := by decide +kernel
theorem dX7_work_442 : decode cX7_work 442 = .ok (.iconst 1, 1) := by decide +kernel
theorem dX7_work_443 : decode cX7_work 443 = .ok (.goto 4, 3) := by decide +kernel
theorem dX7_work_446 : decode cX7_work 446 = .ok (.iconst 0, 1) := by decide +kernel
theorem dX7_work_447 : decode cX7_work 447 = .ok (.istore 11, 2) := by decide +kernel
theorem dX7_work_449 : decode cX7_work 449 = .ok (.goto 37, 3) := by decide +kernel
theorem dX7_work_452 : decode cX7_work 452 = .ok (.iload 11, 2) := by decide +kernel
theorem dX7_work_454 : decode cX7_work 454 = .ok (.iload 10, 2) := by decide +kernel
theorem dX7_work_456 : decode cX7_work 456 = .ok (.if_icmp .ne 7, 3) := by decide +kernel
theorem dX7_work_459 : decode cX7_work 459 = .ok (.iconst 1, 1) := by decide +kernel
theorem dX7_work_460 : decode cX7_work 460 = .ok (.goto 4, 3) := by decide +kernel
theorem dX7_work_463 : decode cX7_work 463 = .ok (.iconst 0, 1) := by decide +kernel
theorem dX7_work_464 : decode cX7_work 464 = .ok (.istore 11, 2) := by decide +kernel
theorem dX7_work_466 : decode cX7_work 466 = .ok (.goto 20, 3) := by decide +kernel
theorem dX7_work_469 : decode cX7_work 469 = .ok (.iload 11, 2) := by decide +kernel
theorem dX7_work_471 : decode cX7_work 471 = .ok (.iload 10, 2) := by decide +kernel
theorem dX7_work_473 : decode cX7_work 473 = .ok (.iand, 1) := by decide +kernel
theorem dX7_work_474 : decode cX7_work 474 = .ok (.istore 11, 2) := by decide +kernel
theorem dX7_work_476 : decode cX7_work 476 = .ok (.goto 10, 3) := by decide +kernel
theorem dX7_work_479 : decode cX7_work 479 = .ok (.iload 11, 2) := by decide +kernel
theorem dX7_work_481 : decode cX7_work 481 = .ok (.iload 10, 2) := by decide +kernel
theorem dX7_work_483 : decode cX7_work 483 = .ok (.ior, 1) := by decide +kernel
theorem dX7_work_484 : decode cX7_work 484 = .ok (.istore 11, 2) := by decide +kernel
theorem dX7_work_486 : decode cX7_work 486 = .ok (.aload_n 0, 1) := by decide +kernel
theorem dX7_work_487 : decode cX7_work 487 = .ok (.getfield 28, 3) := by decide +kernel
theorem dX7_work_490 : decode cX7_work 490 = .ok (.iload 7, 2) := by decide +kernel
theorem dX7_work_492 : decode cX7_work 492 = .ok (.iconst 1, 1) := by decide +kernel
theorem dX7_work_493 : decode cX7_work 493 = .ok (.isub, 1) := by decide +kernel
theorem dX7_work_494 : decode cX7_work 494 = .ok (.iload 11, 2) := by decide +kernel
theorem dX7_work_496 : decode cX7_work 496 = .ok (.iastore, 1) := by decide +kernel
theorem dX7_work_497 : decode cX7_work 497 = .ok (.iinc 8 1, 3) := by decide +kernel
theorem dX7_work_500 : decode cX7_work 500 = .ok (.goto (-460), 3) := by decide +kernel
theorem dX7_work_503 : decode cX7_work 503 = .ok (.aload_n 0, 1) := by decide +kernel
theorem dX7_work_504 : decode cX7_work 504 = .ok (.iload 7, 2) := by decide +kernel
theorem dX7_work_506 : decode cX7_work 506 = .ok (.ifCond .ne 7, 3) := by decide +kernel
theorem dX7_work_509 : decode cX7_work 509 = .ok (.iconst 1, 1) := by decide +kernel
theorem dX7_work_510 : decode cX7_work 510 = .ok (.goto 12, 3) := by decide +kernel
theorem dX7_work_513 : decode cX7_work 513 = .ok (.aload_n 0, 1) := by decide +kernel
theorem dX7_work_514 : decode cX7_work 514 = .ok (.getfield 28, 3) := by decide +kernel
theorem dX7_work_517 : decode cX7_work 517 = .ok (.iload 7, 2) := by decide +kernel
theorem dX7_work_519 : decode cX7_work 519 = .ok (.iconst 1, 1) := by decide +kernel
theorem dX7_work_520 : decode cX7_work 520 = .ok (.isub, 1) := by decide +kernel
theorem dX7_work_521 : decode cX7_work 521 = .ok (.iaload, 1) := by decide +kernel
theorem dX7_work_522 : decode cX7_work 522 = .ok (.putfield 31, 3) := by decide +kernel
theorem dX7_work_525 : decode cX7_work 525 = .ok (.iconst 1, 1) := by decide +kernel
theorem dX7_work_526 : decode cX7_work 526 = .ok (.ireturn, 1) := by decide +kernel
theorem dX0_fail_0 : decode cX0_fail 0 = .ok (.aload_n 1, 1) := by decide +kernel
theorem dX0_fail_1 : decode cX0_fail 1 = .ok (.iconst 2, 1) := by decide +kernel
theorem dX0_fail_2 : decode cX0_fail 2 = .ok (.putfield 82, 3) := by decide +kernel
theorem dX0_fail_5 : decode cX0_fail 5 = .ok (.aload_n 1, 1) := by decide +kernel
theorem dX0_fail_6 : decode cX0_fail 6 = .ok (.iload_n 2, 1) := by decide +kernel
theorem dX0_fail_7 : decode cX0_fail 7 = .ok (.putfield 104, 3) := by decide +kernel
theorem dX0_fail_10 : decode cX0_fail 10 = .ok (.aload_n 0, 1) := by decide +kernel
theorem dX0_fail_11 : decode cX0_fail 11 = .ok (.getfield 18, 3) := by decide +kernel
theorem dX0_fail_14 : decode cX0_fail 14 = .ok (.aload_n 1, 1) := by decide +kernel
theorem dX0_fail_15 : decode cX0_fail 15 = .ok (.invokevirtual 107, 3) := by decide +kernel
theorem dX0_fail_18 : decode cX0_fail 18 = .ok (.pop, 1) := by decide +kernel
theorem dX0_fail_19 : decode cX0_fail 19 = .ok (.return_, 1) := by decide +kernel
theorem dX0_judge_0 : decode cX0_judge 0 = .ok (.aload_n 1, 1) := by decide +kernel
theorem dX0_judge_1 : decode cX0_judge 1 = .ok (.iconst 0, 1) := by decide +kernel
theorem dX0_judge_2 : decode cX0_judge 2 = .ok (.iload_n 2, 1) := by decide +kernel
theorem dX0_judge_3 : decode cX0_judge 3 = .ok (.aload_n 3, 1) := by decide +kernel
theorem dX0_judge_4 : decode cX0_judge 4 = .ok (.iconst 0, 1) := by decide +kernel
theorem dX0_judge_5 : decode cX0_judge 5 = .ok (.invokevirtual 96, 3) := by decide +kernel
theorem dX0_judge_8 : decode cX0_judge 8 = .ok (.aload_n 3, 1) := by decide +kernel
theorem dX0_judge_9 : decode cX0_judge 9 = .ok (.iconst 1, 1) := by decide +kernel
theorem dX0_judge_10 : decode cX0_judge 10 = .ok (.invokevirtual 96, 3) := by decide +kernel
theorem dX0_judge_13 : decode cX0_judge 13 = .ok (.invokevirtual 85, 3) := by decide +kernel
theorem dX0_judge_16 : decode cX0_judge 16 = .ok (.istore 4, 2) := by decide +kernel
theorem dX0_judge_18 : decode cX0_judge 18 = .ok (.iload 4, 2) := by decide +kernel
theorem dX0_judge_20 : decode cX0_judge 20 = .ok (.ifCond .ne 28, 3) := by decide +kernel
theorem dX0_judge_23 : decode cX0_judge 23 = .ok (.aload_n 1, 1) := by decide +kernel
theorem dX0_judge_24 : decode cX0_judge 24 = .ok (.dup, 1) := by decide +kernel
theorem dX0_judge_25 : decode cX0_judge 25 = .ok (.getfield 101, 3) := by decide +kernel
theorem dX0_judge_28 : decode cX0_judge 28 = .ok (.iconst 1, 1) := by decide +kernel
theorem dX0_judge_29 : decode cX0_judge 29 = .ok (.iadd, 1) := by decide +kernel
theorem dX0_judge_30 : decode cX0_judge 30 = .ok (.putfield 101, 3) := by decide +kernel
theorem dX0_judge_33 : decode cX0_judge 33 = .ok (.aload_n 1, 1) := by decide +kernel
theorem dX0_judge_34 : decode cX0_judge 34 = .ok (.getfield 101, 3) := by decide +kernel
theorem dX0_judge_37 : decode cX0_judge 37 = .ok (.bipush 20, 2) := by decide +kernel
theorem dX0_judge_39 : decode cX0_judge 39 = .ok (.if_icmp .lt 9, 3) := by decide +kernel
theorem dX0_judge_42 : decode cX0_judge 42 = .ok (.aload_n 0, 1) := by decide +kernel
theorem dX0_judge_43 : decode cX0_judge 43 = .ok (.aload_n 1, 1) := by decide +kernel
theorem dX0_judge_44 : decode cX0_judge 44 = .ok (.iconst 3, 1) := by decide +kernel
theorem dX0_judge_45 : decode cX0_judge 45 = .ok (.invokevirtual 92, 3) := by decide +kernel
theorem dX0_judge_48 : decode cX0_judge 48 = .ok (.iload 4, 2) := by decide +kernel
theorem dX0_judge_50 : decode cX0_judge 50 = .ok (.ireturn, 1) := by decide +kernel
theorem dX10_arg_0 : decode cX10_arg 0 = .ok (.aload_n 0, 1) := by decide +kernel
theorem dX10_arg_1 : decode cX10_arg 1 = .ok (.getfield 24, 3) := by decide +kernel
theorem dX10_arg_4 : decode cX10_arg 4 = .ok (.ifnull 33, 3) := by decide +kernel
theorem dX10_arg_7 : decode cX10_arg 7 = .ok (.iload_n 1, 1) := by decide +kernel
theorem dX10_arg_8 : decode cX10_arg 8 = .ok (.ifCond .lt 29, 3) := by decide +kernel
theorem dX10_arg_11 : decode cX10_arg 11 = .ok (.iload_n 1, 1) := by decide +kernel
theorem dX10_arg_12 : decode cX10_arg 12 = .ok (.aload_n 0, 1) := by decide +kernel
theorem dX10_arg_13 : decode cX10_arg 13 = .ok (.getfield 28, 3) := by decide +kernel
theorem dX10_arg_16 : decode cX10_arg 16 = .ok (.if_icmp .ge 21, 3) := by decide +kernel
theorem dX10_arg_19 : decode cX10_arg 19 = .ok (.iload_n 1, 1) := by decide +kernel
theorem dX10_arg_20 : decode cX10_arg 20 = .ok (.aload_n 0, 1) := by decide +kernel
theorem dX10_arg_21 : decode cX10_arg 21 = .ok (.getfield 24, 3) := by decide +kernel
theorem dX10_arg_24 : decode cX10_arg 24 = .ok (.arraylength, 1) := by decide +kernel
theorem dX10_arg_25 : decode cX10_arg 25 = .ok (.if_icmp .ge 12, 3) := by decide +kernel
theorem dX10_arg_28 : decode cX10_arg 28 = .ok (.aload_n 0, 1) := by decide +kernel
theorem dX10_arg_29 : decode cX10_arg 29 = .ok (.getfield 24, 3) := by decide +kernel
theorem dX10_arg_32 : decode cX10_arg 32 = .ok (.iload_n 1, 1) := by decide +kernel
theorem dX10_arg_33 : decode cX10_arg 33 = .ok (.iaload, 1) := by decide +kernel
theorem dX10_arg_34 : decode cX10_arg 34 = .ok (.goto 4, 3) := by decide +kernel
theorem dX10_arg_37 : decode cX10_arg 37 = .ok (.iconst 0, 1) := by decide +kernel
theorem dX10_arg_38 : decode cX10_arg 38 = .ok (.ireturn, 1) := by decide +kernel
theorem dX1_tell_0 : decode cX1_tell 0 = .ok (.aload_n 0, 1) := by decide +kernel
theorem dX1_tell_1 : decode cX1_tell 1 = .ok (.aload_n 0, 1) := by decide +kernel
theorem dX1_tell_2 : decode cX1_tell 2 = .ok (.getfield 56, 3) := by decide +kernel
theorem dX1_tell_5 : decode cX1_tell 5 = .ok (.ifCond .ne 10, 3) := by decide +kernel
theorem dX1_tell_8 : decode cX1_tell 8 = .ok (.aload_n 1, 1) := by decide +kernel
theorem dX1_tell_9 : decode cX1_tell 9 = .ok (.getfield 223, 3) := by decide +kernel
theorem dX1_tell_12 : decode cX1_tell 12 = .ok (.ifCond .ne 7, 3) := by decide +kernel
theorem dX1_tell_15 : decode cX1_tell 15 = .ok (.iconst 1, 1) := by decide +kernel
theorem dX1_tell_16 : decode cX1_tell 16 = .ok (.goto 4, 3) := by decide +kernel
theorem dX1_tell_19 : decode cX1_tell 19 = .ok (.iconst 0, 1) := by decide +kernel
theorem dX1_tell_20 : decode cX1_tell 20 = .ok (.putfield 56, 3) := by decide +kernel
theorem dX1_tell_23 : decode cX1_tell 23 = .ok (.aload_n 0, 1) := by decide +kernel
theorem dX1_tell_24 : decode cX1_tell 24 = .ok (.getfield 43, 3) := by decide +kernel
theorem dX1_tell_27 : decode cX1_tell 27 = .ok (.sipush 500, 3) := by decide +kernel
theorem dX1_tell_30 : decode cX1_tell 30 = .ok (.if_icmp .ge 179, 3) := by decide +kernel
theorem dX1_tell_33 : decode cX1_tell 33 = .ok (.aload_n 0, 1) := by decide +kernel
theorem dX1_tell_34 : decode cX1_tell 34 = .ok (.getfield 43, 3) := by decide +kernel
theorem dX1_tell_37 : decode cX1_tell 37 = .ok (.aload_n 0, 1) := by decide +kernel
theorem dX1_tell_38 : decode cX1_tell 38 = .ok (.getfield 18, 3) := by decide +kernel
theorem dX1_tell_41 : decode cX1_tell 41 = .ok (.invokevirtual 81, 3) := by decide +kernel
theorem dX1_tell_44 : decode cX1_tell 44 = .ok (.if_icmp .lt 18, 3) := by decide +kernel
theorem dX1_tell_47 : decode cX1_tell 47 = .ok (.aload_n 0, 1) := by decide +kernel
theorem dX1_tell_48 : decode cX1_tell 48 = .ok (.getfield 18, 3) := by decide +kernel
theorem dX1_tell_51 : decode cX1_tell 51 = .ok (.new 226, 3) := by decide +kernel
theorem dX1_tell_54 : decode cX1_tell 54 = .ok (.dup, 1) := by decide +kernel
theorem dX1_tell_55 : decode cX1_tell 55 = .ok (.invokespecial 228, 3) := by decide +kernel
theorem dX1_tell_58 : decode cX1_tell 58 = .ok (.invokevirtual 229, 3) := by decide +kernel
theorem dX1_tell_61 : decode cX1_tell 61 = .ok (.pop, 1) := by decide +kernel
theorem dX1_tell_62 : decode cX1_tell 62 = .ok (.aload_n 0, 1) := by decide +kernel
theorem dX1_tell_63 : decode cX1_tell 63 = .ok (.getfield 18, 3) := by decide +kernel
theorem dX1_tell_66 : decode cX1_tell 66 = .ok (.aload_n 0, 1) := by decide +kernel
theorem dX1_tell_67 : decode cX1_tell 67 = .ok (.getfield 43, 3) := by decide +kernel
theorem dX1_tell_70 : decode cX1_tell 70 = .ok (.invokevirtual 85, 3) := by decide +kernel
theorem dX1_tell_73 : decode cX1_tell 73 = .ok (.checkcast 226, 3) := by decide +kernel
theorem dX1_tell_76 : decode cX1_tell 76 = .ok (.astore 5, 2) := by decide +kernel
theorem dX1_tell_78 : decode cX1_tell 78 = .ok (.aload_n 0, 1) := by decide +kernel
theorem dX1_tell_79 : decode cX1_tell 79 = .ok (.getfield 9, 3) := by decide +kernel
theorem dX1_tell_82 : decode cX1_tell 82 = .ok (.aload_n 0, 1) := by decide +kernel
theorem dX1_tell_83 : decode cX1_tell 83 = .ok (.getfield 25, 3) := by decide +kernel
theorem dX1_tell_86 : decode cX1_tell 86 = .ok (.iload_n 2, 1) := by decide +kernel
theorem dX1_tell_87 : decode cX1_tell 87 = .ok (.iaload, 1) := by decide +kernel
theorem dX1_tell_88 : decode cX1_tell 88 = .ok (.invokevirtual 85, 3) := by decide +kernel
theorem dX1_tell_91 : decode cX1_tell 91 = .ok (.checkcast 116, 3) := by decide +kernel
theorem dX1_tell_94 : decode cX1_tell 94 = .ok (.astore 6, 2) := by decide +kernel
theorem dX1_tell_96 : decode cX1_tell 96 = .ok (.aload 5, 2) := by decide +kernel
theorem dX1_tell_98 : decode cX1_tell 98 = .ok (.aload_n 1, 1) := by decide +kernel
theorem dX1_tell_99 : decode cX1_tell 99 = .ok (.putfield 233, 3) := by decide +kernel
theorem dX1_tell_102 : decode cX1_tell 102 = .ok (.aload 5, 2) := by decide +kernel
theorem dX1_tell_104 : decode cX1_tell 104 = .ok (.iload_n 2, 1) := by decide +kernel
theorem dX1_tell_105 : decode cX1_tell 105 = .ok (.putfield 237, 3) := by decide +kernel
theorem dX1_tell_108 : decode cX1_tell 108 = .ok (.aload 5, 2) := by decide +kernel
theorem dX1_tell_110 : decode cX1_tell 110 = .ok (.aload_n 0, 1) := by decide +kernel
theorem dX1_tell_111 : decode cX1_tell 111 = .ok (.getfield 25, 3) := by decide +kernel
theorem dX1_tell_114 : decode cX1_tell 114 = .ok (.iload_n 2, 1) := by decide +kernel
theorem dX1_tell_115 : decode cX1_tell 115 = .ok (.iaload, 1) := by decide +kernel
theorem dX1_tell_116 : decode cX1_tell 116 = .ok (.putfield 240, 3) := by decide +kernel
theorem dX1_tell_119 : decode cX1_tell 119 = .ok (.aload 5, 2) := by decide +kernel
theorem dX1_tell_121 : decode cX1_tell 121 = .ok (.iload_n 3, 1) := by decide +kernel
theorem dX1_tell_122 : decode cX1_tell 122 = .ok (.putfield 243, 3) := by decide +kernel
theorem dX1_tell_125 : decode cX1_tell 125 = .ok (.aload 5, 2) := by decide +kernel
theorem dX1_tell_127 : decode cX1_tell 127 = .ok (.iload 4, 2) := by decide +kernel
theorem dX1_tell_129 : decode cX1_tell 129 = .ok (.putfield 246, 3) := by decide +kernel
theorem dX1_tell_132 : decode cX1_tell 132 = .ok (.aload 5, 2) := by decide +kernel
theorem dX1_tell_134 : decode cX1_tell 134 = .ok (.aload 6, 2) := by decide +kernel
theorem dX1_tell_136 : decode cX1_tell 136 = .ok (.iload_n 3, 1) := by decide +kernel
theorem dX1_tell_137 : decode cX1_tell 137 = .ok (.invokevirtual 249, 3) := by decide +kernel
theorem dX1_tell_140 : decode cX1_tell 140 = .ok (.putfield 252, 3) := by decide +kernel
theorem dX1_tell_143 : decode cX1_tell 143 = .ok (.aload 5, 2) := by decide +kernel
theorem dX1_tell_145 : decode cX1_tell 145 = .ok (.aload_n 1, 1) := by decide +kernel
theorem dX1_tell_146 : decode cX1_tell 146 = .ok (.invokevirtual 254, 3) := by decide +kernel
theorem dX1_tell_149 : decode cX1_tell 149 = .ok (.putfield 258, 3) := by decide +kernel
theorem dX1_tell_152 : decode cX1_tell 152 = .ok (.aload 5, 2) := by decide +kernel
theorem dX1_tell_154 : decode cX1_tell 154 = .ok (.aload 5, 2) := by decide +kernel
theorem dX1_tell_156 : decode cX1_tell 156 = .ok (.getfield 258, 3) := by decide +kernel
theorem dX1_tell_159 : decode cX1_tell 159 = .ok (.ifCond .eq 15, 3) := by decide +kernel
theorem dX1_tell_162 : decode cX1_tell 162 = .ok (.aload_n 1, 1) := by decide +kernel
theorem dX1_tell_163 : decode cX1_tell 163 = .ok (.aload 5, 2) := by decide +kernel
theorem dX1_tell_165 : decode cX1_tell 165 = .ok (.getfield 252, 3) := by decide +kernel
theorem dX1_tell_168 : decode cX1_tell 168 = .ok (.invokevirtual 261, 3) := by decide +kernel
theorem dX1_tell_171 : decode cX1_tell 171 = .ok (.goto 4, 3) := by decide +kernel
theorem dX1_tell_174 : decode cX1_tell 174 = .ok (.iconst 0, 1) := by decide +kernel
theorem dX1_tell_175 : decode cX1_tell 175 = .ok (.putfield 264, 3) := by decide +kernel
theorem dX1_tell_178 : decode cX1_tell 178 = .ok (.aload 5, 2) := by decide +kernel
theorem dX1_tell_180 : decode cX1_tell 180 = .ok (.aload 5, 2) := by decide +kernel
theorem dX1_tell_182 : decode cX1_tell 182 = .ok (.getfield 258, 3) := by decide +kernel
theorem dX1_tell_185 : decode cX1_tell 185 = .ok (.ifCond .eq 20, 3) := by decide +kernel
theorem dX1_tell_188 : decode cX1_tell 188 = .ok (.aload 6, 2) := by decide +kernel
theorem dX1_tell_190 : decode cX1_tell 190 = .ok (.iload_n 3, 1) := by decide +kernel
theorem dX1_tell_191 : decode cX1_tell 191 = .ok (.aload_n 0, 1) := by decide +kernel
theorem dX1_tell_192 : decode cX1_tell 192 = .ok (.getfield 73, 3) := by decide +kernel
theorem dX1_tell_195 : decode cX1_tell 195 = .ok (.invokevirtual 267, 3) := by decide +kernel
theorem dX1_tell_198 : decode cX1_tell 198 = .ok (.ifCond .eq 7, 3) := by decide +kernel
theorem dX1_tell_201 : decode cX1_tell 201 = .ok (.iconst 1, 1) := by decide +kernel
theorem dX1_tell_202 : decode cX1_tell 202 = .ok (.goto 4, 3) := by decide +kernel
theorem dX1_tell_205 : decode cX1_tell 205 = .ok (.iconst 0, 1) := by decide +kernel
theorem dX1_tell_206 : decode cX1_tell 206 = .ok (.putfield 271, 3) := by decide +kernel
theorem dX1_tell_209 : decode cX1_tell 209 = .ok (.aload_n 0, 1) := by decide +kernel
theorem dX1_tell_210 : decode cX1_tell 210 = .ok (.dup, 1) := by decide +kernel
theorem dX1_tell_211 : decode cX1_tell 211 = .ok (.getfield 43, 3) := by decide +kernel
theorem dX1_tell_214 : decode cX1_tell 214 = .ok (.iconst 1, 1) := by decide +kernel
theorem dX1_tell_215 : decode cX1_tell 215 = .ok (.iadd, 1) := by decide +kernel
theorem dX1_tell_216 : decode cX1_tell 216 = .ok (.putfield 43, 3) := by decide +kernel
theorem dX1_tell_219 : decode cX1_tell 219 = .ok (.return_, 1) := by decide +kernel
theorem dX2_init_0 : decode cX2_init 0 = .ok (.aload_n 0, 1) := by decide +kernel
theorem dX2_init_1 : decode cX2_init 1 = .ok (.invokespecial 1, 3) := by decide +kernel
theorem dX2_init_4 : decode cX2_init 4 = .ok (.return_, 1) := by decide +kernel
theorem dX5_shown_0 : decode cX5_shown 0 = .ok (.iload_n 1, 1) := by decide +kernel
theorem dX5_shown_1 : decode cX5_shown 1 = .ok (.ifCond .lt 12, 3) := by decide +kernel
theorem dX5_shown_4 : decode cX5_shown 4 = .ok (.iload_n 1, 1) := by decide +kernel
theorem dX5_shown_5 : decode cX5_shown 5 = .ok (.aload_n 0, 1) := by decide +kernel
theorem dX5_shown_6 : decode cX5_shown 6 = .ok (.getfield 27, 3) := by decide +kernel
theorem dX5_shown_9 : decode cX5_shown 9 = .ok (.arraylength, 1) := by decide +kernel
theorem dX5_shown_10 : decode cX5_shown 10 = .ok (.if_icmp .lt 5, 3) := by decide +kernel
theorem dX5_shown_13 : decode cX5_shown 13 = .ok (.iconst 0, 1) := by decide +kernel
theorem dX5_shown_14 : decode cX5_shown 14 = .ok (.ireturn, 1) := by decide +kernel
theorem dX5_shown_15 : decode cX5_shown 15 = .ok (.aload_n 0, 1) := by decide +kernel
theorem dX5_shown_16 : decode cX5_shown 16 = .ok (.getfield 9, 3) := by decide +kernel
theorem dX5_shown_19 : decode cX5_shown 19 = .ok (.getfield 15, 3) := by decide +kernel
theorem dX5_shown_22 : decode cX5_shown 22 = .ok (.iload_n 1, 1) := by decide +kernel
theorem dX5_shown_23 : decode cX5_shown 23 = .ok (.invokevirtual 43, 3) := by decide +kernel
theorem dX5_shown_26 : decode cX5_shown 26 = .ok (.checkcast 47, 3) := by decide +kernel
theorem dX5_shown_29 : decode cX5_shown 29 = .ok (.getfield 49, 3) := by decide +kernel
theorem dX5_shown_32 : decode cX5_shown 32 = .ok (.iconst 3, 1) := by decide +kernel
theorem dX5_shown_33 : decode cX5_shown 33 = .ok (.if_icmp .ne 18, 3) := by decide +kernel
theorem dX5_shown_36 : decode cX5_shown 36 = .ok (.aload_n 0, 1) := by decide +kernel
theorem dX5_shown_37 : decode cX5_shown 37 = .ok (.getfield 31, 3) := by decide +kernel
theorem dX5_shown_40 : decode cX5_shown 40 = .ok (.iload_n 1, 1) := by decide +kernel
theorem dX5_shown_41 : decode cX5_shown 41 = .ok (.baload, 1) := by decide +kernel
theorem dX5_shown_42 : decode cX5_shown 42 = .ok (.ifCond .eq 7, 3) := by decide +kernel
theorem dX5_shown_45 : decode cX5_shown 45 = .ok (.iconst 1, 1) := by decide +kernel
theorem dX5_shown_46 : decode cX5_shown 46 = .ok (.goto 4, 3) := by decide +kernel
theorem dX5_shown_49 : decode cX5_shown 49 = .ok (.iconst 0, 1) := by decide +kernel
theorem dX5_shown_50 : decode cX5_shown 50 = .ok (.ireturn, 1) := by decide +kernel
theorem dX5_shown_51 : decode cX5_shown 51 = .ok (.aload_n 0, 1) := by decide +kernel
theorem dX5_shown_52 : decode cX5_shown 52 = .ok (.getfield 27, 3) := by decide +kernel
theorem dX5_shown_55 : decode cX5_shown 55 = .ok (.iload_n 1, 1) := by decide +kernel
theorem dX5_shown_56 : decode cX5_shown 56 = .ok (.iaload, 1) := by decide +kernel
theorem dX5_shown_57 : decode cX5_shown 57 = .ok (.ireturn, 1) := by decide +kernel
theorem dX10_proposes_0 : decode cX10_proposes 0 = .ok (.aload_n 0, 1) := by decide +kernel
theorem dX10_proposes_1 : decode cX10_proposes 1 = .ok (.getfield 9, 3) := by decide +kernel
theorem dX10_proposes_4 : decode cX10_proposes 4 = .ok (.iconst 3, 1) := by decide +kernel
theorem dX10_proposes_5 : decode cX10_proposes 5 = .ok (.if_icmp .eq 20, 3) := by decide +kernel
theorem dX10_proposes_8 : decode cX10_proposes 8 = .ok (.aload_n 0, 1) := by decide +kernel
theorem dX10_proposes_9 : decode cX10_proposes 9 = .ok (.getfield 9, 3) := by decide +kernel
theorem dX10_proposes_12 : decode cX10_proposes 12 = .ok (.iconst 4, 1) := by decide +kernel
theorem dX10_proposes_13 : decode cX10_proposes 13 = .ok (.if_icmp .eq 12, 3) := by decide +kernel
theorem dX10_proposes_16 : decode cX10_proposes 16 = .ok (.aload_n 0, 1) := by decide +kernel
theorem dX10_proposes_17 : decode cX10_proposes 17 = .ok (.getfield 9, 3) := by decide +kernel
theorem dX10_proposes_20 : decode cX10_proposes 20 = .ok (.bipush 6, 2) := by decide +kernel
theorem dX10_proposes_22 : decode cX10_proposes 22 = .ok (.if_icmp .ne 7, 3) := by decide +kernel
theorem dX10_proposes_25 : decode cX10_proposes 25 = .ok (.iconst 1, 1) := by decide +kernel
theorem dX10_proposes_26 : decode cX10_proposes 26 = .ok (.goto 4, 3) := by decide +kernel
theorem dX10_proposes_29 : decode cX10_proposes 29 = .ok (.iconst 0, 1) := by decide +kernel
theorem dX10_proposes_30 : decode cX10_proposes 30 = .ok (.ireturn, 1) := by decide +kernel
theorem dX10_nearest_0 : decode cX10_nearest 0 = .ok (.aload_n 0, 1) := by decide +kernel
theorem dX10_nearest_1 : decode cX10_nearest 1 = .ok (.getfield 24, 3) := by decide +kernel
theorem dX10_nearest_4 : decode cX10_nearest 4 = .ok (.ifnull 23, 3) := by decide +kernel
theorem dX10_nearest_7 : decode cX10_nearest 7 = .ok (.aload_n 0, 1) := by decide +kernel
theorem dX10_nearest_8 : decode cX10_nearest 8 = .ok (.getfield 28, 3) := by decide +kernel
theorem dX10_nearest_11 : decode cX10_nearest 11 = .ok (.iconst 1, 1) := by decide +kernel
theorem dX10_nearest_12 : decode cX10_nearest 12 = .ok (.if_icmp .lt 15, 3) := by decide +kernel
theorem dX10_nearest_15 : decode cX10_nearest 15 = .ok (.aload_n 0, 1) := by decide +kernel
theorem dX10_nearest_16 : decode cX10_nearest 16 = .ok (.getfield 28, 3) := by decide +kernel
theorem dX10_nearest_19 : decode cX10_nearest 19 = .ok (.aload_n 0, 1) := by decide +kernel
theorem dX10_nearest_20 : decode cX10_nearest 20 = .ok (.getfield 24, 3) := by decide +kernel
theorem dX10_nearest_23 : decode cX10_nearest 23 = .ok (.arraylength, 1) := by decide +kernel
theorem dX10_nearest_24 : decode cX10_nearest 24 = .ok (.if_icmp .le 5, 3) := by decide +kernel
theorem dX10_nearest_27 : decode cX10_nearest 27 = .ok (.iconst 0, 1) := by decide +kernel
theorem dX10_nearest_28 : decode cX10_nearest 28 = .ok (.ireturn, 1) := by decide +kernel
theorem dX10_nearest_29 : decode cX10_nearest 29 = .ok (.aload_n 0, 1) := by decide +kernel
theorem dX10_nearest_30 : decode cX10_nearest 30 = .ok (.getfield 24, 3) := by decide +kernel
theorem dX10_nearest_33 : decode cX10_nearest 33 = .ok (.iconst 0, 1) := by decide +kernel
theorem dX10_nearest_34 : decode cX10_nearest 34 = .ok (.iaload, 1) := by decide +kernel
theorem dX10_nearest_35 : decode cX10_nearest 35 = .ok (.istore_n 2, 1) := by decide +kernel
theorem dX10_nearest_36 : decode cX10_nearest 36 = .ok (.iconst 1, 1) := by decide +kernel
theorem dX10_nearest_37 : decode cX10_nearest 37 = .ok (.istore_n 3, 1) := by decide +kernel
theorem dX10_nearest_38 : decode cX10_nearest 38 = .ok (.iload_n 3, 1) := by decide +kernel
theorem dX10_nearest_39 : decode cX10_nearest 39 = .ok (.aload_n 0, 1) := by decide +kernel
theorem dX10_nearest_40 : decode cX10_nearest 40 = .ok (.getfield 28, 3) := by decide +kernel
theorem dX10_nearest_43 : decode cX10_nearest 43 = .ok (.if_icmp .ge 67, 3) := by decide +kernel
theorem dX10_nearest_46 : decode cX10_nearest 46 = .ok (.aload_n 0, 1) := by decide +kernel
theorem dX10_nearest_47 : decode cX10_nearest 47 = .ok (.getfield 24, 3) := by decide +kernel
theorem dX10_nearest_50 : decode cX10_nearest 50 = .ok (.iload_n 3, 1) := by decide +kernel
theorem dX10_nearest_51 : decode cX10_nearest 51 = .ok (.iaload, 1) := by decide +kernel
theorem dX10_nearest_52 : decode cX10_nearest 52 = .ok (.i2l, 1) := by decide +kernel
theorem dX10_nearest_53 : decode cX10_nearest 53 = .ok (.iload_n 1, 1) := by decide +kernel
theorem dX10_nearest_54 : decode cX10_nearest 54 = .ok (.i2l, 1) := by decide +kernel
theorem dX10_nearest_55 : decode cX10_nearest 55 = .ok (.lsub, 1) := by decide +kernel
theorem dX10_nearest_56 : decode cX10_nearest 56 = .ok (.invokestatic 46, 3) := by decide +kernel
theorem dX10_nearest_59 : decode cX10_nearest 59 = .ok (.lstore 4, 2) := by decide +kernel
theorem dX10_nearest_61 : decode cX10_nearest 61 = .ok (.iload_n 2, 1) := by decide +kernel
theorem dX10_nearest_62 : decode cX10_nearest 62 = .ok (.i2l, 1) := by decide +kernel
theorem dX10_nearest_63 : decode cX10_nearest 63 = .ok (.iload_n 1, 1) := by decide +kernel
theorem dX10_nearest_64 : decode cX10_nearest 64 = .ok (.i2l, 1) := by decide +kernel
theorem dX10_nearest_65 : decode cX10_nearest 65 = .ok (.lsub, 1) := by decide +kernel
theorem dX10_nearest_66 : decode cX10_nearest 66 = .ok (.invokestatic 46, 3) := by decide +kernel
theorem dX10_nearest_69 : decode cX10_nearest 69 = .ok (.lstore 6, 2) := by decide +kernel
theorem dX10_nearest_71 : decode cX10_nearest 71 = .ok (.lload 4, 2) := by decide +kernel
theorem dX10_nearest_73 : decode cX10_nearest 73 = .ok (.lload 6, 2) := by decide +kernel
theorem dX10_nearest_75 : decode cX10_nearest 75 = .ok (.lcmp, 1) := by decide +kernel
theorem dX10_nearest_76 : decode cX10_nearest 76 = .ok (.ifCond .lt 21, 3) := by decide +kernel
theorem dX10_nearest_79 : decode cX10_nearest 79 = .ok (.lload 4, 2) := by decide +kernel
theorem dX10_nearest_81 : decode cX10_nearest 81 = .ok (.lload 6, 2) := by decide +kernel
theorem dX10_nearest_83 : decode cX10_nearest 83 = .ok (.lcmp, 1) := by decide +kernel
theorem dX10_nearest_84 : decode cX10_nearest 84 = .ok (.ifCond .ne 20, 3) := by decide +kernel
theorem dX10_nearest_87 : decode cX10_nearest 87 = .ok (.aload_n 0, 1) := by decide +kernel
theorem dX10_nearest_88 : decode cX10_nearest 88 = .ok (.getfield 24, 3) := by decide +kernel
theorem dX10_nearest_91 : decode cX10_nearest 91 = .ok (.iload_n 3, 1) := by decide +kernel
theorem dX10_nearest_92 : decode cX10_nearest 92 = .ok (.iaload, 1) := by decide +kernel
theorem dX10_nearest_93 : decode cX10_nearest 93 = .ok (.iload_n 2, 1) := by decide +kernel
theorem dX10_nearest_94 : decode cX10_nearest 94 = .ok (.if_icmp .ge 10, 3) := by decide +kernel
theorem dX10_nearest_97 : decode cX10_nearest 97 = .ok (.aload_n 0, 1) := by decide +kernel
theorem dX10_nearest_98 : decode cX10_nearest 98 = .ok (.getfield 24, 3) := by decide +kernel
theorem dX10_nearest_101 : decode cX10_nearest 101 = .ok (.iload_n 3, 1) := by decide +kernel
theorem dX10_nearest_102 : decode cX10_nearest 102 = .ok (.iaload, 1) := by decide +kernel
theorem dX10_nearest_103 : decode cX10_nearest 103 = .ok (.istore_n 2, 1) := by decide +kernel
theorem dX10_nearest_104 : decode cX10_nearest 104 = .ok (.iinc 3 1, 3) := by decide +kernel
theorem dX10_nearest_107 : decode cX10_nearest 107 = .ok (.goto (-69), 3) := by decide +kernel
theorem dX10_nearest_110 : decode cX10_nearest 110 = .ok (.iload_n 2, 1) := by decide +kernel
theorem dX10_nearest_111 : decode cX10_nearest 111 = .ok (.ireturn, 1) := by decide +kernel
theorem dX5_isFirstProposal_0 : decode cX5_isFirstProposal 0 = .ok (.iload_n 1, 1) := by decide +kernel
theorem dX5_isFirstProposal_1 : decode cX5_isFirstProposal 1 = .ok (.ifCond .lt 22, 3) := by decide +kernel
theorem dX5_isFirstProposal_4 : decode cX5_isFirstProposal 4 = .ok (.iload_n 1, 1) := by decide +kernel
theorem dX5_isFirstProposal_5 : decode cX5_isFirstProposal 5 = .ok (.aload_n 0, 1) := by decide +kernel
theorem dX5_isFirstProposal_6 : decode cX5_isFirstProposal 6 = .ok (.getfield 27, 3) := by decide +kernel
theorem dX5_isFirstProposal_9 : decode cX5_isFirstProposal 9 = .ok (.arraylength, 1) := by decide +kernel
theorem dX5_isFirstProposal_10 : decode cX5_isFirstProposal 10 = .ok (.if_icmp .ge 13, 3) := by decide +kernel
theorem dX5_isFirstProposal_13 : decode cX5_isFirstProposal 13 = .ok (.aload_n 0, 1) := by decide +kernel
theorem dX5_isFirstProposal_14 : decode cX5_isFirstProposal 14 = .ok (.getfield 40, 3) := by decide +kernel
theorem dX5_isFirstProposal_17 : decode cX5_isFirstProposal 17 = .ok (.iload_n 1, 1) := by decide +kernel
theorem dX5_isFirstProposal_18 : decode cX5_isFirstProposal 18 = .ok (.iaload, 1) := by decide +kernel
theorem dX5_isFirstProposal_19 : decode cX5_isFirstProposal 19 = .ok (.iload_n 2, 1) := by decide +kernel
theorem dX5_isFirstProposal_20 : decode cX5_isFirstProposal 20 = .ok (.if_icmp .ne 5, 3) := by decide +kernel
theorem dX5_isFirstProposal_23 : decode cX5_isFirstProposal 23 = .ok (.iconst 0, 1) := by decide +kernel
theorem dX5_isFirstProposal_24 : decode cX5_isFirstProposal 24 = .ok (.ireturn, 1) := by decide +kernel
theorem dX5_isFirstProposal_25 : decode cX5_isFirstProposal 25 = .ok (.aload_n 0, 1) := by decide +kernel
theorem dX5_isFirstProposal_26 : decode cX5_isFirstProposal 26 = .ok (.getfield 40, 3) := by decide +kernel
theorem dX5_isFirstProposal_29 : decode cX5_isFirstProposal 29 = .ok (.iload_n 1, 1) := by decide +kernel
theorem dX5_isFirstProposal_30 : decode cX5_isFirstProposal 30 = .ok (.iload_n 2, 1) := by decide +kernel
theorem dX5_isFirstProposal_31 : decode cX5_isFirstProposal 31 = .ok (.iastore, 1) := by decide +kernel
theorem dX5_isFirstProposal_32 : decode cX5_isFirstProposal 32 = .ok (.iconst 1, 1) := by decide +kernel
theorem dX5_isFirstProposal_33 : decode cX5_isFirstProposal 33 = .ok (.ireturn, 1) := by decide +kernel
theorem dX1_holds_0 : decode cX1_holds 0 = .ok (.aload_n 1, 1) := by decide +kernel
theorem dX1_holds_1 : decode cX1_holds 1 = .ok (.getfield 165, 3) := by decide +kernel
theorem dX1_holds_4 : decode cX1_holds 4 = .ok (.iconst 1, 1) := by decide +kernel
theorem dX1_holds_5 : decode cX1_holds 5 = .ok (.if_icmp .ne 34, 3) := by decide +kernel
theorem dX1_holds_8 : decode cX1_holds 8 = .ok (.aload_n 2, 1) := by decide +kernel
theorem dX1_holds_9 : decode cX1_holds 9 = .ok (.iload_n 3, 1) := by decide +kernel
theorem dX1_holds_10 : decode cX1_holds 10 = .ok (.invokevirtual 205, 3) := by decide +kernel
theorem dX1_holds_13 : decode cX1_holds 13 = .ok (.iconst 4, 1) := by decide +kernel
theorem dX1_holds_14 : decode cX1_holds 14 = .ok (.if_icmp .ne 19, 3) := by decide +kernel
theorem dX1_holds_17 : decode cX1_holds 17 = .ok (.aload_n 2, 1) := by decide +kernel
theorem dX1_holds_18 : decode cX1_holds 18 = .ok (.iload_n 3, 1) := by decide +kernel
theorem dX1_holds_19 : decode cX1_holds 19 = .ok (.invokevirtual 195, 3) := by decide +kernel
theorem dX1_holds_22 : decode cX1_holds 22 = .ok (.ifCond .le 7, 3) := by decide +kernel
theorem dX1_holds_25 : decode cX1_holds 25 = .ok (.iconst 1, 1) := by decide +kernel
theorem dX1_holds_26 : decode cX1_holds 26 = .ok (.goto 12, 3) := by decide +kernel
theorem dX1_holds_29 : decode cX1_holds 29 = .ok (.iconst 0, 1) := by decide +kernel
theorem dX1_holds_30 : decode cX1_holds 30 = .ok (.goto 8, 3) := by decide +kernel
theorem dX1_holds_33 : decode cX1_holds 33 = .ok (.aload_n 2, 1) := by decide +kernel
theorem dX1_holds_34 : decode cX1_holds 34 = .ok (.iload_n 3, 1) := by decide +kernel
theorem dX1_holds_35 : decode cX1_holds 35 = .ok (.invokevirtual 191, 3) := by decide +kernel
theorem dX1_holds_38 : decode cX1_holds 38 = .ok (.ireturn, 1) := by decide +kernel
theorem dX1_holds_39 : decode cX1_holds 39 = .ok (.aload_n 1, 1) := by decide +kernel
theorem dX1_holds_40 : decode cX1_holds 40 = .ok (.getfield 165, 3) := by decide +kernel
theorem dX1_holds_43 : decode cX1_holds 43 = .ok (.bipush 7, 2) := by decide +kernel
theorem dX1_holds_45 : decode cX1_holds 45 = .ok (.if_icmp .ne 56, 3) := by decide +kernel
theorem dX1_holds_48 : decode cX1_holds 48 = .ok (.aload_n 1, 1) := by decide +kernel
theorem dX1_holds_49 : decode cX1_holds 49 = .ok (.iconst 0, 1) := by decide +kernel
theorem dX1_holds_50 : decode cX1_holds 50 = .ok (.invokevirtual 208, 3) := by decide +kernel
theorem dX1_holds_53 : decode cX1_holds 53 = .ok (.istore 4, 2) := by decide +kernel
theorem dX1_holds_55 : decode cX1_holds 55 = .ok (.aload_n 1, 1) := by decide +kernel
theorem dX1_holds_56 : decode cX1_holds 56 = .ok (.iconst 1, 1) := by decide +kernel
theorem dX1_holds_57 : decode cX1_holds 57 = .ok (.invokevirtual 208, 3) := by decide +kernel
theorem dX1_holds_60 : decode cX1_holds 60 = .ok (.istore 5, 2) := by decide +kernel
theorem dX1_holds_62 : decode cX1_holds 62 = .ok (.aload_n 2, 1) := by decide +kernel
theorem dX1_holds_63 : decode cX1_holds 63 = .ok (.iload 4, 2) := by decide +kernel
theorem dX1_holds_65 : decode cX1_holds 65 = .ok (.invokevirtual 191, 3) := by decide +kernel
theorem dX1_holds_68 : decode cX1_holds 68 = .ok (.ifCond .eq 27, 3) := by decide +kernel
theorem dX1_holds_71 : decode cX1_holds 71 = .ok (.aload_n 2, 1) := by decide +kernel
theorem dX1_holds_72 : decode cX1_holds 72 = .ok (.iload 5, 2) := by decide +kernel
theorem dX1_holds_74 : decode cX1_holds 74 = .ok (.invokevirtual 191, 3) := by decide +kernel
theorem dX1_holds_77 : decode cX1_holds 77 = .ok (.ifCond .eq 18, 3) := by decide +kernel
theorem dX1_holds_80 : decode cX1_holds 80 = .ok (.aload_n 2, 1) := by decide +kernel
theorem dX1_holds_81 : decode cX1_holds 81 = .ok (.iload 4, 2) := by decide +kernel
theorem dX1_holds_83 : decode cX1_holds 83 = .ok (.invokevirtual 195, 3) := by decide +kernel
theorem dX1_holds_86 : decode cX1_holds 86 = .ok (.aload_n 2, 1) := by decide +kernel
theorem dX1_holds_87 : decode cX1_holds 87 = .ok (.iload 5, 2) := by decide +kernel
theorem dX1_holds_89 : decode cX1_holds 89 = .ok (.invokevirtual 195, 3) := by decide +kernel
theorem dX1_holds_92 : decode cX1_holds 92 = .ok (.if_icmp .ge 7, 3) := by decide +kernel
theorem dX1_holds_95 : decode cX1_holds 95 = .ok (.iconst 1, 1) := by decide +kernel
theorem dX1_holds_96 : decode cX1_holds 96 = .ok (.goto 4, 3) := by decide +kernel
theorem dX1_holds_99 : decode cX1_holds 99 = .ok (.iconst 0, 1) := by decide +kernel
theorem dX1_holds_100 : decode cX1_holds 100 = .ok (.ireturn, 1) := by decide +kernel
theorem dX1_holds_101 : decode cX1_holds 101 = .ok (.aload_n 1, 1) := by decide +kernel
theorem dX1_holds_102 : decode cX1_holds 102 = .ok (.getfield 165, 3) := by decide +kernel
theorem dX1_holds_105 : decode cX1_holds 105 = .ok (.bipush 8, 2) := by decide +kernel
theorem dX1_holds_107 : decode cX1_holds 107 = .ok (.if_icmp .ne 51, 3) := by decide +kernel
theorem dX1_holds_110 : decode cX1_holds 110 = .ok (.aload_n 1, 1) := by decide +kernel
theorem dX1_holds_111 : decode cX1_holds 111 = .ok (.iconst 2, 1) := by decide +kernel
theorem dX1_holds_112 : decode cX1_holds 112 = .ok (.invokevirtual 208, 3) := by decide +kernel
theorem dX1_holds_115 : decode cX1_holds 115 = .ok (.istore 4, 2) := by decide +kernel
theorem dX1_holds_117 : decode cX1_holds 117 = .ok (.aload_n 2, 1) := by decide +kernel
theorem dX1_holds_118 : decode cX1_holds 118 = .ok (.iload 4, 2) := by decide +kernel
theorem dX1_holds_120 : decode cX1_holds 120 = .ok (.invokevirtual 191, 3) := by decide +kernel
theorem dX1_holds_123 : decode cX1_holds 123 = .ok (.ifCond .eq 29, 3) := by decide +kernel
theorem dX1_holds_126 : decode cX1_holds 126 = .ok (.aload_n 2, 1) := by decide +kernel
theorem dX1_holds_127 : decode cX1_holds 127 = .ok (.iload 4, 2) := by decide +kernel
theorem dX1_holds_129 : decode cX1_holds 129 = .ok (.invokevirtual 195, 3) := by decide +kernel
theorem dX1_holds_132 : decode cX1_holds 132 = .ok (.i2l, 1) := by decide +kernel
theorem dX1_holds_133 : decode cX1_holds 133 = .ok (.aload_n 0, 1) := by decide +kernel
theorem dX1_holds_134 : decode cX1_holds 134 = .ok (.aload_n 2, 1) := by decide +kernel
theorem dX1_holds_135 : decode cX1_holds 135 = .ok (.aload_n 1, 1) := by decide +kernel
theorem dX1_holds_136 : decode cX1_holds 136 = .ok (.iconst 0, 1) := by decide +kernel
theorem dX1_holds_137 : decode cX1_holds 137 = .ok (.invokevirtual 208, 3) := by decide +kernel
theorem dX1_holds_140 : decode cX1_holds 140 = .ok (.aload_n 1, 1) := by decide +kernel
theorem dX1_holds_141 : decode cX1_holds 141 = .ok (.iconst 1, 1) := by decide +kernel
theorem dX1_holds_142 : decode cX1_holds 142 = .ok (.invokevirtual 208, 3) := by decide +kernel
theorem dX1_holds_145 : decode cX1_holds 145 = .ok (.invokevirtual 211, 3) := by decide +kernel
theorem dX1_holds_148 : decode cX1_holds 148 = .ok (.lcmp, 1) := by decide +kernel
theorem dX1_holds_149 : decode cX1_holds 149 = .ok (.ifCond .ne 7, 3) := by decide +kernel
theorem dX1_holds_152 : decode cX1_holds 152 = .ok (.iconst 1, 1) := by decide +kernel
theorem dX1_holds_153 : decode cX1_holds 153 = .ok (.goto 4, 3) := by decide +kernel
theorem dX1_holds_156 : decode cX1_holds 156 = .ok (.iconst 0, 1) := by decide +kernel
theorem dX1_holds_157 : decode cX1_holds 157 = .ok (.ireturn, 1) := by decide +kernel
theorem dX1_holds_158 : decode cX1_holds 158 = .ok (.aload_n 2, 1) := by decide +kernel
theorem dX1_holds_159 : decode cX1_holds 159 = .ok (.iload_n 3, 1) := by decide +kernel
theorem dX1_holds_160 : decode cX1_holds 160 = .ok (.invokevirtual 191, 3) := by decide +kernel
theorem dX1_holds_163 : decode cX1_holds 163 = .ok (.ifCond .eq 15, 3) := by decide +kernel
theorem dX1_holds_166 : decode cX1_holds 166 = .ok (.aload_n 1, 1) := by decide +kernel
theorem dX1_holds_167 : decode cX1_holds 167 = .ok (.aload_n 2, 1) := by decide +kernel
theorem dX1_holds_168 : decode cX1_holds 168 = .ok (.iload_n 3, 1) := by decide +kernel
theorem dX1_holds_169 : decode cX1_holds 169 = .ok (.invokevirtual 195, 3) := by decide +kernel
theorem dX1_holds_172 : decode cX1_holds 172 = .ok (.invokevirtual 215, 3) := by decide +kernel
theorem dX1_holds_175 : decode cX1_holds 175 = .ok (.ifCond .eq 7, 3) := by decide +kernel
theorem dX1_holds_178 : decode cX1_holds 178 = .ok (.iconst 1, 1) := by decide +kernel
theorem dX1_holds_179 : decode cX1_holds 179 = .ok (.goto 4, 3) := by decide +kernel
theorem dX1_holds_182 : decode cX1_holds 182 = .ok (.iconst 0, 1) := by decide +kernel
theorem dX1_holds_183 : decode cX1_holds 183 = .ok (.ireturn, 1) := by decide +kernel
theorem dX10_read_0 : decode cX10_read 0 = .ok (.aload_n 0, 1) := by decide +kernel
theorem dX10_read_1 : decode cX10_read 1 = .ok (.getfield 35, 3) := by decide +kernel
theorem dX10_read_4 : decode cX10_read 4 = .ok (.ifnull 25, 3) := by decide +kernel
theorem dX10_read_7 : decode cX10_read 7 = .ok (.iload_n 1, 1) := by decide +kernel
theorem dX10_read_8 : decode cX10_read 8 = .ok (.ifCond .lt 21, 3) := by decide +kernel
theorem dX10_read_11 : decode cX10_read 11 = .ok (.iload_n 1, 1) := by decide +kernel
theorem dX10_read_12 : decode cX10_read 12 = .ok (.aload_n 0, 1) := by decide +kernel
theorem dX10_read_13 : decode cX10_read 13 = .ok (.getfield 35, 3) := by decide +kernel
theorem dX10_read_16 : decode cX10_read 16 = .ok (.arraylength, 1) := by decide +kernel
theorem dX10_read_17 : decode cX10_read 17 = .ok (.if_icmp .ge 12, 3) := by decide +kernel
theorem dX10_read_20 : decode cX10_read 20 = .ok (.aload_n 0, 1) := by decide +kernel
theorem dX10_read_21 : decode cX10_read 21 = .ok (.getfield 35, 3) := by decide +kernel
theorem dX10_read_24 : decode cX10_read 24 = .ok (.iload_n 1, 1) := by decide +kernel
theorem dX10_read_25 : decode cX10_read 25 = .ok (.iaload, 1) := by decide +kernel
theorem dX10_read_26 : decode cX10_read 26 = .ok (.goto 4, 3) := by decide +kernel
theorem dX10_read_29 : decode cX10_read 29 = .ok (.iconst (-1), 1) := by decide +kernel
theorem dX10_read_30 : decode cX10_read 30 = .ok (.ireturn, 1) := by decide +kernel
theorem dX1_sum_0 : decode cX1_sum 0 = .ok (.lconst 0, 1) := by decide +kernel
theorem dX1_sum_1 : decode cX1_sum 1 = .ok (.lstore 4, 2) := by decide +kernel
theorem dX1_sum_3 : decode cX1_sum 3 = .ok (.aload_n 1, 1) := by decide +kernel
theorem dX1_sum_4 : decode cX1_sum 4 = .ok (.iload_n 2, 1) := by decide +kernel
theorem dX1_sum_5 : decode cX1_sum 5 = .ok (.invokevirtual 195, 3) := by decide +kernel
theorem dX1_sum_8 : decode cX1_sum 8 = .ok (.bipush 20, 2) := by decide +kernel
theorem dX1_sum_10 : decode cX1_sum 10 = .ok (.invokestatic 218, 3) := by decide +kernel
theorem dX1_sum_13 : decode cX1_sum 13 = .ok (.istore 6, 2) := by decide +kernel
theorem dX1_sum_15 : decode cX1_sum 15 = .ok (.iconst 0, 1) := by decide +kernel
theorem dX1_sum_16 : decode cX1_sum 16 = .ok (.istore 7, 2) := by decide +kernel
theorem dX1_sum_18 : decode cX1_sum 18 = .ok (.iload 7, 2) := by decide +kernel
theorem dX1_sum_20 : decode cX1_sum 20 = .ok (.iload 6, 2) := by decide +kernel
theorem dX1_sum_22 : decode cX1_sum 22 = .ok (.if_icmp .ge 57, 3) := by decide +kernel
theorem dX1_sum_25 : decode cX1_sum 25 = .ok (.aload_n 1, 1) := by decide +kernel
theorem dX1_sum_26 : decode cX1_sum 26 = .ok (.iload_n 2, 1) := by decide +kernel
theorem dX1_sum_27 : decode cX1_sum 27 = .ok (.iload 7, 2) := by decide +kernel
theorem dX1_sum_29 : decode cX1_sum 29 = .ok (.invokevirtual 138, 3) := by decide +kernel
theorem dX1_sum_32 : decode cX1_sum 32 = .ok (.istore 8, 2) := by decide +kernel
theorem dX1_sum_34 : decode cX1_sum 34 = .ok (.iload 8, 2) := by decide +kernel
theorem dX1_sum_36 : decode cX1_sum 36 = .ok (.ifCond .lt 37, 3) := by decide +kernel
theorem dX1_sum_39 : decode cX1_sum 39 = .ok (.iload 8, 2) := by decide +kernel
theorem dX1_sum_41 : decode cX1_sum 41 = .ok (.aload_n 0, 1) := by decide +kernel
theorem dX1_sum_42 : decode cX1_sum 42 = .ok (.getfield 9, 3) := by decide +kernel
theorem dX1_sum_45 : decode cX1_sum 45 = .ok (.invokevirtual 81, 3) := by decide +kernel
theorem dX1_sum_48 : decode cX1_sum 48 = .ok (.if_icmp .ge 25, 3) := by decide +kernel
theorem dX1_sum_51 : decode cX1_sum 51 = .ok (.lload 4, 2) := by decide +kernel
theorem dX1_sum_53 : decode cX1_sum 53 = .ok (.aload_n 0, 1) := by decide +kernel
theorem dX1_sum_54 : decode cX1_sum 54 = .ok (.getfield 9, 3) := by decide +kernel
theorem dX1_sum_57 : decode cX1_sum 57 = .ok (.iload 8, 2) := by decide +kernel
theorem dX1_sum_59 : decode cX1_sum 59 = .ok (.invokevirtual 85, 3) := by decide +kernel
theorem dX1_sum_62 : decode cX1_sum 62 = .ok (.checkcast 116, 3) := by decide +kernel
theorem dX1_sum_65 : decode cX1_sum 65 = .ok (.iload_n 3, 1) := by decide +kernel
theorem dX1_sum_66 : decode cX1_sum 66 = .ok (.invokevirtual 195, 3) := by decide +kernel
theorem dX1_sum_69 : decode cX1_sum 69 = .ok (.i2l, 1) := by decide +kernel
theorem dX1_sum_70 : decode cX1_sum 70 = .ok (.ladd, 1) := by decide +kernel
theorem dX1_sum_71 : decode cX1_sum 71 = .ok (.lstore 4, 2) := by decide +kernel
theorem dX1_sum_73 : decode cX1_sum 73 = .ok (.iinc 7 1, 3) := by decide +kernel
theorem dX1_sum_76 : decode cX1_sum 76 = .ok (.goto (-58), 3) := by decide +kernel
theorem dX1_sum_79 : decode cX1_sum 79 = .ok (.lload 4, 2) := by decide +kernel
theorem dX1_sum_81 : decode cX1_sum 81 = .ok (.lreturn, 1) := by decide +kernel
theorem dX5_target_0 : decode cX5_target 0 = .ok (.iload_n 1, 1) := by decide +kernel
theorem dX5_target_1 : decode cX5_target 1 = .ok (.ifCond .lt 22, 3) := by decide +kernel
theorem dX5_target_4 : decode cX5_target 4 = .ok (.iload_n 1, 1) := by decide +kernel
theorem dX5_target_5 : decode cX5_target 5 = .ok (.aload_n 0, 1) := by decide +kernel
theorem dX5_target_6 : decode cX5_target 6 = .ok (.getfield 27, 3) := by decide +kernel
theorem dX5_target_9 : decode cX5_target 9 = .ok (.arraylength, 1) := by decide +kernel
theorem dX5_target_10 : decode cX5_target 10 = .ok (.if_icmp .ge 13, 3) := by decide +kernel
theorem dX5_target_13 : decode cX5_target 13 = .ok (.iload_n 2, 1) := by decide +kernel
theorem dX5_target_14 : decode cX5_target 14 = .ok (.ifCond .lt 9, 3) := by decide +kernel
theorem dX5_target_17 : decode cX5_target 17 = .ok (.iload_n 2, 1) := by decide +kernel
theorem dX5_target_18 : decode cX5_target 18 = .ok (.bipush 20, 2) := by decide +kernel
theorem dX5_target_20 : decode cX5_target 20 = .ok (.if_icmp .lt 5, 3) := by decide +kernel
theorem dX5_target_23 : decode cX5_target 23 = .ok (.iconst (-1), 1) := by decide +kernel
theorem dX5_target_24 : decode cX5_target 24 = .ok (.ireturn, 1) := by decide +kernel
theorem dX5_target_25 : decode cX5_target 25 = .ok (.aload_n 0, 1) := by decide +kernel
theorem dX5_target_26 : decode cX5_target 26 = .ok (.getfield 36, 3) := by decide +kernel
theorem dX5_target_29 : decode cX5_target 29 = .ok (.iload_n 1, 1) := by decide +kernel
theorem dX5_target_30 : decode cX5_target 30 = .ok (.aaload, 1) := by decide +kernel
theorem dX5_target_31 : decode cX5_target 31 = .ok (.ifnonnull 12, 3) := by decide +kernel
theorem dX5_target_34 : decode cX5_target 34 = .ok (.aload_n 0, 1) := by decide +kernel
theorem dX5_target_35 : decode cX5_target 35 = .ok (.getfield 27, 3) := by decide +kernel
theorem dX5_target_38 : decode cX5_target 38 = .ok (.iload_n 1, 1) := by decide +kernel
theorem dX5_target_39 : decode cX5_target 39 = .ok (.iaload, 1) := by decide +kernel
theorem dX5_target_40 : decode cX5_target 40 = .ok (.goto 11, 3) := by decide +kernel
theorem dX5_target_43 : decode cX5_target 43 = .ok (.aload_n 0, 1) := by decide +kernel
theorem dX5_target_44 : decode cX5_target 44 = .ok (.getfield 36, 3) := by decide +kernel
theorem dX5_target_47 : decode cX5_target 47 = .ok (.iload_n 1, 1) := by decide +kernel
theorem dX5_target_48 : decode cX5_target 48 = .ok (.aaload, 1) := by decide +kernel
theorem dX5_target_49 : decode cX5_target 49 = .ok (.iload_n 2, 1) := by decide +kernel
theorem dX5_target_50 : decode cX5_target 50 = .ok (.iaload, 1) := by decide +kernel
theorem dX5_target_51 : decode cX5_target 51 = .ok (.ireturn, 1) := by decide +kernel
theorem dX10_lets_0 : decode cX10_lets 0 = .ok (.aload_n 0, 1) := by decide +kernel
theorem dX10_lets_1 : decode cX10_lets 1 = .ok (.getfield 9, 3) := by decide +kernel
theorem dX10_lets_4 : decode cX10_lets 4 = .ok (.iconst 3, 1) := by decide +kernel
theorem dX10_lets_5 : decode cX10_lets 5 = .ok (.if_icmp .ne 18, 3) := by decide +kernel
theorem dX10_lets_8 : decode cX10_lets 8 = .ok (.iload_n 1, 1) := by decide +kernel
theorem dX10_lets_9 : decode cX10_lets 9 = .ok (.aload_n 0, 1) := by decide +kernel
theorem dX10_lets_10 : decode cX10_lets 10 = .ok (.iconst 0, 1) := by decide +kernel
theorem dX10_lets_11 : decode cX10_lets 11 = .ok (.invokevirtual 42, 3) := by decide +kernel
theorem dX10_lets_14 : decode cX10_lets 14 = .ok (.if_icmp .lt 7, 3) := by decide +kernel
theorem dX10_lets_17 : decode cX10_lets 17 = .ok (.iconst 1, 1) := by decide +kernel
theorem dX10_lets_18 : decode cX10_lets 18 = .ok (.goto 4, 3) := by decide +kernel
theorem dX10_lets_21 : decode cX10_lets 21 = .ok (.iconst 0, 1) := by decide +kernel
theorem dX10_lets_22 : decode cX10_lets 22 = .ok (.ireturn, 1) := by decide +kernel
theorem dX10_lets_23 : decode cX10_lets 23 = .ok (.aload_n 0, 1) := by decide +kernel
theorem dX10_lets_24 : decode cX10_lets 24 = .ok (.getfield 9, 3) := by decide +kernel
theorem dX10_lets_27 : decode cX10_lets 27 = .ok (.iconst 4, 1) := by decide +kernel
theorem dX10_lets_28 : decode cX10_lets 28 = .ok (.if_icmp .ne 18, 3) := by decide +kernel
theorem dX10_lets_31 : decode cX10_lets 31 = .ok (.iload_n 1, 1) := by decide +kernel
theorem dX10_lets_32 : decode cX10_lets 32 = .ok (.aload_n 0, 1) := by decide +kernel
theorem dX10_lets_33 : decode cX10_lets 33 = .ok (.iconst 0, 1) := by decide +kernel
theorem dX10_lets_34 : decode cX10_lets 34 = .ok (.invokevirtual 42, 3) := by decide +kernel
theorem dX10_lets_37 : decode cX10_lets 37 = .ok (.if_icmp .gt 7, 3) := by decide +kernel
theorem dX10_lets_40 : decode cX10_lets 40 = .ok (.iconst 1, 1) := by decide +kernel
theorem dX10_lets_41 : decode cX10_lets 41 = .ok (.goto 4, 3) := by decide +kernel
theorem dX10_lets_44 : decode cX10_lets 44 = .ok (.iconst 0, 1) := by decide +kernel
theorem dX10_lets_45 : decode cX10_lets 45 = .ok (.ireturn, 1) := by decide +kernel
theorem dX10_lets_46 : decode cX10_lets 46 = .ok (.aload_n 0, 1) := by decide +kernel
theorem dX10_lets_47 : decode cX10_lets 47 = .ok (.getfield 9, 3) := by decide +kernel
theorem dX10_lets_50 : decode cX10_lets 50 = .ok (.iconst 5, 1) := by decide +kernel
theorem dX10_lets_51 : decode cX10_lets 51 = .ok (.if_icmp .ne 27, 3) := by decide +kernel
theorem dX10_lets_54 : decode cX10_lets 54 = .ok (.iload_n 1, 1) := by decide +kernel
theorem dX10_lets_55 : decode cX10_lets 55 = .ok (.aload_n 0, 1) := by decide +kernel
theorem dX10_lets_56 : decode cX10_lets 56 = .ok (.iconst 0, 1) := by decide +kernel
theorem dX10_lets_57 : decode cX10_lets 57 = .ok (.invokevirtual 42, 3) := by decide +kernel
theorem dX10_lets_60 : decode cX10_lets 60 = .ok (.if_icmp .lt 16, 3) := by decide +kernel
theorem dX10_lets_63 : decode cX10_lets 63 = .ok (.iload_n 1, 1) := by decide +kernel
theorem dX10_lets_64 : decode cX10_lets 64 = .ok (.aload_n 0, 1) := by decide +kernel
theorem dX10_lets_65 : decode cX10_lets 65 = .ok (.iconst 1, 1) := by decide +kernel
theorem dX10_lets_66 : decode cX10_lets 66 = .ok (.invokevirtual 42, 3) := by decide +kernel
theorem dX10_lets_69 : decode cX10_lets 69 = .ok (.if_icmp .gt 7, 3) := by decide +kernel
theorem dX10_lets_72 : decode cX10_lets 72 = .ok (.iconst 1, 1) := by decide +kernel
theorem dX10_lets_73 : decode cX10_lets 73 = .ok (.goto 4, 3) := by decide +kernel
theorem dX10_lets_76 : decode cX10_lets 76 = .ok (.iconst 0, 1) := by decide +kernel
theorem dX10_lets_77 : decode cX10_lets 77 = .ok (.ireturn, 1) := by decide +kernel
theorem dX10_lets_78 : decode cX10_lets 78 = .ok (.aload_n 0, 1) := by decide +kernel
theorem dX10_lets_79 : decode cX10_lets 79 = .ok (.getfield 9, 3) := by decide +kernel
theorem dX10_lets_82 : decode cX10_lets 82 = .ok (.bipush 6, 2) := by decide +kernel
theorem dX10_lets_84 : decode cX10_lets 84 = .ok (.if_icmp .eq 7, 3) := by decide +kernel
theorem dX10_lets_87 : decode cX10_lets 87 = .ok (.iconst 1, 1) := by decide +kernel
theorem dX10_lets_88 : decode cX10_lets 88 = .ok (.goto 4, 3) := by decide +kernel
theorem dX10_lets_91 : decode cX10_lets 91 = .ok (.iconst 0, 1) := by decide +kernel
theorem dX10_lets_92 : decode cX10_lets 92 = .ok (.istore_n 2, 1) := by decide +kernel
theorem dX10_lets_93 : decode cX10_lets 93 = .ok (.iconst 0, 1) := by decide +kernel
theorem dX10_lets_94 : decode cX10_lets 94 = .ok (.istore_n 3, 1) := by decide +kernel
theorem dX10_lets_95 : decode cX10_lets 95 = .ok (.iload_n 3, 1) := by decide +kernel
theorem dX10_lets_96 : decode cX10_lets 96 = .ok (.aload_n 0, 1) := by decide +kernel
theorem dX10_lets_97 : decode cX10_lets 97 = .ok (.getfield 28, 3) := by decide +kernel
theorem dX10_lets_100 : decode cX10_lets 100 = .ok (.if_icmp .ge 28, 3) := by decide +kernel
theorem dX10_lets_103 : decode cX10_lets 103 = .ok (.iload_n 2, 1) := by decide +kernel
theorem dX10_lets_104 : decode cX10_lets 104 = .ok (.ifCond .ne 24, 3) := by decide +kernel
theorem dX10_lets_107 : decode cX10_lets 107 = .ok (.iload_n 1, 1) := by decide +kernel
theorem dX10_lets_108 : decode cX10_lets 108 = .ok (.aload_n 0, 1) := by decide +kernel
theorem dX10_lets_109 : decode cX10_lets 109 = .ok (.iload_n 3, 1) := by decide +kernel
theorem dX10_lets_110 : decode cX10_lets 110 = .ok (.invokevirtual 42, 3) := by decide +kernel
theorem dX10_lets_113 : decode cX10_lets 113 = .ok (.if_icmp .ne 7, 3) := by decide +kernel
theorem dX10_lets_116 : decode cX10_lets 116 = .ok (.iconst 1, 1) := by decide +kernel
theorem dX10_lets_117 : decode cX10_lets 117 = .ok (.goto 4, 3) := by decide +kernel
theorem dX10_lets_120 : decode cX10_lets 120 = .ok (.iconst 0, 1) := by decide +kernel
theorem dX10_lets_121 : decode cX10_lets 121 = .ok (.istore_n 2, 1) := by decide +kernel
theorem dX10_lets_122 : decode cX10_lets 122 = .ok (.iinc 3 1, 3) := by decide +kernel
theorem dX10_lets_125 : decode cX10_lets 125 = .ok (.goto (-30), 3) := by decide +kernel
theorem dX10_lets_128 : decode cX10_lets 128 = .ok (.iload_n 2, 1) := by decide +kernel
theorem dX10_lets_129 : decode cX10_lets 129 = .ok (.ireturn, 1) := by decide +kernel
