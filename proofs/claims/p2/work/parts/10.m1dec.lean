theorem dX12_sign_0 : decode cX12_sign 0 = .ok (.iload_n 1, 1) := by decide +kernel
theorem dX12_sign_1 : decode cX12_sign 1 = .ok (.aload_n 0, 1) := by decide +kernel
theorem dX12_sign_2 : decode cX12_sign 2 = .ok (.getfield 1, 3) := by decide +kernel
theorem dX12_sign_5 : decode cX12_sign 5 = .ok (.if_icmp .ge 25, 3) := by decide +kernel
theorem dX12_sign_8 : decode cX12_sign 8 = .ok (.aload_n 0, 1) := by decide +kernel
theorem dX12_sign_9 : decode cX12_sign 9 = .ok (.getfield 7, 3) := by decide +kernel
theorem dX12_sign_12 : decode cX12_sign 12 = .ok (.sipush 3000, 3) := by decide +kernel
theorem dX12_sign_15 : decode cX12_sign 15 = .ok (.aload_n 0, 1) := by decide +kernel
theorem dX12_sign_16 : decode cX12_sign 16 = .ok (.getfield 11, 3) := by decide +kernel
theorem dX12_sign_19 : decode cX12_sign 19 = .ok (.imul, 1) := by decide +kernel
theorem dX12_sign_20 : decode cX12_sign 20 = .ok (.iload_n 1, 1) := by decide +kernel
theorem dX12_sign_21 : decode cX12_sign 21 = .ok (.iadd, 1) := by decide +kernel
theorem dX12_sign_22 : decode cX12_sign 22 = .ok (.baload, 1) := by decide +kernel
theorem dX12_sign_23 : decode cX12_sign 23 = .ok (.sipush 255, 3) := by decide +kernel
theorem dX12_sign_26 : decode cX12_sign 26 = .ok (.iand, 1) := by decide +kernel
theorem dX12_sign_27 : decode cX12_sign 27 = .ok (.goto 4, 3) := by decide +kernel
theorem dX12_sign_30 : decode cX12_sign 30 = .ok (.iconst 0, 1) := by decide +kernel
theorem dX12_sign_31 : decode cX12_sign 31 = .ok (.ireturn, 1) := by decide +kernel
theorem dX12_isLetter_0 : decode cX12_isLetter 0 = .ok (.iload_n 0, 1) := by decide +kernel
theorem dX12_isLetter_1 : decode cX12_isLetter 1 = .ok (.bipush 97, 2) := by decide +kernel
theorem dX12_isLetter_3 : decode cX12_isLetter 3 = .ok (.if_icmp .lt 13, 3) := by decide +kernel
theorem dX12_isLetter_6 : decode cX12_isLetter 6 = .ok (.iload_n 0, 1) := by decide +kernel
theorem dX12_isLetter_7 : decode cX12_isLetter 7 = .ok (.bipush 122, 2) := by decide +kernel
theorem dX12_isLetter_9 : decode cX12_isLetter 9 = .ok (.if_icmp .gt 7, 3) := by decide +kernel
theorem dX12_isLetter_12 : decode cX12_isLetter 12 = .ok (.iconst 1, 1) := by decide +kernel
theorem dX12_isLetter_13 : decode cX12_isLetter 13 = .ok (.goto 4, 3) := by decide +kernel
theorem dX12_isLetter_16 : decode cX12_isLetter 16 = .ok (.iconst 0, 1) := by decide +kernel
theorem dX12_isLetter_17 : decode cX12_isLetter 17 = .ok (.ireturn, 1) := by decide +kernel
theorem dX12_isDigit_0 : decode cX12_isDigit 0 = .ok (.iload_n 0, 1) := by decide +kernel
theorem dX12_isDigit_1 : decode cX12_isDigit 1 = .ok (.bipush 48, 2) := by decide +kernel
theorem dX12_isDigit_3 : decode cX12_isDigit 3 = .ok (.if_icmp .lt 13, 3) := by decide +kernel
theorem dX12_isDigit_6 : decode cX12_isDigit 6 = .ok (.iload_n 0, 1) := by decide +kernel
theorem dX12_isDigit_7 : decode cX12_isDigit 7 = .ok (.bipush 57, 2) := by decide +kernel
theorem dX12_isDigit_9 : decode cX12_isDigit 9 = .ok (.if_icmp .gt 7, 3) := by decide +kernel
theorem dX12_isDigit_12 : decode cX12_isDigit 12 = .ok (.iconst 1, 1) := by decide +kernel
theorem dX12_isDigit_13 : decode cX12_isDigit 13 = .ok (.goto 4, 3) := by decide +kernel
theorem dX12_isDigit_16 : decode cX12_isDigit 16 = .ok (.iconst 0, 1) := by decide +kernel
theorem dX12_isDigit_17 : decode cX12_isDigit 17 = .ok (.ireturn, 1) := by decide +kernel
theorem dX12_isGood_0 : decode cX12_isGood 0 = .ok (.aload_n 0, 1) := by decide +kernel
theorem dX12_isGood_1 : decode cX12_isGood 1 = .ok (.getfield 14, 3) := by decide +kernel
theorem dX12_isGood_4 : decode cX12_isGood 4 = .ok (.ifCond .ne 7, 3) := by decide +kernel
theorem dX12_isGood_7 : decode cX12_isGood 7 = .ok (.iconst 1, 1) := by decide +kernel
theorem dX12_isGood_8 : decode cX12_isGood 8 = .ok (.goto 4, 3) := by decide +kernel
theorem dX12_isGood_11 : decode cX12_isGood 11 = .ok (.iconst 0, 1) := by decide +kernel
theorem dX12_isGood_12 : decode cX12_isGood 12 = .ok (.ireturn, 1) := by decide +kernel
theorem dX12_fails_0 : decode cX12_fails 0 = .ok (.aload_n 0, 1) := by decide +kernel
theorem dX12_fails_1 : decode cX12_fails 1 = .ok (.getfield 14, 3) := by decide +kernel
theorem dX12_fails_4 : decode cX12_fails 4 = .ok (.ifCond .ne 13, 3) := by decide +kernel
theorem dX12_fails_7 : decode cX12_fails 7 = .ok (.aload_n 0, 1) := by decide +kernel
theorem dX12_fails_8 : decode cX12_fails 8 = .ok (.iload_n 1, 1) := by decide +kernel
theorem dX12_fails_9 : decode cX12_fails 9 = .ok (.putfield 14, 3) := by decide +kernel
theorem dX12_fails_12 : decode cX12_fails 12 = .ok (.aload_n 0, 1) := by decide +kernel
theorem dX12_fails_13 : decode cX12_fails 13 = .ok (.iload_n 2, 1) := by decide +kernel
theorem dX12_fails_14 : decode cX12_fails 14 = .ok (.putfield 17, 3) := by decide +kernel
theorem dX12_fails_17 : decode cX12_fails 17 = .ok (.iconst 0, 1) := by decide +kernel
theorem dX12_fails_18 : decode cX12_fails 18 = .ok (.ireturn, 1) := by decide +kernel
theorem dX12_isKept_0 : decode cX12_isKept 0 = .ok (.lload_n 0, 1) := by decide +kernel
theorem dX12_isKept_1 : decode cX12_isKept 1 = .ok (.ldc2_w 20, 3) := by decide +kernel
theorem dX12_isKept_4 : decode cX12_isKept 4 = .ok (.lcmp, 1) := by decide +kernel
theorem dX12_isKept_5 : decode cX12_isKept 5 = .ok (.ifCond .eq 75, 3) := by decide +kernel
theorem dX12_isKept_8 : decode cX12_isKept 8 = .ok (.lload_n 0, 1) := by decide +kernel
theorem dX12_isKept_9 : decode cX12_isKept 9 = .ok (.ldc2_w 22, 3) := by decide +kernel
theorem dX12_isKept_12 : decode cX12_isKept 12 = .ok (.lcmp, 1) := by decide +kernel
theorem dX12_isKept_13 : decode cX12_isKept 13 = .ok (.ifCond .eq 67, 3) := by decide +kernel
theorem dX12_isKept_16 : decode cX12_isKept 16 = .ok (.lload_n 0, 1) := by decide +kernel
theorem dX12_isKept_17 : decode cX12_isKept 17 = .ok (.ldc2_w 24, 3) := by decide +kernel
theorem dX12_isKept_20 : decode cX12_isKept 20 = .ok (.lcmp, 1) := by decide +kernel
theorem dX12_isKept_21 : decode cX12_isKept 21 = .ok (.ifCond .eq 59, 3) := by decide +kernel
theorem dX12_isKept_24 : decode cX12_isKept 24 = .ok (.lload_n 0, 1) := by decide +kernel
theorem dX12_isKept_25 : decode cX12_isKept 25 = .ok (.ldc2_w 26, 3) := by decide +kernel
theorem dX12_isKept_28 : decode cX12_isKept 28 = .ok (.lcmp, 1) := by decide +kernel
theorem dX12_isKept_29 : decode cX12_isKept 29 = .ok (.ifCond .eq 51, 3) := by decide +kernel
theorem dX12_isKept_32 : decode cX12_isKept 32 = .ok (.lload_n 0, 1) := by decide +kernel
theorem dX12_isKept_33 : decode cX12_isKept 33 = .ok (.ldc2_w 28, 3) := by decide +kernel
theorem dX12_isKept_36 : decode cX12_isKept 36 = .ok (.lcmp, 1) := by decide +kernel
theorem dX12_isKept_37 : decode cX12_isKept 37 = .ok (.ifCond .eq 43, 3) := by decide +kernel
theorem dX12_isKept_40 : decode cX12_isKept 40 = .ok (.lload_n 0, 1) := by decide +kernel
theorem dX12_isKept_41 : decode cX12_isKept 41 = .ok (.ldc2_w 30, 3) := by decide +kernel
theorem dX12_isKept_44 : decode cX12_isKept 44 = .ok (.lcmp, 1) := by decide +kernel
theorem dX12_isKept_45 : decode cX12_isKept 45 = .ok (.ifCond .eq 35, 3) := by decide +kernel
theorem dX12_isKept_48 : decode cX12_isKept 48 = .ok (.lload_n 0, 1) := by decide +kernel
theorem dX12_isKept_49 : decode cX12_isKept 49 = .ok (.ldc2_w 32, 3) := by decide +kernel
theorem dX12_isKept_52 : decode cX12_isKept 52 = .ok (.lcmp, 1) := by decide +kernel
theorem dX12_isKept_53 : decode cX12_isKept 53 = .ok (.ifCond .eq 27, 3) := by decide +kernel
theorem dX12_isKept_56 : decode cX12_isKept 56 = .ok (.lload_n 0, 1) := by decide +kernel
theorem dX12_isKept_57 : decode cX12_isKept 57 = .ok (.ldc2_w 34, 3) := by decide +kernel
theorem dX12_isKept_60 : decode cX12_isKept 60 = .ok (.lcmp, 1) := by decide +kernel
theorem dX12_isKept_61 : decode cX12_isKept 61 = .ok (.ifCond .eq 19, 3) := by decide +kernel
theorem dX12_isKept_64 : decode cX12_isKept 64 = .ok (.lload_n 0, 1) := by decide +kernel
theorem dX12_isKept_65 : decode cX12_isKept 65 = .ok (.ldc2_w 36, 3) := by decide +kernel
theorem dX12_isKept_68 : decode cX12_isKept 68 = .ok (.lcmp, 1) := by decide +kernel
theorem dX12_isKept_69 : decode cX12_isKept 69 = .ok (.ifCond .eq 11, 3) := by decide +kernel
theorem dX12_isKept_72 : decode cX12_isKept 72 = .ok (.lload_n 0, 1) := by decide +kernel
theorem dX12_isKept_73 : decode cX12_isKept 73 = .ok (.ldc2_w 38, 3) := by decide +kernel
theorem dX12_isKept_76 : decode cX12_isKept 76 = .ok (.lcmp, 1) := by decide +kernel
theorem dX12_isKept_77 : decode cX12_isKept 77 = .ok (.ifCond .ne 7, 3) := by decide +kernel
theorem dX12_isKept_80 : decode cX12_isKept 80 = .ok (.iconst 1, 1) := by decide +kernel
theorem dX12_isKept_81 : decode cX12_isKept 81 = .ok (.goto 4, 3) := by decide +kernel
theorem dX12_isKept_84 : decode cX12_isKept 84 = .ok (.iconst 0, 1) := by decide +kernel
theorem dX12_isKept_85 : decode cX12_isKept 85 = .ok (.ireturn, 1) := by decide +kernel
theorem dX12_built_0 : decode cX12_built 0 = .ok (.lload_n 0, 1) := by decide +kernel
theorem dX12_built_1 : decode cX12_built 1 = .ok (.ldc2_w 40, 3) := by decide +kernel
theorem dX12_built_4 : decode cX12_built 4 = .ok (.lcmp, 1) := by decide +kernel
theorem dX12_built_5 : decode cX12_built 5 = .ok (.ifCond .ne 5, 3) := by decide +kernel
theorem dX12_built_8 : decode cX12_built 8 = .ok (.iconst 1, 1) := by decide +kernel
theorem dX12_built_9 : decode cX12_built 9 = .ok (.ireturn, 1) := by decide +kernel
theorem dX12_built_10 : decode cX12_built 10 = .ok (.lload_n 0, 1) := by decide +kernel
theorem dX12_built_11 : decode cX12_built 11 = .ok (.ldc2_w 42, 3) := by decide +kernel
theorem dX12_built_14 : decode cX12_built 14 = .ok (.lcmp, 1) := by decide +kernel
theorem dX12_built_15 : decode cX12_built 15 = .ok (.ifCond .ne 5, 3) := by decide +kernel
theorem dX12_built_18 : decode cX12_built 18 = .ok (.iconst 2, 1) := by decide +kernel
theorem dX12_built_19 : decode cX12_built 19 = .ok (.ireturn, 1) := by decide +kernel
theorem dX12_built_20 : decode cX12_built 20 = .ok (.lload_n 0, 1) := by decide +kernel
theorem dX12_built_21 : decode cX12_built 21 = .ok (.ldc2_w 44, 3) := by decide +kernel
theorem dX12_built_24 : decode cX12_built 24 = .ok (.lcmp, 1) := by decide +kernel
theorem dX12_built_25 : decode cX12_built 25 = .ok (.ifCond .ne 5, 3) := by decide +kernel
theorem dX12_built_28 : decode cX12_built 28 = .ok (.iconst 3, 1) := by decide +kernel
theorem dX12_built_29 : decode cX12_built 29 = .ok (.ireturn, 1) := by decide +kernel
theorem dX12_built_30 : decode cX12_built 30 = .ok (.lload_n 0, 1) := by decide +kernel
theorem dX12_built_31 : decode cX12_built 31 = .ok (.ldc2_w 46, 3) := by decide +kernel
theorem dX12_built_34 : decode cX12_built 34 = .ok (.lcmp, 1) := by decide +kernel
theorem dX12_built_35 : decode cX12_built 35 = .ok (.ifCond .ne 5, 3) := by decide +kernel
theorem dX12_built_38 : decode cX12_built 38 = .ok (.iconst 4, 1) := by decide +kernel
theorem dX12_built_39 : decode cX12_built 39 = .ok (.ireturn, 1) := by decide +kernel
theorem dX12_built_40 : decode cX12_built 40 = .ok (.lload_n 0, 1) := by decide +kernel
theorem dX12_built_41 : decode cX12_built 41 = .ok (.ldc2_w 48, 3) := by decide +kernel
theorem dX12_built_44 : decode cX12_built 44 = .ok (.lcmp, 1) := by decide +kernel
theorem dX12_built_45 : decode cX12_built 45 = .ok (.ifCond .ne 5, 3) := by decide +kernel
theorem dX12_built_48 : decode cX12_built 48 = .ok (.iconst 5, 1) := by decide +kernel
theorem dX12_built_49 : decode cX12_built 49 = .ok (.ireturn, 1) := by decide +kernel
theorem dX12_built_50 : decode cX12_built 50 = .ok (.lload_n 0, 1) := by decide +kernel
theorem dX12_built_51 : decode cX12_built 51 = .ok (.ldc2_w 50, 3) := by decide +kernel
theorem dX12_built_54 : decode cX12_built 54 = .ok (.lcmp, 1) := by decide +kernel
theorem dX12_built_55 : decode cX12_built 55 = .ok (.ifCond .ne 6, 3) := by decide +kernel
theorem dX12_built_58 : decode cX12_built 58 = .ok (.bipush 6, 2) := by decide +kernel
theorem dX12_built_60 : decode cX12_built 60 = .ok (.ireturn, 1) := by decide +kernel
theorem dX12_built_61 : decode cX12_built 61 = .ok (.lload_n 0, 1) := by decide +kernel
theorem dX12_built_62 : decode cX12_built 62 = .ok (.ldc2_w 52, 3) := by decide +kernel
theorem dX12_built_65 : decode cX12_built 65 = .ok (.lcmp, 1) := by decide +kernel
theorem dX12_built_66 : decode cX12_built 66 = .ok (.ifCond .ne 6, 3) := by decide +kernel
theorem dX12_built_69 : decode cX12_built 69 = .ok (.bipush 7, 2) := by decide +kernel
theorem dX12_built_71 : decode cX12_built 71 = .ok (.ireturn, 1) := by decide +kernel
theorem dX12_built_72 : decode cX12_built 72 = .ok (.lload_n 0, 1) := by decide +kernel
theorem dX12_built_73 : decode cX12_built 73 = .ok (.ldc2_w 54, 3) := by decide +kernel
theorem dX12_built_76 : decode cX12_built 76 = .ok (.lcmp, 1) := by decide +kernel
theorem dX12_built_77 : decode cX12_built 77 = .ok (.ifCond .ne 8, 3) := by decide +kernel
theorem dX12_built_80 : decode cX12_built 80 = .ok (.bipush 8, 2) := by decide +kernel
theorem dX12_built_82 : decode cX12_built 82 = .ok (.goto 4, 3) := by decide +kernel
theorem dX12_built_85 : decode cX12_built 85 = .ok (.iconst 0, 1) := by decide +kernel
theorem dX12_built_86 : decode cX12_built 86 = .ok (.ireturn, 1) := by decide +kernel
theorem dX12_isSignOf_0 : decode cX12_isSignOf 0 = .ok (.iload_n 0, 1) := by decide +kernel
theorem dX12_isSignOf_1 : decode cX12_isSignOf 1 = .ok (.bipush 59, 2) := by decide +kernel
theorem dX12_isSignOf_3 : decode cX12_isSignOf 3 = .ok (.if_icmp .eq 129, 3) := by decide +kernel
theorem dX12_isSignOf_6 : decode cX12_isSignOf 6 = .ok (.iload_n 0, 1) := by decide +kernel
theorem dX12_isSignOf_7 : decode cX12_isSignOf 7 = .ok (.bipush 58, 2) := by decide +kernel
theorem dX12_isSignOf_9 : decode cX12_isSignOf 9 = .ok (.if_icmp .eq 123, 3) := by decide +kernel
theorem dX12_isSignOf_12 : decode cX12_isSignOf 12 = .ok (.iload_n 0, 1) := by decide +kernel
theorem dX12_isSignOf_13 : decode cX12_isSignOf 13 = .ok (.bipush 44, 2) := by decide +kernel
theorem dX12_isSignOf_15 : decode cX12_isSignOf 15 = .ok (.if_icmp .eq 117, 3) := by decide +kernel
theorem dX12_isSignOf_18 : decode cX12_isSignOf 18 = .ok (.iload_n 0, 1) := by decide +kernel
theorem dX12_isSignOf_19 : decode cX12_isSignOf 19 = .ok (.bipush 40, 2) := by decide +kernel
theorem dX12_isSignOf_21 : decode cX12_isSignOf 21 = .ok (.if_icmp .eq 111, 3) := by decide +kernel
theorem dX12_isSignOf_24 : decode cX12_isSignOf 24 = .ok (.iload_n 0, 1) := by decide +kernel
theorem dX12_isSignOf_25 : decode cX12_isSignOf 25 = .ok (.bipush 41, 2) := by decide +kernel
theorem dX12_isSignOf_27 : decode cX12_isSignOf 27 = .ok (.if_icmp .eq 105, 3) := by decide +kernel
theorem dX12_isSignOf_30 : decode cX12_isSignOf 30 = .ok (.iload_n 0, 1) := by decide +kernel
theorem dX12_isSignOf_31 : decode cX12_isSignOf 31 = .ok (.bipush 123, 2) := by decide +kernel
theorem dX12_isSignOf_33 : decode cX12_isSignOf 33 = .ok (.if_icmp .eq 99, 3) := by decide +kernel
theorem dX12_isSignOf_36 : decode cX12_isSignOf 36 = .ok (.iload_n 0, 1) := by decide +kernel
theorem dX12_isSignOf_37 : decode cX12_isSignOf 37 = .ok (.bipush 125, 2) := by decide +kernel
theorem dX12_isSignOf_39 : decode cX12_isSignOf 39 = .ok (.if_icmp .eq 93, 3) := by decide +kernel
theorem dX12_isSignOf_42 : decode cX12_isSignOf 42 = .ok (.iload_n 0, 1) := by decide +kernel
theorem dX12_isSignOf_43 : decode cX12_isSignOf 43 = .ok (.bipush 61, 2) := by decide +kernel
theorem dX12_isSignOf_45 : decode cX12_isSignOf 45 = .ok (.if_icmp .eq 87, 3) := by decide +kernel
theorem dX12_isSignOf_48 : decode cX12_isSignOf 48 = .ok (.iload_n 0, 1) := by decide +kernel
theorem dX12_isSignOf_49 : decode cX12_isSignOf 49 = .ok (.bipush 33, 2) := by decide +kernel
theorem dX12_isSignOf_51 : decode cX12_isSignOf 51 = .ok (.if_icmp .eq 81, 3) := by decide +kernel
theorem dX12_isSignOf_54 : decode cX12_isSignOf 54 = .ok (.iload_n 0, 1) := by decide +kernel
theorem dX12_isSignOf_55 : decode cX12_isSignOf 55 = .ok (.bipush 63, 2) := by decide +kernel
theorem dX12_isSignOf_57 : decode cX12_isSignOf 57 = .ok (.if_icmp .eq 75, 3) := by decide +kernel
theorem dX12_isSignOf_60 : decode cX12_isSignOf 60 = .ok (.iload_n 0, 1) := by decide +kernel
theorem dX12_isSignOf_61 : decode cX12_isSignOf 61 = .ok (.bipush 64, 2) := by decide +kernel
theorem dX12_isSignOf_63 : decode cX12_isSignOf 63 = .ok (.if_icmp .eq 69, 3) := by decide +kernel
theorem dX12_isSignOf_66 : decode cX12_isSignOf 66 = .ok (.iload_n 0, 1) := by decide +kernel
theorem dX12_isSignOf_67 : decode cX12_isSignOf 67 = .ok (.bipush 35, 2) := by decide +kernel
theorem dX12_isSignOf_69 : decode cX12_isSignOf 69 = .ok (.if_icmp .eq 63, 3) := by decide +kernel
theorem dX12_isSignOf_72 : decode cX12_isSignOf 72 = .ok (.iload_n 0, 1) := by decide +kernel
theorem dX12_isSignOf_73 : decode cX12_isSignOf 73 = .ok (.bipush 43, 2) := by decide +kernel
theorem dX12_isSignOf_75 : decode cX12_isSignOf 75 = .ok (.if_icmp .eq 57, 3) := by decide +kernel
theorem dX12_isSignOf_78 : decode cX12_isSignOf 78 = .ok (.iload_n 0, 1) := by decide +kernel
theorem dX12_isSignOf_79 : decode cX12_isSignOf 79 = .ok (.bipush 45, 2) := by decide +kernel
theorem dX12_isSignOf_81 : decode cX12_isSignOf 81 = .ok (.if_icmp .eq 51, 3) := by decide +kernel
theorem dX12_isSignOf_84 : decode cX12_isSignOf 84 = .ok (.iload_n 0, 1) := by decide +kernel
theorem dX12_isSignOf_85 : decode cX12_isSignOf 85 = .ok (.bipush 42, 2) := by decide +kernel
theorem dX12_isSignOf_87 : decode cX12_isSignOf 87 = .ok (.if_icmp .eq 45, 3) := by decide +kernel
theorem dX12_isSignOf_90 : decode cX12_isSignOf 90 = .ok (.iload_n 0, 1) := by decide +kernel
theorem dX12_isSignOf_91 : decode cX12_isSignOf 91 = .ok (.bipush 47, 2) := by decide +kernel
theorem dX12_isSignOf_93 : decode cX12_isSignOf 93 = .ok (.if_icmp .eq 39, 3) := by decide +kernel
theorem dX12_isSignOf_96 : decode cX12_isSignOf 96 = .ok (.iload_n 0, 1) := by decide +kernel
theorem dX12_isSignOf_97 : decode cX12_isSignOf 97 = .ok (.bipush 37, 2) := by decide +kernel
theorem dX12_isSignOf_99 : decode cX12_isSignOf 99 = .ok (.if_icmp .eq 33, 3) := by decide +kernel
theorem dX12_isSignOf_102 : decode cX12_isSignOf 102 = .ok (.iload_n 0, 1) := by decide +kernel
theorem dX12_isSignOf_103 : decode cX12_isSignOf 103 = .ok (.bipush 60, 2) := by decide +kernel
theorem dX12_isSignOf_105 : decode cX12_isSignOf 105 = .ok (.if_icmp .eq 27, 3) := by decide +kernel
theorem dX12_isSignOf_108 : decode cX12_isSignOf 108 = .ok (.iload_n 0, 1) := by decide +kernel
theorem dX12_isSignOf_109 : decode cX12_isSignOf 109 = .ok (.bipush 62, 2) := by decide +kernel
theorem dX12_isSignOf_111 : decode cX12_isSignOf 111 = .ok (.if_icmp .eq 21, 3) := by decide +kernel
theorem dX12_isSignOf_114 : decode cX12_isSignOf 114 = .ok (.iload_n 0, 1) := by decide +kernel
theorem dX12_isSignOf_115 : decode cX12_isSignOf 115 = .ok (.bipush 38, 2) := by decide +kernel
theorem dX12_isSignOf_117 : decode cX12_isSignOf 117 = .ok (.if_icmp .eq 15, 3) := by decide +kernel
theorem dX12_isSignOf_120 : decode cX12_isSignOf 120 = .ok (.iload_n 0, 1) := by decide +kernel
theorem dX12_isSignOf_121 : decode cX12_isSignOf 121 = .ok (.bipush 124, 2) := by decide +kernel
theorem dX12_isSignOf_123 : decode cX12_isSignOf 123 = .ok (.if_icmp .eq 9, 3) := by decide +kernel
theorem dX12_isSignOf_126 : decode cX12_isSignOf 126 = .ok (.iload_n 0, 1) := by decide +kernel
theorem dX12_isSignOf_127 : decode cX12_isSignOf 127 = .ok (.bipush 126, 2) := by decide +kernel
theorem dX12_isSignOf_129 : decode cX12_isSignOf 129 = .ok (.if_icmp .ne 7, 3) := by decide +kernel
theorem dX12_isSignOf_132 : decode cX12_isSignOf 132 = .ok (.iconst 1, 1) := by decide +kernel
theorem dX12_isSignOf_133 : decode cX12_isSignOf 133 = .ok (.goto 4, 3) := by decide +kernel
theorem dX12_isSignOf_136 : decode cX12_isSignOf 136 = .ok (.iconst 0, 1) := by decide +kernel
theorem dX12_isSignOf_137 : decode cX12_isSignOf 137 = .ok (.ireturn, 1) := by decide +kernel
theorem dX12_nextNumber_0 : decode cX12_nextNumber 0 = .ok (.iload_n 1, 1) := by decide +kernel
theorem dX12_nextNumber_1 : decode cX12_nextNumber 1 = .ok (.ifCond .eq 12, 3) := by decide +kernel
theorem dX12_nextNumber_4 : decode cX12_nextNumber 4 = .ok (.aload_n 0, 1) := by decide +kernel
theorem dX12_nextNumber_5 : decode cX12_nextNumber 5 = .ok (.getfield 59, 3) := by decide +kernel
theorem dX12_nextNumber_8 : decode cX12_nextNumber 8 = .ok (.iconst 1, 1) := by decide +kernel
theorem dX12_nextNumber_9 : decode cX12_nextNumber 9 = .ok (.iadd, 1) := by decide +kernel
theorem dX12_nextNumber_10 : decode cX12_nextNumber 10 = .ok (.goto 7, 3) := by decide +kernel
theorem dX12_nextNumber_13 : decode cX12_nextNumber 13 = .ok (.aload_n 0, 1) := by decide +kernel
theorem dX12_nextNumber_14 : decode cX12_nextNumber 14 = .ok (.getfield 59, 3) := by decide +kernel
theorem dX12_nextNumber_17 : decode cX12_nextNumber 17 = .ok (.istore_n 2, 1) := by decide +kernel
theorem dX12_nextNumber_18 : decode cX12_nextNumber 18 = .ok (.aload_n 0, 1) := by decide +kernel
theorem dX12_nextNumber_19 : decode cX12_nextNumber 19 = .ok (.iload_n 2, 1) := by decide +kernel
theorem dX12_nextNumber_20 : decode cX12_nextNumber 20 = .ok (.putfield 56, 3) := by decide +kernel
theorem dX12_nextNumber_23 : decode cX12_nextNumber 23 = .ok (.aload_n 0, 1) := by decide +kernel
theorem dX12_nextNumber_24 : decode cX12_nextNumber 24 = .ok (.iconst 0, 1) := by decide +kernel
theorem dX12_nextNumber_25 : decode cX12_nextNumber 25 = .ok (.putfield 91, 3) := by decide +kernel
theorem dX12_nextNumber_28 : decode cX12_nextNumber 28 = .ok (.aload_n 0, 1) := by decide +kernel
theorem dX12_nextNumber_29 : decode cX12_nextNumber 29 = .ok (.aload_n 0, 1) := by decide +kernel
theorem dX12_nextNumber_30 : decode cX12_nextNumber 30 = .ok (.getfield 56, 3) := by decide +kernel
theorem dX12_nextNumber_33 : decode cX12_nextNumber 33 = .ok (.invokevirtual 62, 3) := by decide +kernel
theorem dX12_nextNumber_36 : decode cX12_nextNumber 36 = .ok (.invokestatic 73, 3) := by decide +kernel
theorem dX12_nextNumber_39 : decode cX12_nextNumber 39 = .ok (.ifCond .eq 50, 3) := by decide +kernel
theorem dX12_nextNumber_42 : decode cX12_nextNumber 42 = .ok (.aload_n 0, 1) := by decide +kernel
theorem dX12_nextNumber_43 : decode cX12_nextNumber 43 = .ok (.getfield 56, 3) := by decide +kernel
theorem dX12_nextNumber_46 : decode cX12_nextNumber 46 = .ok (.iload_n 2, 1) := by decide +kernel
theorem dX12_nextNumber_47 : decode cX12_nextNumber 47 = .ok (.isub, 1) := by decide +kernel
theorem dX12_nextNumber_48 : decode cX12_nextNumber 48 = .ok (.bipush 9, 2) := by decide +kernel
theorem dX12_nextNumber_50 : decode cX12_nextNumber 50 = .ok (.if_icmp .ge 26, 3) := by decide +kernel
theorem dX12_nextNumber_53 : decode cX12_nextNumber 53 = .ok (.aload_n 0, 1) := by decide +kernel
theorem dX12_nextNumber_54 : decode cX12_nextNumber 54 = .ok (.bipush 10, 2) := by decide +kernel
theorem dX12_nextNumber_56 : decode cX12_nextNumber 56 = .ok (.aload_n 0, 1) := by decide +kernel
theorem dX12_nextNumber_57 : decode cX12_nextNumber 57 = .ok (.getfield 91, 3) := by decide +kernel
theorem dX12_nextNumber_60 : decode cX12_nextNumber 60 = .ok (.imul, 1) := by decide +kernel
theorem dX12_nextNumber_61 : decode cX12_nextNumber 61 = .ok (.aload_n 0, 1) := by decide +kernel
theorem dX12_nextNumber_62 : decode cX12_nextNumber 62 = .ok (.aload_n 0, 1) := by decide +kernel
theorem dX12_nextNumber_63 : decode cX12_nextNumber 63 = .ok (.getfield 56, 3) := by decide +kernel
theorem dX12_nextNumber_66 : decode cX12_nextNumber 66 = .ok (.invokevirtual 62, 3) := by decide +kernel
theorem dX12_nextNumber_69 : decode cX12_nextNumber 69 = .ok (.iadd, 1) := by decide +kernel
theorem dX12_nextNumber_70 : decode cX12_nextNumber 70 = .ok (.bipush 48, 2) := by decide +kernel
theorem dX12_nextNumber_72 : decode cX12_nextNumber 72 = .ok (.isub, 1) := by decide +kernel
theorem dX12_nextNumber_73 : decode cX12_nextNumber 73 = .ok (.putfield 91, 3) := by decide +kernel
theorem dX12_nextNumber_76 : decode cX12_nextNumber 76 = .ok (.aload_n 0, 1) := by decide +kernel
theorem dX12_nextNumber_77 : decode cX12_nextNumber 77 = .ok (.dup, 1) := by decide +kernel
theorem dX12_nextNumber_78 : decode cX12_nextNumber 78 = .ok (.getfield 56, 3) := by decide +kernel
theorem dX12_nextNumber_81 : decode cX12_nextNumber 81 = .ok (.iconst 1, 1) := by decide +kernel
theorem dX12_nextNumber_82 : decode cX12_nextNumber 82 = .ok (.iadd, 1) := by decide +kernel
theorem dX12_nextNumber_83 : decode cX12_nextNumber 83 = .ok (.putfield 56, 3) := by decide +kernel
theorem dX12_nextNumber_86 : decode cX12_nextNumber 86 = .ok (.goto (-58), 3) := by decide +kernel
theorem dX12_nextNumber_89 : decode cX12_nextNumber 89 = .ok (.aload_n 0, 1) := by decide +kernel
theorem dX12_nextNumber_90 : decode cX12_nextNumber 90 = .ok (.aload_n 0, 1) := by decide +kernel
theorem dX12_nextNumber_91 : decode cX12_nextNumber 91 = .ok (.getfield 56, 3) := by decide +kernel
theorem dX12_nextNumber_94 : decode cX12_nextNumber 94 = .ok (.iload_n 2, 1) := by decide +kernel
theorem dX12_nextNumber_95 : decode cX12_nextNumber 95 = .ok (.isub, 1) := by decide +kernel
theorem dX12_nextNumber_96 : decode cX12_nextNumber 96 = .ok (.bipush 9, 2) := by decide +kernel
theorem dX12_nextNumber_98 : decode cX12_nextNumber 98 = .ok (.if_icmp .gt 17, 3) := by decide +kernel
theorem dX12_nextNumber_101 : decode cX12_nextNumber 101 = .ok (.aload_n 0, 1) := by decide +kernel
theorem dX12_nextNumber_102 : decode cX12_nextNumber 102 = .ok (.aload_n 0, 1) := by decide +kernel
theorem dX12_nextNumber_103 : decode cX12_nextNumber 103 = .ok (.getfield 56, 3) := by decide +kernel
theorem dX12_nextNumber_106 : decode cX12_nextNumber 106 = .ok (.invokevirtual 62, 3) := by decide +kernel
theorem dX12_nextNumber_109 : decode cX12_nextNumber 109 = .ok (.invokestatic 69, 3) := by decide +kernel
theorem dX12_nextNumber_112 : decode cX12_nextNumber 112 = .ok (.ifCond .eq 7, 3) := by decide +kernel
theorem dX12_nextNumber_115 : decode cX12_nextNumber 115 = .ok (.iconst 1, 1) := by decide +kernel
theorem dX12_nextNumber_116 : decode cX12_nextNumber 116 = .ok (.goto 4, 3) := by decide +kernel
theorem dX12_nextNumber_119 : decode cX12_nextNumber 119 = .ok (.iconst 4, 1) := by decide +kernel
theorem dX12_nextNumber_120 : decode cX12_nextNumber 120 = .ok (.putfield 66, 3) := by decide +kernel
theorem dX12_nextNumber_123 : decode cX12_nextNumber 123 = .ok (.iload_n 1, 1) := by decide +kernel
theorem dX12_nextNumber_124 : decode cX12_nextNumber 124 = .ok (.ifCond .eq 12, 3) := by decide +kernel
theorem dX12_nextNumber_127 : decode cX12_nextNumber 127 = .ok (.aload_n 0, 1) := by decide +kernel
theorem dX12_nextNumber_128 : decode cX12_nextNumber 128 = .ok (.aload_n 0, 1) := by decide +kernel
theorem dX12_nextNumber_129 : decode cX12_nextNumber 129 = .ok (.getfield 91, 3) := by decide +kernel
theorem dX12_nextNumber_132 : decode cX12_nextNumber 132 = .ok (.ineg, 1) := by decide +kernel
theorem dX12_nextNumber_133 : decode cX12_nextNumber 133 = .ok (.putfield 91, 3) := by decide +kernel
theorem dX12_nextNumber_136 : decode cX12_nextNumber 136 = .ok (.return_, 1) := by decide +kernel
theorem dX12_next_0 : decode cX12_next 0 = .ok (.aload_n 0, 1) := by decide +kernel
theorem dX12_next_1 : decode cX12_next 1 = .ok (.aload_n 0, 1) := by decide +kernel
theorem dX12_next_2 : decode cX12_next 2 = .ok (.getfield 56, 3) := by decide +kernel
theorem dX12_next_5 : decode cX12_next 5 = .ok (.putfield 59, 3) := by decide +kernel
theorem dX12_next_8 : decode cX12_next 8 = .ok (.aload_n 0, 1) := by decide +kernel
theorem dX12_next_9 : decode cX12_next 9 = .ok (.getfield 59, 3) := by decide +kernel
theorem dX12_next_12 : decode cX12_next 12 = .ok (.aload_n 0, 1) := by decide +kernel
theorem dX12_next_13 : decode cX12_next 13 = .ok (.getfield 1, 3) := by decide +kernel
theorem dX12_next_16 : decode cX12_next 16 = .ok (.if_icmp .ge 42, 3) := by decide +kernel
theorem dX12_next_19 : decode cX12_next 19 = .ok (.aload_n 0, 1) := by decide +kernel
theorem dX12_next_20 : decode cX12_next 20 = .ok (.aload_n 0, 1) := by decide +kernel
theorem dX12_next_21 : decode cX12_next 21 = .ok (.getfield 59, 3) := by decide +kernel
theorem dX12_next_24 : decode cX12_next 24 = .ok (.invokevirtual 62, 3) := by decide +kernel
theorem dX12_next_27 : decode cX12_next 27 = .ok (.bipush 32, 2) := by decide +kernel
theorem dX12_next_29 : decode cX12_next 29 = .ok (.if_icmp .eq 16, 3) := by decide +kernel
theorem dX12_next_32 : decode cX12_next 32 = .ok (.aload_n 0, 1) := by decide +kernel
theorem dX12_next_33 : decode cX12_next 33 = .ok (.aload_n 0, 1) := by decide +kernel
theorem dX12_next_34 : decode cX12_next 34 = .ok (.getfield 59, 3) := by decide +kernel
theorem dX12_next_37 : decode cX12_next 37 = .ok (.invokevirtual 62, 3) := by decide +kernel
theorem dX12_next_40 : decode cX12_next 40 = .ok (.bipush 10, 2) := by decide +kernel
theorem dX12_next_42 : decode cX12_next 42 = .ok (.if_icmp .ne 16, 3) := by decide +kernel
theorem dX12_next_45 : decode cX12_next 45 = .ok (.aload_n 0, 1) := by decide +kernel
theorem dX12_next_46 : decode cX12_next 46 = .ok (.dup, 1) := by decide +kernel
theorem dX12_next_47 : decode cX12_next 47 = .ok (.getfield 59, 3) := by decide +kernel
theorem dX12_next_50 : decode cX12_next 50 = .ok (.iconst 1, 1) := by decide +kernel
theorem dX12_next_51 : decode cX12_next 51 = .ok (.iadd, 1) := by decide +kernel
theorem dX12_next_52 : decode cX12_next 52 = .ok (.putfield 59, 3) := by decide +kernel
theorem dX12_next_55 : decode cX12_next 55 = .ok (.goto (-47), 3) := by decide +kernel
theorem dX12_next_58 : decode cX12_next 58 = .ok (.aload_n 0, 1) := by decide +kernel
theorem dX12_next_59 : decode cX12_next 59 = .ok (.aload_n 0, 1) := by decide +kernel
theorem dX12_next_60 : decode cX12_next 60 = .ok (.getfield 59, 3) := by decide +kernel
theorem dX12_next_63 : decode cX12_next 63 = .ok (.iconst 1, 1) := by decide +kernel
theorem dX12_next_64 : decode cX12_next 64 = .ok (.iadd, 1) := by decide +kernel
theorem dX12_next_65 : decode cX12_next 65 = .ok (.putfield 56, 3) := by decide +kernel
theorem dX12_next_68 : decode cX12_next 68 = .ok (.aload_n 0, 1) := by decide +kernel
theorem dX12_next_69 : decode cX12_next 69 = .ok (.aload_n 0, 1) := by decide +kernel
theorem dX12_next_70 : decode cX12_next 70 = .ok (.getfield 59, 3) := by decide +kernel
theorem dX12_next_73 : decode cX12_next 73 = .ok (.invokevirtual 62, 3) := by decide +kernel
theorem dX12_next_76 : decode cX12_next 76 = .ok (.istore_n 1, 1) := by decide +kernel
theorem dX12_next_77 : decode cX12_next 77 = .ok (.aload_n 0, 1) := by decide +kernel
theorem dX12_next_78 : decode cX12_next 78 = .ok (.getfield 59, 3) := by decide +kernel
theorem dX12_next_81 : decode cX12_next 81 = .ok (.aload_n 0, 1) := by decide +kernel
theorem dX12_next_82 : decode cX12_next 82 = .ok (.getfield 1, 3) := by decide +kernel
theorem dX12_next_85 : decode cX12_next 85 = .ok (.if_icmp .lt 27, 3) := by decide +kernel
theorem dX12_next_88 : decode cX12_next 88 = .ok (.aload_n 0, 1) := by decide +kernel
theorem dX12_next_89 : decode cX12_next 89 = .ok (.aload_n 0, 1) := by decide +kernel
theorem dX12_next_90 : decode cX12_next 90 = .ok (.getfield 1, 3) := by decide +kernel
theorem dX12_next_93 : decode cX12_next 93 = .ok (.putfield 59, 3) := by decide +kernel
theorem dX12_next_96 : decode cX12_next 96 = .ok (.aload_n 0, 1) := by decide +kernel
theorem dX12_next_97 : decode cX12_next 97 = .ok (.aload_n 0, 1) := by decide +kernel
theorem dX12_next_98 : decode cX12_next 98 = .ok (.getfield 1, 3) := by decide +kernel
theorem dX12_next_101 : decode cX12_next 101 = .ok (.putfield 56, 3) := by decide +kernel
theorem dX12_next_104 : decode cX12_next 104 = .ok (.aload_n 0, 1) := by decide +kernel
theorem dX12_next_105 : decode cX12_next 105 = .ok (.iconst 0, 1) := by decide +kernel
theorem dX12_next_106 : decode cX12_next 106 = .ok (.putfield 66, 3) := by decide +kernel
theorem dX12_next_109 : decode cX12_next 109 = .ok (.goto 324, 3) := by decide +kernel
theorem dX12_next_112 : decode cX12_next 112 = .ok (.iload_n 1, 1) := by decide +kernel
theorem dX12_next_113 : decode cX12_next 113 = .ok (.invokestatic 69, 3) := by decide +kernel
theorem dX12_next_116 : decode cX12_next 116 = .ok (.ifCond .eq 137, 3) := by decide +kernel
theorem dX12_next_119 : decode cX12_next 119 = .ok (.aload_n 0, 1) := by decide +kernel
theorem dX12_next_120 : decode cX12_next 120 = .ok (.aload_n 0, 1) := by decide +kernel
theorem dX12_next_121 : decode cX12_next 121 = .ok (.getfield 56, 3) := by decide +kernel
theorem dX12_next_124 : decode cX12_next 124 = .ok (.invokevirtual 62, 3) := by decide +kernel
theorem dX12_next_127 : decode cX12_next 127 = .ok (.invokestatic 69, 3) := by decide +kernel
theorem dX12_next_130 : decode cX12_next 130 = .ok (.ifCond .ne 17, 3) := by decide +kernel
theorem dX12_next_133 : decode cX12_next 133 = .ok (.aload_n 0, 1) := by decide +kernel
theorem dX12_next_134 : decode cX12_next 134 = .ok (.aload_n 0, 1) := by decide +kernel
theorem dX12_next_135 : decode cX12_next 135 = .ok (.getfield 56, 3) := by decide +kernel
theorem dX12_next_138 : decode cX12_next 138 = .ok (.invokevirtual 62, 3) := by decide +kernel
theorem dX12_next_141 : decode cX12_next 141 = .ok (.invokestatic 73, 3) := by decide +kernel
theorem dX12_next_144 : decode cX12_next 144 = .ok (.ifCond .eq 16, 3) := by decide +kernel
theorem dX12_next_147 : decode cX12_next 147 = .ok (.aload_n 0, 1) := by decide +kernel
theorem dX12_next_148 : decode cX12_next 148 = .ok (.dup, 1) := by decide +kernel
theorem dX12_next_149 : decode cX12_next 149 = .ok (.getfield 56, 3) := by decide +kernel
theorem dX12_next_152 : decode cX12_next 152 = .ok (.iconst 1, 1) := by decide +kernel
theorem dX12_next_153 : decode cX12_next 153 = .ok (.iadd, 1) := by decide +kernel
theorem dX12_next_154 : decode cX12_next 154 = .ok (.putfield 56, 3) := by decide +kernel
theorem dX12_next_157 : decode cX12_next 157 = .ok (.goto (-38), 3) := by decide +kernel
theorem dX12_next_160 : decode cX12_next 160 = .ok (.aload_n 0, 1) := by decide +kernel
theorem dX12_next_161 : decode cX12_next 161 = .ok (.lconst 0, 1) := by decide +kernel
theorem dX12_next_162 : decode cX12_next 162 = .ok (.putfield 76, 3) := by decide +kernel
theorem dX12_next_165 : decode cX12_next 165 = .ok (.aload_n 0, 1) := by decide +kernel
theorem dX12_next_166 : decode cX12_next 166 = .ok (.getfield 59, 3) := by decide +kernel
theorem dX12_next_169 : decode cX12_next 169 = .ok (.istore_n 2, 1) := by decide +kernel
theorem dX12_next_170 : decode cX12_next 170 = .ok (.iload_n 2, 1) := by decide +kernel
theorem dX12_next_171 : decode cX12_next 171 = .ok (.aload_n 0, 1) := by decide +kernel
theorem dX12_next_172 : decode cX12_next 172 = .ok (.getfield 56, 3) := by decide +kernel
theorem dX12_next_175 : decode cX12_next 175 = .ok (.if_icmp .ge 38, 3) := by decide +kernel
theorem dX12_next_178 : decode cX12_next 178 = .ok (.iload_n 2, 1) := by decide +kernel
theorem dX12_next_179 : decode cX12_next 179 = .ok (.aload_n 0, 1) := by decide +kernel
theorem dX12_next_180 : decode cX12_next 180 = .ok (.getfield 59, 3) := by decide +kernel
theorem dX12_next_183 : decode cX12_next 183 = .ok (.bipush 8, 2) := by decide +kernel
theorem dX12_next_185 : decode cX12_next 185 = .ok (.iadd, 1) := by decide +kernel
theorem dX12_next_186 : decode cX12_next 186 = .ok (.if_icmp .ge 27, 3) := by decide +kernel
theorem dX12_next_189 : decode cX12_next 189 = .ok (.aload_n 0, 1) := by decide +kernel
theorem dX12_next_190 : decode cX12_next 190 = .ok (.aload_n 0, 1) := by decide +kernel
theorem dX12_next_191 : decode cX12_next 191 = .ok (.getfield 76, 3) := by decide +kernel
theorem dX12_next_194 : decode cX12_next 194 = .ok (.bipush 8, 2) := by decide +kernel
theorem dX12_next_196 : decode cX12_next 196 = .ok (.lshl, 1) := by decide +kernel
theorem dX12_next_197 : decode cX12_next 197 = .ok (.aload_n 0, 1) := by decide +kernel
theorem dX12_next_198 : decode cX12_next 198 = .ok (.iload_n 2, 1) := by decide +kernel
theorem dX12_next_199 : decode cX12_next 199 = .ok (.invokevirtual 62, 3) := by decide +kernel
theorem dX12_next_202 : decode cX12_next 202 = .ok (.i2l, 1) := by decide +kernel
theorem dX12_next_203 : decode cX12_next 203 = .ok (.lor, 1) := by decide +kernel
theorem dX12_next_204 : decode cX12_next 204 = .ok (.putfield 76, 3) := by decide +kernel
theorem dX12_next_207 : decode cX12_next 207 = .ok (.iinc 2 1, 3) := by decide +kernel
theorem dX12_next_210 : decode cX12_next 210 = .ok (.goto (-40), 3) := by decide +kernel
theorem dX12_next_213 : decode cX12_next 213 = .ok (.aload_n 0, 1) := by decide +kernel
theorem dX12_next_214 : decode cX12_next 214 = .ok (.aload_n 0, 1) := by decide +kernel
theorem dX12_next_215 : decode cX12_next 215 = .ok (.getfield 56, 3) := by decide +kernel
theorem dX12_next_218 : decode cX12_next 218 = .ok (.aload_n 0, 1) := by decide +kernel
theorem dX12_next_219 : decode cX12_next 219 = .ok (.getfield 59, 3) := by decide +kernel
theorem dX12_next_222 : decode cX12_next 222 = .ok (.isub, 1) := by decide +kernel
theorem dX12_next_223 : decode cX12_next 223 = .ok (.bipush 8, 2) := by decide +kernel
theorem dX12_next_225 : decode cX12_next 225 = .ok (.if_icmp .le 7, 3) := by decide +kernel
theorem dX12_next_228 : decode cX12_next 228 = .ok (.iconst 1, 1) := by decide +kernel
theorem dX12_next_229 : decode cX12_next 229 = .ok (.goto 18, 3) := by decide +kernel
theorem dX12_next_232 : decode cX12_next 232 = .ok (.aload_n 0, 1) := by decide +kernel
theorem dX12_next_233 : decode cX12_next 233 = .ok (.getfield 76, 3) := by decide +kernel
theorem dX12_next_236 : decode cX12_next 236 = .ok (.invokestatic 80, 3) := by decide +kernel
theorem dX12_next_239 : decode cX12_next 239 = .ok (.ifCond .eq 7, 3) := by decide +kernel
theorem dX12_next_242 : decode cX12_next 242 = .ok (.iconst 3, 1) := by decide +kernel
theorem dX12_next_243 : decode cX12_next 243 = .ok (.goto 4, 3) := by decide +kernel
theorem dX12_next_246 : decode cX12_next 246 = .ok (.iconst 2, 1) := by decide +kernel
theorem dX12_next_247 : decode cX12_next 247 = .ok (.putfield 66, 3) := by decide +kernel
theorem dX12_next_250 : decode cX12_next 250 = .ok (.goto 183, 3) := by decide +kernel
theorem dX12_next_253 : decode cX12_next 253 = .ok (.iload_n 1, 1) := by decide +kernel
theorem dX12_next_254 : decode cX12_next 254 = .ok (.invokestatic 73, 3) := by decide +kernel
theorem dX12_next_257 : decode cX12_next 257 = .ok (.ifCond .ne 23, 3) := by decide +kernel
theorem dX12_next_260 : decode cX12_next 260 = .ok (.iload_n 1, 1) := by decide +kernel
theorem dX12_next_261 : decode cX12_next 261 = .ok (.bipush 45, 2) := by decide +kernel
theorem dX12_next_263 : decode cX12_next 263 = .ok (.if_icmp .ne 35, 3) := by decide +kernel
theorem dX12_next_266 : decode cX12_next 266 = .ok (.aload_n 0, 1) := by decide +kernel
theorem dX12_next_267 : decode cX12_next 267 = .ok (.aload_n 0, 1) := by decide +kernel
theorem dX12_next_268 : decode cX12_next 268 = .ok (.getfield 56, 3) := by decide +kernel
theorem dX12_next_271 : decode cX12_next 271 = .ok (.invokevirtual 62, 3) := by decide +kernel
theorem dX12_next_274 : decode cX12_next 274 = .ok (.invokestatic 73, 3) := by decide +kernel
theorem dX12_next_277 : decode cX12_next 277 = .ok (.ifCond .eq 21, 3) := by decide +kernel
theorem dX12_next_280 : decode cX12_next 280 = .ok (.aload_n 0, 1) := by decide +kernel
theorem dX12_next_281 : decode cX12_next 281 = .ok (.iload_n 1, 1) := by decide +kernel
theorem dX12_next_282 : decode cX12_next 282 = .ok (.bipush 45, 2) := by decide +kernel
theorem dX12_next_284 : decode cX12_next 284 = .ok (.if_icmp .ne 7, 3) := by decide +kernel
theorem dX12_next_287 : decode cX12_next 287 = .ok (.iconst 1, 1) := by decide +kernel
theorem dX12_next_288 : decode cX12_next 288 = .ok (.goto 4, 3) := by decide +kernel
theorem dX12_next_291 : decode cX12_next 291 = .ok (.iconst 0, 1) := by decide +kernel
theorem dX12_next_292 : decode cX12_next 292 = .ok (.invokevirtual 84, 3) := by decide +kernel
theorem dX12_next_295 : decode cX12_next 295 = .ok (.goto 138, 3) := by decide +kernel
theorem dX12_next_298 : decode cX12_next 298 = .ok (.iload_n 1, 1) := by decide +kernel
theorem dX12_next_299 : decode cX12_next 299 = .ok (.bipush 34, 2) := by decide +kernel
theorem dX12_next_301 : decode cX12_next 301 = .ok (.if_icmp .ne 115, 3) := by decide +kernel
theorem dX12_next_304 : decode cX12_next 304 = .ok (.aload_n 0, 1) := by decide +kernel
theorem dX12_next_305 : decode cX12_next 305 = .ok (.getfield 56, 3) := by decide +kernel
theorem dX12_next_308 : decode cX12_next 308 = .ok (.aload_n 0, 1) := by decide +kernel
theorem dX12_next_309 : decode cX12_next 309 = .ok (.getfield 1, 3) := by decide +kernel
theorem dX12_next_312 : decode cX12_next 312 = .ok (.if_icmp .ge 55, 3) := by decide +kernel
theorem dX12_next_315 : decode cX12_next 315 = .ok (.aload_n 0, 1) := by decide +kernel
theorem dX12_next_316 : decode cX12_next 316 = .ok (.aload_n 0, 1) := by decide +kernel
theorem dX12_next_317 : decode cX12_next 317 = .ok (.getfield 56, 3) := by decide +kernel
theorem dX12_next_320 : decode cX12_next 320 = .ok (.invokevirtual 62, 3) := by decide +kernel
theorem dX12_next_323 : decode cX12_next 323 = .ok (.bipush 32, 2) := by decide +kernel
theorem dX12_next_325 : decode cX12_next 325 = .ok (.if_icmp .lt 42, 3) := by decide +kernel
theorem dX12_next_328 : decode cX12_next 328 = .ok (.aload_n 0, 1) := by decide +kernel
theorem dX12_next_329 : decode cX12_next 329 = .ok (.aload_n 0, 1) := by decide +kernel
theorem dX12_next_330 : decode cX12_next 330 = .ok (.getfield 56, 3) := by decide +kernel
theorem dX12_next_333 : decode cX12_next 333 = .ok (.invokevirtual 62, 3) := by decide +kernel
theorem dX12_next_336 : decode cX12_next 336 = .ok (.bipush 126, 2) := by decide +kernel
theorem dX12_next_338 : decode cX12_next 338 = .ok (.if_icmp .gt 29, 3) := by decide +kernel
theorem dX12_next_341 : decode cX12_next 341 = .ok (.aload_n 0, 1) := by decide +kernel
theorem dX12_next_342 : decode cX12_next 342 = .ok (.aload_n 0, 1) := by decide +kernel
theorem dX12_next_343 : decode cX12_next 343 = .ok (.getfield 56, 3) := by decide +kernel
theorem dX12_next_346 : decode cX12_next 346 = .ok (.invokevirtual 62, 3) := by decide +kernel
theorem dX12_next_349 : decode cX12_next 349 = .ok (.bipush 34, 2) := by decide +kernel
theorem dX12_next_351 : decode cX12_next 351 = .ok (.if_icmp .eq 16, 3) := by decide +kernel
theorem dX12_next_354 : decode cX12_next 354 = .ok (.aload_n 0, 1) := by decide +kernel
theorem dX12_next_355 : decode cX12_next 355 = .ok (.dup, 1) := by decide +kernel
theorem dX12_next_356 : decode cX12_next 356 = .ok (.getfield 56, 3) := by decide +kernel
theorem dX12_next_359 : decode cX12_next 359 = .ok (.iconst 1, 1) := by decide +kernel
theorem dX12_next_360 : decode cX12_next 360 = .ok (.iadd, 1) := by decide +kernel
theorem dX12_next_361 : decode cX12_next 361 = .ok (.putfield 56, 3) := by decide +kernel
theorem dX12_next_364 : decode cX12_next 364 = .ok (.goto (-60), 3) := by decide +kernel
theorem dX12_next_367 : decode cX12_next 367 = .ok (.aload_n 0, 1) := by decide +kernel
theorem dX12_next_368 : decode cX12_next 368 = .ok (.aload_n 0, 1) := by decide +kernel
theorem dX12_next_369 : decode cX12_next 369 = .ok (.aload_n 0, 1) := by decide +kernel
theorem dX12_next_370 : decode cX12_next 370 = .ok (.getfield 56, 3) := by decide +kernel
theorem dX12_next_373 : decode cX12_next 373 = .ok (.invokevirtual 62, 3) := by decide +kernel
theorem dX12_next_376 : decode cX12_next 376 = .ok (.bipush 34, 2) := by decide +kernel
theorem dX12_next_378 : decode cX12_next 378 = .ok (.if_icmp .ne 17, 3) := by decide +kernel
theorem dX12_next_381 : decode cX12_next 381 = .ok (.aload_n 0, 1) := by decide +kernel
theorem dX12_next_382 : decode cX12_next 382 = .ok (.getfield 56, 3) := by decide +kernel
theorem dX12_next_385 : decode cX12_next 385 = .ok (.aload_n 0, 1) := by decide +kernel
theorem dX12_next_386 : decode cX12_next 386 = .ok (.getfield 59, 3) := by decide +kernel
theorem dX12_next_389 : decode cX12_next 389 = .ok (.isub, 1) := by decide +kernel
theorem dX12_next_390 : decode cX12_next 390 = .ok (.bipush 31, 2) := by decide +kernel
theorem dX12_next_392 : decode cX12_next 392 = .ok (.if_icmp .le 7, 3) := by decide +kernel
theorem dX12_next_395 : decode cX12_next 395 = .ok (.iconst 1, 1) := by decide +kernel
theorem dX12_next_396 : decode cX12_next 396 = .ok (.goto 4, 3) := by decide +kernel
theorem dX12_next_399 : decode cX12_next 399 = .ok (.iconst 5, 1) := by decide +kernel
theorem dX12_next_400 : decode cX12_next 400 = .ok (.putfield 66, 3) := by decide +kernel
theorem dX12_next_403 : decode cX12_next 403 = .ok (.aload_n 0, 1) := by decide +kernel
theorem dX12_next_404 : decode cX12_next 404 = .ok (.dup, 1) := by decide +kernel
theorem dX12_next_405 : decode cX12_next 405 = .ok (.getfield 56, 3) := by decide +kernel
theorem dX12_next_408 : decode cX12_next 408 = .ok (.iconst 1, 1) := by decide +kernel
theorem dX12_next_409 : decode cX12_next 409 = .ok (.iadd, 1) := by decide +kernel
theorem dX12_next_410 : decode cX12_next 410 = .ok (.putfield 56, 3) := by decide +kernel
theorem dX12_next_413 : decode cX12_next 413 = .ok (.goto 20, 3) := by decide +kernel
theorem dX12_next_416 : decode cX12_next 416 = .ok (.aload_n 0, 1) := by decide +kernel
theorem dX12_next_417 : decode cX12_next 417 = .ok (.iload_n 1, 1) := by decide +kernel
theorem dX12_next_418 : decode cX12_next 418 = .ok (.invokestatic 88, 3) := by decide +kernel
theorem dX12_next_421 : decode cX12_next 421 = .ok (.ifCond .eq 8, 3) := by decide +kernel
theorem dX12_next_424 : decode cX12_next 424 = .ok (.bipush 6, 2) := by decide +kernel
theorem dX12_next_426 : decode cX12_next 426 = .ok (.goto 4, 3) := by decide +kernel
theorem dX12_next_429 : decode cX12_next 429 = .ok (.iconst 1, 1) := by decide +kernel
theorem dX12_next_430 : decode cX12_next 430 = .ok (.putfield 66, 3) := by decide +kernel
theorem dX12_next_433 : decode cX12_next 433 = .ok (.return_, 1) := by decide +kernel
theorem dX12_isSign_0 : decode cX12_isSign 0 = .ok (.aload_n 0, 1) := by decide +kernel
theorem dX12_isSign_1 : decode cX12_isSign 1 = .ok (.getfield 66, 3) := by decide +kernel
theorem dX12_isSign_4 : decode cX12_isSign 4 = .ok (.bipush 6, 2) := by decide +kernel
theorem dX12_isSign_6 : decode cX12_isSign 6 = .ok (.if_icmp .ne 19, 3) := by decide +kernel
theorem dX12_isSign_9 : decode cX12_isSign 9 = .ok (.aload_n 0, 1) := by decide +kernel
theorem dX12_isSign_10 : decode cX12_isSign 10 = .ok (.aload_n 0, 1) := by decide +kernel
theorem dX12_isSign_11 : decode cX12_isSign 11 = .ok (.getfield 59, 3) := by decide +kernel
theorem dX12_isSign_14 : decode cX12_isSign 14 = .ok (.invokevirtual 62, 3) := by decide +kernel
theorem dX12_isSign_17 : decode cX12_isSign 17 = .ok (.iload_n 1, 1) := by decide +kernel
theorem dX12_isSign_18 : decode cX12_isSign 18 = .ok (.if_icmp .ne 7, 3) := by decide +kernel
theorem dX12_isSign_21 : decode cX12_isSign 21 = .ok (.iconst 1, 1) := by decide +kernel
theorem dX12_isSign_22 : decode cX12_isSign 22 = .ok (.goto 4, 3) := by decide +kernel
theorem dX12_isSign_25 : decode cX12_isSign 25 = .ok (.iconst 0, 1) := by decide +kernel
theorem dX12_isSign_26 : decode cX12_isSign 26 = .ok (.ireturn, 1) := by decide +kernel
theorem dX12_isWord_0 : decode cX12_isWord 0 = .ok (.aload_n 0, 1) := by decide +kernel
theorem dX12_isWord_1 : decode cX12_isWord 1 = .ok (.getfield 66, 3) := by decide +kernel
theorem dX12_isWord_4 : decode cX12_isWord 4 = .ok (.iconst 3, 1) := by decide +kernel
theorem dX12_isWord_5 : decode cX12_isWord 5 = .ok (.if_icmp .ne 16, 3) := by decide +kernel
theorem dX12_isWord_8 : decode cX12_isWord 8 = .ok (.aload_n 0, 1) := by decide +kernel
theorem dX12_isWord_9 : decode cX12_isWord 9 = .ok (.getfield 76, 3) := by decide +kernel
theorem dX12_isWord_12 : decode cX12_isWord 12 = .ok (.lload_n 1, 1) := by decide +kernel
theorem dX12_isWord_13 : decode cX12_isWord 13 = .ok (.lcmp, 1) := by decide +kernel
theorem dX12_isWord_14 : decode cX12_isWord 14 = .ok (.ifCond .ne 7, 3) := by decide +kernel
theorem dX12_isWord_17 : decode cX12_isWord 17 = .ok (.iconst 1, 1) := by decide +kernel
theorem dX12_isWord_18 : decode cX12_isWord 18 = .ok (.goto 4, 3) := by decide +kernel
theorem dX12_isWord_21 : decode cX12_isWord 21 = .ok (.iconst 0, 1) := by decide +kernel
theorem dX12_isWord_22 : decode cX12_isWord 22 = .ok (.ireturn, 1) := by decide +kernel
theorem dX12_wrong_0 : decode cX12_wrong 0 = .ok (.aload_n 0, 1) := by decide +kernel
theorem dX12_wrong_1 : decode cX12_wrong 1 = .ok (.aload_n 0, 1) := by decide +kernel
theorem dX12_wrong_2 : decode cX12_wrong 2 = .ok (.getfield 66, 3) := by decide +kernel
theorem dX12_wrong_5 : decode cX12_wrong 5 = .ok (.iconst 1, 1) := by decide +kernel
theorem dX12_wrong_6 : decode cX12_wrong 6 = .ok (.if_icmp .ne 7, 3) := by decide +kernel
theorem dX12_wrong_9 : decode cX12_wrong 9 = .ok (.iconst 1, 1) := by decide +kernel
theorem dX12_wrong_10 : decode cX12_wrong 10 = .ok (.goto 4, 3) := by decide +kernel
theorem dX12_wrong_13 : decode cX12_wrong 13 = .ok (.iconst 2, 1) := by decide +kernel
theorem dX12_wrong_14 : decode cX12_wrong 14 = .ok (.aload_n 0, 1) := by decide +kernel
theorem dX12_wrong_15 : decode cX12_wrong 15 = .ok (.getfield 59, 3) := by decide +kernel
theorem dX12_wrong_18 : decode cX12_wrong 18 = .ok (.invokevirtual 94, 3) := by decide +kernel
theorem dX12_wrong_21 : decode cX12_wrong 21 = .ok (.pop, 1) := by decide +kernel
theorem dX12_wrong_22 : decode cX12_wrong 22 = .ok (.return_, 1) := by decide +kernel
theorem dX12_wrong2_0 : decode cX12_wrong2 0 = .ok (.aload_n 0, 1) := by decide +kernel
theorem dX12_wrong2_1 : decode cX12_wrong2 1 = .ok (.aload_n 0, 1) := by decide +kernel
theorem dX12_wrong2_2 : decode cX12_wrong2 2 = .ok (.getfield 66, 3) := by decide +kernel
theorem dX12_wrong2_5 : decode cX12_wrong2 5 = .ok (.iconst 1, 1) := by decide +kernel
theorem dX12_wrong2_6 : decode cX12_wrong2 6 = .ok (.if_icmp .ne 7, 3) := by decide +kernel
theorem dX12_wrong2_9 : decode cX12_wrong2 9 = .ok (.iconst 1, 1) := by decide +kernel
theorem dX12_wrong2_10 : decode cX12_wrong2 10 = .ok (.goto 4, 3) := by decide +kernel
theorem dX12_wrong2_13 : decode cX12_wrong2 13 = .ok (.iconst 2, 1) := by decide +kernel
theorem dX12_wrong2_14 : decode cX12_wrong2 14 = .ok (.aload_n 0, 1) := by decide +kernel
theorem dX12_wrong2_15 : decode cX12_wrong2 15 = .ok (.getfield 59, 3) := by decide +kernel
theorem dX12_wrong2_18 : decode cX12_wrong2 18 = .ok (.invokevirtual 94, 3) := by decide +kernel
theorem dX12_wrong2_21 : decode cX12_wrong2 21 = .ok (.pop, 1) := by decide +kernel
theorem dX12_wrong2_22 : decode cX12_wrong2 22 = .ok (.return_, 1) := by decide +kernel
theorem dX12_must_0 : decode cX12_must 0 = .ok (.aload_n 0, 1) := by decide +kernel
theorem dX12_must_1 : decode cX12_must 1 = .ok (.iload_n 1, 1) := by decide +kernel
theorem dX12_must_2 : decode cX12_must 2 = .ok (.invokevirtual 98, 3) := by decide +kernel
theorem dX12_must_5 : decode cX12_must 5 = .ok (.ifCond .ne 10, 3) := by decide +kernel
theorem dX12_must_8 : decode cX12_must 8 = .ok (.aload_n 0, 1) := by decide +kernel
theorem dX12_must_9 : decode cX12_must 9 = .ok (.invokevirtual 101, 3) := by decide +kernel
theorem dX12_must_12 : decode cX12_must 12 = .ok (.goto 7, 3) := by decide +kernel
theorem dX12_must_15 : decode cX12_must 15 = .ok (.aload_n 0, 1) := by decide +kernel
theorem dX12_must_16 : decode cX12_must 16 = .ok (.invokevirtual 105, 3) := by decide +kernel
theorem dX12_must_19 : decode cX12_must 19 = .ok (.return_, 1) := by decide +kernel
theorem dX12_nameOf_0 : decode cX12_nameOf 0 = .ok (.iconst 0, 1) := by decide +kernel
theorem dX12_nameOf_1 : decode cX12_nameOf 1 = .ok (.istore_n 3, 1) := by decide +kernel
theorem dX12_nameOf_2 : decode cX12_nameOf 2 = .ok (.iload_n 3, 1) := by decide +kernel
theorem dX12_nameOf_3 : decode cX12_nameOf 3 = .ok (.aload_n 0, 1) := by decide +kernel
theorem dX12_nameOf_4 : decode cX12_nameOf 4 = .ok (.getfield 108, 3) := by decide +kernel
theorem dX12_nameOf_7 : decode cX12_nameOf 7 = .ok (.if_icmp .ge 38, 3) := by decide +kernel
theorem dX12_nameOf_10 : decode cX12_nameOf 10 = .ok (.aload_n 0, 1) := by decide +kernel
theorem dX12_nameOf_11 : decode cX12_nameOf 11 = .ok (.getfield 111, 3) := by decide +kernel
theorem dX12_nameOf_14 : decode cX12_nameOf 14 = .ok (.bipush 64, 2) := by decide +kernel
theorem dX12_nameOf_16 : decode cX12_nameOf 16 = .ok (.aload_n 0, 1) := by decide +kernel
theorem dX12_nameOf_17 : decode cX12_nameOf 17 = .ok (.getfield 11, 3) := by decide +kernel
theorem dX12_nameOf_20 : decode cX12_nameOf 20 = .ok (.imul, 1) := by decide +kernel
theorem dX12_nameOf_21 : decode cX12_nameOf 21 = .ok (.iload_n 3, 1) := by decide +kernel
theorem dX12_nameOf_22 : decode cX12_nameOf 22 = .ok (.iadd, 1) := by decide +kernel
theorem dX12_nameOf_23 : decode cX12_nameOf 23 = .ok (.laload, 1) := by decide +kernel
theorem dX12_nameOf_24 : decode cX12_nameOf 24 = .ok (.lload_n 1, 1) := by decide +kernel
theorem dX12_nameOf_25 : decode cX12_nameOf 25 = .ok (.lcmp, 1) := by decide +kernel
theorem dX12_nameOf_26 : decode cX12_nameOf 26 = .ok (.ifCond .ne 13, 3) := by decide +kernel
theorem dX12_nameOf_29 : decode cX12_nameOf 29 = .ok (.bipush 64, 2) := by decide +kernel
theorem dX12_nameOf_31 : decode cX12_nameOf 31 = .ok (.aload_n 0, 1) := by decide +kernel
theorem dX12_nameOf_32 : decode cX12_nameOf 32 = .ok (.getfield 11, 3) := by decide +kernel
theorem dX12_nameOf_35 : decode cX12_nameOf 35 = .ok (.imul, 1) := by decide +kernel
theorem dX12_nameOf_36 : decode cX12_nameOf 36 = .ok (.iload_n 3, 1) := by decide +kernel
theorem dX12_nameOf_37 : decode cX12_nameOf 37 = .ok (.iadd, 1) := by decide +kernel
theorem dX12_nameOf_38 : decode cX12_nameOf 38 = .ok (.ireturn, 1) := by decide +kernel
theorem dX12_nameOf_39 : decode cX12_nameOf 39 = .ok (.iinc 3 1, 3) := by decide +kernel
theorem dX12_nameOf_42 : decode cX12_nameOf 42 = .ok (.goto (-40), 3) := by decide +kernel
theorem dX12_nameOf_45 : decode cX12_nameOf 45 = .ok (.iconst (-1), 1) := by decide +kernel
theorem dX12_nameOf_46 : decode cX12_nameOf 46 = .ok (.ireturn, 1) := by decide +kernel
theorem dX12_add_0 : decode cX12_add 0 = .ok (.aload_n 0, 1) := by decide +kernel
theorem dX12_add_1 : decode cX12_add 1 = .ok (.getfield 111, 3) := by decide +kernel
theorem dX12_add_4 : decode cX12_add 4 = .ok (.bipush 64, 2) := by decide +kernel
theorem dX12_add_6 : decode cX12_add 6 = .ok (.aload_n 0, 1) := by decide +kernel
theorem dX12_add_7 : decode cX12_add 7 = .ok (.getfield 11, 3) := by decide +kernel
theorem dX12_add_10 : decode cX12_add 10 = .ok (.imul, 1) := by decide +kernel
theorem dX12_add_11 : decode cX12_add 11 = .ok (.aload_n 0, 1) := by decide +kernel
theorem dX12_add_12 : decode cX12_add 12 = .ok (.getfield 108, 3) := by decide +kernel
theorem dX12_add_15 : decode cX12_add 15 = .ok (.iadd, 1) := by decide +kernel
theorem dX12_add_16 : decode cX12_add 16 = .ok (.lload_n 1, 1) := by decide +kernel
theorem dX12_add_17 : decode cX12_add 17 = .ok (.lastore, 1) := by decide +kernel
theorem dX12_add_18 : decode cX12_add 18 = .ok (.aload_n 0, 1) := by decide +kernel
theorem dX12_add_19 : decode cX12_add 19 = .ok (.getfield 138, 3) := by decide +kernel
theorem dX12_add_22 : decode cX12_add 22 = .ok (.bipush 64, 2) := by decide +kernel
theorem dX12_add_24 : decode cX12_add 24 = .ok (.aload_n 0, 1) := by decide +kernel
theorem dX12_add_25 : decode cX12_add 25 = .ok (.getfield 11, 3) := by decide +kernel
theorem dX12_add_28 : decode cX12_add 28 = .ok (.imul, 1) := by decide +kernel
theorem dX12_add_29 : decode cX12_add 29 = .ok (.aload_n 0, 1) := by decide +kernel
theorem dX12_add_30 : decode cX12_add 30 = .ok (.getfield 108, 3) := by decide +kernel
theorem dX12_add_33 : decode cX12_add 33 = .ok (.iadd, 1) := by decide +kernel
theorem dX12_add_34 : decode cX12_add 34 = .ok (.iload_n 3, 1) := by decide +kernel
theorem dX12_add_35 : decode cX12_add 35 = .ok (.iastore, 1) := by decide +kernel
theorem dX12_add_36 : decode cX12_add 36 = .ok (.aload_n 0, 1) := by decide +kernel
theorem dX12_add_37 : decode cX12_add 37 = .ok (.getfield 142, 3) := by decide +kernel
theorem dX12_add_40 : decode cX12_add 40 = .ok (.bipush 64, 2) := by decide +kernel
theorem dX12_add_42 : decode cX12_add 42 = .ok (.aload_n 0, 1) := by decide +kernel
theorem dX12_add_43 : decode cX12_add 43 = .ok (.getfield 11, 3) := by decide +kernel
theorem dX12_add_46 : decode cX12_add 46 = .ok (.imul, 1) := by decide +kernel
theorem dX12_add_47 : decode cX12_add 47 = .ok (.aload_n 0, 1) := by decide +kernel
theorem dX12_add_48 : decode cX12_add 48 = .ok (.getfield 108, 3) := by decide +kernel
theorem dX12_add_51 : decode cX12_add 51 = .ok (.iadd, 1) := by decide +kernel
theorem dX12_add_52 : decode cX12_add 52 = .ok (.iload 4, 2) := by decide +kernel
theorem dX12_add_54 : decode cX12_add 54 = .ok (.iastore, 1) := by decide +kernel
theorem dX12_add_55 : decode cX12_add 55 = .ok (.aload_n 0, 1) := by decide +kernel
theorem dX12_add_56 : decode cX12_add 56 = .ok (.dup, 1) := by decide +kernel
theorem dX12_add_57 : decode cX12_add 57 = .ok (.getfield 108, 3) := by decide +kernel
theorem dX12_add_60 : decode cX12_add 60 = .ok (.iconst 1, 1) := by decide +kernel
theorem dX12_add_61 : decode cX12_add 61 = .ok (.iadd, 1) := by decide +kernel
theorem dX12_add_62 : decode cX12_add 62 = .ok (.putfield 108, 3) := by decide +kernel
theorem dX12_add_65 : decode cX12_add 65 = .ok (.return_, 1) := by decide +kernel
