theorem dX12_sign_0 : decode cX12_sign 0 = .ok (.iload_n 1, 1) := by decide +kernel
theorem dX12_sign_1 : decode cX12_sign 1 = .ok (.aload_n 0, 1) := by decide +kernel
theorem dX12_sign_2 : decode cX12_sign 2 = .ok (.getfield 1, 3) := by decide +kernel
theorem dX12_sign_5 : decode cX12_sign 5 = .ok (.if_icmp .ge 25, 3) := by decide +kernel
theorem dX12_sign_8 : decode cX12_sign 8 = .ok (.aload_n 0, 1) := by decide +kernel
theorem dX12_sign_9 : decode cX12_sign 9 = .ok (.getfield 7, 3) := by decide +kernel
theorem dX12_sign_12 : decode cX12_sign 12 = .ok (.sipush 3000, 3) := by decide +kernel
theorem dX12_sign_15 : decode cX12_sign 15 = .ok (.aload_n 0, 1) := by decide +kernel
theorem dX12_sign_16 : decode cX12_sign 16 = .ok (.getfield 11, 3) := by decide +kernel
theorem dX12_sign_19 : decode cX12_sign 19 = .ok (.imul, 1) := by decide +kernel
theorem dX12_sign_20 : decode cX12_sign 20 = .ok (.iload_n 1, 1) := by decide +kernel
theorem dX12_sign_21 : decode cX12_sign 21 = .ok (.iadd, 1) := by decide +kernel
theorem dX12_sign_22 : decode cX12_sign 22 = .ok (.baload, 1) := by decide +kernel
theorem dX12_sign_23 : decode cX12_sign 23 = .ok (.sipush 255, 3) := by decide +kernel
theorem dX12_sign_26 : decode cX12_sign 26 = .ok (.iand, 1) := by decide +kernel
theorem dX12_sign_27 : decode cX12_sign 27 = .ok (.goto 4, 3) := by decide +kernel
theorem dX12_sign_30 : decode cX12_sign 30 = .ok (.iconst 0, 1) := by decide +kernel
theorem dX12_sign_31 : decode cX12_sign 31 = .ok (.ireturn, 1) := by decide +kernel
theorem dX12_isLetter_0 : decode cX12_isLetter 0 = .ok (.iload_n 0, 1) := by decide +kernel
theorem dX12_isLetter_1 : decode cX12_isLetter 1 = .ok (.bipush 97, 2) := by decide +kernel
theorem dX12_isLetter_3 : decode cX12_isLetter 3 = .ok (.if_icmp .lt 13, 3) := by decide +kernel
theorem dX12_isLetter_6 : decode cX12_isLetter 6 = .ok (.iload_n 0, 1) := by decide +kernel
theorem dX12_isLetter_7 : decode cX12_isLetter 7 = .ok (.bipush 122, 2) := by decide +kernel
theorem dX12_isLetter_9 : decode cX12_isLetter 9 = .ok (.if_icmp .gt 7, 3) := by decide +kernel
theorem dX12_isLetter_12 : decode cX12_isLetter 12 = .ok (.iconst 1, 1) := by decide +kernel
theorem dX12_isLetter_13 : decode cX12_isLetter 13 = .ok (.goto 4, 3) := by decide +kernel
theorem dX12_isLetter_16 : decode cX12_isLetter 16 = .ok (.iconst 0, 1) := by decide +kernel
theorem dX12_isLetter_17 : decode cX12_isLetter 17 = .ok (.ireturn, 1) := by decide +kernel
theorem dX12_isDigit_0 : decode cX12_isDigit 0 = .ok (.iload_n 0, 1) := by decide +kernel
theorem dX12_isDigit_1 : decode cX12_isDigit 1 = .ok (.bipush 48, 2) := by decide +kernel
theorem dX12_isDigit_3 : decode cX12_isDigit 3 = .ok (.if_icmp .lt 13, 3) := by decide +kernel
theorem dX12_isDigit_6 : decode cX12_isDigit 6 = .ok (.iload_n 0, 1) := by decide +kernel
theorem dX12_isDigit_7 : decode cX12_isDigit 7 = .ok (.bipush 57, 2) := by decide +kernel
theorem dX12_isDigit_9 : decode cX12_isDigit 9 = .ok (.if_icmp .gt 7, 3) := by decide +kernel
theorem dX12_isDigit_12 : decode cX12_isDigit 12 = .ok (.iconst 1, 1) := by decide +kernel
theorem dX12_isDigit_13 : decode cX12_isDigit 13 = .ok (.goto 4, 3) := by decide +kernel
theorem dX12_isDigit_16 : decode cX12_isDigit 16 = .ok (.iconst 0, 1) := by decide +kernel
theorem dX12_isDigit_17 : decode cX12_isDigit 17 = .ok (.ireturn, 1) := by decide +kernel
theorem dX12_fails_0 : decode cX12_fails 0 = .ok (.aload_n 0, 1) := by decide +kernel
theorem dX12_fails_1 : decode cX12_fails 1 = .ok (.getfield 14, 3) := by decide +kernel
theorem dX12_fails_4 : decode cX12_fails 4 = .ok (.ifCond .ne 13, 3) := by decide +kernel
theorem dX12_fails_7 : decode cX12_fails 7 = .ok (.aload_n 0, 1) := by decide +kernel
theorem dX12_fails_8 : decode cX12_fails 8 = .ok (.iload_n 1, 1) := by decide +kernel
theorem dX12_fails_9 : decode cX12_fails 9 = .ok (.putfield 14, 3) := by decide +kernel
theorem dX12_fails_12 : decode cX12_fails 12 = .ok (.aload_n 0, 1) := by decide +kernel
theorem dX12_fails_13 : decode cX12_fails 13 = .ok (.iload_n 2, 1) := by decide +kernel
theorem dX12_fails_14 : decode cX12_fails 14 = .ok (.putfield 17, 3) := by decide +kernel
theorem dX12_fails_17 : decode cX12_fails 17 = .ok (.iconst 0, 1) := by decide +kernel
theorem dX12_fails_18 : decode cX12_fails 18 = .ok (.ireturn, 1) := by decide +kernel
theorem dX12_isGood_0 : decode cX12_isGood 0 = .ok (.aload_n 0, 1) := by decide +kernel
theorem dX12_isGood_1 : decode cX12_isGood 1 = .ok (.getfield 14, 3) := by decide +kernel
theorem dX12_isGood_4 : decode cX12_isGood 4 = .ok (.ifCond .ne 7, 3) := by decide +kernel
theorem dX12_isGood_7 : decode cX12_isGood 7 = .ok (.iconst 1, 1) := by decide +kernel
theorem dX12_isGood_8 : decode cX12_isGood 8 = .ok (.goto 4, 3) := by decide +kernel
theorem dX12_isGood_11 : decode cX12_isGood 11 = .ok (.iconst 0, 1) := by decide +kernel
theorem dX12_isGood_12 : decode cX12_isGood 12 = .ok (.ireturn, 1) := by decide +kernel
theorem dX12_isKept_0 : decode cX12_isKept 0 = .ok (.lload_n 0, 1) := by decide +kernel
theorem dX12_isKept_1 : decode cX12_isKept 1 = .ok (.ldc2_w 20, 3) := by decide +kernel
theorem dX12_isKept_4 : decode cX12_isKept 4 = .ok (.lcmp, 1) := by decide +kernel
theorem dX12_isKept_5 : decode cX12_isKept 5 = .ok (.ifCond .eq 75, 3) := by decide +kernel
theorem dX12_isKept_8 : decode cX12_isKept 8 = .ok (.lload_n 0, 1) := by decide +kernel
theorem dX12_isKept_9 : decode cX12_isKept 9 = .ok (.ldc2_w 22, 3) := by decide +kernel
theorem dX12_isKept_12 : decode cX12_isKept 12 = .ok (.lcmp, 1) := by decide +kernel
theorem dX12_isKept_13 : decode cX12_isKept 13 = .ok (.ifCond .eq 67, 3) := by decide +kernel
theorem dX12_isKept_16 : decode cX12_isKept 16 = .ok (.lload_n 0, 1) := by decide +kernel
theorem dX12_isKept_17 : decode cX12_isKept 17 = .ok (.ldc2_w 24, 3) := by decide +kernel
theorem dX12_isKept_20 : decode cX12_isKept 20 = .ok (.lcmp, 1) := by decide +kernel
theorem dX12_isKept_21 : decode cX12_isKept 21 = .ok (.ifCond .eq 59, 3) := by decide +kernel
theorem dX12_isKept_24 : decode cX12_isKept 24 = .ok (.lload_n 0, 1) := by decide +kernel
theorem dX12_isKept_25 : decode cX12_isKept 25 = .ok (.ldc2_w 26, 3) := by decide +kernel
theorem dX12_isKept_28 : decode cX12_isKept 28 = .ok (.lcmp, 1) := by decide +kernel
theorem dX12_isKept_29 : decode cX12_isKept 29 = .ok (.ifCond .eq 51, 3) := by decide +kernel
theorem dX12_isKept_32 : decode cX12_isKept 32 = .ok (.lload_n 0, 1) := by decide +kernel
theorem dX12_isKept_33 : decode cX12_isKept 33 = .ok (.ldc2_w 28, 3) := by decide +kernel
theorem dX12_isKept_36 : decode cX12_isKept 36 = .ok (.lcmp, 1) := by decide +kernel
theorem dX12_isKept_37 : decode cX12_isKept 37 = .ok (.ifCond .eq 43, 3) := by decide +kernel
theorem dX12_isKept_40 : decode cX12_isKept 40 = .ok (.lload_n 0, 1) := by decide +kernel
theorem dX12_isKept_41 : decode cX12_isKept 41 = .ok (.ldc2_w 30, 3) := by decide +kernel
theorem dX12_isKept_44 : decode cX12_isKept 44 = .ok (.lcmp, 1) := by decide +kernel
theorem dX12_isKept_45 : decode cX12_isKept 45 = .ok (.ifCond .eq 35, 3) := by decide +kernel
theorem dX12_isKept_48 : decode cX12_isKept 48 = .ok (.lload_n 0, 1) := by decide +kernel
theorem dX12_isKept_49 : decode cX12_isKept 49 = .ok (.ldc2_w 32, 3) := by decide +kernel
theorem dX12_isKept_52 : decode cX12_isKept 52 = .ok (.lcmp, 1) := by decide +kernel
theorem dX12_isKept_53 : decode cX12_isKept 53 = .ok (.ifCond .eq 27, 3) := by decide +kernel
theorem dX12_isKept_56 : decode cX12_isKept 56 = .ok (.lload_n 0, 1) := by decide +kernel
theorem dX12_isKept_57 : decode cX12_isKept 57 = .ok (.ldc2_w 34, 3) := by decide +kernel
theorem dX12_isKept_60 : decode cX12_isKept 60 = .ok (.lcmp, 1) := by decide +kernel
theorem dX12_isKept_61 : decode cX12_isKept 61 = .ok (.ifCond .eq 19, 3) := by decide +kernel
theorem dX12_isKept_64 : decode cX12_isKept 64 = .ok (.lload_n 0, 1) := by decide +kernel
theorem dX12_isKept_65 : decode cX12_isKept 65 = .ok (.ldc2_w 36, 3) := by decide +kernel
theorem dX12_isKept_68 : decode cX12_isKept 68 = .ok (.lcmp, 1) := by decide +kernel
theorem dX12_isKept_69 : decode cX12_isKept 69 = .ok (.ifCond .eq 11, 3) := by decide +kernel
theorem dX12_isKept_72 : decode cX12_isKept 72 = .ok (.lload_n 0, 1) := by decide +kernel
theorem dX12_isKept_73 : decode cX12_isKept 73 = .ok (.ldc2_w 38, 3) := by decide +kernel
theorem dX12_isKept_76 : decode cX12_isKept 76 = .ok (.lcmp, 1) := by decide +kernel
theorem dX12_isKept_77 : decode cX12_isKept 77 = .ok (.ifCond .ne 7, 3) := by decide +kernel
theorem dX12_isKept_80 : decode cX12_isKept 80 = .ok (.iconst 1, 1) := by decide +kernel
theorem dX12_isKept_81 : decode cX12_isKept 81 = .ok (.goto 4, 3) := by decide +kernel
theorem dX12_isKept_84 : decode cX12_isKept 84 = .ok (.iconst 0, 1) := by decide +kernel
theorem dX12_isKept_85 : decode cX12_isKept 85 = .ok (.ireturn, 1) := by decide +kernel
theorem dX12_built_0 : decode cX12_built 0 = .ok (.lload_n 0, 1) := by decide +kernel
theorem dX12_built_1 : decode cX12_built 1 = .ok (.ldc2_w 40, 3) := by decide +kernel
theorem dX12_built_4 : decode cX12_built 4 = .ok (.lcmp, 1) := by decide +kernel
theorem dX12_built_5 : decode cX12_built 5 = .ok (.ifCond .ne 5, 3) := by decide +kernel
theorem dX12_built_8 : decode cX12_built 8 = .ok (.iconst 1, 1) := by decide +kernel
theorem dX12_built_9 : decode cX12_built 9 = .ok (.ireturn, 1) := by decide +kernel
theorem dX12_built_10 : decode cX12_built 10 = .ok (.lload_n 0, 1) := by decide +kernel
theorem dX12_built_11 : decode cX12_built 11 = .ok (.ldc2_w 42, 3) := by decide +kernel
theorem dX12_built_14 : decode cX12_built 14 = .ok (.lcmp, 1) := by decide +kernel
theorem dX12_built_15 : decode cX12_built 15 = .ok (.ifCond .ne 5, 3) := by decide +kernel
theorem dX12_built_18 : decode cX12_built 18 = .ok (.iconst 2, 1) := by decide +kernel
theorem dX12_built_19 : decode cX12_built 19 = .ok (.ireturn, 1) := by decide +kernel
theorem dX12_built_20 : decode cX12_built 20 = .ok (.lload_n 0, 1) := by decide +kernel
theorem dX12_built_21 : decode cX12_built 21 = .ok (.ldc2_w 44, 3) := by decide +kernel
theorem dX12_built_24 : decode cX12_built 24 = .ok (.lcmp, 1) := by decide +kernel
theorem dX12_built_25 : decode cX12_built 25 = .ok (.ifCond .ne 5, 3) := by decide +kernel
theorem dX12_built_28 : decode cX12_built 28 = .ok (.iconst 3, 1) := by decide +kernel
theorem dX12_built_29 : decode cX12_built 29 = .ok (.ireturn, 1) := by decide +kernel
theorem dX12_built_30 : decode cX12_built 30 = .ok (.lload_n 0, 1) := by decide +kernel
theorem dX12_built_31 : decode cX12_built 31 = .ok (.ldc2_w 46, 3) := by decide +kernel
theorem dX12_built_34 : decode cX12_built 34 = .ok (.lcmp, 1) := by decide +kernel
theorem dX12_built_35 : decode cX12_built 35 = .ok (.ifCond .ne 5, 3) := by decide +kernel
theorem dX12_built_38 : decode cX12_built 38 = .ok (.iconst 4, 1) := by decide +kernel
theorem dX12_built_39 : decode cX12_built 39 = .ok (.ireturn, 1) := by decide +kernel
theorem dX12_built_40 : decode cX12_built 40 = .ok (.lload_n 0, 1) := by decide +kernel
theorem dX12_built_41 : decode cX12_built 41 = .ok (.ldc2_w 48, 3) := by decide +kernel
theorem dX12_built_44 : decode cX12_built 44 = .ok (.lcmp, 1) := by decide +kernel
theorem dX12_built_45 : decode cX12_built 45 = .ok (.ifCond .ne 5, 3) := by decide +kernel
theorem dX12_built_48 : decode cX12_built 48 = .ok (.iconst 5, 1) := by decide +kernel
theorem dX12_built_49 : decode cX12_built 49 = .ok (.ireturn, 1) := by decide +kernel
theorem dX12_built_50 : decode cX12_built 50 = .ok (.lload_n 0, 1) := by decide +kernel
theorem dX12_built_51 : decode cX12_built 51 = .ok (.ldc2_w 50, 3) := by decide +kernel
theorem dX12_built_54 : decode cX12_built 54 = .ok (.lcmp, 1) := by decide +kernel
theorem dX12_built_55 : decode cX12_built 55 = .ok (.ifCond .ne 6, 3) := by decide +kernel
theorem dX12_built_58 : decode cX12_built 58 = .ok (.bipush 6, 2) := by decide +kernel
theorem dX12_built_60 : decode cX12_built 60 = .ok (.ireturn, 1) := by decide +kernel
theorem dX12_built_61 : decode cX12_built 61 = .ok (.lload_n 0, 1) := by decide +kernel
theorem dX12_built_62 : decode cX12_built 62 = .ok (.ldc2_w 52, 3) := by decide +kernel
theorem dX12_built_65 : decode cX12_built 65 = .ok (.lcmp, 1) := by decide +kernel
theorem dX12_built_66 : decode cX12_built 66 = .ok (.ifCond .ne 6, 3) := by decide +kernel
theorem dX12_built_69 : decode cX12_built 69 = .ok (.bipush 7, 2) := by decide +kernel
theorem dX12_built_71 : decode cX12_built 71 = .ok (.ireturn, 1) := by decide +kernel
theorem dX12_built_72 : decode cX12_built 72 = .ok (.lload_n 0, 1) := by decide +kernel
theorem dX12_built_73 : decode cX12_built 73 = .ok (.ldc2_w 54, 3) := by decide +kernel
theorem dX12_built_76 : decode cX12_built 76 = .ok (.lcmp, 1) := by decide +kernel
theorem dX12_built_77 : decode cX12_built 77 = .ok (.ifCond .ne 8, 3) := by decide +kernel
theorem dX12_built_80 : decode cX12_built 80 = .ok (.bipush 8, 2) := by decide +kernel
theorem dX12_built_82 : decode cX12_built 82 = .ok (.goto 4, 3) := by decide +kernel
theorem dX12_built_85 : decode cX12_built 85 = .ok (.iconst 0, 1) := by decide +kernel
theorem dX12_built_86 : decode cX12_built 86 = .ok (.ireturn, 1) := by decide +kernel
theorem dX12_isSignOf_0 : decode cX12_isSignOf 0 = .ok (.iload_n 0, 1) := by decide +kernel
theorem dX12_isSignOf_1 : decode cX12_isSignOf 1 = .ok (.bipush 59, 2) := by decide +kernel
theorem dX12_isSignOf_3 : decode cX12_isSignOf 3 = .ok (.if_icmp .eq 129, 3) := by decide +kernel
theorem dX12_isSignOf_6 : decode cX12_isSignOf 6 = .ok (.iload_n 0, 1) := by decide +kernel
theorem dX12_isSignOf_7 : decode cX12_isSignOf 7 = .ok (.bipush 58, 2) := by decide +kernel
theorem dX12_isSignOf_9 : decode cX12_isSignOf 9 = .ok (.if_icmp .eq 123, 3) := by decide +kernel
theorem dX12_isSignOf_12 : decode cX12_isSignOf 12 = .ok (.iload_n 0, 1) := by decide +kernel
theorem dX12_isSignOf_13 : decode cX12_isSignOf 13 = .ok (.bipush 44, 2) := by decide +kernel
theorem dX12_isSignOf_15 : decode cX12_isSignOf 15 = .ok (.if_icmp .eq 117, 3) := by decide +kernel
theorem dX12_isSignOf_18 : decode cX12_isSignOf 18 = .ok (.iload_n 0, 1) := by decide +kernel
theorem dX12_isSignOf_19 : decode cX12_isSignOf 19 = .ok (.bipush 40, 2) := by decide +kernel
theorem dX12_isSignOf_21 : decode cX12_isSignOf 21 = .ok (.if_icmp .eq 111, 3) := by decide +kernel
theorem dX12_isSignOf_24 : decode cX12_isSignOf 24 = .ok (.iload_n 0, 1) := by decide +kernel
theorem dX12_isSignOf_25 : decode cX12_isSignOf 25 = .ok (.bipush 41, 2) := by decide +kernel
theorem dX12_isSignOf_27 : decode cX12_isSignOf 27 = .ok (.if_icmp .eq 105, 3) := by decide +kernel
theorem dX12_isSignOf_30 : decode cX12_isSignOf 30 = .ok (.iload_n 0, 1) := by decide +kernel
theorem dX12_isSignOf_31 : decode cX12_isSignOf 31 = .ok (.bipush 123, 2) := by decide +kernel
theorem dX12_isSignOf_33 : decode cX12_isSignOf 33 = .ok (.if_icmp .eq 99, 3) := by decide +kernel
theorem dX12_isSignOf_36 : decode cX12_isSignOf 36 = .ok (.iload_n 0, 1) := by decide +kernel
theorem dX12_isSignOf_37 : decode cX12_isSignOf 37 = .ok (.bipush 125, 2) := by decide +kernel
theorem dX12_isSignOf_39 : decode cX12_isSignOf 39 = .ok (.if_icmp .eq 93, 3) := by decide +kernel
theorem dX12_isSignOf_42 : decode cX12_isSignOf 42 = .ok (.iload_n 0, 1) := by decide +kernel
theorem dX12_isSignOf_43 : decode cX12_isSignOf 43 = .ok (.bipush 61, 2) := by decide +kernel
theorem dX12_isSignOf_45 : decode cX12_isSignOf 45 = .ok (.if_icmp .eq 87, 3) := by decide +kernel
theorem dX12_isSignOf_48 : decode cX12_isSignOf 48 = .ok (.iload_n 0, 1) := by decide +kernel
theorem dX12_isSignOf_49 : decode cX12_isSignOf 49 = .ok (.bipush 33, 2) := by decide +kernel
theorem dX12_isSignOf_51 : decode cX12_isSignOf 51 = .ok (.if_icmp .eq 81, 3) := by decide +kernel
theorem dX12_isSignOf_54 : decode cX12_isSignOf 54 = .ok (.iload_n 0, 1) := by decide +kernel
theorem dX12_isSignOf_55 : decode cX12_isSignOf 55 = .ok (.bipush 63, 2) := by decide +kernel
theorem dX12_isSignOf_57 : decode cX12_isSignOf 57 = .ok (.if_icmp .eq 75, 3) := by decide +kernel
theorem dX12_isSignOf_60 : decode cX12_isSignOf 60 = .ok (.iload_n 0, 1) := by decide +kernel
theorem dX12_isSignOf_61 : decode cX12_isSignOf 61 = .ok (.bipush 64, 2) := by decide +kernel
theorem dX12_isSignOf_63 : decode cX12_isSignOf 63 = .ok (.if_icmp .eq 69, 3) := by decide +kernel
theorem dX12_isSignOf_66 : decode cX12_isSignOf 66 = .ok (.iload_n 0, 1) := by decide +kernel
theorem dX12_isSignOf_67 : decode cX12_isSignOf 67 = .ok (.bipush 35, 2) := by decide +kernel
theorem dX12_isSignOf_69 : decode cX12_isSignOf 69 = .ok (.if_icmp .eq 63, 3) := by decide +kernel
theorem dX12_isSignOf_72 : decode cX12_isSignOf 72 = .ok (.iload_n 0, 1) := by decide +kernel
theorem dX12_isSignOf_73 : decode cX12_isSignOf 73 = .ok (.bipush 43, 2) := by decide +kernel
theorem dX12_isSignOf_75 : decode cX12_isSignOf 75 = .ok (.if_icmp .eq 57, 3) := by decide +kernel
theorem dX12_isSignOf_78 : decode cX12_isSignOf 78 = .ok (.iload_n 0, 1) := by decide +kernel
theorem dX12_isSignOf_79 : decode cX12_isSignOf 79 = .ok (.bipush 45, 2) := by decide +kernel
theorem dX12_isSignOf_81 : decode cX12_isSignOf 81 = .ok (.if_icmp .eq 51, 3) := by decide +kernel
theorem dX12_isSignOf_84 : decode cX12_isSignOf 84 = .ok (.iload_n 0, 1) := by decide +kernel
theorem dX12_isSignOf_85 : decode cX12_isSignOf 85 = .ok (.bipush 42, 2) := by decide +kernel
theorem dX12_isSignOf_87 : decode cX12_isSignOf 87 = .ok (.if_icmp .eq 45, 3) := by decide +kernel
theorem dX12_isSignOf_90 : decode cX12_isSignOf 90 = .ok (.iload_n 0, 1) := by decide +kernel
theorem dX12_isSignOf_91 : decode cX12_isSignOf 91 = .ok (.bipush 47, 2) := by decide +kernel
theorem dX12_isSignOf_93 : decode cX12_isSignOf 93 = .ok (.if_icmp .eq 39, 3) := by decide +kernel
theorem dX12_isSignOf_96 : decode cX12_isSignOf 96 = .ok (.iload_n 0, 1) := by decide +kernel
theorem dX12_isSignOf_97 : decode cX12_isSignOf 97 = .ok (.bipush 37, 2) := by decide +kernel
theorem dX12_isSignOf_99 : decode cX12_isSignOf 99 = .ok (.if_icmp .eq 33, 3) := by decide +kernel
theorem dX12_isSignOf_102 : decode cX12_isSignOf 102 = .ok (.iload_n 0, 1) := by decide +kernel
theorem dX12_isSignOf_103 : decode cX12_isSignOf 103 = .ok (.bipush 60, 2) := by decide +kernel
theorem dX12_isSignOf_105 : decode cX12_isSignOf 105 = .ok (.if_icmp .eq 27, 3) := by decide +kernel
theorem dX12_isSignOf_108 : decode cX12_isSignOf 108 = .ok (.iload_n 0, 1) := by decide +kernel
theorem dX12_isSignOf_109 : decode cX12_isSignOf 109 = .ok (.bipush 62, 2) := by decide +kernel
theorem dX12_isSignOf_111 : decode cX12_isSignOf 111 = .ok (.if_icmp .eq 21, 3) := by decide +kernel
theorem dX12_isSignOf_114 : decode cX12_isSignOf 114 = .ok (.iload_n 0, 1) := by decide +kernel
theorem dX12_isSignOf_115 : decode cX12_isSignOf 115 = .ok (.bipush 38, 2) := by decide +kernel
theorem dX12_isSignOf_117 : decode cX12_isSignOf 117 = .ok (.if_icmp .eq 15, 3) := by decide +kernel
theorem dX12_isSignOf_120 : decode cX12_isSignOf 120 = .ok (.iload_n 0, 1) := by decide +kernel
theorem dX12_isSignOf_121 : decode cX12_isSignOf 121 = .ok (.bipush 124, 2) := by decide +kernel
theorem dX12_isSignOf_123 : decode cX12_isSignOf 123 = .ok (.if_icmp .eq 9, 3) := by decide +kernel
theorem dX12_isSignOf_126 : decode cX12_isSignOf 126 = .ok (.iload_n 0, 1) := by decide +kernel
theorem dX12_isSignOf_127 : decode cX12_isSignOf 127 = .ok (.bipush 126, 2) := by decide +kernel
theorem dX12_isSignOf_129 : decode cX12_isSignOf 129 = .ok (.if_icmp .ne 7, 3) := by decide +kernel
theorem dX12_isSignOf_132 : decode cX12_isSignOf 132 = .ok (.iconst 1, 1) := by decide +kernel
theorem dX12_isSignOf_133 : decode cX12_isSignOf 133 = .ok (.goto 4, 3) := by decide +kernel
theorem dX12_isSignOf_136 : decode cX12_isSignOf 136 = .ok (.iconst 0, 1) := by decide +kernel
theorem dX12_isSignOf_137 : decode cX12_isSignOf 137 = .ok (.ireturn, 1) := by decide +kernel
theorem dX12_next_0 : decode cX12_next 0 = .ok (.aload_n 0, 1) := by decide +kernel
theorem dX12_next_1 : decode cX12_next 1 = .ok (.aload_n 0, 1) := by decide +kernel
theorem dX12_next_2 : decode cX12_next 2 = .ok (.getfield 56, 3) := by decide +kernel
theorem dX12_next_5 : decode cX12_next 5 = .ok (.putfield 59, 3) := by decide +kernel
theorem dX12_next_8 : decode cX12_next 8 = .ok (.aload_n 0, 1) := by decide +kernel
theorem dX12_next_9 : decode cX12_next 9 = .ok (.getfield 59, 3) := by decide +kernel
theorem dX12_next_12 : decode cX12_next 12 = .ok (.aload_n 0, 1) := by decide +kernel
theorem dX12_next_13 : decode cX12_next 13 = .ok (.getfield 1, 3) := by decide +kernel
theorem dX12_next_16 : decode cX12_next 16 = .ok (.if_icmp .ge 42, 3) := by decide +kernel
theorem dX12_next_19 : decode cX12_next 19 = .ok (.aload_n 0, 1) := by decide +kernel
theorem dX12_next_20 : decode cX12_next 20 = .ok (.aload_n 0, 1) := by decide +kernel
theorem dX12_next_21 : decode cX12_next 21 = .ok (.getfield 59, 3) := by decide +kernel
theorem dX12_next_24 : decode cX12_next 24 = .ok (.invokevirtual 62, 3) := by decide +kernel
theorem dX12_next_27 : decode cX12_next 27 = .ok (.bipush 32, 2) := by decide +kernel
theorem dX12_next_29 : decode cX12_next 29 = .ok (.if_icmp .eq 16, 3) := by decide +kernel
theorem dX12_next_32 : decode cX12_next 32 = .ok (.aload_n 0, 1) := by decide +kernel
theorem dX12_next_33 : decode cX12_next 33 = .ok (.aload_n 0, 1) := by decide +kernel
theorem dX12_next_34 : decode cX12_next 34 = .ok (.getfield 59, 3) := by decide +kernel
theorem dX12_next_37 : decode cX12_next 37 = .ok (.invokevirtual 62, 3) := by decide +kernel
theorem dX12_next_40 : decode cX12_next 40 = .ok (.bipush 10, 2) := by decide +kernel
theorem dX12_next_42 : decode cX12_next 42 = .ok (.if_icmp .ne 16, 3) := by decide +kernel
theorem dX12_next_45 : decode cX12_next 45 = .ok (.aload_n 0, 1) := by decide +kernel
theorem dX12_next_46 : decode cX12_next 46 = .ok (.dup, 1) := by decide +kernel
theorem dX12_next_47 : decode cX12_next 47 = .ok (.getfield 59, 3) := by decide +kernel
theorem dX12_next_50 : decode cX12_next 50 = .ok (.iconst 1, 1) := by decide +kernel
theorem dX12_next_51 : decode cX12_next 51 = .ok (.iadd, 1) := by decide +kernel
theorem dX12_next_52 : decode cX12_next 52 = .ok (.putfield 59, 3) := by decide +kernel
theorem dX12_next_55 : decode cX12_next 55 = .ok (.goto (-47), 3) := by decide +kernel
theorem dX12_next_58 : decode cX12_next 58 = .ok (.aload_n 0, 1) := by decide +kernel
theorem dX12_next_59 : decode cX12_next 59 = .ok (.aload_n 0, 1) := by decide +kernel
theorem dX12_next_60 : decode cX12_next 60 = .ok (.getfield 59, 3) := by decide +kernel
theorem dX12_next_63 : decode cX12_next 63 = .ok (.iconst 1, 1) := by decide +kernel
theorem dX12_next_64 : decode cX12_next 64 = .ok (.iadd, 1) := by decide +kernel
theorem dX12_next_65 : decode cX12_next 65 = .ok (.putfield 56, 3) := by decide +kernel
theorem dX12_next_68 : decode cX12_next 68 = .ok (.aload_n 0, 1) := by decide +kernel
theorem dX12_next_69 : decode cX12_next 69 = .ok (.aload_n 0, 1) := by decide +kernel
theorem dX12_next_70 : decode cX12_next 70 = .ok (.getfield 59, 3) := by decide +kernel
theorem dX12_next_73 : decode cX12_next 73 = .ok (.invokevirtual 62, 3) := by decide +kernel
theorem dX12_next_76 : decode cX12_next 76 = .ok (.istore_n 1, 1) := by decide +kernel
theorem dX12_next_77 : decode cX12_next 77 = .ok (.aload_n 0, 1) := by decide +kernel
theorem dX12_next_78 : decode cX12_next 78 = .ok (.getfield 59, 3) := by decide +kernel
theorem dX12_next_81 : decode cX12_next 81 = .ok (.aload_n 0, 1) := by decide +kernel
theorem dX12_next_82 : decode cX12_next 82 = .ok (.getfield 1, 3) := by decide +kernel
theorem dX12_next_85 : decode cX12_next 85 = .ok (.if_icmp .lt 27, 3) := by decide +kernel
theorem dX12_next_88 : decode cX12_next 88 = .ok (.aload_n 0, 1) := by decide +kernel
theorem dX12_next_89 : decode cX12_next 89 = .ok (.aload_n 0, 1) := by decide +kernel
theorem dX12_next_90 : decode cX12_next 90 = .ok (.getfield 1, 3) := by decide +kernel
theorem dX12_next_93 : decode cX12_next 93 = .ok (.putfield 59, 3) := by decide +kernel
theorem dX12_next_96 : decode cX12_next 96 = .ok (.aload_n 0, 1) := by decide +kernel
theorem dX12_next_97 : decode cX12_next 97 = .ok (.aload_n 0, 1) := by decide +kernel
theorem dX12_next_98 : decode cX12_next 98 = .ok (.getfield 1, 3) := by decide +kernel
theorem dX12_next_101 : decode cX12_next 101 = .ok (.putfield 56, 3) := by decide +kernel
theorem dX12_next_104 : decode cX12_next 104 = .ok (.aload_n 0, 1) := by decide +kernel
theorem dX12_next_105 : decode cX12_next 105 = .ok (.iconst 0, 1) := by decide +kernel
theorem dX12_next_106 : decode cX12_next 106 = .ok (.putfield 66, 3) := by decide +kernel
theorem dX12_next_109 : decode cX12_next 109 = .ok (.goto 324, 3) := by decide +kernel
theorem dX12_next_112 : decode cX12_next 112 = .ok (.iload_n 1, 1) := by decide +kernel
theorem dX12_next_113 : decode cX12_next 113 = .ok (.invokestatic 69, 3) := by decide +kernel
theorem dX12_next_116 : decode cX12_next 116 = .ok (.ifCond .eq 137, 3) := by decide +kernel
theorem dX12_next_119 : decode cX12_next 119 = .ok (.aload_n 0, 1) := by decide +kernel
theorem dX12_next_120 : decode cX12_next 120 = .ok (.aload_n 0, 1) := by decide +kernel
theorem dX12_next_121 : decode cX12_next 121 = .ok (.getfield 56, 3) := by decide +kernel
theorem dX12_next_124 : decode cX12_next 124 = .ok (.invokevirtual 62, 3) := by decide +kernel
theorem dX12_next_127 : decode cX12_next 127 = .ok (.invokestatic 69, 3) := by decide +kernel
theorem dX12_next_130 : decode cX12_next 130 = .ok (.ifCond .ne 17, 3) := by decide +kernel
theorem dX12_next_133 : decode cX12_next 133 = .ok (.aload_n 0, 1) := by decide +kernel
theorem dX12_next_134 : decode cX12_next 134 = .ok (.aload_n 0, 1) := by decide +kernel
theorem dX12_next_135 : decode cX12_next 135 = .ok (.getfield 56, 3) := by decide +kernel
theorem dX12_next_138 : decode cX12_next 138 = .ok (.invokevirtual 62, 3) := by decide +kernel
theorem dX12_next_141 : decode cX12_next 141 = .ok (.invokestatic 73, 3) := by decide +kernel
theorem dX12_next_144 : decode cX12_next 144 = .ok (.ifCond .eq 16, 3) := by decide +kernel
theorem dX12_next_147 : decode cX12_next 147 = .ok (.aload_n 0, 1) := by decide +kernel
theorem dX12_next_148 : decode cX12_next 148 = .ok (.dup, 1) := by decide +kernel
theorem dX12_next_149 : decode cX12_next 149 = .ok (.getfield 56, 3) := by decide +kernel
theorem dX12_next_152 : decode cX12_next 152 = .ok (.iconst 1, 1) := by decide +kernel
theorem dX12_next_153 : decode cX12_next 153 = .ok (.iadd, 1) := by decide +kernel
theorem dX12_next_154 : decode cX12_next 154 = .ok (.putfield 56, 3) := by decide +kernel
theorem dX12_next_157 : decode cX12_next 157 = .ok (.goto (-38), 3) := by decide +kernel
theorem dX12_next_160 : decode cX12_next 160 = .ok (.aload_n 0, 1) := by decide +kernel
theorem dX12_next_161 : decode cX12_next 161 = .ok (.lconst 0, 1) := by decide +kernel
theorem dX12_next_162 : decode cX12_next 162 = .ok (.putfield 76, 3) := by decide +kernel
theorem dX12_next_165 : decode cX12_next 165 = .ok (.aload_n 0, 1) := by decide +kernel
theorem dX12_next_166 : decode cX12_next 166 = .ok (.getfield 59, 3) := by decide +kernel
theorem dX12_next_169 : decode cX12_next 169 = .ok (.istore_n 2, 1) := by decide +kernel
theorem dX12_next_170 : decode cX12_next 170 = .ok (.iload_n 2, 1) := by decide +kernel
theorem dX12_next_171 : decode cX12_next 171 = .ok (.aload_n 0, 1) := by decide +kernel
theorem dX12_next_172 : decode cX12_next 172 = .ok (.getfield 56, 3) := by decide +kernel
theorem dX12_next_175 : decode cX12_next 175 = .ok (.if_icmp .ge 38, 3) := by decide +kernel
theorem dX12_next_178 : decode cX12_next 178 = .ok (.iload_n 2, 1) := by decide +kernel
theorem dX12_next_179 : decode cX12_next 179 = .ok (.aload_n 0, 1) := by decide +kernel
theorem dX12_next_180 : decode cX12_next 180 = .ok (.getfield 59, 3) := by decide +kernel
theorem dX12_next_183 : decode cX12_next 183 = .ok (.bipush 8, 2) := by decide +kernel
theorem dX12_next_185 : decode cX12_next 185 = .ok (.iadd, 1) := by decide +kernel
theorem dX12_next_186 : decode cX12_next 186 = .ok (.if_icmp .ge 27, 3) := by decide +kernel
theorem dX12_next_189 : decode cX12_next 189 = .ok (.aload_n 0, 1) := by decide +kernel
theorem dX12_next_190 : decode cX12_next 190 = .ok (.aload_n 0, 1) := by decide +kernel
theorem dX12_next_191 : decode cX12_next 191 = .ok (.getfield 76, 3) := by decide +kernel
theorem dX12_next_194 : decode cX12_next 194 = .ok (.bipush 8, 2) := by decide +kernel
theorem dX12_next_196 : decode cX12_next 196 = .ok (.lshl, 1) := by decide +kernel
theorem dX12_next_197 : decode cX12_next 197 = .ok (.aload_n 0, 1) := by decide +kernel
theorem dX12_next_198 : decode cX12_next 198 = .ok (.iload_n 2, 1) := by decide +kernel
theorem dX12_next_199 : decode cX12_next 199 = .ok (.invokevirtual 62, 3) := by decide +kernel
theorem dX12_next_202 : decode cX12_next 202 = .ok (.i2l, 1) := by decide +kernel
theorem dX12_next_203 : decode cX12_next 203 = .ok (.lor, 1) := by decide +kernel
theorem dX12_next_204 : decode cX12_next 204 = .ok (.putfield 76, 3) := by decide +kernel
theorem dX12_next_207 : decode cX12_next 207 = .ok (.iinc 2 1, 3) := by decide +kernel
theorem dX12_next_210 : decode cX12_next 210 = .ok (.goto (-40), 3) := by decide +kernel
theorem dX12_next_213 : decode cX12_next 213 = .ok (.aload_n 0, 1) := by decide +kernel
theorem dX12_next_214 : decode cX12_next 214 = .ok (.aload_n 0, 1) := by decide +kernel
theorem dX12_next_215 : decode cX12_next 215 = .ok (.getfield 56, 3) := by decide +kernel
theorem dX12_next_218 : decode cX12_next 218 = .ok (.aload_n 0, 1) := by decide +kernel
theorem dX12_next_219 : decode cX12_next 219 = .ok (.getfield 59, 3) := by decide +kernel
theorem dX12_next_222 : decode cX12_next 222 = .ok (.isub, 1) := by decide +kernel
theorem dX12_next_223 : decode cX12_next 223 = .ok (.bipush 8, 2) := by decide +kernel
theorem dX12_next_225 : decode cX12_next 225 = .ok (.if_icmp .le 7, 3) := by decide +kernel
theorem dX12_next_228 : decode cX12_next 228 = .ok (.iconst 1, 1) := by decide +kernel
theorem dX12_next_229 : decode cX12_next 229 = .ok (.goto 18, 3) := by decide +kernel
theorem dX12_next_232 : decode cX12_next 232 = .ok (.aload_n 0, 1) := by decide +kernel
theorem dX12_next_233 : decode cX12_next 233 = .ok (.getfield 76, 3) := by decide +kernel
theorem dX12_next_236 : decode cX12_next 236 = .ok (.invokestatic 80, 3) := by decide +kernel
theorem dX12_next_239 : decode cX12_next 239 = .ok (.ifCond .eq 7, 3) := by decide +kernel
theorem dX12_next_242 : decode cX12_next 242 = .ok (.iconst 3, 1) := by decide +kernel
theorem dX12_next_243 : decode cX12_next 243 = .ok (.goto 4, 3) := by decide +kernel
theorem dX12_next_246 : decode cX12_next 246 = .ok (.iconst 2, 1) := by decide +kernel
theorem dX12_next_247 : decode cX12_next 247 = .ok (.putfield 66, 3) := by decide +kernel
theorem dX12_next_250 : decode cX12_next 250 = .ok (.goto 183, 3) := by decide +kernel
theorem dX12_next_253 : decode cX12_next 253 = .ok (.iload_n 1, 1) := by decide +kernel
theorem dX12_next_254 : decode cX12_next 254 = .ok (.invokestatic 73, 3) := by decide +kernel
theorem dX12_next_257 : decode cX12_next 257 = .ok (.ifCond .ne 23, 3) := by decide +kernel
theorem dX12_next_260 : decode cX12_next 260 = .ok (.iload_n 1, 1) := by decide +kernel
theorem dX12_next_261 : decode cX12_next 261 = .ok (.bipush 45, 2) := by decide +kernel
theorem dX12_next_263 : decode cX12_next 263 = .ok (.if_icmp .ne 35, 3) := by decide +kernel
theorem dX12_next_266 : decode cX12_next 266 = .ok (.aload_n 0, 1) := by decide +kernel
theorem dX12_next_267 : decode cX12_next 267 = .ok (.aload_n 0, 1) := by decide +kernel
theorem dX12_next_268 : decode cX12_next 268 = .ok (.getfield 56, 3) := by decide +kernel
theorem dX12_next_271 : decode cX12_next 271 = .ok (.invokevirtual 62, 3) := by decide +kernel
theorem dX12_next_274 : decode cX12_next 274 = .ok (.invokestatic 73, 3) := by decide +kernel
theorem dX12_next_277 : decode cX12_next 277 = .ok (.ifCond .eq 21, 3) := by decide +kernel
theorem dX12_next_280 : decode cX12_next 280 = .ok (.aload_n 0, 1) := by decide +kernel
theorem dX12_next_281 : decode cX12_next 281 = .ok (.iload_n 1, 1) := by decide +kernel
theorem dX12_next_282 : decode cX12_next 282 = .ok (.bipush 45, 2) := by decide +kernel
theorem dX12_next_284 : decode cX12_next 284 = .ok (.if_icmp .ne 7, 3) := by decide +kernel
theorem dX12_next_287 : decode cX12_next 287 = .ok (.iconst 1, 1) := by decide +kernel
theorem dX12_next_288 : decode cX12_next 288 = .ok (.goto 4, 3) := by decide +kernel
theorem dX12_next_291 : decode cX12_next 291 = .ok (.iconst 0, 1) := by decide +kernel
theorem dX12_next_292 : decode cX12_next 292 = .ok (.invokevirtual 84, 3) := by decide +kernel
theorem dX12_next_295 : decode cX12_next 295 = .ok (.goto 138, 3) := by decide +kernel
theorem dX12_next_298 : decode cX12_next 298 = .ok (.iload_n 1, 1) := by decide +kernel
theorem dX12_next_299 : decode cX12_next 299 = .ok (.bipush 34, 2) := by decide +kernel
theorem dX12_next_301 : decode cX12_next 301 = .ok (.if_icmp .ne 115, 3) := by decide +kernel
theorem dX12_next_304 : decode cX12_next 304 = .ok (.aload_n 0, 1) := by decide +kernel
theorem dX12_next_305 : decode cX12_next 305 = .ok (.getfield 56, 3) := by decide +kernel
theorem dX12_next_308 : decode cX12_next 308 = .ok (.aload_n 0, 1) := by decide +kernel
theorem dX12_next_309 : decode cX12_next 309 = .ok (.getfield 1, 3) := by decide +kernel
theorem dX12_next_312 : decode cX12_next 312 = .ok (.if_icmp .ge 55, 3) := by decide +kernel
theorem dX12_next_315 : decode cX12_next 315 = .ok (.aload_n 0, 1) := by decide +kernel
theorem dX12_next_316 : decode cX12_next 316 = .ok (.aload_n 0, 1) := by decide +kernel
theorem dX12_next_317 : decode cX12_next 317 = .ok (.getfield 56, 3) := by decide +kernel
theorem dX12_next_320 : decode cX12_next 320 = .ok (.invokevirtual 62, 3) := by decide +kernel
theorem dX12_next_323 : decode cX12_next 323 = .ok (.bipush 32, 2) := by decide +kernel
theorem dX12_next_325 : decode cX12_next 325 = .ok (.if_icmp .lt 42, 3) := by decide +kernel
theorem dX12_next_328 : decode cX12_next 328 = .ok (.aload_n 0, 1) := by decide +kernel
theorem dX12_next_329 : decode cX12_next 329 = .ok (.aload_n 0, 1) := by decide +kernel
theorem dX12_next_330 : decode cX12_next 330 = .ok (.getfield 56, 3) := by decide +kernel
theorem dX12_next_333 : decode cX12_next 333 = .ok (.invokevirtual 62, 3) := by decide +kernel
theorem dX12_next_336 : decode cX12_next 336 = .ok (.bipush 126, 2) := by decide +kernel
theorem dX12_next_338 : decode cX12_next 338 = .ok (.if_icmp .gt 29, 3) := by decide +kernel
theorem dX12_next_341 : decode cX12_next 341 = .ok (.aload_n 0, 1) := by decide +kernel
theorem dX12_next_342 : decode cX12_next 342 = .ok (.aload_n 0, 1) := by decide +kernel
theorem dX12_next_343 : decode cX12_next 343 = .ok (.getfield 56, 3) := by decide +kernel
theorem dX12_next_346 : decode cX12_next 346 = .ok (.invokevirtual 62, 3) := by decide +kernel
theorem dX12_next_349 : decode cX12_next 349 = .ok (.bipush 34, 2) := by decide +kernel
theorem dX12_next_351 : decode cX12_next 351 = .ok (.if_icmp .eq 16, 3) := by decide +kernel
theorem dX12_next_354 : decode cX12_next 354 = .ok (.aload_n 0, 1) := by decide +kernel
theorem dX12_next_355 : decode cX12_next 355 = .ok (.dup, 1) := by decide +kernel
theorem dX12_next_356 : decode cX12_next 356 = .ok (.getfield 56, 3) := by decide +kernel
theorem dX12_next_359 : decode cX12_next 359 = .ok (.iconst 1, 1) := by decide +kernel
theorem dX12_next_360 : decode cX12_next 360 = .ok (.iadd, 1) := by decide +kernel
theorem dX12_next_361 : decode cX12_next 361 = .ok (.putfield 56, 3) := by decide +kernel
theorem dX12_next_364 : decode cX12_next 364 = .ok (.goto (-60), 3) := by decide +kernel
theorem dX12_next_367 : decode cX12_next 367 = .ok (.aload_n 0, 1) := by decide +kernel
theorem dX12_next_368 : decode cX12_next 368 = .ok (.aload_n 0, 1) := by decide +kernel
theorem dX12_next_369 : decode cX12_next 369 = .ok (.aload_n 0, 1) := by decide +kernel
theorem dX12_next_370 : decode cX12_next 370 = .ok (.getfield 56, 3) := by decide +kernel
theorem dX12_next_373 : decode cX12_next 373 = .ok (.invokevirtual 62, 3) := by decide +kernel
theorem dX12_next_376 : decode cX12_next 376 = .ok (.bipush 34, 2) := by decide +kernel
theorem dX12_next_378 : decode cX12_next 378 = .ok (.if_icmp .ne 17, 3) := by decide +kernel
theorem dX12_next_381 : decode cX12_next 381 = .ok (.aload_n 0, 1) := by decide +kernel
theorem dX12_next_382 : decode cX12_next 382 = .ok (.getfield 56, 3) := by decide +kernel
theorem dX12_next_385 : decode cX12_next 385 = .ok (.aload_n 0, 1) := by decide +kernel
theorem dX12_next_386 : decode cX12_next 386 = .ok (.getfield 59, 3) := by decide +kernel
theorem dX12_next_389 : decode cX12_next 389 = .ok (.isub, 1) := by decide +kernel
theorem dX12_next_390 : decode cX12_next 390 = .ok (.bipush 31, 2) := by decide +kernel
theorem dX12_next_392 : decode cX12_next 392 = .ok (.if_icmp .le 7, 3) := by decide +kernel
theorem dX12_next_395 : decode cX12_next 395 = .ok (.iconst 1, 1) := by decide +kernel
theorem dX12_next_396 : decode cX12_next 396 = .ok (.goto 4, 3) := by decide +kernel
theorem dX12_next_399 : decode cX12_next 399 = .ok (.iconst 5, 1) := by decide +kernel
theorem dX12_next_400 : decode cX12_next 400 = .ok (.putfield 66, 3) := by decide +kernel
theorem dX12_next_403 : decode cX12_next 403 = .ok (.aload_n 0, 1) := by decide +kernel
theorem dX12_next_404 : decode cX12_next 404 = .ok (.dup, 1) := by decide +kernel
theorem dX12_next_405 : decode cX12_next 405 = .ok (.getfield 56, 3) := by decide +kernel
theorem dX12_next_408 : decode cX12_next 408 = .ok (.iconst 1, 1) := by decide +kernel
theorem dX12_next_409 : decode cX12_next 409 = .ok (.iadd, 1) := by decide +kernel
theorem dX12_next_410 : decode cX12_next 410 = .ok (.putfield 56, 3) := by decide +kernel
theorem dX12_next_413 : decode cX12_next 413 = .ok (.goto 20, 3) := by decide +kernel
theorem dX12_next_416 : decode cX12_next 416 = .ok (.aload_n 0, 1) := by decide +kernel
theorem dX12_next_417 : decode cX12_next 417 = .ok (.iload_n 1, 1) := by decide +kernel
theorem dX12_next_418 : decode cX12_next 418 = .ok (.invokestatic 88, 3) := by decide +kernel
theorem dX12_next_421 : decode cX12_next 421 = .ok (.ifCond .eq 8, 3) := by decide +kernel
theorem dX12_next_424 : decode cX12_next 424 = .ok (.bipush 6, 2) := by decide +kernel
theorem dX12_next_426 : decode cX12_next 426 = .ok (.goto 4, 3) := by decide +kernel
theorem dX12_next_429 : decode cX12_next 429 = .ok (.iconst 1, 1) := by decide +kernel
theorem dX12_next_430 : decode cX12_next 430 = .ok (.putfield 66, 3) := by decide +kernel
theorem dX12_next_433 : decode cX12_next 433 = .ok (.return_, 1) := by decide +kernel
theorem dX12_nextNumber_0 : decode cX12_nextNumber 0 = .ok (.iload_n 1, 1) := by decide +kernel
theorem dX12_nextNumber_1 : decode cX12_nextNumber 1 = .ok (.ifCond .eq 12, 3) := by decide +kernel
theorem dX12_nextNumber_4 : decode cX12_nextNumber 4 = .ok (.aload_n 0, 1) := by decide +kernel
theorem dX12_nextNumber_5 : decode cX12_nextNumber 5 = .ok (.getfield 59, 3) := by decide +kernel
theorem dX12_nextNumber_8 : decode cX12_nextNumber 8 = .ok (.iconst 1, 1) := by decide +kernel
theorem dX12_nextNumber_9 : decode cX12_nextNumber 9 = .ok (.iadd, 1) := by decide +kernel
theorem dX12_nextNumber_10 : decode cX12_nextNumber 10 = .ok (.goto 7, 3) := by decide +kernel
theorem dX12_nextNumber_13 : decode cX12_nextNumber 13 = .ok (.aload_n 0, 1) := by decide +kernel
theorem dX12_nextNumber_14 : decode cX12_nextNumber 14 = .ok (.getfield 59, 3) := by decide +kernel
theorem dX12_nextNumber_17 : decode cX12_nextNumber 17 = .ok (.istore_n 2, 1) := by decide +kernel
theorem dX12_nextNumber_18 : decode cX12_nextNumber 18 = .ok (.aload_n 0, 1) := by decide +kernel
theorem dX12_nextNumber_19 : decode cX12_nextNumber 19 = .ok (.iload_n 2, 1) := by decide +kernel
theorem dX12_nextNumber_20 : decode cX12_nextNumber 20 = .ok (.putfield 56, 3) := by decide +kernel
theorem dX12_nextNumber_23 : decode cX12_nextNumber 23 = .ok (.aload_n 0, 1) := by decide +kernel
theorem dX12_nextNumber_24 : decode cX12_nextNumber 24 = .ok (.iconst 0, 1) := by decide +kernel
theorem dX12_nextNumber_25 : decode cX12_nextNumber 25 = .ok (.putfield 91, 3) := by decide +kernel
theorem dX12_nextNumber_28 : decode cX12_nextNumber 28 = .ok (.aload_n 0, 1) := by decide +kernel
theorem dX12_nextNumber_29 : decode cX12_nextNumber 29 = .ok (.aload_n 0, 1) := by decide +kernel
theorem dX12_nextNumber_30 : decode cX12_nextNumber 30 = .ok (.getfield 56, 3) := by decide +kernel
theorem dX12_nextNumber_33 : decode cX12_nextNumber 33 = .ok (.invokevirtual 62, 3) := by decide +kernel
theorem dX12_nextNumber_36 : decode cX12_nextNumber 36 = .ok (.invokestatic 73, 3) := by decide +kernel
theorem dX12_nextNumber_39 : decode cX12_nextNumber 39 = .ok (.ifCond .eq 50, 3) := by decide +kernel
theorem dX12_nextNumber_42 : decode cX12_nextNumber 42 = .ok (.aload_n 0, 1) := by decide +kernel
theorem dX12_nextNumber_43 : decode cX12_nextNumber 43 = .ok (.getfield 56, 3) := by decide +kernel
theorem dX12_nextNumber_46 : decode cX12_nextNumber 46 = .ok (.iload_n 2, 1) := by decide +kernel
theorem dX12_nextNumber_47 : decode cX12_nextNumber 47 = .ok (.isub, 1) := by decide +kernel
theorem dX12_nextNumber_48 : decode cX12_nextNumber 48 = .ok (.bipush 9, 2) := by decide +kernel
theorem dX12_nextNumber_50 : decode cX12_nextNumber 50 = .ok (.if_icmp .ge 26, 3) := by decide +kernel
theorem dX12_nextNumber_53 : decode cX12_nextNumber 53 = .ok (.aload_n 0, 1) := by decide +kernel
theorem dX12_nextNumber_54 : decode cX12_nextNumber 54 = .ok (.bipush 10, 2) := by decide +kernel
theorem dX12_nextNumber_56 : decode cX12_nextNumber 56 = .ok (.aload_n 0, 1) := by decide +kernel
theorem dX12_nextNumber_57 : decode cX12_nextNumber 57 = .ok (.getfield 91, 3) := by decide +kernel
theorem dX12_nextNumber_60 : decode cX12_nextNumber 60 = .ok (.imul, 1) := by decide +kernel
theorem dX12_nextNumber_61 : decode cX12_nextNumber 61 = .ok (.aload_n 0, 1) := by decide +kernel
theorem dX12_nextNumber_62 : decode cX12_nextNumber 62 = .ok (.aload_n 0, 1) := by decide +kernel
theorem dX12_nextNumber_63 : decode cX12_nextNumber 63 = .ok (.getfield 56, 3) := by decide +kernel
theorem dX12_nextNumber_66 : decode cX12_nextNumber 66 = .ok (.invokevirtual 62, 3) := by decide +kernel
theorem dX12_nextNumber_69 : decode cX12_nextNumber 69 = .ok (.iadd, 1) := by decide +kernel
theorem dX12_nextNumber_70 : decode cX12_nextNumber 70 = .ok (.bipush 48, 2) := by decide +kernel
theorem dX12_nextNumber_72 : decode cX12_nextNumber 72 = .ok (.isub, 1) := by decide +kernel
theorem dX12_nextNumber_73 : decode cX12_nextNumber 73 = .ok (.putfield 91, 3) := by decide +kernel
theorem dX12_nextNumber_76 : decode cX12_nextNumber 76 = .ok (.aload_n 0, 1) := by decide +kernel
theorem dX12_nextNumber_77 : decode cX12_nextNumber 77 = .ok (.dup, 1) := by decide +kernel
theorem dX12_nextNumber_78 : decode cX12_nextNumber 78 = .ok (.getfield 56, 3) := by decide +kernel
theorem dX12_nextNumber_81 : decode cX12_nextNumber 81 = .ok (.iconst 1, 1) := by decide +kernel
theorem dX12_nextNumber_82 : decode cX12_nextNumber 82 = .ok (.iadd, 1) := by decide +kernel
theorem dX12_nextNumber_83 : decode cX12_nextNumber 83 = .ok (.putfield 56, 3) := by decide +kernel
theorem dX12_nextNumber_86 : decode cX12_nextNumber 86 = .ok (.goto (-58), 3) := by decide +kernel
theorem dX12_nextNumber_89 : decode cX12_nextNumber 89 = .ok (.aload_n 0, 1) := by decide +kernel
theorem dX12_nextNumber_90 : decode cX12_nextNumber 90 = .ok (.aload_n 0, 1) := by decide +kernel
theorem dX12_nextNumber_91 : decode cX12_nextNumber 91 = .ok (.getfield 56, 3) := by decide +kernel
theorem dX12_nextNumber_94 : decode cX12_nextNumber 94 = .ok (.iload_n 2, 1) := by decide +kernel
theorem dX12_nextNumber_95 : decode cX12_nextNumber 95 = .ok (.isub, 1) := by decide +kernel
theorem dX12_nextNumber_96 : decode cX12_nextNumber 96 = .ok (.bipush 9, 2) := by decide +kernel
theorem dX12_nextNumber_98 : decode cX12_nextNumber 98 = .ok (.if_icmp .gt 17, 3) := by decide +kernel
theorem dX12_nextNumber_101 : decode cX12_nextNumber 101 = .ok (.aload_n 0, 1) := by decide +kernel
theorem dX12_nextNumber_102 : decode cX12_nextNumber 102 = .ok (.aload_n 0, 1) := by decide +kernel
theorem dX12_nextNumber_103 : decode cX12_nextNumber 103 = .ok (.getfield 56, 3) := by decide +kernel
theorem dX12_nextNumber_106 : decode cX12_nextNumber 106 = .ok (.invokevirtual 62, 3) := by decide +kernel
theorem dX12_nextNumber_109 : decode cX12_nextNumber 109 = .ok (.invokestatic 69, 3) := by decide +kernel
theorem dX12_nextNumber_112 : decode cX12_nextNumber 112 = .ok (.ifCond .eq 7, 3) := by decide +kernel
theorem dX12_nextNumber_115 : decode cX12_nextNumber 115 = .ok (.iconst 1, 1) := by decide +kernel
theorem dX12_nextNumber_116 : decode cX12_nextNumber 116 = .ok (.goto 4, 3) := by decide +kernel
theorem dX12_nextNumber_119 : decode cX12_nextNumber 119 = .ok (.iconst 4, 1) := by decide +kernel
theorem dX12_nextNumber_120 : decode cX12_nextNumber 120 = .ok (.putfield 66, 3) := by decide +kernel
theorem dX12_nextNumber_123 : decode cX12_nextNumber 123 = .ok (.iload_n 1, 1) := by decide +kernel
theorem dX12_nextNumber_124 : decode cX12_nextNumber 124 = .ok (.ifCond .eq 12, 3) := by decide +kernel
theorem dX12_nextNumber_127 : decode cX12_nextNumber 127 = .ok (.aload_n 0, 1) := by decide +kernel
theorem dX12_nextNumber_128 : decode cX12_nextNumber 128 = .ok (.aload_n 0, 1) := by decide +kernel
theorem dX12_nextNumber_129 : decode cX12_nextNumber 129 = .ok (.getfield 91, 3) := by decide +kernel
theorem dX12_nextNumber_132 : decode cX12_nextNumber 132 = .ok (.ineg, 1) := by decide +kernel
theorem dX12_nextNumber_133 : decode cX12_nextNumber 133 = .ok (.putfield 91, 3) := by decide +kernel
theorem dX12_nextNumber_136 : decode cX12_nextNumber 136 = .ok (.return_, 1) := by decide +kernel
theorem dX12_isSign_0 : decode cX12_isSign 0 = .ok (.aload_n 0, 1) := by decide +kernel
theorem dX12_isSign_1 : decode cX12_isSign 1 = .ok (.getfield 66, 3) := by decide +kernel
theorem dX12_isSign_4 : decode cX12_isSign 4 = .ok (.bipush 6, 2) := by decide +kernel
theorem dX12_isSign_6 : decode cX12_isSign 6 = .ok (.if_icmp .ne 19, 3) := by decide +kernel
theorem dX12_isSign_9 : decode cX12_isSign 9 = .ok (.aload_n 0, 1) := by decide +kernel
theorem dX12_isSign_10 : decode cX12_isSign 10 = .ok (.aload_n 0, 1) := by decide +kernel
theorem dX12_isSign_11 : decode cX12_isSign 11 = .ok (.getfield 59, 3) := by decide +kernel
theorem dX12_isSign_14 : decode cX12_isSign 14 = .ok (.invokevirtual 62, 3) := by decide +kernel
theorem dX12_isSign_17 : decode cX12_isSign 17 = .ok (.iload_n 1, 1) := by decide +kernel
theorem dX12_isSign_18 : decode cX12_isSign 18 = .ok (.if_icmp .ne 7, 3) := by decide +kernel
theorem dX12_isSign_21 : decode cX12_isSign 21 = .ok (.iconst 1, 1) := by decide +kernel
theorem dX12_isSign_22 : decode cX12_isSign 22 = .ok (.goto 4, 3) := by decide +kernel
theorem dX12_isSign_25 : decode cX12_isSign 25 = .ok (.iconst 0, 1) := by decide +kernel
theorem dX12_isSign_26 : decode cX12_isSign 26 = .ok (.ireturn, 1) := by decide +kernel
theorem dX12_isWord_0 : decode cX12_isWord 0 = .ok (.aload_n 0, 1) := by decide +kernel
theorem dX12_isWord_1 : decode cX12_isWord 1 = .ok (.getfield 66, 3) := by decide +kernel
theorem dX12_isWord_4 : decode cX12_isWord 4 = .ok (.iconst 3, 1) := by decide +kernel
theorem dX12_isWord_5 : decode cX12_isWord 5 = .ok (.if_icmp .ne 16, 3) := by decide +kernel
theorem dX12_isWord_8 : decode cX12_isWord 8 = .ok (.aload_n 0, 1) := by decide +kernel
theorem dX12_isWord_9 : decode cX12_isWord 9 = .ok (.getfield 76, 3) := by decide +kernel
theorem dX12_isWord_12 : decode cX12_isWord 12 = .ok (.lload_n 1, 1) := by decide +kernel
theorem dX12_isWord_13 : decode cX12_isWord 13 = .ok (.lcmp, 1) := by decide +kernel
theorem dX12_isWord_14 : decode cX12_isWord 14 = .ok (.ifCond .ne 7, 3) := by decide +kernel
theorem dX12_isWord_17 : decode cX12_isWord 17 = .ok (.iconst 1, 1) := by decide +kernel
theorem dX12_isWord_18 : decode cX12_isWord 18 = .ok (.goto 4, 3) := by decide +kernel
theorem dX12_isWord_21 : decode cX12_isWord 21 = .ok (.iconst 0, 1) := by decide +kernel
theorem dX12_isWord_22 : decode cX12_isWord 22 = .ok (.ireturn, 1) := by decide +kernel
theorem dX12_wrong_0 : decode cX12_wrong 0 = .ok (.aload_n 0, 1) := by decide +kernel
theorem dX12_wrong_1 : decode cX12_wrong 1 = .ok (.aload_n 0, 1) := by decide +kernel
theorem dX12_wrong_2 : decode cX12_wrong 2 = .ok (.getfield 66, 3) := by decide +kernel
theorem dX12_wrong_5 : decode cX12_wrong 5 = .ok (.iconst 1, 1) := by decide +kernel
theorem dX12_wrong_6 : decode cX12_wrong 6 = .ok (.if_icmp .ne 7, 3) := by decide +kernel
theorem dX12_wrong_9 : decode cX12_wrong 9 = .ok (.iconst 1, 1) := by decide +kernel
theorem dX12_wrong_10 : decode cX12_wrong 10 = .ok (.goto 4, 3) := by decide +kernel
theorem dX12_wrong_13 : decode cX12_wrong 13 = .ok (.iconst 2, 1) := by decide +kernel
theorem dX12_wrong_14 : decode cX12_wrong 14 = .ok (.aload_n 0, 1) := by decide +kernel
theorem dX12_wrong_15 : decode cX12_wrong 15 = .ok (.getfield 59, 3) := by decide +kernel
theorem dX12_wrong_18 : decode cX12_wrong 18 = .ok (.invokevirtual 94, 3) := by decide +kernel
theorem dX12_wrong_21 : decode cX12_wrong 21 = .ok (.pop, 1) := by decide +kernel
theorem dX12_wrong_22 : decode cX12_wrong 22 = .ok (.return_, 1) := by decide +kernel
theorem dX12_must_0 : decode cX12_must 0 = .ok (.aload_n 0, 1) := by decide +kernel
theorem dX12_must_1 : decode cX12_must 1 = .ok (.iload_n 1, 1) := by decide +kernel
theorem dX12_must_2 : decode cX12_must 2 = .ok (.invokevirtual 98, 3) := by decide +kernel
theorem dX12_must_5 : decode cX12_must 5 = .ok (.ifCond .ne 10, 3) := by decide +kernel
theorem dX12_must_8 : decode cX12_must 8 = .ok (.aload_n 0, 1) := by decide +kernel
theorem dX12_must_9 : decode cX12_must 9 = .ok (.invokevirtual 101, 3) := by decide +kernel
theorem dX12_must_12 : decode cX12_must 12 = .ok (.goto 7, 3) := by decide +kernel
theorem dX12_must_15 : decode cX12_must 15 = .ok (.aload_n 0, 1) := by decide +kernel
theorem dX12_must_16 : decode cX12_must 16 = .ok (.invokevirtual 105, 3) := by decide +kernel
theorem dX12_must_19 : decode cX12_must 19 = .ok (.return_, 1) := by decide +kernel
theorem dX12_nameOf_0 : decode cX12_nameOf 0 = .ok (.iconst 0, 1) := by decide +kernel
theorem dX12_nameOf_1 : decode cX12_nameOf 1 = .ok (.istore_n 3, 1) := by decide +kernel
theorem dX12_nameOf_2 : decode cX12_nameOf 2 = .ok (.iload_n 3, 1) := by decide +kernel
theorem dX12_nameOf_3 : decode cX12_nameOf 3 = .ok (.aload_n 0, 1) := by decide +kernel
theorem dX12_nameOf_4 : decode cX12_nameOf 4 = .ok (.getfield 108, 3) := by decide +kernel
theorem dX12_nameOf_7 : decode cX12_nameOf 7 = .ok (.if_icmp .ge 38, 3) := by decide +kernel
theorem dX12_nameOf_10 : decode cX12_nameOf 10 = .ok (.aload_n 0, 1) := by decide +kernel
theorem dX12_nameOf_11 : decode cX12_nameOf 11 = .ok (.getfield 111, 3) := by decide +kernel
theorem dX12_nameOf_14 : decode cX12_nameOf 14 = .ok (.bipush 64, 2) := by decide +kernel
theorem dX12_nameOf_16 : decode cX12_nameOf 16 = .ok (.aload_n 0, 1) := by decide +kernel
theorem dX12_nameOf_17 : decode cX12_nameOf 17 = .ok (.getfield 11, 3) := by decide +kernel
theorem dX12_nameOf_20 : decode cX12_nameOf 20 = .ok (.imul, 1) := by decide +kernel
theorem dX12_nameOf_21 : decode cX12_nameOf 21 = .ok (.iload_n 3, 1) := by decide +kernel
theorem dX12_nameOf_22 : decode cX12_nameOf 22 = .ok (.iadd, 1) := by decide +kernel
theorem dX12_nameOf_23 : decode cX12_nameOf 23 = .ok (.laload, 1) := by decide +kernel
theorem dX12_nameOf_24 : decode cX12_nameOf 24 = .ok (.lload_n 1, 1) := by decide +kernel
theorem dX12_nameOf_25 : decode cX12_nameOf 25 = .ok (.lcmp, 1) := by decide +kernel
theorem dX12_nameOf_26 : decode cX12_nameOf 26 = .ok (.ifCond .ne 13, 3) := by decide +kernel
theorem dX12_nameOf_29 : decode cX12_nameOf 29 = .ok (.bipush 64, 2) := by decide +kernel
theorem dX12_nameOf_31 : decode cX12_nameOf 31 = .ok (.aload_n 0, 1) := by decide +kernel
theorem dX12_nameOf_32 : decode cX12_nameOf 32 = .ok (.getfield 11, 3) := by decide +kernel
theorem dX12_nameOf_35 : decode cX12_nameOf 35 = .ok (.imul, 1) := by decide +kernel
theorem dX12_nameOf_36 : decode cX12_nameOf 36 = .ok (.iload_n 3, 1) := by decide +kernel
theorem dX12_nameOf_37 : decode cX12_nameOf 37 = .ok (.iadd, 1) := by decide +kernel
theorem dX12_nameOf_38 : decode cX12_nameOf 38 = .ok (.ireturn, 1) := by decide +kernel
theorem dX12_nameOf_39 : decode cX12_nameOf 39 = .ok (.iinc 3 1, 3) := by decide +kernel
theorem dX12_nameOf_42 : decode cX12_nameOf 42 = .ok (.goto (-40), 3) := by decide +kernel
theorem dX12_nameOf_45 : decode cX12_nameOf 45 = .ok (.iconst (-1), 1) := by decide +kernel
theorem dX12_nameOf_46 : decode cX12_nameOf 46 = .ok (.ireturn, 1) := by decide +kernel
theorem dX12_tell_0 : decode cX12_tell 0 = .ok (.aload_n 0, 1) := by decide +kernel
theorem dX12_tell_1 : decode cX12_tell 1 = .ok (.getfield 66, 3) := by decide +kernel
theorem dX12_tell_4 : decode cX12_tell 4 = .ok (.iconst 2, 1) := by decide +kernel
theorem dX12_tell_5 : decode cX12_tell 5 = .ok (.if_icmp .eq 7, 3) := by decide +kernel
theorem dX12_tell_8 : decode cX12_tell 8 = .ok (.aload_n 0, 1) := by decide +kernel
theorem dX12_tell_9 : decode cX12_tell 9 = .ok (.invokevirtual 101, 3) := by decide +kernel
theorem dX12_tell_12 : decode cX12_tell 12 = .ok (.aload_n 0, 1) := by decide +kernel
theorem dX12_tell_13 : decode cX12_tell 13 = .ok (.invokevirtual 115, 3) := by decide +kernel
theorem dX12_tell_16 : decode cX12_tell 16 = .ok (.ifCond .ne 4, 3) := by decide +kernel
theorem dX12_tell_19 : decode cX12_tell 19 = .ok (.return_, 1) := by decide +kernel
theorem dX12_tell_20 : decode cX12_tell 20 = .ok (.aload_n 0, 1) := by decide +kernel
theorem dX12_tell_21 : decode cX12_tell 21 = .ok (.aload_n 0, 1) := by decide +kernel
theorem dX12_tell_22 : decode cX12_tell 22 = .ok (.getfield 76, 3) := by decide +kernel
theorem dX12_tell_25 : decode cX12_tell 25 = .ok (.invokevirtual 119, 3) := by decide +kernel
theorem dX12_tell_28 : decode cX12_tell 28 = .ok (.ifCond .ge 13, 3) := by decide +kernel
theorem dX12_tell_31 : decode cX12_tell 31 = .ok (.aload_n 0, 1) := by decide +kernel
theorem dX12_tell_32 : decode cX12_tell 32 = .ok (.getfield 76, 3) := by decide +kernel
theorem dX12_tell_35 : decode cX12_tell 35 = .ok (.invokestatic 123, 3) := by decide +kernel
theorem dX12_tell_38 : decode cX12_tell 38 = .ok (.ifCond .le 13, 3) := by decide +kernel
theorem dX12_tell_41 : decode cX12_tell 41 = .ok (.aload_n 0, 1) := by decide +kernel
theorem dX12_tell_42 : decode cX12_tell 42 = .ok (.iconst 3, 1) := by decide +kernel
theorem dX12_tell_43 : decode cX12_tell 43 = .ok (.aload_n 0, 1) := by decide +kernel
theorem dX12_tell_44 : decode cX12_tell 44 = .ok (.getfield 59, 3) := by decide +kernel
theorem dX12_tell_47 : decode cX12_tell 47 = .ok (.invokevirtual 94, 3) := by decide +kernel
theorem dX12_tell_50 : decode cX12_tell 50 = .ok (.pop, 1) := by decide +kernel
theorem dX12_tell_51 : decode cX12_tell 51 = .ok (.aload_n 0, 1) := by decide +kernel
theorem dX12_tell_52 : decode cX12_tell 52 = .ok (.invokevirtual 115, 3) := by decide +kernel
theorem dX12_tell_55 : decode cX12_tell 55 = .ok (.ifCond .ne 4, 3) := by decide +kernel
theorem dX12_tell_58 : decode cX12_tell 58 = .ok (.return_, 1) := by decide +kernel
theorem dX12_tell_59 : decode cX12_tell 59 = .ok (.aload_n 0, 1) := by decide +kernel
theorem dX12_tell_60 : decode cX12_tell 60 = .ok (.aload_n 0, 1) := by decide +kernel
theorem dX12_tell_61 : decode cX12_tell 61 = .ok (.getfield 76, 3) := by decide +kernel
theorem dX12_tell_64 : decode cX12_tell 64 = .ok (.iload_n 1, 1) := by decide +kernel
theorem dX12_tell_65 : decode cX12_tell 65 = .ok (.iload_n 2, 1) := by decide +kernel
theorem dX12_tell_66 : decode cX12_tell 66 = .ok (.invokevirtual 126, 3) := by decide +kernel
theorem dX12_tell_69 : decode cX12_tell 69 = .ok (.aload_n 0, 1) := by decide +kernel
theorem dX12_tell_70 : decode cX12_tell 70 = .ok (.invokevirtual 105, 3) := by decide +kernel
theorem dX12_tell_73 : decode cX12_tell 73 = .ok (.return_, 1) := by decide +kernel
theorem dX12_wrong2_0 : decode cX12_wrong2 0 = .ok (.aload_n 0, 1) := by decide +kernel
theorem dX12_wrong2_1 : decode cX12_wrong2 1 = .ok (.aload_n 0, 1) := by decide +kernel
theorem dX12_wrong2_2 : decode cX12_wrong2 2 = .ok (.getfield 66, 3) := by decide +kernel
theorem dX12_wrong2_5 : decode cX12_wrong2 5 = .ok (.iconst 1, 1) := by decide +kernel
theorem dX12_wrong2_6 : decode cX12_wrong2 6 = .ok (.if_icmp .ne 7, 3) := by decide +kernel
theorem dX12_wrong2_9 : decode cX12_wrong2 9 = .ok (.iconst 1, 1) := by decide +kernel
theorem dX12_wrong2_10 : decode cX12_wrong2 10 = .ok (.goto 4, 3) := by decide +kernel
theorem dX12_wrong2_13 : decode cX12_wrong2 13 = .ok (.iconst 2, 1) := by decide +kernel
theorem dX12_wrong2_14 : decode cX12_wrong2 14 = .ok (.aload_n 0, 1) := by decide +kernel
theorem dX12_wrong2_15 : decode cX12_wrong2 15 = .ok (.getfield 59, 3) := by decide +kernel
theorem dX12_wrong2_18 : decode cX12_wrong2 18 = .ok (.invokevirtual 94, 3) := by decide +kernel
theorem dX12_wrong2_21 : decode cX12_wrong2 21 = .ok (.pop, 1) := by decide +kernel
theorem dX12_wrong2_22 : decode cX12_wrong2 22 = .ok (.return_, 1) := by decide +kernel
theorem dX12_add_0 : decode cX12_add 0 = .ok (.aload_n 0, 1) := by decide +kernel
theorem dX12_add_1 : decode cX12_add 1 = .ok (.getfield 111, 3) := by decide +kernel
theorem dX12_add_4 : decode cX12_add 4 = .ok (.bipush 64, 2) := by decide +kernel
theorem dX12_add_6 : decode cX12_add 6 = .ok (.aload_n 0, 1) := by decide +kernel
theorem dX12_add_7 : decode cX12_add 7 = .ok (.getfield 11, 3) := by decide +kernel
theorem dX12_add_10 : decode cX12_add 10 = .ok (.imul, 1) := by decide +kernel
theorem dX12_add_11 : decode cX12_add 11 = .ok (.aload_n 0, 1) := by decide +kernel
theorem dX12_add_12 : decode cX12_add 12 = .ok (.getfield 108, 3) := by decide +kernel
theorem dX12_add_15 : decode cX12_add 15 = .ok (.iadd, 1) := by decide +kernel
theorem dX12_add_16 : decode cX12_add 16 = .ok (.lload_n 1, 1) := by decide +kernel
theorem dX12_add_17 : decode cX12_add 17 = .ok (.lastore, 1) := by decide +kernel
theorem dX12_add_18 : decode cX12_add 18 = .ok (.aload_n 0, 1) := by decide +kernel
theorem dX12_add_19 : decode cX12_add 19 = .ok (.getfield 138, 3) := by decide +kernel
theorem dX12_add_22 : decode cX12_add 22 = .ok (.bipush 64, 2) := by decide +kernel
theorem dX12_add_24 : decode cX12_add 24 = .ok (.aload_n 0, 1) := by decide +kernel
theorem dX12_add_25 : decode cX12_add 25 = .ok (.getfield 11, 3) := by decide +kernel
theorem dX12_add_28 : decode cX12_add 28 = .ok (.imul, 1) := by decide +kernel
theorem dX12_add_29 : decode cX12_add 29 = .ok (.aload_n 0, 1) := by decide +kernel
theorem dX12_add_30 : decode cX12_add 30 = .ok (.getfield 108, 3) := by decide +kernel
theorem dX12_add_33 : decode cX12_add 33 = .ok (.iadd, 1) := by decide +kernel
theorem dX12_add_34 : decode cX12_add 34 = .ok (.iload_n 3, 1) := by decide +kernel
theorem dX12_add_35 : decode cX12_add 35 = .ok (.iastore, 1) := by decide +kernel
theorem dX12_add_36 : decode cX12_add 36 = .ok (.aload_n 0, 1) := by decide +kernel
theorem dX12_add_37 : decode cX12_add 37 = .ok (.getfield 142, 3) := by decide +kernel
theorem dX12_add_40 : decode cX12_add 40 = .ok (.bipush 64, 2) := by decide +kernel
theorem dX12_add_42 : decode cX12_add 42 = .ok (.aload_n 0, 1) := by decide +kernel
theorem dX12_add_43 : decode cX12_add 43 = .ok (.getfield 11, 3) := by decide +kernel
theorem dX12_add_46 : decode cX12_add 46 = .ok (.imul, 1) := by decide +kernel
theorem dX12_add_47 : decode cX12_add 47 = .ok (.aload_n 0, 1) := by decide +kernel
theorem dX12_add_48 : decode cX12_add 48 = .ok (.getfield 108, 3) := by decide +kernel
theorem dX12_add_51 : decode cX12_add 51 = .ok (.iadd, 1) := by decide +kernel
theorem dX12_add_52 : decode cX12_add 52 = .ok (.iload 4, 2) := by decide +kernel
theorem dX12_add_54 : decode cX12_add 54 = .ok (.iastore, 1) := by decide +kernel
theorem dX12_add_55 : decode cX12_add 55 = .ok (.aload_n 0, 1) := by decide +kernel
theorem dX12_add_56 : decode cX12_add 56 = .ok (.dup, 1) := by decide +kernel
theorem dX12_add_57 : decode cX12_add 57 = .ok (.getfield 108, 3) := by decide +kernel
theorem dX12_add_60 : decode cX12_add 60 = .ok (.iconst 1, 1) := by decide +kernel
theorem dX12_add_61 : decode cX12_add 61 = .ok (.iadd, 1) := by decide +kernel
theorem dX12_add_62 : decode cX12_add 62 = .ok (.putfield 108, 3) := by decide +kernel
theorem dX12_add_65 : decode cX12_add 65 = .ok (.return_, 1) := by decide +kernel
theorem dX12_ask_0 : decode cX12_ask 0 = .ok (.aload_n 0, 1) := by decide +kernel
theorem dX12_ask_1 : decode cX12_ask 1 = .ok (.getfield 66, 3) := by decide +kernel
theorem dX12_ask_4 : decode cX12_ask 4 = .ok (.iconst 2, 1) := by decide +kernel
theorem dX12_ask_5 : decode cX12_ask 5 = .ok (.if_icmp .eq 7, 3) := by decide +kernel
theorem dX12_ask_8 : decode cX12_ask 8 = .ok (.aload_n 0, 1) := by decide +kernel
theorem dX12_ask_9 : decode cX12_ask 9 = .ok (.invokevirtual 101, 3) := by decide +kernel
theorem dX12_ask_12 : decode cX12_ask 12 = .ok (.aload_n 0, 1) := by decide +kernel
theorem dX12_ask_13 : decode cX12_ask 13 = .ok (.invokevirtual 115, 3) := by decide +kernel
theorem dX12_ask_16 : decode cX12_ask 16 = .ok (.ifCond .ne 4, 3) := by decide +kernel
theorem dX12_ask_19 : decode cX12_ask 19 = .ok (.return_, 1) := by decide +kernel
theorem dX12_ask_20 : decode cX12_ask 20 = .ok (.aload_n 0, 1) := by decide +kernel
theorem dX12_ask_21 : decode cX12_ask 21 = .ok (.getfield 145, 3) := by decide +kernel
theorem dX12_ask_24 : decode cX12_ask 24 = .ok (.aload_n 0, 1) := by decide +kernel
theorem dX12_ask_25 : decode cX12_ask 25 = .ok (.getfield 415, 3) := by decide +kernel
theorem dX12_ask_28 : decode cX12_ask 28 = .ok (.aload_n 0, 1) := by decide +kernel
theorem dX12_ask_29 : decode cX12_ask 29 = .ok (.getfield 76, 3) := by decide +kernel
theorem dX12_ask_32 : decode cX12_ask 32 = .ok (.lastore, 1) := by decide +kernel
theorem dX12_ask_33 : decode cX12_ask 33 = .ok (.aload_n 0, 1) := by decide +kernel
theorem dX12_ask_34 : decode cX12_ask 34 = .ok (.getfield 148, 3) := by decide +kernel
theorem dX12_ask_37 : decode cX12_ask 37 = .ok (.aload_n 0, 1) := by decide +kernel
theorem dX12_ask_38 : decode cX12_ask 38 = .ok (.getfield 415, 3) := by decide +kernel
theorem dX12_ask_41 : decode cX12_ask 41 = .ok (.aload_n 0, 1) := by decide +kernel
theorem dX12_ask_42 : decode cX12_ask 42 = .ok (.getfield 59, 3) := by decide +kernel
theorem dX12_ask_45 : decode cX12_ask 45 = .ok (.iastore, 1) := by decide +kernel
theorem dX12_ask_46 : decode cX12_ask 46 = .ok (.aload_n 0, 1) := by decide +kernel
theorem dX12_ask_47 : decode cX12_ask 47 = .ok (.getfield 151, 3) := by decide +kernel
theorem dX12_ask_50 : decode cX12_ask 50 = .ok (.aload_n 0, 1) := by decide +kernel
theorem dX12_ask_51 : decode cX12_ask 51 = .ok (.getfield 415, 3) := by decide +kernel
theorem dX12_ask_54 : decode cX12_ask 54 = .ok (.iload_n 1, 1) := by decide +kernel
theorem dX12_ask_55 : decode cX12_ask 55 = .ok (.iastore, 1) := by decide +kernel
theorem dX12_ask_56 : decode cX12_ask 56 = .ok (.aload_n 0, 1) := by decide +kernel
theorem dX12_ask_57 : decode cX12_ask 57 = .ok (.getfield 154, 3) := by decide +kernel
theorem dX12_ask_60 : decode cX12_ask 60 = .ok (.aload_n 0, 1) := by decide +kernel
theorem dX12_ask_61 : decode cX12_ask 61 = .ok (.getfield 415, 3) := by decide +kernel
theorem dX12_ask_64 : decode cX12_ask 64 = .ok (.iload_n 2, 1) := by decide +kernel
theorem dX12_ask_65 : decode cX12_ask 65 = .ok (.iastore, 1) := by decide +kernel
theorem dX12_ask_66 : decode cX12_ask 66 = .ok (.aload_n 0, 1) := by decide +kernel
theorem dX12_ask_67 : decode cX12_ask 67 = .ok (.getfield 157, 3) := by decide +kernel
theorem dX12_ask_70 : decode cX12_ask 70 = .ok (.aload_n 0, 1) := by decide +kernel
theorem dX12_ask_71 : decode cX12_ask 71 = .ok (.getfield 415, 3) := by decide +kernel
theorem dX12_ask_74 : decode cX12_ask 74 = .ok (.iload_n 3, 1) := by decide +kernel
theorem dX12_ask_75 : decode cX12_ask 75 = .ok (.iastore, 1) := by decide +kernel
theorem dX12_ask_76 : decode cX12_ask 76 = .ok (.aload_n 0, 1) := by decide +kernel
theorem dX12_ask_77 : decode cX12_ask 77 = .ok (.getfield 160, 3) := by decide +kernel
theorem dX12_ask_80 : decode cX12_ask 80 = .ok (.aload_n 0, 1) := by decide +kernel
theorem dX12_ask_81 : decode cX12_ask 81 = .ok (.getfield 415, 3) := by decide +kernel
theorem dX12_ask_84 : decode cX12_ask 84 = .ok (.iload 4, 2) := by decide +kernel
theorem dX12_ask_86 : decode cX12_ask 86 = .ok (.iastore, 1) := by decide +kernel
theorem dX12_ask_87 : decode cX12_ask 87 = .ok (.aload_n 0, 1) := by decide +kernel
theorem dX12_ask_88 : decode cX12_ask 88 = .ok (.dup, 1) := by decide +kernel
theorem dX12_ask_89 : decode cX12_ask 89 = .ok (.getfield 415, 3) := by decide +kernel
theorem dX12_ask_92 : decode cX12_ask 92 = .ok (.iconst 1, 1) := by decide +kernel
theorem dX12_ask_93 : decode cX12_ask 93 = .ok (.iadd, 1) := by decide +kernel
theorem dX12_ask_94 : decode cX12_ask 94 = .ok (.putfield 415, 3) := by decide +kernel
theorem dX12_ask_97 : decode cX12_ask 97 = .ok (.aload_n 0, 1) := by decide +kernel
theorem dX12_ask_98 : decode cX12_ask 98 = .ok (.invokevirtual 105, 3) := by decide +kernel
theorem dX12_ask_101 : decode cX12_ask 101 = .ok (.return_, 1) := by decide +kernel
theorem dX12_readUse_0 : decode cX12_readUse 0 = .ok (.sipush 1600, 3) := by decide +kernel
theorem dX12_readUse_3 : decode cX12_readUse 3 = .ok (.aload_n 0, 1) := by decide +kernel
theorem dX12_readUse_4 : decode cX12_readUse 4 = .ok (.getfield 11, 3) := by decide +kernel
theorem dX12_readUse_7 : decode cX12_readUse 7 = .ok (.imul, 1) := by decide +kernel
theorem dX12_readUse_8 : decode cX12_readUse 8 = .ok (.aload_n 0, 1) := by decide +kernel
theorem dX12_readUse_9 : decode cX12_readUse 9 = .ok (.getfield 418, 3) := by decide +kernel
theorem dX12_readUse_12 : decode cX12_readUse 12 = .ok (.iadd, 1) := by decide +kernel
theorem dX12_readUse_13 : decode cX12_readUse 13 = .ok (.istore_n 1, 1) := by decide +kernel
theorem dX12_readUse_14 : decode cX12_readUse 14 = .ok (.aload_n 0, 1) := by decide +kernel
theorem dX12_readUse_15 : decode cX12_readUse 15 = .ok (.dup, 1) := by decide +kernel
theorem dX12_readUse_16 : decode cX12_readUse 16 = .ok (.getfield 418, 3) := by decide +kernel
theorem dX12_readUse_19 : decode cX12_readUse 19 = .ok (.iconst 1, 1) := by decide +kernel
theorem dX12_readUse_20 : decode cX12_readUse 20 = .ok (.iadd, 1) := by decide +kernel
theorem dX12_readUse_21 : decode cX12_readUse 21 = .ok (.putfield 418, 3) := by decide +kernel
theorem dX12_readUse_24 : decode cX12_readUse 24 = .ok (.aload_n 0, 1) := by decide +kernel
theorem dX12_readUse_25 : decode cX12_readUse 25 = .ok (.iconst 0, 1) := by decide +kernel
theorem dX12_readUse_26 : decode cX12_readUse 26 = .ok (.iconst (-1), 1) := by decide +kernel
theorem dX12_readUse_27 : decode cX12_readUse 27 = .ok (.iconst 5, 1) := by decide +kernel
theorem dX12_readUse_28 : decode cX12_readUse 28 = .ok (.iload_n 1, 1) := by decide +kernel
theorem dX12_readUse_29 : decode cX12_readUse 29 = .ok (.invokevirtual 421, 3) := by decide +kernel
theorem dX12_readUse_32 : decode cX12_readUse 32 = .ok (.aload_n 0, 1) := by decide +kernel
theorem dX12_readUse_33 : decode cX12_readUse 33 = .ok (.getfield 235, 3) := by decide +kernel
theorem dX12_readUse_36 : decode cX12_readUse 36 = .ok (.iload_n 1, 1) := by decide +kernel
theorem dX12_readUse_37 : decode cX12_readUse 37 = .ok (.iconst 0, 1) := by decide +kernel
theorem dX12_readUse_38 : decode cX12_readUse 38 = .ok (.iastore, 1) := by decide +kernel
theorem dX12_readUse_39 : decode cX12_readUse 39 = .ok (.aload_n 0, 1) := by decide +kernel
theorem dX12_readUse_40 : decode cX12_readUse 40 = .ok (.getfield 238, 3) := by decide +kernel
theorem dX12_readUse_43 : decode cX12_readUse 43 = .ok (.iload_n 1, 1) := by decide +kernel
theorem dX12_readUse_44 : decode cX12_readUse 44 = .ok (.iconst (-1), 1) := by decide +kernel
theorem dX12_readUse_45 : decode cX12_readUse 45 = .ok (.iastore, 1) := by decide +kernel
theorem dX12_readUse_46 : decode cX12_readUse 46 = .ok (.aload_n 0, 1) := by decide +kernel
theorem dX12_readUse_47 : decode cX12_readUse 47 = .ok (.getfield 241, 3) := by decide +kernel
theorem dX12_readUse_50 : decode cX12_readUse 50 = .ok (.iload_n 1, 1) := by decide +kernel
theorem dX12_readUse_51 : decode cX12_readUse 51 = .ok (.iconst (-1), 1) := by decide +kernel
theorem dX12_readUse_52 : decode cX12_readUse 52 = .ok (.iastore, 1) := by decide +kernel
theorem dX12_readUse_53 : decode cX12_readUse 53 = .ok (.aload_n 0, 1) := by decide +kernel
theorem dX12_readUse_54 : decode cX12_readUse 54 = .ok (.getfield 244, 3) := by decide +kernel
theorem dX12_readUse_57 : decode cX12_readUse 57 = .ok (.iload_n 1, 1) := by decide +kernel
theorem dX12_readUse_58 : decode cX12_readUse 58 = .ok (.iconst 0, 1) := by decide +kernel
theorem dX12_readUse_59 : decode cX12_readUse 59 = .ok (.iastore, 1) := by decide +kernel
theorem dX12_readUse_60 : decode cX12_readUse 60 = .ok (.aload_n 0, 1) := by decide +kernel
theorem dX12_readUse_61 : decode cX12_readUse 61 = .ok (.getfield 253, 3) := by decide +kernel
theorem dX12_readUse_64 : decode cX12_readUse 64 = .ok (.iload_n 1, 1) := by decide +kernel
theorem dX12_readUse_65 : decode cX12_readUse 65 = .ok (.iconst 0, 1) := by decide +kernel
theorem dX12_readUse_66 : decode cX12_readUse 66 = .ok (.bastore, 1) := by decide +kernel
theorem dX12_readUse_67 : decode cX12_readUse 67 = .ok (.aload_n 0, 1) := by decide +kernel
theorem dX12_readUse_68 : decode cX12_readUse 68 = .ok (.getfield 250, 3) := by decide +kernel
theorem dX12_readUse_71 : decode cX12_readUse 71 = .ok (.iload_n 1, 1) := by decide +kernel
theorem dX12_readUse_72 : decode cX12_readUse 72 = .ok (.iconst (-1), 1) := by decide +kernel
theorem dX12_readUse_73 : decode cX12_readUse 73 = .ok (.iastore, 1) := by decide +kernel
theorem dX12_readUse_74 : decode cX12_readUse 74 = .ok (.aload_n 0, 1) := by decide +kernel
theorem dX12_readUse_75 : decode cX12_readUse 75 = .ok (.invokevirtual 115, 3) := by decide +kernel
theorem dX12_readUse_78 : decode cX12_readUse 78 = .ok (.ifCond .eq 17, 3) := by decide +kernel
theorem dX12_readUse_81 : decode cX12_readUse 81 = .ok (.aload_n 0, 1) := by decide +kernel
theorem dX12_readUse_82 : decode cX12_readUse 82 = .ok (.bipush 40, 2) := by decide +kernel
theorem dX12_readUse_84 : decode cX12_readUse 84 = .ok (.invokevirtual 98, 3) := by decide +kernel
theorem dX12_readUse_87 : decode cX12_readUse 87 = .ok (.ifCond .eq 8, 3) := by decide +kernel
theorem dX12_readUse_90 : decode cX12_readUse 90 = .ok (.aload_n 0, 1) := by decide +kernel
theorem dX12_readUse_91 : decode cX12_readUse 91 = .ok (.iload_n 1, 1) := by decide +kernel
theorem dX12_readUse_92 : decode cX12_readUse 92 = .ok (.invokevirtual 425, 3) := by decide +kernel
theorem dX12_readUse_95 : decode cX12_readUse 95 = .ok (.aload_n 0, 1) := by decide +kernel
theorem dX12_readUse_96 : decode cX12_readUse 96 = .ok (.invokevirtual 115, 3) := by decide +kernel
theorem dX12_readUse_99 : decode cX12_readUse 99 = .ok (.ifCond .eq 45, 3) := by decide +kernel
theorem dX12_readUse_102 : decode cX12_readUse 102 = .ok (.aload_n 0, 1) := by decide +kernel
theorem dX12_readUse_103 : decode cX12_readUse 103 = .ok (.bipush 33, 2) := by decide +kernel
theorem dX12_readUse_105 : decode cX12_readUse 105 = .ok (.invokevirtual 98, 3) := by decide +kernel
theorem dX12_readUse_108 : decode cX12_readUse 108 = .ok (.ifCond .ne 12, 3) := by decide +kernel
theorem dX12_readUse_111 : decode cX12_readUse 111 = .ok (.aload_n 0, 1) := by decide +kernel
theorem dX12_readUse_112 : decode cX12_readUse 112 = .ok (.bipush 63, 2) := by decide +kernel
theorem dX12_readUse_114 : decode cX12_readUse 114 = .ok (.invokevirtual 98, 3) := by decide +kernel
theorem dX12_readUse_117 : decode cX12_readUse 117 = .ok (.ifCond .eq 27, 3) := by decide +kernel
theorem dX12_readUse_120 : decode cX12_readUse 120 = .ok (.aload_n 0, 1) := by decide +kernel
theorem dX12_readUse_121 : decode cX12_readUse 121 = .ok (.getfield 238, 3) := by decide +kernel
theorem dX12_readUse_124 : decode cX12_readUse 124 = .ok (.iload_n 1, 1) := by decide +kernel
theorem dX12_readUse_125 : decode cX12_readUse 125 = .ok (.aload_n 0, 1) := by decide +kernel
theorem dX12_readUse_126 : decode cX12_readUse 126 = .ok (.bipush 33, 2) := by decide +kernel
theorem dX12_readUse_128 : decode cX12_readUse 128 = .ok (.invokevirtual 98, 3) := by decide +kernel
theorem dX12_readUse_131 : decode cX12_readUse 131 = .ok (.ifCond .eq 7, 3) := by decide +kernel
theorem dX12_readUse_134 : decode cX12_readUse 134 = .ok (.iconst 0, 1) := by decide +kernel
theorem dX12_readUse_135 : decode cX12_readUse 135 = .ok (.goto 4, 3) := by decide +kernel
theorem dX12_readUse_138 : decode cX12_readUse 138 = .ok (.iconst 1, 1) := by decide +kernel
theorem dX12_readUse_139 : decode cX12_readUse 139 = .ok (.iastore, 1) := by decide +kernel
theorem dX12_readUse_140 : decode cX12_readUse 140 = .ok (.aload_n 0, 1) := by decide +kernel
theorem dX12_readUse_141 : decode cX12_readUse 141 = .ok (.invokevirtual 105, 3) := by decide +kernel
theorem dX12_readUse_144 : decode cX12_readUse 144 = .ok (.aload_n 0, 1) := by decide +kernel
theorem dX12_readUse_145 : decode cX12_readUse 145 = .ok (.invokevirtual 115, 3) := by decide +kernel
theorem dX12_readUse_148 : decode cX12_readUse 148 = .ok (.ifCond .eq 24, 3) := by decide +kernel
theorem dX12_readUse_151 : decode cX12_readUse 151 = .ok (.aload_n 0, 1) := by decide +kernel
theorem dX12_readUse_152 : decode cX12_readUse 152 = .ok (.bipush 64, 2) := by decide +kernel
theorem dX12_readUse_154 : decode cX12_readUse 154 = .ok (.invokevirtual 98, 3) := by decide +kernel
theorem dX12_readUse_157 : decode cX12_readUse 157 = .ok (.ifCond .eq 15, 3) := by decide +kernel
theorem dX12_readUse_160 : decode cX12_readUse 160 = .ok (.aload_n 0, 1) := by decide +kernel
theorem dX12_readUse_161 : decode cX12_readUse 161 = .ok (.invokevirtual 105, 3) := by decide +kernel
theorem dX12_readUse_164 : decode cX12_readUse 164 = .ok (.aload_n 0, 1) := by decide +kernel
theorem dX12_readUse_165 : decode cX12_readUse 165 = .ok (.iconst 1, 1) := by decide +kernel
theorem dX12_readUse_166 : decode cX12_readUse 166 = .ok (.iconst (-1), 1) := by decide +kernel
theorem dX12_readUse_167 : decode cX12_readUse 167 = .ok (.iconst 4, 1) := by decide +kernel
theorem dX12_readUse_168 : decode cX12_readUse 168 = .ok (.iload_n 1, 1) := by decide +kernel
theorem dX12_readUse_169 : decode cX12_readUse 169 = .ok (.invokevirtual 421, 3) := by decide +kernel
theorem dX12_readUse_172 : decode cX12_readUse 172 = .ok (.aload_n 0, 1) := by decide +kernel
theorem dX12_readUse_173 : decode cX12_readUse 173 = .ok (.invokevirtual 115, 3) := by decide +kernel
theorem dX12_readUse_176 : decode cX12_readUse 176 = .ok (.ifCond .eq 49, 3) := by decide +kernel
theorem dX12_readUse_179 : decode cX12_readUse 179 = .ok (.aload_n 0, 1) := by decide +kernel
theorem dX12_readUse_180 : decode cX12_readUse 180 = .ok (.bipush 35, 2) := by decide +kernel
theorem dX12_readUse_182 : decode cX12_readUse 182 = .ok (.invokevirtual 98, 3) := by decide +kernel
theorem dX12_readUse_185 : decode cX12_readUse 185 = .ok (.ifCond .eq 40, 3) := by decide +kernel
theorem dX12_readUse_188 : decode cX12_readUse 188 = .ok (.aload_n 0, 1) := by decide +kernel
theorem dX12_readUse_189 : decode cX12_readUse 189 = .ok (.invokevirtual 105, 3) := by decide +kernel
theorem dX12_readUse_192 : decode cX12_readUse 192 = .ok (.aload_n 0, 1) := by decide +kernel
theorem dX12_readUse_193 : decode cX12_readUse 193 = .ok (.getfield 66, 3) := by decide +kernel
theorem dX12_readUse_196 : decode cX12_readUse 196 = .ok (.iconst 4, 1) := by decide +kernel
theorem dX12_readUse_197 : decode cX12_readUse 197 = .ok (.if_icmp .eq 7, 3) := by decide +kernel
theorem dX12_readUse_200 : decode cX12_readUse 200 = .ok (.aload_n 0, 1) := by decide +kernel
theorem dX12_readUse_201 : decode cX12_readUse 201 = .ok (.invokevirtual 101, 3) := by decide +kernel
theorem dX12_readUse_204 : decode cX12_readUse 204 = .ok (.aload_n 0, 1) := by decide +kernel
theorem dX12_readUse_205 : decode cX12_readUse 205 = .ok (.getfield 244, 3) := by decide +kernel
theorem dX12_readUse_208 : decode cX12_readUse 208 = .ok (.iload_n 1, 1) := by decide +kernel
theorem dX12_readUse_209 : decode cX12_readUse 209 = .ok (.aload_n 0, 1) := by decide +kernel
theorem dX12_readUse_210 : decode cX12_readUse 210 = .ok (.getfield 91, 3) := by decide +kernel
theorem dX12_readUse_213 : decode cX12_readUse 213 = .ok (.iastore, 1) := by decide +kernel
theorem dX12_readUse_214 : decode cX12_readUse 214 = .ok (.aload_n 0, 1) := by decide +kernel
theorem dX12_readUse_215 : decode cX12_readUse 215 = .ok (.getfield 253, 3) := by decide +kernel
theorem dX12_readUse_218 : decode cX12_readUse 218 = .ok (.iload_n 1, 1) := by decide +kernel
theorem dX12_readUse_219 : decode cX12_readUse 219 = .ok (.iconst 1, 1) := by decide +kernel
theorem dX12_readUse_220 : decode cX12_readUse 220 = .ok (.bastore, 1) := by decide +kernel
theorem dX12_readUse_221 : decode cX12_readUse 221 = .ok (.aload_n 0, 1) := by decide +kernel
theorem dX12_readUse_222 : decode cX12_readUse 222 = .ok (.invokevirtual 105, 3) := by decide +kernel
theorem dX12_readUse_225 : decode cX12_readUse 225 = .ok (.aload_n 0, 1) := by decide +kernel
theorem dX12_readUse_226 : decode cX12_readUse 226 = .ok (.invokevirtual 115, 3) := by decide +kernel
theorem dX12_readUse_229 : decode cX12_readUse 229 = .ok (.ifCond .eq 53, 3) := by decide +kernel
theorem dX12_readUse_232 : decode cX12_readUse 232 = .ok (.aload_n 0, 1) := by decide +kernel
theorem dX12_readUse_233 : decode cX12_readUse 233 = .ok (.getfield 66, 3) := by decide +kernel
theorem dX12_readUse_236 : decode cX12_readUse 236 = .ok (.iconst 5, 1) := by decide +kernel
theorem dX12_readUse_237 : decode cX12_readUse 237 = .ok (.if_icmp .ne 45, 3) := by decide +kernel
theorem dX12_readUse_240 : decode cX12_readUse 240 = .ok (.aload_n 0, 1) := by decide +kernel
theorem dX12_readUse_241 : decode cX12_readUse 241 = .ok (.getfield 247, 3) := by decide +kernel
theorem dX12_readUse_244 : decode cX12_readUse 244 = .ok (.iload_n 1, 1) := by decide +kernel
theorem dX12_readUse_245 : decode cX12_readUse 245 = .ok (.sipush 3000, 3) := by decide +kernel
theorem dX12_readUse_248 : decode cX12_readUse 248 = .ok (.aload_n 0, 1) := by decide +kernel
theorem dX12_readUse_249 : decode cX12_readUse 249 = .ok (.getfield 11, 3) := by decide +kernel
theorem dX12_readUse_252 : decode cX12_readUse 252 = .ok (.imul, 1) := by decide +kernel
theorem dX12_readUse_253 : decode cX12_readUse 253 = .ok (.aload_n 0, 1) := by decide +kernel
theorem dX12_readUse_254 : decode cX12_readUse 254 = .ok (.getfield 59, 3) := by decide +kernel
theorem dX12_readUse_257 : decode cX12_readUse 257 = .ok (.iadd, 1) := by decide +kernel
theorem dX12_readUse_258 : decode cX12_readUse 258 = .ok (.iconst 1, 1) := by decide +kernel
theorem dX12_readUse_259 : decode cX12_readUse 259 = .ok (.iadd, 1) := by decide +kernel
theorem dX12_readUse_260 : decode cX12_readUse 260 = .ok (.iastore, 1) := by decide +kernel
theorem dX12_readUse_261 : decode cX12_readUse 261 = .ok (.aload_n 0, 1) := by decide +kernel
theorem dX12_readUse_262 : decode cX12_readUse 262 = .ok (.getfield 250, 3) := by decide +kernel
theorem dX12_readUse_265 : decode cX12_readUse 265 = .ok (.iload_n 1, 1) := by decide +kernel
theorem dX12_readUse_266 : decode cX12_readUse 266 = .ok (.aload_n 0, 1) := by decide +kernel
theorem dX12_readUse_267 : decode cX12_readUse 267 = .ok (.getfield 56, 3) := by decide +kernel
theorem dX12_readUse_270 : decode cX12_readUse 270 = .ok (.aload_n 0, 1) := by decide +kernel
theorem dX12_readUse_271 : decode cX12_readUse 271 = .ok (.getfield 59, 3) := by decide +kernel
theorem dX12_readUse_274 : decode cX12_readUse 274 = .ok (.isub, 1) := by decide +kernel
theorem dX12_readUse_275 : decode cX12_readUse 275 = .ok (.iconst 2, 1) := by decide +kernel
theorem dX12_readUse_276 : decode cX12_readUse 276 = .ok (.isub, 1) := by decide +kernel
theorem dX12_readUse_277 : decode cX12_readUse 277 = .ok (.iastore, 1) := by decide +kernel
theorem dX12_readUse_278 : decode cX12_readUse 278 = .ok (.aload_n 0, 1) := by decide +kernel
theorem dX12_readUse_279 : decode cX12_readUse 279 = .ok (.invokevirtual 105, 3) := by decide +kernel
theorem dX12_readUse_282 : decode cX12_readUse 282 = .ok (.iload_n 1, 1) := by decide +kernel
theorem dX12_readUse_283 : decode cX12_readUse 283 = .ok (.ireturn, 1) := by decide +kernel
theorem dX12_readArgs_0 : decode cX12_readArgs 0 = .ok (.iconst 1, 1) := by decide +kernel
theorem dX12_readArgs_1 : decode cX12_readArgs 1 = .ok (.istore_n 2, 1) := by decide +kernel
theorem dX12_readArgs_2 : decode cX12_readArgs 2 = .ok (.iload_n 2, 1) := by decide +kernel
theorem dX12_readArgs_3 : decode cX12_readArgs 3 = .ok (.ifCond .eq 131, 3) := by decide +kernel
theorem dX12_readArgs_6 : decode cX12_readArgs 6 = .ok (.aload_n 0, 1) := by decide +kernel
theorem dX12_readArgs_7 : decode cX12_readArgs 7 = .ok (.invokevirtual 115, 3) := by decide +kernel
theorem dX12_readArgs_10 : decode cX12_readArgs 10 = .ok (.ifCond .eq 124, 3) := by decide +kernel
theorem dX12_readArgs_13 : decode cX12_readArgs 13 = .ok (.aload_n 0, 1) := by decide +kernel
theorem dX12_readArgs_14 : decode cX12_readArgs 14 = .ok (.invokevirtual 105, 3) := by decide +kernel
theorem dX12_readArgs_17 : decode cX12_readArgs 17 = .ok (.iconst 4, 1) := by decide +kernel
theorem dX12_readArgs_18 : decode cX12_readArgs 18 = .ok (.iload_n 1, 1) := by decide +kernel
theorem dX12_readArgs_19 : decode cX12_readArgs 19 = .ok (.imul, 1) := by decide +kernel
theorem dX12_readArgs_20 : decode cX12_readArgs 20 = .ok (.aload_n 0, 1) := by decide +kernel
theorem dX12_readArgs_21 : decode cX12_readArgs 21 = .ok (.getfield 235, 3) := by decide +kernel
theorem dX12_readArgs_24 : decode cX12_readArgs 24 = .ok (.iload_n 1, 1) := by decide +kernel
theorem dX12_readArgs_25 : decode cX12_readArgs 25 = .ok (.iaload, 1) := by decide +kernel
theorem dX12_readArgs_26 : decode cX12_readArgs 26 = .ok (.iadd, 1) := by decide +kernel
theorem dX12_readArgs_27 : decode cX12_readArgs 27 = .ok (.istore_n 3, 1) := by decide +kernel
theorem dX12_readArgs_28 : decode cX12_readArgs 28 = .ok (.aload_n 0, 1) := by decide +kernel
theorem dX12_readArgs_29 : decode cX12_readArgs 29 = .ok (.getfield 66, 3) := by decide +kernel
theorem dX12_readArgs_32 : decode cX12_readArgs 32 = .ok (.iconst 4, 1) := by decide +kernel
theorem dX12_readArgs_33 : decode cX12_readArgs 33 = .ok (.if_icmp .eq 11, 3) := by decide +kernel
theorem dX12_readArgs_36 : decode cX12_readArgs 36 = .ok (.aload_n 0, 1) := by decide +kernel
theorem dX12_readArgs_37 : decode cX12_readArgs 37 = .ok (.getfield 66, 3) := by decide +kernel
theorem dX12_readArgs_40 : decode cX12_readArgs 40 = .ok (.iconst 2, 1) := by decide +kernel
theorem dX12_readArgs_41 : decode cX12_readArgs 41 = .ok (.if_icmp .ne 13, 3) := by decide +kernel
theorem dX12_readArgs_44 : decode cX12_readArgs 44 = .ok (.aload_n 0, 1) := by decide +kernel
theorem dX12_readArgs_45 : decode cX12_readArgs 45 = .ok (.getfield 235, 3) := by decide +kernel
theorem dX12_readArgs_48 : decode cX12_readArgs 48 = .ok (.iload_n 1, 1) := by decide +kernel
theorem dX12_readArgs_49 : decode cX12_readArgs 49 = .ok (.iaload, 1) := by decide +kernel
theorem dX12_readArgs_50 : decode cX12_readArgs 50 = .ok (.iconst 4, 1) := by decide +kernel
theorem dX12_readArgs_51 : decode cX12_readArgs 51 = .ok (.if_icmp .ne 7, 3) := by decide +kernel
theorem dX12_readArgs_54 : decode cX12_readArgs 54 = .ok (.aload_n 0, 1) := by decide +kernel
theorem dX12_readArgs_55 : decode cX12_readArgs 55 = .ok (.invokevirtual 101, 3) := by decide +kernel
theorem dX12_readArgs_58 : decode cX12_readArgs 58 = .ok (.aload_n 0, 1) := by decide +kernel
theorem dX12_readArgs_59 : decode cX12_readArgs 59 = .ok (.invokevirtual 115, 3) := by decide +kernel
theorem dX12_readArgs_62 : decode cX12_readArgs 62 = .ok (.ifCond .ne 4, 3) := by decide +kernel
theorem dX12_readArgs_65 : decode cX12_readArgs 65 = .ok (.return_, 1) := by decide +kernel
theorem dX12_readArgs_66 : decode cX12_readArgs 66 = .ok (.aload_n 0, 1) := by decide +kernel
theorem dX12_readArgs_67 : decode cX12_readArgs 67 = .ok (.getfield 257, 3) := by decide +kernel
theorem dX12_readArgs_70 : decode cX12_readArgs 70 = .ok (.iload_n 3, 1) := by decide +kernel
theorem dX12_readArgs_71 : decode cX12_readArgs 71 = .ok (.aload_n 0, 1) := by decide +kernel
theorem dX12_readArgs_72 : decode cX12_readArgs 72 = .ok (.getfield 66, 3) := by decide +kernel
theorem dX12_readArgs_75 : decode cX12_readArgs 75 = .ok (.iconst 4, 1) := by decide +kernel
theorem dX12_readArgs_76 : decode cX12_readArgs 76 = .ok (.if_icmp .ne 10, 3) := by decide +kernel
theorem dX12_readArgs_79 : decode cX12_readArgs 79 = .ok (.aload_n 0, 1) := by decide +kernel
theorem dX12_readArgs_80 : decode cX12_readArgs 80 = .ok (.getfield 91, 3) := by decide +kernel
theorem dX12_readArgs_83 : decode cX12_readArgs 83 = .ok (.goto 4, 3) := by decide +kernel
theorem dX12_readArgs_86 : decode cX12_readArgs 86 = .ok (.iconst 0, 1) := by decide +kernel
theorem dX12_readArgs_87 : decode cX12_readArgs 87 = .ok (.iastore, 1) := by decide +kernel
theorem dX12_readArgs_88 : decode cX12_readArgs 88 = .ok (.aload_n 0, 1) := by decide +kernel
theorem dX12_readArgs_89 : decode cX12_readArgs 89 = .ok (.getfield 260, 3) := by decide +kernel
theorem dX12_readArgs_92 : decode cX12_readArgs 92 = .ok (.iload_n 3, 1) := by decide +kernel
theorem dX12_readArgs_93 : decode cX12_readArgs 93 = .ok (.aload_n 0, 1) := by decide +kernel
theorem dX12_readArgs_94 : decode cX12_readArgs 94 = .ok (.getfield 66, 3) := by decide +kernel
theorem dX12_readArgs_97 : decode cX12_readArgs 97 = .ok (.iconst 2, 1) := by decide +kernel
theorem dX12_readArgs_98 : decode cX12_readArgs 98 = .ok (.if_icmp .ne 10, 3) := by decide +kernel
theorem dX12_readArgs_101 : decode cX12_readArgs 101 = .ok (.aload_n 0, 1) := by decide +kernel
theorem dX12_readArgs_102 : decode cX12_readArgs 102 = .ok (.getfield 76, 3) := by decide +kernel
theorem dX12_readArgs_105 : decode cX12_readArgs 105 = .ok (.goto 4, 3) := by decide +kernel
theorem dX12_readArgs_108 : decode cX12_readArgs 108 = .ok (.lconst 0, 1) := by decide +kernel
theorem dX12_readArgs_109 : decode cX12_readArgs 109 = .ok (.lastore, 1) := by decide +kernel
theorem dX12_readArgs_110 : decode cX12_readArgs 110 = .ok (.aload_n 0, 1) := by decide +kernel
theorem dX12_readArgs_111 : decode cX12_readArgs 111 = .ok (.getfield 235, 3) := by decide +kernel
theorem dX12_readArgs_114 : decode cX12_readArgs 114 = .ok (.iload_n 1, 1) := by decide +kernel
theorem dX12_readArgs_115 : decode cX12_readArgs 115 = .ok (.dup2, 1) := by decide +kernel
theorem dX12_readArgs_116 : decode cX12_readArgs 116 = .ok (.iaload, 1) := by decide +kernel
theorem dX12_readArgs_117 : decode cX12_readArgs 117 = .ok (.iconst 1, 1) := by decide +kernel
theorem dX12_readArgs_118 : decode cX12_readArgs 118 = .ok (.iadd, 1) := by decide +kernel
theorem dX12_readArgs_119 : decode cX12_readArgs 119 = .ok (.iastore, 1) := by decide +kernel
theorem dX12_readArgs_120 : decode cX12_readArgs 120 = .ok (.aload_n 0, 1) := by decide +kernel
theorem dX12_readArgs_121 : decode cX12_readArgs 121 = .ok (.invokevirtual 105, 3) := by decide +kernel
theorem dX12_readArgs_124 : decode cX12_readArgs 124 = .ok (.aload_n 0, 1) := by decide +kernel
theorem dX12_readArgs_125 : decode cX12_readArgs 125 = .ok (.bipush 44, 2) := by decide +kernel
theorem dX12_readArgs_127 : decode cX12_readArgs 127 = .ok (.invokevirtual 98, 3) := by decide +kernel
theorem dX12_readArgs_130 : decode cX12_readArgs 130 = .ok (.istore_n 2, 1) := by decide +kernel
theorem dX12_readArgs_131 : decode cX12_readArgs 131 = .ok (.goto (-129), 3) := by decide +kernel
theorem dX12_readArgs_134 : decode cX12_readArgs 134 = .ok (.aload_n 0, 1) := by decide +kernel
theorem dX12_readArgs_135 : decode cX12_readArgs 135 = .ok (.bipush 41, 2) := by decide +kernel
theorem dX12_readArgs_137 : decode cX12_readArgs 137 = .ok (.invokevirtual 429, 3) := by decide +kernel
theorem dX12_readArgs_140 : decode cX12_readArgs 140 = .ok (.return_, 1) := by decide +kernel
theorem dX12_readUses_0 : decode cX12_readUses 0 = .ok (.iconst 0, 1) := by decide +kernel
theorem dX12_readUses_1 : decode cX12_readUses 1 = .ok (.istore_n 2, 1) := by decide +kernel
theorem dX12_readUses_2 : decode cX12_readUses 2 = .ok (.iconst 1, 1) := by decide +kernel
theorem dX12_readUses_3 : decode cX12_readUses 3 = .ok (.istore_n 3, 1) := by decide +kernel
theorem dX12_readUses_4 : decode cX12_readUses 4 = .ok (.iload_n 3, 1) := by decide +kernel
theorem dX12_readUses_5 : decode cX12_readUses 5 = .ok (.ifCond .eq 73, 3) := by decide +kernel
theorem dX12_readUses_8 : decode cX12_readUses 8 = .ok (.aload_n 0, 1) := by decide +kernel
theorem dX12_readUses_9 : decode cX12_readUses 9 = .ok (.invokevirtual 115, 3) := by decide +kernel
theorem dX12_readUses_12 : decode cX12_readUses 12 = .ok (.ifCond .eq 66, 3) := by decide +kernel
theorem dX12_readUses_15 : decode cX12_readUses 15 = .ok (.iload_n 1, 1) := by decide +kernel
theorem dX12_readUses_16 : decode cX12_readUses 16 = .ok (.iload_n 2, 1) := by decide +kernel
theorem dX12_readUses_17 : decode cX12_readUses 17 = .ok (.iadd, 1) := by decide +kernel
theorem dX12_readUses_18 : decode cX12_readUses 18 = .ok (.bipush 8, 2) := by decide +kernel
theorem dX12_readUses_20 : decode cX12_readUses 20 = .ok (.if_icmp .ne 7, 3) := by decide +kernel
theorem dX12_readUses_23 : decode cX12_readUses 23 = .ok (.aload_n 0, 1) := by decide +kernel
theorem dX12_readUses_24 : decode cX12_readUses 24 = .ok (.invokevirtual 432, 3) := by decide +kernel
theorem dX12_readUses_27 : decode cX12_readUses 27 = .ok (.aload_n 0, 1) := by decide +kernel
theorem dX12_readUses_28 : decode cX12_readUses 28 = .ok (.invokevirtual 115, 3) := by decide +kernel
theorem dX12_readUses_31 : decode cX12_readUses 31 = .ok (.ifCond .ne 5, 3) := by decide +kernel
theorem dX12_readUses_34 : decode cX12_readUses 34 = .ok (.iload_n 2, 1) := by decide +kernel
theorem dX12_readUses_35 : decode cX12_readUses 35 = .ok (.ireturn, 1) := by decide +kernel
theorem dX12_readUses_36 : decode cX12_readUses 36 = .ok (.aload_n 0, 1) := by decide +kernel
theorem dX12_readUses_37 : decode cX12_readUses 37 = .ok (.invokevirtual 435, 3) := by decide +kernel
theorem dX12_readUses_40 : decode cX12_readUses 40 = .ok (.istore 4, 2) := by decide +kernel
theorem dX12_readUses_42 : decode cX12_readUses 42 = .ok (.iinc 2 1, 3) := by decide +kernel
theorem dX12_readUses_45 : decode cX12_readUses 45 = .ok (.aload_n 0, 1) := by decide +kernel
theorem dX12_readUses_46 : decode cX12_readUses 46 = .ok (.invokevirtual 115, 3) := by decide +kernel
theorem dX12_readUses_49 : decode cX12_readUses 49 = .ok (.ifCond .eq 16, 3) := by decide +kernel
theorem dX12_readUses_52 : decode cX12_readUses 52 = .ok (.aload_n 0, 1) := by decide +kernel
theorem dX12_readUses_53 : decode cX12_readUses 53 = .ok (.bipush 44, 2) := by decide +kernel
theorem dX12_readUses_55 : decode cX12_readUses 55 = .ok (.invokevirtual 98, 3) := by decide +kernel
theorem dX12_readUses_58 : decode cX12_readUses 58 = .ok (.ifCond .eq 7, 3) := by decide +kernel
theorem dX12_readUses_61 : decode cX12_readUses 61 = .ok (.iconst 1, 1) := by decide +kernel
theorem dX12_readUses_62 : decode cX12_readUses 62 = .ok (.goto 4, 3) := by decide +kernel
theorem dX12_readUses_65 : decode cX12_readUses 65 = .ok (.iconst 0, 1) := by decide +kernel
theorem dX12_readUses_66 : decode cX12_readUses 66 = .ok (.istore_n 3, 1) := by decide +kernel
theorem dX12_readUses_67 : decode cX12_readUses 67 = .ok (.iload_n 3, 1) := by decide +kernel
theorem dX12_readUses_68 : decode cX12_readUses 68 = .ok (.ifCond .eq 7, 3) := by decide +kernel
theorem dX12_readUses_71 : decode cX12_readUses 71 = .ok (.aload_n 0, 1) := by decide +kernel
theorem dX12_readUses_72 : decode cX12_readUses 72 = .ok (.invokevirtual 105, 3) := by decide +kernel
theorem dX12_readUses_75 : decode cX12_readUses 75 = .ok (.goto (-71), 3) := by decide +kernel
theorem dX12_readUses_78 : decode cX12_readUses 78 = .ok (.aload_n 0, 1) := by decide +kernel
theorem dX12_readUses_79 : decode cX12_readUses 79 = .ok (.invokevirtual 115, 3) := by decide +kernel
theorem dX12_readUses_82 : decode cX12_readUses 82 = .ok (.ifCond .eq 9, 3) := by decide +kernel
theorem dX12_readUses_85 : decode cX12_readUses 85 = .ok (.aload_n 0, 1) := by decide +kernel
theorem dX12_readUses_86 : decode cX12_readUses 86 = .ok (.bipush 59, 2) := by decide +kernel
theorem dX12_readUses_88 : decode cX12_readUses 88 = .ok (.invokevirtual 429, 3) := by decide +kernel
theorem dX12_readUses_91 : decode cX12_readUses 91 = .ok (.iload_n 2, 1) := by decide +kernel
theorem dX12_readUses_92 : decode cX12_readUses 92 = .ok (.ireturn, 1) := by decide +kernel
theorem dX12_readGroup_0 : decode cX12_readGroup 0 = .ok (.aload_n 0, 1) := by decide +kernel
theorem dX12_readGroup_1 : decode cX12_readGroup 1 = .ok (.getfield 439, 3) := by decide +kernel
theorem dX12_readGroup_4 : decode cX12_readGroup 4 = .ok (.iconst 1, 1) := by decide +kernel
theorem dX12_readGroup_5 : decode cX12_readGroup 5 = .ok (.iadd, 1) := by decide +kernel
theorem dX12_readGroup_6 : decode cX12_readGroup 6 = .ok (.istore_n 1, 1) := by decide +kernel
theorem dX12_readGroup_7 : decode cX12_readGroup 7 = .ok (.aload_n 0, 1) := by decide +kernel
theorem dX12_readGroup_8 : decode cX12_readGroup 8 = .ok (.iconst 1, 1) := by decide +kernel
theorem dX12_readGroup_9 : decode cX12_readGroup 9 = .ok (.iload_n 1, 1) := by decide +kernel
theorem dX12_readGroup_10 : decode cX12_readGroup 10 = .ok (.invokevirtual 442, 3) := by decide +kernel
theorem dX12_readGroup_13 : decode cX12_readGroup 13 = .ok (.aload_n 0, 1) := by decide +kernel
theorem dX12_readGroup_14 : decode cX12_readGroup 14 = .ok (.invokevirtual 115, 3) := by decide +kernel
theorem dX12_readGroup_17 : decode cX12_readGroup 17 = .ok (.ifCond .ne 4, 3) := by decide +kernel
theorem dX12_readGroup_20 : decode cX12_readGroup 20 = .ok (.return_, 1) := by decide +kernel
theorem dX12_readGroup_21 : decode cX12_readGroup 21 = .ok (.aload_n 0, 1) := by decide +kernel
theorem dX12_readGroup_22 : decode cX12_readGroup 22 = .ok (.dup, 1) := by decide +kernel
theorem dX12_readGroup_23 : decode cX12_readGroup 23 = .ok (.getfield 439, 3) := by decide +kernel
theorem dX12_readGroup_26 : decode cX12_readGroup 26 = .ok (.iconst 1, 1) := by decide +kernel
theorem dX12_readGroup_27 : decode cX12_readGroup 27 = .ok (.iadd, 1) := by decide +kernel
theorem dX12_readGroup_28 : decode cX12_readGroup 28 = .ok (.putfield 439, 3) := by decide +kernel
theorem dX12_readGroup_31 : decode cX12_readGroup 31 = .ok (.aload_n 0, 1) := by decide +kernel
theorem dX12_readGroup_32 : decode cX12_readGroup 32 = .ok (.getfield 163, 3) := by decide +kernel
theorem dX12_readGroup_35 : decode cX12_readGroup 35 = .ok (.bipush 9, 2) := by decide +kernel
theorem dX12_readGroup_37 : decode cX12_readGroup 37 = .ok (.aload_n 0, 1) := by decide +kernel
theorem dX12_readGroup_38 : decode cX12_readGroup 38 = .ok (.getfield 11, 3) := by decide +kernel
theorem dX12_readGroup_41 : decode cX12_readGroup 41 = .ok (.imul, 1) := by decide +kernel
theorem dX12_readGroup_42 : decode cX12_readGroup 42 = .ok (.iload_n 1, 1) := by decide +kernel
theorem dX12_readGroup_43 : decode cX12_readGroup 43 = .ok (.iadd, 1) := by decide +kernel
theorem dX12_readGroup_44 : decode cX12_readGroup 44 = .ok (.iconst 1, 1) := by decide +kernel
theorem dX12_readGroup_45 : decode cX12_readGroup 45 = .ok (.iload_n 1, 1) := by decide +kernel
theorem dX12_readGroup_46 : decode cX12_readGroup 46 = .ok (.ishl, 1) := by decide +kernel
theorem dX12_readGroup_47 : decode cX12_readGroup 47 = .ok (.iastore, 1) := by decide +kernel
theorem dX12_readGroup_48 : decode cX12_readGroup 48 = .ok (.aload_n 0, 1) := by decide +kernel
theorem dX12_readGroup_49 : decode cX12_readGroup 49 = .ok (.bipush 58, 2) := by decide +kernel
theorem dX12_readGroup_51 : decode cX12_readGroup 51 = .ok (.invokevirtual 98, 3) := by decide +kernel
theorem dX12_readGroup_54 : decode cX12_readGroup 54 = .ok (.ifCond .eq 91, 3) := by decide +kernel
theorem dX12_readGroup_57 : decode cX12_readGroup 57 = .ok (.iconst 0, 1) := by decide +kernel
theorem dX12_readGroup_58 : decode cX12_readGroup 58 = .ok (.istore_n 2, 1) := by decide +kernel
theorem dX12_readGroup_59 : decode cX12_readGroup 59 = .ok (.iconst 1, 1) := by decide +kernel
theorem dX12_readGroup_60 : decode cX12_readGroup 60 = .ok (.istore_n 3, 1) := by decide +kernel
theorem dX12_readGroup_61 : decode cX12_readGroup 61 = .ok (.iload_n 3, 1) := by decide +kernel
theorem dX12_readGroup_62 : decode cX12_readGroup 62 = .ok (.ifCond .eq 83, 3) := by decide +kernel
theorem dX12_readGroup_65 : decode cX12_readGroup 65 = .ok (.aload_n 0, 1) := by decide +kernel
theorem dX12_readGroup_66 : decode cX12_readGroup 66 = .ok (.invokevirtual 115, 3) := by decide +kernel
theorem dX12_readGroup_69 : decode cX12_readGroup 69 = .ok (.ifCond .eq 76, 3) := by decide +kernel
theorem dX12_readGroup_72 : decode cX12_readGroup 72 = .ok (.aload_n 0, 1) := by decide +kernel
theorem dX12_readGroup_73 : decode cX12_readGroup 73 = .ok (.invokevirtual 105, 3) := by decide +kernel
theorem dX12_readGroup_76 : decode cX12_readGroup 76 = .ok (.iload_n 2, 1) := by decide +kernel
theorem dX12_readGroup_77 : decode cX12_readGroup 77 = .ok (.bipush 8, 2) := by decide +kernel
theorem dX12_readGroup_79 : decode cX12_readGroup 79 = .ok (.if_icmp .ne 15, 3) := by decide +kernel
theorem dX12_readGroup_82 : decode cX12_readGroup 82 = .ok (.aload_n 0, 1) := by decide +kernel
theorem dX12_readGroup_83 : decode cX12_readGroup 83 = .ok (.getfield 66, 3) := by decide +kernel
theorem dX12_readGroup_86 : decode cX12_readGroup 86 = .ok (.iconst 2, 1) := by decide +kernel
theorem dX12_readGroup_87 : decode cX12_readGroup 87 = .ok (.if_icmp .ne 7, 3) := by decide +kernel
theorem dX12_readGroup_90 : decode cX12_readGroup 90 = .ok (.aload_n 0, 1) := by decide +kernel
theorem dX12_readGroup_91 : decode cX12_readGroup 91 = .ok (.invokevirtual 432, 3) := by decide +kernel
theorem dX12_readGroup_94 : decode cX12_readGroup 94 = .ok (.aload_n 0, 1) := by decide +kernel
theorem dX12_readGroup_95 : decode cX12_readGroup 95 = .ok (.invokevirtual 115, 3) := by decide +kernel
theorem dX12_readGroup_98 : decode cX12_readGroup 98 = .ok (.ifCond .eq 19, 3) := by decide +kernel
theorem dX12_readGroup_101 : decode cX12_readGroup 101 = .ok (.aload_n 0, 1) := by decide +kernel
theorem dX12_readGroup_102 : decode cX12_readGroup 102 = .ok (.iconst 1, 1) := by decide +kernel
theorem dX12_readGroup_103 : decode cX12_readGroup 103 = .ok (.iload_n 1, 1) := by decide +kernel
theorem dX12_readGroup_104 : decode cX12_readGroup 104 = .ok (.iconst 0, 1) := by decide +kernel
theorem dX12_readGroup_105 : decode cX12_readGroup 105 = .ok (.bipush 9, 2) := by decide +kernel
theorem dX12_readGroup_107 : decode cX12_readGroup 107 = .ok (.aload_n 0, 1) := by decide +kernel
theorem dX12_readGroup_108 : decode cX12_readGroup 108 = .ok (.getfield 11, 3) := by decide +kernel
theorem dX12_readGroup_111 : decode cX12_readGroup 111 = .ok (.imul, 1) := by decide +kernel
theorem dX12_readGroup_112 : decode cX12_readGroup 112 = .ok (.iload_n 1, 1) := by decide +kernel
theorem dX12_readGroup_113 : decode cX12_readGroup 113 = .ok (.iadd, 1) := by decide +kernel
theorem dX12_readGroup_114 : decode cX12_readGroup 114 = .ok (.invokevirtual 421, 3) := by decide +kernel
theorem dX12_readGroup_117 : decode cX12_readGroup 117 = .ok (.iinc 2 1, 3) := by decide +kernel
theorem dX12_readGroup_120 : decode cX12_readGroup 120 = .ok (.aload_n 0, 1) := by decide +kernel
theorem dX12_readGroup_121 : decode cX12_readGroup 121 = .ok (.invokevirtual 115, 3) := by decide +kernel
theorem dX12_readGroup_124 : decode cX12_readGroup 124 = .ok (.ifCond .eq 16, 3) := by decide +kernel
theorem dX12_readGroup_127 : decode cX12_readGroup 127 = .ok (.aload_n 0, 1) := by decide +kernel
theorem dX12_readGroup_128 : decode cX12_readGroup 128 = .ok (.bipush 44, 2) := by decide +kernel
theorem dX12_readGroup_130 : decode cX12_readGroup 130 = .ok (.invokevirtual 98, 3) := by decide +kernel
theorem dX12_readGroup_133 : decode cX12_readGroup 133 = .ok (.ifCond .eq 7, 3) := by decide +kernel
theorem dX12_readGroup_136 : decode cX12_readGroup 136 = .ok (.iconst 1, 1) := by decide +kernel
theorem dX12_readGroup_137 : decode cX12_readGroup 137 = .ok (.goto 4, 3) := by decide +kernel
theorem dX12_readGroup_140 : decode cX12_readGroup 140 = .ok (.iconst 0, 1) := by decide +kernel
theorem dX12_readGroup_141 : decode cX12_readGroup 141 = .ok (.istore_n 3, 1) := by decide +kernel
theorem dX12_readGroup_142 : decode cX12_readGroup 142 = .ok (.goto (-81), 3) := by decide +kernel
theorem dX12_readGroup_145 : decode cX12_readGroup 145 = .ok (.aload_n 0, 1) := by decide +kernel
theorem dX12_readGroup_146 : decode cX12_readGroup 146 = .ok (.invokevirtual 115, 3) := by decide +kernel
theorem dX12_readGroup_149 : decode cX12_readGroup 149 = .ok (.ifCond .eq 9, 3) := by decide +kernel
theorem dX12_readGroup_152 : decode cX12_readGroup 152 = .ok (.aload_n 0, 1) := by decide +kernel
theorem dX12_readGroup_153 : decode cX12_readGroup 153 = .ok (.bipush 59, 2) := by decide +kernel
theorem dX12_readGroup_155 : decode cX12_readGroup 155 = .ok (.invokevirtual 429, 3) := by decide +kernel
theorem dX12_readGroup_158 : decode cX12_readGroup 158 = .ok (.return_, 1) := by decide +kernel
theorem dX12_readChain_0 : decode cX12_readChain 0 = .ok (.aload_n 0, 1) := by decide +kernel
theorem dX12_readChain_1 : decode cX12_readChain 1 = .ok (.getfield 446, 3) := by decide +kernel
theorem dX12_readChain_4 : decode cX12_readChain 4 = .ok (.istore_n 1, 1) := by decide +kernel
theorem dX12_readChain_5 : decode cX12_readChain 5 = .ok (.aload_n 0, 1) := by decide +kernel
theorem dX12_readChain_6 : decode cX12_readChain 6 = .ok (.iconst 2, 1) := by decide +kernel
theorem dX12_readChain_7 : decode cX12_readChain 7 = .ok (.iload_n 1, 1) := by decide +kernel
theorem dX12_readChain_8 : decode cX12_readChain 8 = .ok (.invokevirtual 442, 3) := by decide +kernel
theorem dX12_readChain_11 : decode cX12_readChain 11 = .ok (.aload_n 0, 1) := by decide +kernel
theorem dX12_readChain_12 : decode cX12_readChain 12 = .ok (.invokevirtual 115, 3) := by decide +kernel
theorem dX12_readChain_15 : decode cX12_readChain 15 = .ok (.ifCond .ne 4, 3) := by decide +kernel
theorem dX12_readChain_18 : decode cX12_readChain 18 = .ok (.return_, 1) := by decide +kernel
theorem dX12_readChain_19 : decode cX12_readChain 19 = .ok (.aload_n 0, 1) := by decide +kernel
theorem dX12_readChain_20 : decode cX12_readChain 20 = .ok (.dup, 1) := by decide +kernel
theorem dX12_readChain_21 : decode cX12_readChain 21 = .ok (.getfield 446, 3) := by decide +kernel
theorem dX12_readChain_24 : decode cX12_readChain 24 = .ok (.iconst 1, 1) := by decide +kernel
theorem dX12_readChain_25 : decode cX12_readChain 25 = .ok (.iadd, 1) := by decide +kernel
theorem dX12_readChain_26 : decode cX12_readChain 26 = .ok (.putfield 446, 3) := by decide +kernel
theorem dX12_readChain_29 : decode cX12_readChain 29 = .ok (.aload_n 0, 1) := by decide +kernel
theorem dX12_readChain_30 : decode cX12_readChain 30 = .ok (.getfield 169, 3) := by decide +kernel
theorem dX12_readChain_33 : decode cX12_readChain 33 = .ok (.bipush 6, 2) := by decide +kernel
theorem dX12_readChain_35 : decode cX12_readChain 35 = .ok (.aload_n 0, 1) := by decide +kernel
theorem dX12_readChain_36 : decode cX12_readChain 36 = .ok (.getfield 11, 3) := by decide +kernel
theorem dX12_readChain_39 : decode cX12_readChain 39 = .ok (.imul, 1) := by decide +kernel
theorem dX12_readChain_40 : decode cX12_readChain 40 = .ok (.iload_n 1, 1) := by decide +kernel
theorem dX12_readChain_41 : decode cX12_readChain 41 = .ok (.iadd, 1) := by decide +kernel
theorem dX12_readChain_42 : decode cX12_readChain 42 = .ok (.iconst 0, 1) := by decide +kernel
theorem dX12_readChain_43 : decode cX12_readChain 43 = .ok (.iastore, 1) := by decide +kernel
theorem dX12_readChain_44 : decode cX12_readChain 44 = .ok (.aload_n 0, 1) := by decide +kernel
theorem dX12_readChain_45 : decode cX12_readChain 45 = .ok (.bipush 58, 2) := by decide +kernel
theorem dX12_readChain_47 : decode cX12_readChain 47 = .ok (.invokevirtual 98, 3) := by decide +kernel
theorem dX12_readChain_50 : decode cX12_readChain 50 = .ok (.ifCond .ne 7, 3) := by decide +kernel
theorem dX12_readChain_53 : decode cX12_readChain 53 = .ok (.aload_n 0, 1) := by decide +kernel
theorem dX12_readChain_54 : decode cX12_readChain 54 = .ok (.invokevirtual 101, 3) := by decide +kernel
theorem dX12_readChain_57 : decode cX12_readChain 57 = .ok (.iconst 1, 1) := by decide +kernel
theorem dX12_readChain_58 : decode cX12_readChain 58 = .ok (.istore_n 2, 1) := by decide +kernel
theorem dX12_readChain_59 : decode cX12_readChain 59 = .ok (.iload_n 2, 1) := by decide +kernel
theorem dX12_readChain_60 : decode cX12_readChain 60 = .ok (.ifCond .eq 107, 3) := by decide +kernel
theorem dX12_readChain_63 : decode cX12_readChain 63 = .ok (.aload_n 0, 1) := by decide +kernel
theorem dX12_readChain_64 : decode cX12_readChain 64 = .ok (.invokevirtual 115, 3) := by decide +kernel
theorem dX12_readChain_67 : decode cX12_readChain 67 = .ok (.ifCond .eq 100, 3) := by decide +kernel
theorem dX12_readChain_70 : decode cX12_readChain 70 = .ok (.aload_n 0, 1) := by decide +kernel
theorem dX12_readChain_71 : decode cX12_readChain 71 = .ok (.invokevirtual 105, 3) := by decide +kernel
theorem dX12_readChain_74 : decode cX12_readChain 74 = .ok (.bipush 6, 2) := by decide +kernel
theorem dX12_readChain_76 : decode cX12_readChain 76 = .ok (.aload_n 0, 1) := by decide +kernel
theorem dX12_readChain_77 : decode cX12_readChain 77 = .ok (.getfield 11, 3) := by decide +kernel
theorem dX12_readChain_80 : decode cX12_readChain 80 = .ok (.imul, 1) := by decide +kernel
theorem dX12_readChain_81 : decode cX12_readChain 81 = .ok (.iload_n 1, 1) := by decide +kernel
theorem dX12_readChain_82 : decode cX12_readChain 82 = .ok (.iadd, 1) := by decide +kernel
theorem dX12_readChain_83 : decode cX12_readChain 83 = .ok (.istore_n 3, 1) := by decide +kernel
theorem dX12_readChain_84 : decode cX12_readChain 84 = .ok (.aload_n 0, 1) := by decide +kernel
theorem dX12_readChain_85 : decode cX12_readChain 85 = .ok (.getfield 169, 3) := by decide +kernel
theorem dX12_readChain_88 : decode cX12_readChain 88 = .ok (.iload_n 3, 1) := by decide +kernel
theorem dX12_readChain_89 : decode cX12_readChain 89 = .ok (.iaload, 1) := by decide +kernel
theorem dX12_readChain_90 : decode cX12_readChain 90 = .ok (.bipush 8, 2) := by decide +kernel
theorem dX12_readChain_92 : decode cX12_readChain 92 = .ok (.if_icmp .ne 15, 3) := by decide +kernel
theorem dX12_readChain_95 : decode cX12_readChain 95 = .ok (.aload_n 0, 1) := by decide +kernel
theorem dX12_readChain_96 : decode cX12_readChain 96 = .ok (.getfield 66, 3) := by decide +kernel
theorem dX12_readChain_99 : decode cX12_readChain 99 = .ok (.iconst 2, 1) := by decide +kernel
theorem dX12_readChain_100 : decode cX12_readChain 100 = .ok (.if_icmp .ne 7, 3) := by decide +kernel
theorem dX12_readChain_103 : decode cX12_readChain 103 = .ok (.aload_n 0, 1) := by decide +kernel
theorem dX12_readChain_104 : decode cX12_readChain 104 = .ok (.invokevirtual 432, 3) := by decide +kernel
theorem dX12_readChain_107 : decode cX12_readChain 107 = .ok (.aload_n 0, 1) := by decide +kernel
theorem dX12_readChain_108 : decode cX12_readChain 108 = .ok (.invokevirtual 115, 3) := by decide +kernel
theorem dX12_readChain_111 : decode cX12_readChain 111 = .ok (.ifCond .eq 21, 3) := by decide +kernel
theorem dX12_readChain_114 : decode cX12_readChain 114 = .ok (.aload_n 0, 1) := by decide +kernel
theorem dX12_readChain_115 : decode cX12_readChain 115 = .ok (.iconst 1, 1) := by decide +kernel
theorem dX12_readChain_116 : decode cX12_readChain 116 = .ok (.iconst (-1), 1) := by decide +kernel
theorem dX12_readChain_117 : decode cX12_readChain 117 = .ok (.iconst 1, 1) := by decide +kernel
theorem dX12_readChain_118 : decode cX12_readChain 118 = .ok (.bipush 8, 2) := by decide +kernel
theorem dX12_readChain_120 : decode cX12_readChain 120 = .ok (.iload_n 3, 1) := by decide +kernel
theorem dX12_readChain_121 : decode cX12_readChain 121 = .ok (.imul, 1) := by decide +kernel
theorem dX12_readChain_122 : decode cX12_readChain 122 = .ok (.aload_n 0, 1) := by decide +kernel
theorem dX12_readChain_123 : decode cX12_readChain 123 = .ok (.getfield 169, 3) := by decide +kernel
theorem dX12_readChain_126 : decode cX12_readChain 126 = .ok (.iload_n 3, 1) := by decide +kernel
theorem dX12_readChain_127 : decode cX12_readChain 127 = .ok (.iaload, 1) := by decide +kernel
theorem dX12_readChain_128 : decode cX12_readChain 128 = .ok (.iadd, 1) := by decide +kernel
theorem dX12_readChain_129 : decode cX12_readChain 129 = .ok (.invokevirtual 421, 3) := by decide +kernel
theorem dX12_readChain_132 : decode cX12_readChain 132 = .ok (.aload_n 0, 1) := by decide +kernel
theorem dX12_readChain_133 : decode cX12_readChain 133 = .ok (.getfield 169, 3) := by decide +kernel
theorem dX12_readChain_136 : decode cX12_readChain 136 = .ok (.iload_n 3, 1) := by decide +kernel
theorem dX12_readChain_137 : decode cX12_readChain 137 = .ok (.dup2, 1) := by decide +kernel
theorem dX12_readChain_138 : decode cX12_readChain 138 = .ok (.iaload, 1) := by decide +kernel
theorem dX12_readChain_139 : decode cX12_readChain 139 = .ok (.iconst 1, 1) := by decide +kernel
theorem dX12_readChain_140 : decode cX12_readChain 140 = .ok (.iadd, 1) := by decide +kernel
theorem dX12_readChain_141 : decode cX12_readChain 141 = .ok (.iastore, 1) := by decide +kernel
theorem dX12_readChain_142 : decode cX12_readChain 142 = .ok (.aload_n 0, 1) := by decide +kernel
theorem dX12_readChain_143 : decode cX12_readChain 143 = .ok (.invokevirtual 115, 3) := by decide +kernel
theorem dX12_readChain_146 : decode cX12_readChain 146 = .ok (.ifCond .eq 16, 3) := by decide +kernel
theorem dX12_readChain_149 : decode cX12_readChain 149 = .ok (.aload_n 0, 1) := by decide +kernel
theorem dX12_readChain_150 : decode cX12_readChain 150 = .ok (.bipush 44, 2) := by decide +kernel
theorem dX12_readChain_152 : decode cX12_readChain 152 = .ok (.invokevirtual 98, 3) := by decide +kernel
theorem dX12_readChain_155 : decode cX12_readChain 155 = .ok (.ifCond .eq 7, 3) := by decide +kernel
theorem dX12_readChain_158 : decode cX12_readChain 158 = .ok (.iconst 1, 1) := by decide +kernel
theorem dX12_readChain_159 : decode cX12_readChain 159 = .ok (.goto 4, 3) := by decide +kernel
theorem dX12_readChain_162 : decode cX12_readChain 162 = .ok (.iconst 0, 1) := by decide +kernel
theorem dX12_readChain_163 : decode cX12_readChain 163 = .ok (.istore_n 2, 1) := by decide +kernel
theorem dX12_readChain_164 : decode cX12_readChain 164 = .ok (.goto (-105), 3) := by decide +kernel
theorem dX12_readChain_167 : decode cX12_readChain 167 = .ok (.aload_n 0, 1) := by decide +kernel
theorem dX12_readChain_168 : decode cX12_readChain 168 = .ok (.invokevirtual 115, 3) := by decide +kernel
theorem dX12_readChain_171 : decode cX12_readChain 171 = .ok (.ifCond .eq 9, 3) := by decide +kernel
theorem dX12_readChain_174 : decode cX12_readChain 174 = .ok (.aload_n 0, 1) := by decide +kernel
theorem dX12_readChain_175 : decode cX12_readChain 175 = .ok (.bipush 59, 2) := by decide +kernel
theorem dX12_readChain_177 : decode cX12_readChain 177 = .ok (.invokevirtual 429, 3) := by decide +kernel
theorem dX12_readChain_180 : decode cX12_readChain 180 = .ok (.return_, 1) := by decide +kernel
