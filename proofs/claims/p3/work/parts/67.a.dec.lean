theorem dX11_init_0 : decode cX11_init 0 = .ok (.aload_n 0, 1) := by decide +kernel
theorem dX11_init_1 : decode cX11_init 1 = .ok (.invokespecial 3, 3) := by decide +kernel
theorem dX11_init_4 : decode cX11_init 4 = .ok (.aload_n 0, 1) := by decide +kernel
theorem dX11_init_5 : decode cX11_init 5 = .ok (.sipush 3000, 3) := by decide +kernel
theorem dX11_init_8 : decode cX11_init 8 = .ok (.newarray .byte, 2) := by decide +kernel
theorem dX11_init_10 : decode cX11_init 10 = .ok (.putfield 9, 3) := by decide +kernel
theorem dX11_init_13 : decode cX11_init 13 = .ok (.aload_n 0, 1) := by decide +kernel
theorem dX11_init_14 : decode cX11_init 14 = .ok (.new 13, 3) := by decide +kernel
theorem dX11_init_17 : decode cX11_init 17 = .ok (.dup, 1) := by decide +kernel
theorem dX11_init_18 : decode cX11_init 18 = .ok (.invokespecial 15, 3) := by decide +kernel
theorem dX11_init_21 : decode cX11_init 21 = .ok (.putfield 16, 3) := by decide +kernel
theorem dX11_init_24 : decode cX11_init 24 = .ok (.aload_n 0, 1) := by decide +kernel
theorem dX11_init_25 : decode cX11_init 25 = .ok (.new 20, 3) := by decide +kernel
theorem dX11_init_28 : decode cX11_init 28 = .ok (.dup, 1) := by decide +kernel
theorem dX11_init_29 : decode cX11_init 29 = .ok (.invokespecial 22, 3) := by decide +kernel
theorem dX11_init_32 : decode cX11_init 32 = .ok (.putfield 23, 3) := by decide +kernel
theorem dX11_init_35 : decode cX11_init 35 = .ok (.aload_n 0, 1) := by decide +kernel
theorem dX11_init_36 : decode cX11_init 36 = .ok (.new 27, 3) := by decide +kernel
theorem dX11_init_39 : decode cX11_init 39 = .ok (.dup, 1) := by decide +kernel
theorem dX11_init_40 : decode cX11_init 40 = .ok (.invokespecial 29, 3) := by decide +kernel
theorem dX11_init_43 : decode cX11_init 43 = .ok (.putfield 30, 3) := by decide +kernel
theorem dX11_init_46 : decode cX11_init 46 = .ok (.aload_n 0, 1) := by decide +kernel
theorem dX11_init_47 : decode cX11_init 47 = .ok (.new 34, 3) := by decide +kernel
theorem dX11_init_50 : decode cX11_init 50 = .ok (.dup, 1) := by decide +kernel
theorem dX11_init_51 : decode cX11_init 51 = .ok (.aload_n 0, 1) := by decide +kernel
theorem dX11_init_52 : decode cX11_init 52 = .ok (.getfield 30, 3) := by decide +kernel
theorem dX11_init_55 : decode cX11_init 55 = .ok (.invokespecial 36, 3) := by decide +kernel
theorem dX11_init_58 : decode cX11_init 58 = .ok (.putfield 39, 3) := by decide +kernel
theorem dX11_init_61 : decode cX11_init 61 = .ok (.aload_n 0, 1) := by decide +kernel
theorem dX11_init_62 : decode cX11_init 62 = .ok (.new 43, 3) := by decide +kernel
theorem dX11_init_65 : decode cX11_init 65 = .ok (.dup, 1) := by decide +kernel
theorem dX11_init_66 : decode cX11_init 66 = .ok (.invokespecial 45, 3) := by decide +kernel
theorem dX11_init_69 : decode cX11_init 69 = .ok (.putfield 46, 3) := by decide +kernel
theorem dX11_init_72 : decode cX11_init 72 = .ok (.aload_n 0, 1) := by decide +kernel
theorem dX11_init_73 : decode cX11_init 73 = .ok (.new 50, 3) := by decide +kernel
theorem dX11_init_76 : decode cX11_init 76 = .ok (.dup, 1) := by decide +kernel
theorem dX11_init_77 : decode cX11_init 77 = .ok (.invokespecial 52, 3) := by decide +kernel
theorem dX11_init_80 : decode cX11_init 80 = .ok (.putfield 53, 3) := by decide +kernel
theorem dX11_init_83 : decode cX11_init 83 = .ok (.aload_n 0, 1) := by decide +kernel
theorem dX11_init_84 : decode cX11_init 84 = .ok (.getfield 39, 3) := by decide +kernel
theorem dX11_init_87 : decode cX11_init 87 = .ok (.aload_n 0, 1) := by decide +kernel
theorem dX11_init_88 : decode cX11_init 88 = .ok (.getfield 53, 3) := by decide +kernel
theorem dX11_init_91 : decode cX11_init 91 = .ok (.invokevirtual 57, 3) := by decide +kernel
theorem dX11_init_94 : decode cX11_init 94 = .ok (.aload_n 0, 1) := by decide +kernel
theorem dX11_init_95 : decode cX11_init 95 = .ok (.iconst (-1), 1) := by decide +kernel
theorem dX11_init_96 : decode cX11_init 96 = .ok (.putfield 61, 3) := by decide +kernel
theorem dX11_init_99 : decode cX11_init 99 = .ok (.return_, 1) := by decide +kernel
theorem dX9_init_0 : decode cX9_init 0 = .ok (.aload_n 0, 1) := by decide +kernel
theorem dX9_init_1 : decode cX9_init 1 = .ok (.invokespecial 3, 3) := by decide +kernel
theorem dX9_init_4 : decode cX9_init 4 = .ok (.aload_n 0, 1) := by decide +kernel
theorem dX9_init_5 : decode cX9_init 5 = .ok (.sipush 3001, 3) := by decide +kernel
theorem dX9_init_8 : decode cX9_init 8 = .ok (.newarray .int, 2) := by decide +kernel
theorem dX9_init_10 : decode cX9_init 10 = .ok (.putfield 9, 3) := by decide +kernel
theorem dX9_init_13 : decode cX9_init 13 = .ok (.aload_n 0, 1) := by decide +kernel
theorem dX9_init_14 : decode cX9_init 14 = .ok (.sipush 3001, 3) := by decide +kernel
theorem dX9_init_17 : decode cX9_init 17 = .ok (.newarray .int, 2) := by decide +kernel
theorem dX9_init_19 : decode cX9_init 19 = .ok (.putfield 15, 3) := by decide +kernel
theorem dX9_init_22 : decode cX9_init 22 = .ok (.aload_n 0, 1) := by decide +kernel
theorem dX9_init_23 : decode cX9_init 23 = .ok (.sipush 3001, 3) := by decide +kernel
theorem dX9_init_26 : decode cX9_init 26 = .ok (.newarray .long, 2) := by decide +kernel
theorem dX9_init_28 : decode cX9_init 28 = .ok (.putfield 18, 3) := by decide +kernel
theorem dX9_init_31 : decode cX9_init 31 = .ok (.return_, 1) := by decide +kernel
theorem dX4_init_0 : decode cX4_init 0 = .ok (.aload_n 0, 1) := by decide +kernel
theorem dX4_init_1 : decode cX4_init 1 = .ok (.invokespecial 3, 3) := by decide +kernel
theorem dX4_init_4 : decode cX4_init 4 = .ok (.aload_n 0, 1) := by decide +kernel
theorem dX4_init_5 : decode cX4_init 5 = .ok (.sipush 200, 3) := by decide +kernel
theorem dX4_init_8 : decode cX4_init 8 = .ok (.iconst 4, 1) := by decide +kernel
theorem dX4_init_9 : decode cX4_init 9 = .ok (.multianewarray 9 2, 4) := by decide +kernel
theorem dX4_init_13 : decode cX4_init 13 = .ok (.putfield 11, 3) := by decide +kernel
theorem dX4_init_16 : decode cX4_init 16 = .ok (.aload_n 0, 1) := by decide +kernel
theorem dX4_init_17 : decode cX4_init 17 = .ok (.bipush 16, 2) := by decide +kernel
theorem dX4_init_19 : decode cX4_init 19 = .ok (.newarray .int, 2) := by decide +kernel
theorem dX4_init_21 : decode cX4_init 21 = .ok (.putfield 16, 3) := by decide +kernel
theorem dX4_init_24 : decode cX4_init 24 = .ok (.aload_n 0, 1) := by decide +kernel
theorem dX4_init_25 : decode cX4_init 25 = .ok (.bipush 18, 2) := by decide +kernel
theorem dX4_init_27 : decode cX4_init 27 = .ok (.bipush 6, 2) := by decide +kernel
theorem dX4_init_29 : decode cX4_init 29 = .ok (.multianewarray 9 2, 4) := by decide +kernel
theorem dX4_init_33 : decode cX4_init 33 = .ok (.putfield 20, 3) := by decide +kernel
theorem dX4_init_36 : decode cX4_init 36 = .ok (.return_, 1) := by decide +kernel
theorem dX1_init_0 : decode cX1_init 0 = .ok (.aload_n 0, 1) := by decide +kernel
theorem dX1_init_1 : decode cX1_init 1 = .ok (.invokespecial 3, 3) := by decide +kernel
theorem dX1_init_4 : decode cX1_init 4 = .ok (.aload_n 0, 1) := by decide +kernel
theorem dX1_init_5 : decode cX1_init 5 = .ok (.aload_n 1, 1) := by decide +kernel
theorem dX1_init_6 : decode cX1_init 6 = .ok (.putfield 9, 3) := by decide +kernel
theorem dX1_init_9 : decode cX1_init 9 = .ok (.aload_n 0, 1) := by decide +kernel
theorem dX1_init_10 : decode cX1_init 10 = .ok (.new 15, 3) := by decide +kernel
theorem dX1_init_13 : decode cX1_init 13 = .ok (.dup, 1) := by decide +kernel
theorem dX1_init_14 : decode cX1_init 14 = .ok (.invokespecial 17, 3) := by decide +kernel
theorem dX1_init_17 : decode cX1_init 17 = .ok (.putfield 18, 3) := by decide +kernel
theorem dX1_init_20 : decode cX1_init 20 = .ok (.aload_n 0, 1) := by decide +kernel
theorem dX1_init_21 : decode cX1_init 21 = .ok (.bipush 60, 2) := by decide +kernel
theorem dX1_init_23 : decode cX1_init 23 = .ok (.newarray .int, 2) := by decide +kernel
theorem dX1_init_25 : decode cX1_init 25 = .ok (.putfield 21, 3) := by decide +kernel
theorem dX1_init_28 : decode cX1_init 28 = .ok (.aload_n 0, 1) := by decide +kernel
theorem dX1_init_29 : decode cX1_init 29 = .ok (.sipush 1600, 3) := by decide +kernel
theorem dX1_init_32 : decode cX1_init 32 = .ok (.newarray .int, 2) := by decide +kernel
theorem dX1_init_34 : decode cX1_init 34 = .ok (.putfield 25, 3) := by decide +kernel
theorem dX1_init_37 : decode cX1_init 37 = .ok (.aload_n 0, 1) := by decide +kernel
theorem dX1_init_38 : decode cX1_init 38 = .ok (.sipush 1600, 3) := by decide +kernel
theorem dX1_init_41 : decode cX1_init 41 = .ok (.newarray .int, 2) := by decide +kernel
theorem dX1_init_43 : decode cX1_init 43 = .ok (.putfield 28, 3) := by decide +kernel
theorem dX1_init_46 : decode cX1_init 46 = .ok (.aload_n 0, 1) := by decide +kernel
theorem dX1_init_47 : decode cX1_init 47 = .ok (.sipush 1600, 3) := by decide +kernel
theorem dX1_init_50 : decode cX1_init 50 = .ok (.newarray .int, 2) := by decide +kernel
theorem dX1_init_52 : decode cX1_init 52 = .ok (.putfield 31, 3) := by decide +kernel
theorem dX1_init_55 : decode cX1_init 55 = .ok (.aload_n 0, 1) := by decide +kernel
theorem dX1_init_56 : decode cX1_init 56 = .ok (.sipush 1600, 3) := by decide +kernel
theorem dX1_init_59 : decode cX1_init 59 = .ok (.newarray .int, 2) := by decide +kernel
theorem dX1_init_61 : decode cX1_init 61 = .ok (.putfield 34, 3) := by decide +kernel
theorem dX1_init_64 : decode cX1_init 64 = .ok (.aload_n 0, 1) := by decide +kernel
theorem dX1_init_65 : decode cX1_init 65 = .ok (.sipush 1600, 3) := by decide +kernel
theorem dX1_init_68 : decode cX1_init 68 = .ok (.newarray .int, 2) := by decide +kernel
theorem dX1_init_70 : decode cX1_init 70 = .ok (.putfield 37, 3) := by decide +kernel
theorem dX1_init_73 : decode cX1_init 73 = .ok (.aload_n 0, 1) := by decide +kernel
theorem dX1_init_74 : decode cX1_init 74 = .ok (.sipush 1600, 3) := by decide +kernel
theorem dX1_init_77 : decode cX1_init 77 = .ok (.newarray .int, 2) := by decide +kernel
theorem dX1_init_79 : decode cX1_init 79 = .ok (.putfield 40, 3) := by decide +kernel
theorem dX1_init_82 : decode cX1_init 82 = .ok (.return_, 1) := by decide +kernel
theorem dX0_init_0 : decode cX0_init 0 = .ok (.aload_n 0, 1) := by decide +kernel
theorem dX0_init_1 : decode cX0_init 1 = .ok (.invokespecial 3, 3) := by decide +kernel
theorem dX0_init_4 : decode cX0_init 4 = .ok (.aload_n 0, 1) := by decide +kernel
theorem dX0_init_5 : decode cX0_init 5 = .ok (.new 9, 3) := by decide +kernel
theorem dX0_init_8 : decode cX0_init 8 = .ok (.dup, 1) := by decide +kernel
theorem dX0_init_9 : decode cX0_init 9 = .ok (.invokespecial 11, 3) := by decide +kernel
theorem dX0_init_12 : decode cX0_init 12 = .ok (.putfield 12, 3) := by decide +kernel
theorem dX0_init_15 : decode cX0_init 15 = .ok (.aload_n 0, 1) := by decide +kernel
theorem dX0_init_16 : decode cX0_init 16 = .ok (.new 9, 3) := by decide +kernel
theorem dX0_init_19 : decode cX0_init 19 = .ok (.dup, 1) := by decide +kernel
theorem dX0_init_20 : decode cX0_init 20 = .ok (.invokespecial 11, 3) := by decide +kernel
theorem dX0_init_23 : decode cX0_init 23 = .ok (.putfield 18, 3) := by decide +kernel
theorem dX0_init_26 : decode cX0_init 26 = .ok (.aload_n 0, 1) := by decide +kernel
theorem dX0_init_27 : decode cX0_init 27 = .ok (.new 9, 3) := by decide +kernel
theorem dX0_init_30 : decode cX0_init 30 = .ok (.dup, 1) := by decide +kernel
theorem dX0_init_31 : decode cX0_init 31 = .ok (.invokespecial 11, 3) := by decide +kernel
theorem dX0_init_34 : decode cX0_init 34 = .ok (.putfield 21, 3) := by decide +kernel
theorem dX0_init_37 : decode cX0_init 37 = .ok (.aload_n 0, 1) := by decide +kernel
theorem dX0_init_38 : decode cX0_init 38 = .ok (.new 9, 3) := by decide +kernel
theorem dX0_init_41 : decode cX0_init 41 = .ok (.dup, 1) := by decide +kernel
theorem dX0_init_42 : decode cX0_init 42 = .ok (.invokespecial 11, 3) := by decide +kernel
theorem dX0_init_45 : decode cX0_init 45 = .ok (.putfield 24, 3) := by decide +kernel
theorem dX0_init_48 : decode cX0_init 48 = .ok (.aload_n 0, 1) := by decide +kernel
theorem dX0_init_49 : decode cX0_init 49 = .ok (.bipush 6, 2) := by decide +kernel
theorem dX0_init_51 : decode cX0_init 51 = .ok (.anewarray 27, 3) := by decide +kernel
theorem dX0_init_54 : decode cX0_init 54 = .ok (.putfield 29, 3) := by decide +kernel
theorem dX0_init_57 : decode cX0_init 57 = .ok (.aload_n 0, 1) := by decide +kernel
theorem dX0_init_58 : decode cX0_init 58 = .ok (.bipush 8, 2) := by decide +kernel
theorem dX0_init_60 : decode cX0_init 60 = .ok (.newarray .int, 2) := by decide +kernel
theorem dX0_init_62 : decode cX0_init 62 = .ok (.putfield 33, 3) := by decide +kernel
theorem dX0_init_65 : decode cX0_init 65 = .ok (.aload_n 0, 1) := by decide +kernel
theorem dX0_init_66 : decode cX0_init 66 = .ok (.bipush 62, 2) := by decide +kernel
theorem dX0_init_68 : decode cX0_init 68 = .ok (.newarray .long, 2) := by decide +kernel
theorem dX0_init_70 : decode cX0_init 70 = .ok (.putfield 36, 3) := by decide +kernel
theorem dX0_init_73 : decode cX0_init 73 = .ok (.aload_n 0, 1) := by decide +kernel
theorem dX0_init_74 : decode cX0_init 74 = .ok (.bipush 62, 2) := by decide +kernel
theorem dX0_init_76 : decode cX0_init 76 = .ok (.newarray .int, 2) := by decide +kernel
theorem dX0_init_78 : decode cX0_init 78 = .ok (.putfield 40, 3) := by decide +kernel
theorem dX0_init_81 : decode cX0_init 81 = .ok (.aload_n 0, 1) := by decide +kernel
theorem dX0_init_82 : decode cX0_init 82 = .ok (.getfield 33, 3) := by decide +kernel
theorem dX0_init_85 : decode cX0_init 85 = .ok (.iconst 0, 1) := by decide +kernel
theorem dX0_init_86 : decode cX0_init 86 = .ok (.iconst 1, 1) := by decide +kernel
theorem dX0_init_87 : decode cX0_init 87 = .ok (.iastore, 1) := by decide +kernel
theorem dX0_init_88 : decode cX0_init 88 = .ok (.aload_n 0, 1) := by decide +kernel
theorem dX0_init_89 : decode cX0_init 89 = .ok (.iconst 1, 1) := by decide +kernel
theorem dX0_init_90 : decode cX0_init 90 = .ok (.putfield 43, 3) := by decide +kernel
theorem dX0_init_93 : decode cX0_init 93 = .ok (.aload_n 0, 1) := by decide +kernel
theorem dX0_init_94 : decode cX0_init 94 = .ok (.getfield 36, 3) := by decide +kernel
theorem dX0_init_97 : decode cX0_init 97 = .ok (.iconst 0, 1) := by decide +kernel
theorem dX0_init_98 : decode cX0_init 98 = .ok (.ldc2_w 47, 3) := by decide +kernel
theorem dX0_init_101 : decode cX0_init 101 = .ok (.lastore, 1) := by decide +kernel
theorem dX0_init_102 : decode cX0_init 102 = .ok (.aload_n 0, 1) := by decide +kernel
theorem dX0_init_103 : decode cX0_init 103 = .ok (.getfield 40, 3) := by decide +kernel
theorem dX0_init_106 : decode cX0_init 106 = .ok (.iconst 0, 1) := by decide +kernel
theorem dX0_init_107 : decode cX0_init 107 = .ok (.bipush 100, 2) := by decide +kernel
theorem dX0_init_109 : decode cX0_init 109 = .ok (.iastore, 1) := by decide +kernel
theorem dX0_init_110 : decode cX0_init 110 = .ok (.aload_n 0, 1) := by decide +kernel
theorem dX0_init_111 : decode cX0_init 111 = .ok (.iconst 1, 1) := by decide +kernel
theorem dX0_init_112 : decode cX0_init 112 = .ok (.putfield 49, 3) := by decide +kernel
theorem dX0_init_115 : decode cX0_init 115 = .ok (.return_, 1) := by decide +kernel
theorem dX1_forget_0 : decode cX1_forget 0 = .ok (.aload_n 0, 1) := by decide +kernel
theorem dX1_forget_1 : decode cX1_forget 1 = .ok (.invokevirtual 63, 3) := by decide +kernel
theorem dX1_forget_4 : decode cX1_forget 4 = .ok (.aload_n 0, 1) := by decide +kernel
theorem dX1_forget_5 : decode cX1_forget 5 = .ok (.aload_n 1, 1) := by decide +kernel
theorem dX1_forget_6 : decode cX1_forget 6 = .ok (.putfield 66, 3) := by decide +kernel
theorem dX1_forget_9 : decode cX1_forget 9 = .ok (.aload_n 0, 1) := by decide +kernel
theorem dX1_forget_10 : decode cX1_forget 10 = .ok (.iconst (-1), 1) := by decide +kernel
theorem dX1_forget_11 : decode cX1_forget 11 = .ok (.putfield 70, 3) := by decide +kernel
theorem dX1_forget_14 : decode cX1_forget 14 = .ok (.return_, 1) := by decide +kernel
theorem dX1_clear_0 : decode cX1_clear 0 = .ok (.aload_n 0, 1) := by decide +kernel
theorem dX1_clear_1 : decode cX1_clear 1 = .ok (.iconst 0, 1) := by decide +kernel
theorem dX1_clear_2 : decode cX1_clear 2 = .ok (.putfield 43, 3) := by decide +kernel
theorem dX1_clear_5 : decode cX1_clear 5 = .ok (.aload_n 0, 1) := by decide +kernel
theorem dX1_clear_6 : decode cX1_clear 6 = .ok (.iconst 0, 1) := by decide +kernel
theorem dX1_clear_7 : decode cX1_clear 7 = .ok (.putfield 47, 3) := by decide +kernel
theorem dX1_clear_10 : decode cX1_clear 10 = .ok (.aload_n 0, 1) := by decide +kernel
theorem dX1_clear_11 : decode cX1_clear 11 = .ok (.iconst 0, 1) := by decide +kernel
theorem dX1_clear_12 : decode cX1_clear 12 = .ok (.putfield 50, 3) := by decide +kernel
theorem dX1_clear_15 : decode cX1_clear 15 = .ok (.aload_n 0, 1) := by decide +kernel
theorem dX1_clear_16 : decode cX1_clear 16 = .ok (.iconst 0, 1) := by decide +kernel
theorem dX1_clear_17 : decode cX1_clear 17 = .ok (.putfield 53, 3) := by decide +kernel
theorem dX1_clear_20 : decode cX1_clear 20 = .ok (.aload_n 0, 1) := by decide +kernel
theorem dX1_clear_21 : decode cX1_clear 21 = .ok (.iconst 0, 1) := by decide +kernel
theorem dX1_clear_22 : decode cX1_clear 22 = .ok (.putfield 56, 3) := by decide +kernel
theorem dX1_clear_25 : decode cX1_clear 25 = .ok (.aload_n 0, 1) := by decide +kernel
theorem dX1_clear_26 : decode cX1_clear 26 = .ok (.iconst 0, 1) := by decide +kernel
theorem dX1_clear_27 : decode cX1_clear 27 = .ok (.putfield 60, 3) := by decide +kernel
theorem dX1_clear_30 : decode cX1_clear 30 = .ok (.return_, 1) := by decide +kernel
theorem dX11_feed_0 : decode cX11_feed 0 = .ok (.aload_n 0, 1) := by decide +kernel
theorem dX11_feed_1 : decode cX11_feed 1 = .ok (.getfield 65, 3) := by decide +kernel
theorem dX11_feed_4 : decode cX11_feed 4 = .ok (.sipush 2980, 3) := by decide +kernel
theorem dX11_feed_7 : decode cX11_feed 7 = .ok (.if_icmp .le 5, 3) := by decide +kernel
theorem dX11_feed_10 : decode cX11_feed 10 = .ok (.iconst (-1), 1) := by decide +kernel
theorem dX11_feed_11 : decode cX11_feed 11 = .ok (.ireturn, 1) := by decide +kernel
theorem dX11_feed_12 : decode cX11_feed 12 = .ok (.aload_n 0, 1) := by decide +kernel
theorem dX11_feed_13 : decode cX11_feed 13 = .ok (.iload_n 1, 1) := by decide +kernel
theorem dX11_feed_14 : decode cX11_feed 14 = .ok (.invokevirtual 68, 3) := by decide +kernel
theorem dX11_feed_17 : decode cX11_feed 17 = .ok (.aload_n 0, 1) := by decide +kernel
theorem dX11_feed_18 : decode cX11_feed 18 = .ok (.iload_n 2, 1) := by decide +kernel
theorem dX11_feed_19 : decode cX11_feed 19 = .ok (.invokevirtual 68, 3) := by decide +kernel
theorem dX11_feed_22 : decode cX11_feed 22 = .ok (.aload_n 0, 1) := by decide +kernel
theorem dX11_feed_23 : decode cX11_feed 23 = .ok (.iload_n 3, 1) := by decide +kernel
theorem dX11_feed_24 : decode cX11_feed 24 = .ok (.invokevirtual 68, 3) := by decide +kernel
theorem dX11_feed_27 : decode cX11_feed 27 = .ok (.aload_n 0, 1) := by decide +kernel
theorem dX11_feed_28 : decode cX11_feed 28 = .ok (.iload 4, 2) := by decide +kernel
theorem dX11_feed_30 : decode cX11_feed 30 = .ok (.invokevirtual 68, 3) := by decide +kernel
theorem dX11_feed_33 : decode cX11_feed 33 = .ok (.aload_n 0, 1) := by decide +kernel
theorem dX11_feed_34 : decode cX11_feed 34 = .ok (.iload 5, 2) := by decide +kernel
theorem dX11_feed_36 : decode cX11_feed 36 = .ok (.invokevirtual 68, 3) := by decide +kernel
theorem dX11_feed_39 : decode cX11_feed 39 = .ok (.aload_n 0, 1) := by decide +kernel
theorem dX11_feed_40 : decode cX11_feed 40 = .ok (.getfield 65, 3) := by decide +kernel
theorem dX11_feed_43 : decode cX11_feed 43 = .ok (.ireturn, 1) := by decide +kernel
theorem dX11_putBytes_0 : decode cX11_putBytes 0 = .ok (.bipush 24, 2) := by decide +kernel
theorem dX11_putBytes_2 : decode cX11_putBytes 2 = .ok (.istore_n 2, 1) := by decide +kernel
theorem dX11_putBytes_3 : decode cX11_putBytes 3 = .ok (.iload_n 2, 1) := by decide +kernel
theorem dX11_putBytes_4 : decode cX11_putBytes 4 = .ok (.ifCond .lt 42, 3) := by decide +kernel
theorem dX11_putBytes_7 : decode cX11_putBytes 7 = .ok (.aload_n 0, 1) := by decide +kernel
theorem dX11_putBytes_8 : decode cX11_putBytes 8 = .ok (.getfield 65, 3) := by decide +kernel
theorem dX11_putBytes_11 : decode cX11_putBytes 11 = .ok (.sipush 3000, 3) := by decide +kernel
theorem dX11_putBytes_14 : decode cX11_putBytes 14 = .ok (.if_icmp .ge 32, 3) := by decide +kernel
theorem dX11_putBytes_17 : decode cX11_putBytes 17 = .ok (.aload_n 0, 1) := by decide +kernel
theorem dX11_putBytes_18 : decode cX11_putBytes 18 = .ok (.getfield 9, 3) := by decide +kernel
theorem dX11_putBytes_21 : decode cX11_putBytes 21 = .ok (.aload_n 0, 1) := by decide +kernel
theorem dX11_putBytes_22 : decode cX11_putBytes 22 = .ok (.getfield 65, 3) := by decide +kernel
theorem dX11_putBytes_25 : decode cX11_putBytes 25 = .ok (.iload_n 1, 1) := by decide +kernel
theorem dX11_putBytes_26 : decode cX11_putBytes 26 = .ok (.iload_n 2, 1) := by decide +kernel
theorem dX11_putBytes_27 : decode cX11_putBytes 27 = .ok (.ishr, 1) := by decide +kernel
theorem dX11_putBytes_28 : decode cX11_putBytes 28 = .ok (.i2b, 1) := by decide +kernel
theorem dX11_putBytes_29 : decode cX11_putBytes 29 = .ok (.bastore, 1) := by decide +kernel
theorem dX11_putBytes_30 : decode cX11_putBytes 30 = .ok (.aload_n 0, 1) := by decide +kernel
theorem dX11_putBytes_31 : decode cX11_putBytes 31 = .ok (.dup, 1) := by decide +kernel
theorem dX11_putBytes_32 : decode cX11_putBytes 32 = .ok (.getfield 65, 3) := by decide +kernel
theorem dX11_putBytes_35 : decode cX11_putBytes 35 = .ok (.iconst 1, 1) := by decide +kernel
theorem dX11_putBytes_36 : decode cX11_putBytes 36 = .ok (.iadd, 1) := by decide +kernel
theorem dX11_putBytes_37 : decode cX11_putBytes 37 = .ok (.putfield 65, 3) := by decide +kernel
theorem dX11_putBytes_40 : decode cX11_putBytes 40 = .ok (.iinc 2 (-8), 3) := by decide +kernel
theorem dX11_putBytes_43 : decode cX11_putBytes 43 = .ok (.goto (-40), 3) := by decide +kernel
theorem dX11_putBytes_46 : decode cX11_putBytes 46 = .ok (.return_, 1) := by decide +kernel
theorem dX11_end_0 : decode cX11_end 0 = .ok (.iload_n 1, 1) := by decide +kernel
theorem dX11_end_1 : decode cX11_end 1 = .ok (.ifCond .lt 11, 3) := by decide +kernel
theorem dX11_end_4 : decode cX11_end 4 = .ok (.iload_n 1, 1) := by decide +kernel
theorem dX11_end_5 : decode cX11_end 5 = .ok (.aload_n 0, 1) := by decide +kernel
theorem dX11_end_6 : decode cX11_end 6 = .ok (.getfield 65, 3) := by decide +kernel
theorem dX11_end_9 : decode cX11_end 9 = .ok (.if_icmp .le 5, 3) := by decide +kernel
theorem dX11_end_12 : decode cX11_end 12 = .ok (.iconst (-1), 1) := by decide +kernel
theorem dX11_end_13 : decode cX11_end 13 = .ok (.ireturn, 1) := by decide +kernel
theorem dX11_end_14 : decode cX11_end 14 = .ok (.aload_n 0, 1) := by decide +kernel
theorem dX11_end_15 : decode cX11_end 15 = .ok (.iload_n 1, 1) := by decide +kernel
theorem dX11_end_16 : decode cX11_end 16 = .ok (.putfield 65, 3) := by decide +kernel
theorem dX11_end_19 : decode cX11_end 19 = .ok (.iload_n 1, 1) := by decide +kernel
theorem dX11_end_20 : decode cX11_end 20 = .ok (.ireturn, 1) := by decide +kernel
theorem dX11_take_0 : decode cX11_take 0 = .ok (.aload_n 0, 1) := by decide +kernel
theorem dX11_take_1 : decode cX11_take 1 = .ok (.getfield 16, 3) := by decide +kernel
theorem dX11_take_4 : decode cX11_take 4 = .ok (.aload_n 0, 1) := by decide +kernel
theorem dX11_take_5 : decode cX11_take 5 = .ok (.getfield 9, 3) := by decide +kernel
theorem dX11_take_8 : decode cX11_take 8 = .ok (.aload_n 0, 1) := by decide +kernel
theorem dX11_take_9 : decode cX11_take 9 = .ok (.getfield 65, 3) := by decide +kernel
theorem dX11_take_12 : decode cX11_take 12 = .ok (.invokevirtual 72, 3) := by decide +kernel
theorem dX11_take_15 : decode cX11_take 15 = .ok (.aload_n 0, 1) := by decide +kernel
theorem dX11_take_16 : decode cX11_take 16 = .ok (.getfield 65, 3) := by decide +kernel
theorem dX11_take_19 : decode cX11_take 19 = .ok (.istore_n 1, 1) := by decide +kernel
theorem dX11_take_20 : decode cX11_take 20 = .ok (.aload_n 0, 1) := by decide +kernel
theorem dX11_take_21 : decode cX11_take 21 = .ok (.iconst 0, 1) := by decide +kernel
theorem dX11_take_22 : decode cX11_take 22 = .ok (.putfield 65, 3) := by decide +kernel
theorem dX11_take_25 : decode cX11_take 25 = .ok (.new 76, 3) := by decide +kernel
theorem dX11_take_28 : decode cX11_take 28 = .ok (.dup, 1) := by decide +kernel
theorem dX11_take_29 : decode cX11_take 29 = .ok (.aload_n 0, 1) := by decide +kernel
theorem dX11_take_30 : decode cX11_take 30 = .ok (.getfield 16, 3) := by decide +kernel
theorem dX11_take_33 : decode cX11_take 33 = .ok (.aconst_null, 1) := by decide +kernel
theorem dX11_take_34 : decode cX11_take 34 = .ok (.invokespecial 78, 3) := by decide +kernel
theorem dX11_take_37 : decode cX11_take 37 = .ok (.astore_n 2, 1) := by decide +kernel
theorem dX11_take_38 : decode cX11_take 38 = .ok (.aload_n 2, 1) := by decide +kernel
theorem dX11_take_39 : decode cX11_take 39 = .ok (.invokevirtual 81, 3) := by decide +kernel
theorem dX11_take_42 : decode cX11_take 42 = .ok (.aload_n 2, 1) := by decide +kernel
theorem dX11_take_43 : decode cX11_take 43 = .ok (.getfield 84, 3) := by decide +kernel
theorem dX11_take_46 : decode cX11_take 46 = .ok (.ifCond .ne 23, 3) := by decide +kernel
theorem dX11_take_49 : decode cX11_take 49 = .ok (.new 76, 3) := by decide +kernel
theorem dX11_take_52 : decode cX11_take 52 = .ok (.dup, 1) := by decide +kernel
theorem dX11_take_53 : decode cX11_take 53 = .ok (.aload_n 0, 1) := by decide +kernel
theorem dX11_take_54 : decode cX11_take 54 = .ok (.getfield 16, 3) := by decide +kernel
theorem dX11_take_57 : decode cX11_take 57 = .ok (.aload_n 2, 1) := by decide +kernel
theorem dX11_take_58 : decode cX11_take 58 = .ok (.getfield 87, 3) := by decide +kernel
theorem dX11_take_61 : decode cX11_take 61 = .ok (.invokespecial 78, 3) := by decide +kernel
theorem dX11_take_64 : decode cX11_take 64 = .ok (.astore_n 2, 1) := by decide +kernel
theorem dX11_take_65 : decode cX11_take 65 = .ok (.aload_n 2, 1) := by decide +kernel
theorem dX11_take_66 : decode cX11_take 66 = .ok (.invokevirtual 81, 3) := by decide +kernel
theorem dX11_take_69 : decode cX11_take 69 = .ok (.aload_n 0, 1) := by decide +kernel
theorem dX11_take_70 : decode cX11_take 70 = .ok (.aload_n 2, 1) := by decide +kernel
theorem dX11_take_71 : decode cX11_take 71 = .ok (.getfield 84, 3) := by decide +kernel
theorem dX11_take_74 : decode cX11_take 74 = .ok (.putfield 88, 3) := by decide +kernel
theorem dX11_take_77 : decode cX11_take 77 = .ok (.aload_n 0, 1) := by decide +kernel
theorem dX11_take_78 : decode cX11_take 78 = .ok (.aload_n 2, 1) := by decide +kernel
theorem dX11_take_79 : decode cX11_take 79 = .ok (.getfield 84, 3) := by decide +kernel
theorem dX11_take_82 : decode cX11_take 82 = .ok (.ifCond .ne 7, 3) := by decide +kernel
theorem dX11_take_85 : decode cX11_take 85 = .ok (.iconst (-1), 1) := by decide +kernel
theorem dX11_take_86 : decode cX11_take 86 = .ok (.goto 7, 3) := by decide +kernel
theorem dX11_take_89 : decode cX11_take 89 = .ok (.aload_n 2, 1) := by decide +kernel
theorem dX11_take_90 : decode cX11_take 90 = .ok (.getfield 91, 3) := by decide +kernel
theorem dX11_take_93 : decode cX11_take 93 = .ok (.putfield 61, 3) := by decide +kernel
theorem dX11_take_96 : decode cX11_take 96 = .ok (.aload_n 2, 1) := by decide +kernel
theorem dX11_take_97 : decode cX11_take 97 = .ok (.getfield 84, 3) := by decide +kernel
theorem dX11_take_100 : decode cX11_take 100 = .ok (.ifCond .eq 5, 3) := by decide +kernel
theorem dX11_take_103 : decode cX11_take 103 = .ok (.iconst (-1), 1) := by decide +kernel
theorem dX11_take_104 : decode cX11_take 104 = .ok (.ireturn, 1) := by decide +kernel
theorem dX11_take_105 : decode cX11_take 105 = .ok (.aload_n 0, 1) := by decide +kernel
theorem dX11_take_106 : decode cX11_take 106 = .ok (.aload_n 2, 1) := by decide +kernel
theorem dX11_take_107 : decode cX11_take 107 = .ok (.getfield 87, 3) := by decide +kernel
theorem dX11_take_110 : decode cX11_take 110 = .ok (.putfield 53, 3) := by decide +kernel
theorem dX11_take_113 : decode cX11_take 113 = .ok (.aload_n 0, 1) := by decide +kernel
theorem dX11_take_114 : decode cX11_take 114 = .ok (.getfield 53, 3) := by decide +kernel
theorem dX11_take_117 : decode cX11_take 117 = .ok (.aload_n 0, 1) := by decide +kernel
theorem dX11_take_118 : decode cX11_take 118 = .ok (.getfield 9, 3) := by decide +kernel
theorem dX11_take_121 : decode cX11_take 121 = .ok (.iload_n 1, 1) := by decide +kernel
theorem dX11_take_122 : decode cX11_take 122 = .ok (.invokestatic 94, 3) := by decide +kernel
theorem dX11_take_125 : decode cX11_take 125 = .ok (.putfield 100, 3) := by decide +kernel
theorem dX11_take_128 : decode cX11_take 128 = .ok (.aload_n 0, 1) := by decide +kernel
theorem dX11_take_129 : decode cX11_take 129 = .ok (.getfield 23, 3) := by decide +kernel
theorem dX11_take_132 : decode cX11_take 132 = .ok (.aload_n 0, 1) := by decide +kernel
theorem dX11_take_133 : decode cX11_take 133 = .ok (.getfield 53, 3) := by decide +kernel
theorem dX11_take_136 : decode cX11_take 136 = .ok (.invokevirtual 103, 3) := by decide +kernel
theorem dX11_take_139 : decode cX11_take 139 = .ok (.aload_n 0, 1) := by decide +kernel
theorem dX11_take_140 : decode cX11_take 140 = .ok (.getfield 30, 3) := by decide +kernel
theorem dX11_take_143 : decode cX11_take 143 = .ok (.invokevirtual 106, 3) := by decide +kernel
theorem dX11_take_146 : decode cX11_take 146 = .ok (.aload_n 0, 1) := by decide +kernel
theorem dX11_take_147 : decode cX11_take 147 = .ok (.getfield 39, 3) := by decide +kernel
theorem dX11_take_150 : decode cX11_take 150 = .ok (.aload_n 0, 1) := by decide +kernel
theorem dX11_take_151 : decode cX11_take 151 = .ok (.getfield 53, 3) := by decide +kernel
theorem dX11_take_154 : decode cX11_take 154 = .ok (.invokevirtual 57, 3) := by decide +kernel
theorem dX11_take_157 : decode cX11_take 157 = .ok (.aload_n 0, 1) := by decide +kernel
theorem dX11_take_158 : decode cX11_take 158 = .ok (.getfield 53, 3) := by decide +kernel
theorem dX11_take_161 : decode cX11_take 161 = .ok (.getfield 109, 3) := by decide +kernel
theorem dX11_take_164 : decode cX11_take 164 = .ok (.invokevirtual 112, 3) := by decide +kernel
theorem dX11_take_167 : decode cX11_take 167 = .ok (.ireturn, 1) := by decide +kernel
theorem dX9_scan_0 : decode cX9_scan 0 = .ok (.iconst 0, 1) := by decide +kernel
theorem dX9_scan_1 : decode cX9_scan 1 = .ok (.istore_n 3, 1) := by decide +kernel
theorem dX9_scan_2 : decode cX9_scan 2 = .ok (.iconst 0, 1) := by decide +kernel
theorem dX9_scan_3 : decode cX9_scan 3 = .ok (.istore 4, 2) := by decide +kernel
theorem dX9_scan_5 : decode cX9_scan 5 = .ok (.iload 4, 2) := by decide +kernel
theorem dX9_scan_7 : decode cX9_scan 7 = .ok (.sipush 3000, 3) := by decide +kernel
theorem dX9_scan_10 : decode cX9_scan 10 = .ok (.if_icmp .gt 96, 3) := by decide +kernel
theorem dX9_scan_13 : decode cX9_scan 13 = .ok (.iload_n 3, 1) := by decide +kernel
theorem dX9_scan_14 : decode cX9_scan 14 = .ok (.iload_n 2, 1) := by decide +kernel
theorem dX9_scan_15 : decode cX9_scan 15 = .ok (.if_icmp .ge 25, 3) := by decide +kernel
theorem dX9_scan_18 : decode cX9_scan 18 = .ok (.aload_n 1, 1) := by decide +kernel
theorem dX9_scan_19 : decode cX9_scan 19 = .ok (.iload_n 3, 1) := by decide +kernel
theorem dX9_scan_20 : decode cX9_scan 20 = .ok (.baload, 1) := by decide +kernel
theorem dX9_scan_21 : decode cX9_scan 21 = .ok (.bipush 32, 2) := by decide +kernel
theorem dX9_scan_23 : decode cX9_scan 23 = .ok (.if_icmp .eq 11, 3) := by decide +kernel
theorem dX9_scan_26 : decode cX9_scan 26 = .ok (.aload_n 1, 1) := by decide +kernel
theorem dX9_scan_27 : decode cX9_scan 27 = .ok (.iload_n 3, 1) := by decide +kernel
theorem dX9_scan_28 : decode cX9_scan 28 = .ok (.baload, 1) := by decide +kernel
theorem dX9_scan_29 : decode cX9_scan 29 = .ok (.bipush 10, 2) := by decide +kernel
theorem dX9_scan_31 : decode cX9_scan 31 = .ok (.if_icmp .ne 9, 3) := by decide +kernel
theorem dX9_scan_34 : decode cX9_scan 34 = .ok (.iinc 3 1, 3) := by decide +kernel
theorem dX9_scan_37 : decode cX9_scan 37 = .ok (.goto (-24), 3) := by decide +kernel
theorem dX9_scan_40 : decode cX9_scan 40 = .ok (.aload_n 0, 1) := by decide +kernel
theorem dX9_scan_41 : decode cX9_scan 41 = .ok (.getfield 15, 3) := by decide +kernel
theorem dX9_scan_44 : decode cX9_scan 44 = .ok (.iload 4, 2) := by decide +kernel
theorem dX9_scan_46 : decode cX9_scan 46 = .ok (.iload_n 3, 1) := by decide +kernel
theorem dX9_scan_47 : decode cX9_scan 47 = .ok (.iastore, 1) := by decide +kernel
theorem dX9_scan_48 : decode cX9_scan 48 = .ok (.aload_n 0, 1) := by decide +kernel
theorem dX9_scan_49 : decode cX9_scan 49 = .ok (.getfield 18, 3) := by decide +kernel
theorem dX9_scan_52 : decode cX9_scan 52 = .ok (.iload 4, 2) := by decide +kernel
theorem dX9_scan_54 : decode cX9_scan 54 = .ok (.lconst 0, 1) := by decide +kernel
theorem dX9_scan_55 : decode cX9_scan 55 = .ok (.lastore, 1) := by decide +kernel
theorem dX9_scan_56 : decode cX9_scan 56 = .ok (.iload_n 3, 1) := by decide +kernel
theorem dX9_scan_57 : decode cX9_scan 57 = .ok (.iload_n 2, 1) := by decide +kernel
theorem dX9_scan_58 : decode cX9_scan 58 = .ok (.if_icmp .lt 12, 3) := by decide +kernel
theorem dX9_scan_61 : decode cX9_scan 61 = .ok (.aload_n 0, 1) := by decide +kernel
theorem dX9_scan_62 : decode cX9_scan 62 = .ok (.getfield 9, 3) := by decide +kernel
theorem dX9_scan_65 : decode cX9_scan 65 = .ok (.iload 4, 2) := by decide +kernel
theorem dX9_scan_67 : decode cX9_scan 67 = .ok (.iconst 0, 1) := by decide +kernel
theorem dX9_scan_68 : decode cX9_scan 68 = .ok (.iastore, 1) := by decide +kernel
theorem dX9_scan_69 : decode cX9_scan 69 = .ok (.return_, 1) := by decide +kernel
theorem dX9_scan_70 : decode cX9_scan 70 = .ok (.aload_n 0, 1) := by decide +kernel
theorem dX9_scan_71 : decode cX9_scan 71 = .ok (.aload_n 1, 1) := by decide +kernel
theorem dX9_scan_72 : decode cX9_scan 72 = .ok (.iload_n 2, 1) := by decide +kernel
theorem dX9_scan_73 : decode cX9_scan 73 = .ok (.iload_n 3, 1) := by decide +kernel
theorem dX9_scan_74 : decode cX9_scan 74 = .ok (.iload 4, 2) := by decide +kernel
theorem dX9_scan_76 : decode cX9_scan 76 = .ok (.invokevirtual 22, 3) := by decide +kernel
theorem dX9_scan_79 : decode cX9_scan 79 = .ok (.istore 5, 2) := by decide +kernel
theorem dX9_scan_81 : decode cX9_scan 81 = .ok (.iload 5, 2) := by decide +kernel
theorem dX9_scan_83 : decode cX9_scan 83 = .ok (.ifCond .ne 12, 3) := by decide +kernel
theorem dX9_scan_86 : decode cX9_scan 86 = .ok (.aload_n 0, 1) := by decide +kernel
theorem dX9_scan_87 : decode cX9_scan 87 = .ok (.getfield 9, 3) := by decide +kernel
theorem dX9_scan_90 : decode cX9_scan 90 = .ok (.iload 4, 2) := by decide +kernel
theorem dX9_scan_92 : decode cX9_scan 92 = .ok (.iconst 1, 1) := by decide +kernel
theorem dX9_scan_93 : decode cX9_scan 93 = .ok (.iastore, 1) := by decide +kernel
theorem dX9_scan_94 : decode cX9_scan 94 = .ok (.return_, 1) := by decide +kernel
theorem dX9_scan_95 : decode cX9_scan 95 = .ok (.iload_n 3, 1) := by decide +kernel
theorem dX9_scan_96 : decode cX9_scan 96 = .ok (.iload 5, 2) := by decide +kernel
theorem dX9_scan_98 : decode cX9_scan 98 = .ok (.iadd, 1) := by decide +kernel
theorem dX9_scan_99 : decode cX9_scan 99 = .ok (.istore_n 3, 1) := by decide +kernel
theorem dX9_scan_100 : decode cX9_scan 100 = .ok (.iinc 4 1, 3) := by decide +kernel
theorem dX9_scan_103 : decode cX9_scan 103 = .ok (.goto (-98), 3) := by decide +kernel
theorem dX9_scan_106 : decode cX9_scan 106 = .ok (.return_, 1) := by decide +kernel
theorem dX9_readOne_0 : decode cX9_readOne 0 = .ok (.aload_n 1, 1) := by decide +kernel
theorem dX9_readOne_1 : decode cX9_readOne 1 = .ok (.iload_n 3, 1) := by decide +kernel
theorem dX9_readOne_2 : decode cX9_readOne 2 = .ok (.baload, 1) := by decide +kernel
theorem dX9_readOne_3 : decode cX9_readOne 3 = .ok (.istore 5, 2) := by decide +kernel
theorem dX9_readOne_5 : decode cX9_readOne 5 = .ok (.iload 5, 2) := by decide +kernel
theorem dX9_readOne_7 : decode cX9_readOne 7 = .ok (.invokestatic 26, 3) := by decide +kernel
theorem dX9_readOne_10 : decode cX9_readOne 10 = .ok (.ifCond .eq 13, 3) := by decide +kernel
theorem dX9_readOne_13 : decode cX9_readOne 13 = .ok (.aload_n 0, 1) := by decide +kernel
theorem dX9_readOne_14 : decode cX9_readOne 14 = .ok (.aload_n 1, 1) := by decide +kernel
theorem dX9_readOne_15 : decode cX9_readOne 15 = .ok (.iload_n 2, 1) := by decide +kernel
theorem dX9_readOne_16 : decode cX9_readOne 16 = .ok (.iload_n 3, 1) := by decide +kernel
theorem dX9_readOne_17 : decode cX9_readOne 17 = .ok (.iload 4, 2) := by decide +kernel
theorem dX9_readOne_19 : decode cX9_readOne 19 = .ok (.invokevirtual 30, 3) := by decide +kernel
theorem dX9_readOne_22 : decode cX9_readOne 22 = .ok (.ireturn, 1) := by decide +kernel
theorem dX9_readOne_23 : decode cX9_readOne 23 = .ok (.iload 5, 2) := by decide +kernel
theorem dX9_readOne_25 : decode cX9_readOne 25 = .ok (.bipush 34, 2) := by decide +kernel
theorem dX9_readOne_27 : decode cX9_readOne 27 = .ok (.if_icmp .ne 13, 3) := by decide +kernel
theorem dX9_readOne_30 : decode cX9_readOne 30 = .ok (.aload_n 0, 1) := by decide +kernel
theorem dX9_readOne_31 : decode cX9_readOne 31 = .ok (.aload_n 1, 1) := by decide +kernel
theorem dX9_readOne_32 : decode cX9_readOne 32 = .ok (.iload_n 2, 1) := by decide +kernel
theorem dX9_readOne_33 : decode cX9_readOne 33 = .ok (.iload_n 3, 1) := by decide +kernel
theorem dX9_readOne_34 : decode cX9_readOne 34 = .ok (.iload 4, 2) := by decide +kernel
theorem dX9_readOne_36 : decode cX9_readOne 36 = .ok (.invokevirtual 33, 3) := by decide +kernel
theorem dX9_readOne_39 : decode cX9_readOne 39 = .ok (.ireturn, 1) := by decide +kernel
theorem dX9_readOne_40 : decode cX9_readOne 40 = .ok (.aload_n 0, 1) := by decide +kernel
theorem dX9_readOne_41 : decode cX9_readOne 41 = .ok (.aload_n 1, 1) := by decide +kernel
theorem dX9_readOne_42 : decode cX9_readOne 42 = .ok (.iload_n 2, 1) := by decide +kernel
theorem dX9_readOne_43 : decode cX9_readOne 43 = .ok (.iload_n 3, 1) := by decide +kernel
theorem dX9_readOne_44 : decode cX9_readOne 44 = .ok (.iload 4, 2) := by decide +kernel
theorem dX9_readOne_46 : decode cX9_readOne 46 = .ok (.invokevirtual 36, 3) := by decide +kernel
theorem dX9_readOne_49 : decode cX9_readOne 49 = .ok (.istore 6, 2) := by decide +kernel
theorem dX9_readOne_51 : decode cX9_readOne 51 = .ok (.iload 6, 2) := by decide +kernel
theorem dX9_readOne_53 : decode cX9_readOne 53 = .ok (.ifCond .ne 31, 3) := by decide +kernel
theorem dX9_readOne_56 : decode cX9_readOne 56 = .ok (.iload 5, 2) := by decide +kernel
theorem dX9_readOne_58 : decode cX9_readOne 58 = .ok (.ifCond .le 26, 3) := by decide +kernel
theorem dX9_readOne_61 : decode cX9_readOne 61 = .ok (.ldc 39, 2) := by decide +kernel
theorem dX9_readOne_63 : decode cX9_readOne 63 = .ok (.iload 5, 2) := by decide +kernel
theorem dX9_readOne_65 : decode cX9_readOne 65 = .ok (.i2c, 1) := by decide +kernel
theorem dX9_readOne_66 : decode cX9_readOne 66 = .ok (.invokevirtual 41, 3) := by decide +kernel
theorem dX9_readOne_69 : decode cX9_readOne 69 = .ok (.ifCond .lt 15, 3) := by decide +kernel
theorem dX9_readOne_72 : decode cX9_readOne 72 = .ok (.aload_n 0, 1) := by decide +kernel
theorem dX9_readOne_73 : decode cX9_readOne 73 = .ok (.getfield 9, 3) := by decide +kernel
theorem dX9_readOne_76 : decode cX9_readOne 76 = .ok (.iload 4, 2) := by decide +kernel
theorem dX9_readOne_78 : decode cX9_readOne 78 = .ok (.iload 5, 2) := by decide +kernel
theorem dX9_readOne_80 : decode cX9_readOne 80 = .ok (.iastore, 1) := by decide +kernel
theorem dX9_readOne_81 : decode cX9_readOne 81 = .ok (.iconst 1, 1) := by decide +kernel
theorem dX9_readOne_82 : decode cX9_readOne 82 = .ok (.istore 6, 2) := by decide +kernel
theorem dX9_readOne_84 : decode cX9_readOne 84 = .ok (.iload 6, 2) := by decide +kernel
theorem dX9_readOne_86 : decode cX9_readOne 86 = .ok (.ireturn, 1) := by decide +kernel
theorem dX9_isLetter_0 : decode cX9_isLetter 0 = .ok (.iload_n 0, 1) := by decide +kernel
theorem dX9_isLetter_1 : decode cX9_isLetter 1 = .ok (.bipush 97, 2) := by decide +kernel
theorem dX9_isLetter_3 : decode cX9_isLetter 3 = .ok (.if_icmp .lt 13, 3) := by decide +kernel
theorem dX9_isLetter_6 : decode cX9_isLetter 6 = .ok (.iload_n 0, 1) := by decide +kernel
theorem dX9_isLetter_7 : decode cX9_isLetter 7 = .ok (.bipush 122, 2) := by decide +kernel
theorem dX9_isLetter_9 : decode cX9_isLetter 9 = .ok (.if_icmp .gt 7, 3) := by decide +kernel
theorem dX9_isLetter_12 : decode cX9_isLetter 12 = .ok (.iconst 1, 1) := by decide +kernel
theorem dX9_isLetter_13 : decode cX9_isLetter 13 = .ok (.goto 4, 3) := by decide +kernel
theorem dX9_isLetter_16 : decode cX9_isLetter 16 = .ok (.iconst 0, 1) := by decide +kernel
theorem dX9_isLetter_17 : decode cX9_isLetter 17 = .ok (.ireturn, 1) := by decide +kernel
theorem dX9_readName_0 : decode cX9_readName 0 = .ok (.iconst 0, 1) := by decide +kernel
theorem dX9_readName_1 : decode cX9_readName 1 = .ok (.istore 5, 2) := by decide +kernel
theorem dX9_readName_3 : decode cX9_readName 3 = .ok (.lconst 0, 1) := by decide +kernel
theorem dX9_readName_4 : decode cX9_readName 4 = .ok (.lstore 6, 2) := by decide +kernel
theorem dX9_readName_6 : decode cX9_readName 6 = .ok (.iload 5, 2) := by decide +kernel
theorem dX9_readName_8 : decode cX9_readName 8 = .ok (.bipush 8, 2) := by decide +kernel
theorem dX9_readName_10 : decode cX9_readName 10 = .ok (.if_icmp .ge 56, 3) := by decide +kernel
theorem dX9_readName_13 : decode cX9_readName 13 = .ok (.iload_n 3, 1) := by decide +kernel
theorem dX9_readName_14 : decode cX9_readName 14 = .ok (.iload 5, 2) := by decide +kernel
theorem dX9_readName_16 : decode cX9_readName 16 = .ok (.iadd, 1) := by decide +kernel
theorem dX9_readName_17 : decode cX9_readName 17 = .ok (.iload_n 2, 1) := by decide +kernel
theorem dX9_readName_18 : decode cX9_readName 18 = .ok (.if_icmp .ge 48, 3) := by decide +kernel
theorem dX9_readName_21 : decode cX9_readName 21 = .ok (.aload_n 1, 1) := by decide +kernel
theorem dX9_readName_22 : decode cX9_readName 22 = .ok (.iload_n 3, 1) := by decide +kernel
theorem dX9_readName_23 : decode cX9_readName 23 = .ok (.iload 5, 2) := by decide +kernel
theorem dX9_readName_25 : decode cX9_readName 25 = .ok (.iadd, 1) := by decide +kernel
theorem dX9_readName_26 : decode cX9_readName 26 = .ok (.baload, 1) := by decide +kernel
theorem dX9_readName_27 : decode cX9_readName 27 = .ok (.invokestatic 26, 3) := by decide +kernel
theorem dX9_readName_30 : decode cX9_readName 30 = .ok (.ifCond .ne 15, 3) := by decide +kernel
theorem dX9_readName_33 : decode cX9_readName 33 = .ok (.aload_n 1, 1) := by decide +kernel
theorem dX9_readName_34 : decode cX9_readName 34 = .ok (.iload_n 3, 1) := by decide +kernel
theorem dX9_readName_35 : decode cX9_readName 35 = .ok (.iload 5, 2) := by decide +kernel
theorem dX9_readName_37 : decode cX9_readName 37 = .ok (.iadd, 1) := by decide +kernel
theorem dX9_readName_38 : decode cX9_readName 38 = .ok (.baload, 1) := by decide +kernel
theorem dX9_readName_39 : decode cX9_readName 39 = .ok (.invokestatic 47, 3) := by decide +kernel
theorem dX9_readName_42 : decode cX9_readName 42 = .ok (.ifCond .eq 24, 3) := by decide +kernel
theorem dX9_readName_45 : decode cX9_readName 45 = .ok (.lload 6, 2) := by decide +kernel
theorem dX9_readName_47 : decode cX9_readName 47 = .ok (.bipush 8, 2) := by decide +kernel
theorem dX9_readName_49 : decode cX9_readName 49 = .ok (.lshl, 1) := by decide +kernel
theorem dX9_readName_50 : decode cX9_readName 50 = .ok (.aload_n 1, 1) := by decide +kernel
theorem dX9_readName_51 : decode cX9_readName 51 = .ok (.iload_n 3, 1) := by decide +kernel
theorem dX9_readName_52 : decode cX9_readName 52 = .ok (.iload 5, 2) := by decide +kernel
theorem dX9_readName_54 : decode cX9_readName 54 = .ok (.iadd, 1) := by decide +kernel
theorem dX9_readName_55 : decode cX9_readName 55 = .ok (.baload, 1) := by decide +kernel
theorem dX9_readName_56 : decode cX9_readName 56 = .ok (.i2l, 1) := by decide +kernel
theorem dX9_readName_57 : decode cX9_readName 57 = .ok (.lor, 1) := by decide +kernel
theorem dX9_readName_58 : decode cX9_readName 58 = .ok (.lstore 6, 2) := by decide +kernel
theorem dX9_readName_60 : decode cX9_readName 60 = .ok (.iinc 5 1, 3) := by decide +kernel
theorem dX9_readName_63 : decode cX9_readName 63 = .ok (.goto (-57), 3) := by decide +kernel
theorem dX9_readName_66 : decode cX9_readName 66 = .ok (.aload_n 0, 1) := by decide +kernel
theorem dX9_readName_67 : decode cX9_readName 67 = .ok (.getfield 9, 3) := by decide +kernel
theorem dX9_readName_70 : decode cX9_readName 70 = .ok (.iload 4, 2) := by decide +kernel
theorem dX9_readName_72 : decode cX9_readName 72 = .ok (.iconst 2, 1) := by decide +kernel
theorem dX9_readName_73 : decode cX9_readName 73 = .ok (.iastore, 1) := by decide +kernel
theorem dX9_readName_74 : decode cX9_readName 74 = .ok (.aload_n 0, 1) := by decide +kernel
theorem dX9_readName_75 : decode cX9_readName 75 = .ok (.getfield 18, 3) := by decide +kernel
theorem dX9_readName_78 : decode cX9_readName 78 = .ok (.iload 4, 2) := by decide +kernel
theorem dX9_readName_80 : decode cX9_readName 80 = .ok (.lload 6, 2) := by decide +kernel
theorem dX9_readName_82 : decode cX9_readName 82 = .ok (.lastore, 1) := by decide +kernel
theorem dX9_readName_83 : decode cX9_readName 83 = .ok (.iconst 0, 1) := by decide +kernel
theorem dX9_readName_84 : decode cX9_readName 84 = .ok (.istore 8, 2) := by decide +kernel
theorem dX9_readName_86 : decode cX9_readName 86 = .ok (.iload 8, 2) := by decide +kernel
theorem dX9_readName_88 : decode cX9_readName 88 = .ok (.getstatic 50, 3) := by decide +kernel
theorem dX9_readName_91 : decode cX9_readName 91 = .ok (.arraylength, 1) := by decide +kernel
theorem dX9_readName_92 : decode cX9_readName 92 = .ok (.if_icmp .ge 39, 3) := by decide +kernel
theorem dX9_readName_95 : decode cX9_readName 95 = .ok (.getstatic 50, 3) := by decide +kernel
theorem dX9_readName_98 : decode cX9_readName 98 = .ok (.iload 8, 2) := by decide +kernel
theorem dX9_readName_100 : decode cX9_readName 100 = .ok (.laload, 1) := by decide +kernel
theorem dX9_readName_101 : decode cX9_readName 101 = .ok (.lload 6, 2) := by decide +kernel
theorem dX9_readName_103 : decode cX9_readName 103 = .ok (.lcmp, 1) := by decide +kernel
theorem dX9_readName_104 : decode cX9_readName 104 = .ok (.ifCond .ne 21, 3) := by decide +kernel
theorem dX9_readName_107 : decode cX9_readName 107 = .ok (.aload_n 0, 1) := by decide +kernel
theorem dX9_readName_108 : decode cX9_readName 108 = .ok (.getfield 9, 3) := by decide +kernel
theorem dX9_readName_111 : decode cX9_readName 111 = .ok (.iload 4, 2) := by decide +kernel
theorem dX9_readName_113 : decode cX9_readName 113 = .ok (.iconst 5, 1) := by decide +kernel
theorem dX9_readName_114 : decode cX9_readName 114 = .ok (.iastore, 1) := by decide +kernel
theorem dX9_readName_115 : decode cX9_readName 115 = .ok (.aload_n 0, 1) := by decide +kernel
theorem dX9_readName_116 : decode cX9_readName 116 = .ok (.getfield 18, 3) := by decide +kernel
theorem dX9_readName_119 : decode cX9_readName 119 = .ok (.iload 4, 2) := by decide +kernel
theorem dX9_readName_121 : decode cX9_readName 121 = .ok (.iload 8, 2) := by decide +kernel
theorem dX9_readName_123 : decode cX9_readName 123 = .ok (.i2l, 1) := by decide +kernel
theorem dX9_readName_124 : decode cX9_readName 124 = .ok (.lastore, 1) := by decide +kernel
theorem dX9_readName_125 : decode cX9_readName 125 = .ok (.iinc 8 1, 3) := by decide +kernel
theorem dX9_readName_128 : decode cX9_readName 128 = .ok (.goto (-42), 3) := by decide +kernel
theorem dX9_readName_131 : decode cX9_readName 131 = .ok (.iload 5, 2) := by decide +kernel
theorem dX9_readName_133 : decode cX9_readName 133 = .ok (.ireturn, 1) := by decide +kernel
theorem dX9_isDigit_0 : decode cX9_isDigit 0 = .ok (.iload_n 0, 1) := by decide +kernel
theorem dX9_isDigit_1 : decode cX9_isDigit 1 = .ok (.bipush 48, 2) := by decide +kernel
theorem dX9_isDigit_3 : decode cX9_isDigit 3 = .ok (.if_icmp .lt 13, 3) := by decide +kernel
theorem dX9_isDigit_6 : decode cX9_isDigit 6 = .ok (.iload_n 0, 1) := by decide +kernel
theorem dX9_isDigit_7 : decode cX9_isDigit 7 = .ok (.bipush 57, 2) := by decide +kernel
theorem dX9_isDigit_9 : decode cX9_isDigit 9 = .ok (.if_icmp .gt 7, 3) := by decide +kernel
theorem dX9_isDigit_12 : decode cX9_isDigit 12 = .ok (.iconst 1, 1) := by decide +kernel
theorem dX9_isDigit_13 : decode cX9_isDigit 13 = .ok (.goto 4, 3) := by decide +kernel
theorem dX9_isDigit_16 : decode cX9_isDigit 16 = .ok (.iconst 0, 1) := by decide +kernel
theorem dX9_isDigit_17 : decode cX9_isDigit 17 = .ok (.ireturn, 1) := by decide +kernel
theorem dX9_readString_0 : decode cX9_readString 0 = .ok (.iconst 0, 1) := by decide +kernel
theorem dX9_readString_1 : decode cX9_readString 1 = .ok (.istore 5, 2) := by decide +kernel
theorem dX9_readString_3 : decode cX9_readString 3 = .ok (.iload_n 3, 1) := by decide +kernel
theorem dX9_readString_4 : decode cX9_readString 4 = .ok (.iconst 1, 1) := by decide +kernel
theorem dX9_readString_5 : decode cX9_readString 5 = .ok (.iadd, 1) := by decide +kernel
theorem dX9_readString_6 : decode cX9_readString 6 = .ok (.istore 6, 2) := by decide +kernel
theorem dX9_readString_8 : decode cX9_readString 8 = .ok (.iload 5, 2) := by decide +kernel
theorem dX9_readString_10 : decode cX9_readString 10 = .ok (.bipush 30, 2) := by decide +kernel
theorem dX9_readString_12 : decode cX9_readString 12 = .ok (.if_icmp .ge 45, 3) := by decide +kernel
theorem dX9_readString_15 : decode cX9_readString 15 = .ok (.iload 6, 2) := by decide +kernel
theorem dX9_readString_17 : decode cX9_readString 17 = .ok (.iload_n 2, 1) := by decide +kernel
theorem dX9_readString_18 : decode cX9_readString 18 = .ok (.if_icmp .ge 39, 3) := by decide +kernel
theorem dX9_readString_21 : decode cX9_readString 21 = .ok (.aload_n 1, 1) := by decide +kernel
theorem dX9_readString_22 : decode cX9_readString 22 = .ok (.iload 6, 2) := by decide +kernel
theorem dX9_readString_24 : decode cX9_readString 24 = .ok (.baload, 1) := by decide +kernel
theorem dX9_readString_25 : decode cX9_readString 25 = .ok (.bipush 32, 2) := by decide +kernel
theorem dX9_readString_27 : decode cX9_readString 27 = .ok (.if_icmp .lt 30, 3) := by decide +kernel
theorem dX9_readString_30 : decode cX9_readString 30 = .ok (.aload_n 1, 1) := by decide +kernel
theorem dX9_readString_31 : decode cX9_readString 31 = .ok (.iload 6, 2) := by decide +kernel
theorem dX9_readString_33 : decode cX9_readString 33 = .ok (.baload, 1) := by decide +kernel
theorem dX9_readString_34 : decode cX9_readString 34 = .ok (.bipush 126, 2) := by decide +kernel
theorem dX9_readString_36 : decode cX9_readString 36 = .ok (.if_icmp .gt 21, 3) := by decide +kernel
theorem dX9_readString_39 : decode cX9_readString 39 = .ok (.aload_n 1, 1) := by decide +kernel
theorem dX9_readString_40 : decode cX9_readString 40 = .ok (.iload 6, 2) := by decide +kernel
theorem dX9_readString_42 : decode cX9_readString 42 = .ok (.baload, 1) := by decide +kernel
theorem dX9_readString_43 : decode cX9_readString 43 = .ok (.bipush 34, 2) := by decide +kernel
theorem dX9_readString_45 : decode cX9_readString 45 = .ok (.if_icmp .eq 12, 3) := by decide +kernel
theorem dX9_readString_48 : decode cX9_readString 48 = .ok (.iinc 5 1, 3) := by decide +kernel
theorem dX9_readString_51 : decode cX9_readString 51 = .ok (.iinc 6 1, 3) := by decide +kernel
theorem dX9_readString_54 : decode cX9_readString 54 = .ok (.goto (-46), 3) := by decide +kernel
theorem dX9_readString_57 : decode cX9_readString 57 = .ok (.iload 6, 2) := by decide +kernel
theorem dX9_readString_59 : decode cX9_readString 59 = .ok (.iload_n 2, 1) := by decide +kernel
theorem dX9_readString_60 : decode cX9_readString 60 = .ok (.if_icmp .ge 12, 3) := by decide +kernel
theorem dX9_readString_63 : decode cX9_readString 63 = .ok (.aload_n 1, 1) := by decide +kernel
theorem dX9_readString_64 : decode cX9_readString 64 = .ok (.iload 6, 2) := by decide +kernel
theorem dX9_readString_66 : decode cX9_readString 66 = .ok (.baload, 1) := by decide +kernel
theorem dX9_readString_67 : decode cX9_readString 67 = .ok (.bipush 34, 2) := by decide +kernel
theorem dX9_readString_69 : decode cX9_readString 69 = .ok (.if_icmp .eq 5, 3) := by decide +kernel
theorem dX9_readString_72 : decode cX9_readString 72 = .ok (.iconst 0, 1) := by decide +kernel
theorem dX9_readString_73 : decode cX9_readString 73 = .ok (.ireturn, 1) := by decide +kernel
theorem dX9_readString_74 : decode cX9_readString 74 = .ok (.aload_n 0, 1) := by decide +kernel
theorem dX9_readString_75 : decode cX9_readString 75 = .ok (.getfield 9, 3) := by decide +kernel
theorem dX9_readString_78 : decode cX9_readString 78 = .ok (.iload 4, 2) := by decide +kernel
theorem dX9_readString_80 : decode cX9_readString 80 = .ok (.iconst 4, 1) := by decide +kernel
theorem dX9_readString_81 : decode cX9_readString 81 = .ok (.iastore, 1) := by decide +kernel
theorem dX9_readString_82 : decode cX9_readString 82 = .ok (.aload_n 0, 1) := by decide +kernel
theorem dX9_readString_83 : decode cX9_readString 83 = .ok (.getfield 18, 3) := by decide +kernel
theorem dX9_readString_86 : decode cX9_readString 86 = .ok (.iload 4, 2) := by decide +kernel
theorem dX9_readString_88 : decode cX9_readString 88 = .ok (.iload 5, 2) := by decide +kernel
theorem dX9_readString_90 : decode cX9_readString 90 = .ok (.i2l, 1) := by decide +kernel
theorem dX9_readString_91 : decode cX9_readString 91 = .ok (.lastore, 1) := by decide +kernel
theorem dX9_readString_92 : decode cX9_readString 92 = .ok (.iload 5, 2) := by decide +kernel
theorem dX9_readString_94 : decode cX9_readString 94 = .ok (.iconst 2, 1) := by decide +kernel
theorem dX9_readString_95 : decode cX9_readString 95 = .ok (.iadd, 1) := by decide +kernel
theorem dX9_readString_96 : decode cX9_readString 96 = .ok (.ireturn, 1) := by decide +kernel
theorem dX9_readNumber_0 : decode cX9_readNumber 0 = .ok (.aload_n 1, 1) := by decide +kernel
theorem dX9_readNumber_1 : decode cX9_readNumber 1 = .ok (.iload_n 3, 1) := by decide +kernel
theorem dX9_readNumber_2 : decode cX9_readNumber 2 = .ok (.baload, 1) := by decide +kernel
theorem dX9_readNumber_3 : decode cX9_readNumber 3 = .ok (.bipush 45, 2) := by decide +kernel
theorem dX9_readNumber_5 : decode cX9_readNumber 5 = .ok (.if_icmp .ne 9, 3) := by decide +kernel
theorem dX9_readNumber_8 : decode cX9_readNumber 8 = .ok (.iload_n 3, 1) := by decide +kernel
theorem dX9_readNumber_9 : decode cX9_readNumber 9 = .ok (.iconst 1, 1) := by decide +kernel
theorem dX9_readNumber_10 : decode cX9_readNumber 10 = .ok (.iadd, 1) := by decide +kernel
theorem dX9_readNumber_11 : decode cX9_readNumber 11 = .ok (.goto 4, 3) := by decide +kernel
theorem dX9_readNumber_14 : decode cX9_readNumber 14 = .ok (.iload_n 3, 1) := by decide +kernel
theorem dX9_readNumber_15 : decode cX9_readNumber 15 = .ok (.istore 5, 2) := by decide +kernel
theorem dX9_readNumber_17 : decode cX9_readNumber 17 = .ok (.iload 5, 2) := by decide +kernel
theorem dX9_readNumber_19 : decode cX9_readNumber 19 = .ok (.istore 6, 2) := by decide +kernel
theorem dX9_readNumber_21 : decode cX9_readNumber 21 = .ok (.iconst 0, 1) := by decide +kernel
theorem dX9_readNumber_22 : decode cX9_readNumber 22 = .ok (.istore 7, 2) := by decide +kernel
theorem dX9_readNumber_24 : decode cX9_readNumber 24 = .ok (.iload 6, 2) := by decide +kernel
theorem dX9_readNumber_26 : decode cX9_readNumber 26 = .ok (.iload_n 2, 1) := by decide +kernel
theorem dX9_readNumber_27 : decode cX9_readNumber 27 = .ok (.if_icmp .ge 44, 3) := by decide +kernel
theorem dX9_readNumber_30 : decode cX9_readNumber 30 = .ok (.iload 6, 2) := by decide +kernel
theorem dX9_readNumber_32 : decode cX9_readNumber 32 = .ok (.iload 5, 2) := by decide +kernel
theorem dX9_readNumber_34 : decode cX9_readNumber 34 = .ok (.isub, 1) := by decide +kernel
theorem dX9_readNumber_35 : decode cX9_readNumber 35 = .ok (.bipush 9, 2) := by decide +kernel
theorem dX9_readNumber_37 : decode cX9_readNumber 37 = .ok (.if_icmp .ge 34, 3) := by decide +kernel
theorem dX9_readNumber_40 : decode cX9_readNumber 40 = .ok (.aload_n 1, 1) := by decide +kernel
theorem dX9_readNumber_41 : decode cX9_readNumber 41 = .ok (.iload 6, 2) := by decide +kernel
theorem dX9_readNumber_43 : decode cX9_readNumber 43 = .ok (.baload, 1) := by decide +kernel
theorem dX9_readNumber_44 : decode cX9_readNumber 44 = .ok (.invokestatic 47, 3) := by decide +kernel
theorem dX9_readNumber_47 : decode cX9_readNumber 47 = .ok (.ifCond .eq 24, 3) := by decide +kernel
theorem dX9_readNumber_50 : decode cX9_readNumber 50 = .ok (.iload 7, 2) := by decide +kernel
theorem dX9_readNumber_52 : decode cX9_readNumber 52 = .ok (.bipush 10, 2) := by decide +kernel
theorem dX9_readNumber_54 : decode cX9_readNumber 54 = .ok (.imul, 1) := by decide +kernel
theorem dX9_readNumber_55 : decode cX9_readNumber 55 = .ok (.aload_n 1, 1) := by decide +kernel
theorem dX9_readNumber_56 : decode cX9_readNumber 56 = .ok (.iload 6, 2) := by decide +kernel
theorem dX9_readNumber_58 : decode cX9_readNumber 58 = .ok (.baload, 1) := by decide +kernel
theorem dX9_readNumber_59 : decode cX9_readNumber 59 = .ok (.bipush 48, 2) := by decide +kernel
theorem dX9_readNumber_61 : decode cX9_readNumber 61 = .ok (.isub, 1) := by decide +kernel
theorem dX9_readNumber_62 : decode cX9_readNumber 62 = .ok (.iadd, 1) := by decide +kernel
theorem dX9_readNumber_63 : decode cX9_readNumber 63 = .ok (.istore 7, 2) := by decide +kernel
theorem dX9_readNumber_65 : decode cX9_readNumber 65 = .ok (.iinc 6 1, 3) := by decide +kernel
theorem dX9_readNumber_68 : decode cX9_readNumber 68 = .ok (.goto (-44), 3) := by decide +kernel
theorem dX9_readNumber_71 : decode cX9_readNumber 71 = .ok (.iload 6, 2) := by decide +kernel
theorem dX9_readNumber_73 : decode cX9_readNumber 73 = .ok (.iload 5, 2) := by decide +kernel
theorem dX9_readNumber_75 : decode cX9_readNumber 75 = .ok (.if_icmp .eq 29, 3) := by decide +kernel
theorem dX9_readNumber_78 : decode cX9_readNumber 78 = .ok (.iload 6, 2) := by decide +kernel
theorem dX9_readNumber_80 : decode cX9_readNumber 80 = .ok (.iload_n 2, 1) := by decide +kernel
theorem dX9_readNumber_81 : decode cX9_readNumber 81 = .ok (.if_icmp .ge 25, 3) := by decide +kernel
theorem dX9_readNumber_84 : decode cX9_readNumber 84 = .ok (.aload_n 1, 1) := by decide +kernel
theorem dX9_readNumber_85 : decode cX9_readNumber 85 = .ok (.iload 6, 2) := by decide +kernel
theorem dX9_readNumber_87 : decode cX9_readNumber 87 = .ok (.baload, 1) := by decide +kernel
theorem dX9_readNumber_88 : decode cX9_readNumber 88 = .ok (.invokestatic 26, 3) := by decide +kernel
theorem dX9_readNumber_91 : decode cX9_readNumber 91 = .ok (.ifCond .ne 13, 3) := by decide +kernel
theorem dX9_readNumber_94 : decode cX9_readNumber 94 = .ok (.aload_n 1, 1) := by decide +kernel
theorem dX9_readNumber_95 : decode cX9_readNumber 95 = .ok (.iload 6, 2) := by decide +kernel
theorem dX9_readNumber_97 : decode cX9_readNumber 97 = .ok (.baload, 1) := by decide +kernel
theorem dX9_readNumber_98 : decode cX9_readNumber 98 = .ok (.invokestatic 47, 3) := by decide +kernel
theorem dX9_readNumber_101 : decode cX9_readNumber 101 = .ok (.ifCond .eq 5, 3) := by decide +kernel
theorem dX9_readNumber_104 : decode cX9_readNumber 104 = .ok (.iconst 0, 1) := by decide +kernel
theorem dX9_readNumber_105 : decode cX9_readNumber 105 = .ok (.ireturn, 1) := by decide +kernel
theorem dX9_readNumber_106 : decode cX9_readNumber 106 = .ok (.aload_n 0, 1) := by decide +kernel
theorem dX9_readNumber_107 : decode cX9_readNumber 107 = .ok (.getfield 9, 3) := by decide +kernel
theorem dX9_readNumber_110 : decode cX9_readNumber 110 = .ok (.iload 4, 2) := by decide +kernel
theorem dX9_readNumber_112 : decode cX9_readNumber 112 = .ok (.iconst 3, 1) := by decide +kernel
theorem dX9_readNumber_113 : decode cX9_readNumber 113 = .ok (.iastore, 1) := by decide +kernel
theorem dX9_readNumber_114 : decode cX9_readNumber 114 = .ok (.aload_n 0, 1) := by decide +kernel
theorem dX9_readNumber_115 : decode cX9_readNumber 115 = .ok (.getfield 18, 3) := by decide +kernel
theorem dX9_readNumber_118 : decode cX9_readNumber 118 = .ok (.iload 4, 2) := by decide +kernel
theorem dX9_readNumber_120 : decode cX9_readNumber 120 = .ok (.iload 5, 2) := by decide +kernel
theorem dX9_readNumber_122 : decode cX9_readNumber 122 = .ok (.iload_n 3, 1) := by decide +kernel
theorem dX9_readNumber_123 : decode cX9_readNumber 123 = .ok (.if_icmp .le 10, 3) := by decide +kernel
theorem dX9_readNumber_126 : decode cX9_readNumber 126 = .ok (.iload 7, 2) := by decide +kernel
theorem dX9_readNumber_128 : decode cX9_readNumber 128 = .ok (.ineg, 1) := by decide +kernel
theorem dX9_readNumber_129 : decode cX9_readNumber 129 = .ok (.i2l, 1) := by decide +kernel
theorem dX9_readNumber_130 : decode cX9_readNumber 130 = .ok (.goto 6, 3) := by decide +kernel
theorem dX9_readNumber_133 : decode cX9_readNumber 133 = .ok (.iload 7, 2) := by decide +kernel
theorem dX9_readNumber_135 : decode cX9_readNumber 135 = .ok (.i2l, 1) := by decide +kernel
theorem dX9_readNumber_136 : decode cX9_readNumber 136 = .ok (.lastore, 1) := by decide +kernel
theorem dX9_readNumber_137 : decode cX9_readNumber 137 = .ok (.iload 6, 2) := by decide +kernel
theorem dX9_readNumber_139 : decode cX9_readNumber 139 = .ok (.iload_n 3, 1) := by decide +kernel
theorem dX9_readNumber_140 : decode cX9_readNumber 140 = .ok (.isub, 1) := by decide +kernel
theorem dX9_readNumber_141 : decode cX9_readNumber 141 = .ok (.ireturn, 1) := by decide +kernel
theorem dX6_init_0 : decode cX6_init 0 = .ok (.aload_n 0, 1) := by decide +kernel
theorem dX6_init_1 : decode cX6_init 1 = .ok (.invokespecial 3, 3) := by decide +kernel
theorem dX6_init_4 : decode cX6_init 4 = .ok (.aload_n 0, 1) := by decide +kernel
theorem dX6_init_5 : decode cX6_init 5 = .ok (.aload_n 1, 1) := by decide +kernel
theorem dX6_init_6 : decode cX6_init 6 = .ok (.putfield 9, 3) := by decide +kernel
theorem dX6_init_9 : decode cX6_init 9 = .ok (.aload_n 0, 1) := by decide +kernel
theorem dX6_init_10 : decode cX6_init 10 = .ok (.aload_n 2, 1) := by decide +kernel
theorem dX6_init_11 : decode cX6_init 11 = .ok (.putfield 15, 3) := by decide +kernel
theorem dX6_init_14 : decode cX6_init 14 = .ok (.aload_n 0, 1) := by decide +kernel
theorem dX6_init_15 : decode cX6_init 15 = .ok (.new 19, 3) := by decide +kernel
theorem dX6_init_18 : decode cX6_init 18 = .ok (.dup, 1) := by decide +kernel
theorem dX6_init_19 : decode cX6_init 19 = .ok (.invokespecial 21, 3) := by decide +kernel
theorem dX6_init_22 : decode cX6_init 22 = .ok (.putfield 22, 3) := by decide +kernel
theorem dX6_init_25 : decode cX6_init 25 = .ok (.aload_n 0, 1) := by decide +kernel
theorem dX6_init_26 : decode cX6_init 26 = .ok (.bipush 8, 2) := by decide +kernel
theorem dX6_init_28 : decode cX6_init 28 = .ok (.newarray .int, 2) := by decide +kernel
theorem dX6_init_30 : decode cX6_init 30 = .ok (.putfield 25, 3) := by decide +kernel
theorem dX6_init_33 : decode cX6_init 33 = .ok (.aload_n 0, 1) := by decide +kernel
theorem dX6_init_34 : decode cX6_init 34 = .ok (.bipush 40, 2) := by decide +kernel
theorem dX6_init_36 : decode cX6_init 36 = .ok (.newarray .int, 2) := by decide +kernel
theorem dX6_init_38 : decode cX6_init 38 = .ok (.putfield 29, 3) := by decide +kernel
theorem dX6_init_41 : decode cX6_init 41 = .ok (.aload_n 0, 1) := by decide +kernel
theorem dX6_init_42 : decode cX6_init 42 = .ok (.bipush 40, 2) := by decide +kernel
theorem dX6_init_44 : decode cX6_init 44 = .ok (.newarray .int, 2) := by decide +kernel
theorem dX6_init_46 : decode cX6_init 46 = .ok (.putfield 32, 3) := by decide +kernel
theorem dX6_init_49 : decode cX6_init 49 = .ok (.aload_n 0, 1) := by decide +kernel
theorem dX6_init_50 : decode cX6_init 50 = .ok (.iconst (-1), 1) := by decide +kernel
theorem dX6_init_51 : decode cX6_init 51 = .ok (.putfield 35, 3) := by decide +kernel
theorem dX6_init_54 : decode cX6_init 54 = .ok (.aload_n 0, 1) := by decide +kernel
theorem dX6_init_55 : decode cX6_init 55 = .ok (.iconst 0, 1) := by decide +kernel
theorem dX6_init_56 : decode cX6_init 56 = .ok (.putfield 39, 3) := by decide +kernel
theorem dX6_init_59 : decode cX6_init 59 = .ok (.aload_n 0, 1) := by decide +kernel
theorem dX6_init_60 : decode cX6_init 60 = .ok (.aload_n 1, 1) := by decide +kernel
theorem dX6_init_61 : decode cX6_init 61 = .ok (.getfield 42, 3) := by decide +kernel
theorem dX6_init_64 : decode cX6_init 64 = .ok (.iconst 0, 1) := by decide +kernel
theorem dX6_init_65 : decode cX6_init 65 = .ok (.iaload, 1) := by decide +kernel
theorem dX6_init_66 : decode cX6_init 66 = .ok (.putfield 47, 3) := by decide +kernel
theorem dX6_init_69 : decode cX6_init 69 = .ok (.aload_n 0, 1) := by decide +kernel
theorem dX6_init_70 : decode cX6_init 70 = .ok (.aload_n 1, 1) := by decide +kernel
theorem dX6_init_71 : decode cX6_init 71 = .ok (.getfield 50, 3) := by decide +kernel
theorem dX6_init_74 : decode cX6_init 74 = .ok (.iconst 0, 1) := by decide +kernel
theorem dX6_init_75 : decode cX6_init 75 = .ok (.laload, 1) := by decide +kernel
theorem dX6_init_76 : decode cX6_init 76 = .ok (.putfield 54, 3) := by decide +kernel
theorem dX6_init_79 : decode cX6_init 79 = .ok (.return_, 1) := by decide +kernel
theorem dX6_read_0 : decode cX6_read 0 = .ok (.iconst 1, 1) := by decide +kernel
theorem dX6_read_1 : decode cX6_read 1 = .ok (.istore_n 1, 1) := by decide +kernel
theorem dX6_read_2 : decode cX6_read 2 = .ok (.iconst 0, 1) := by decide +kernel
theorem dX6_read_3 : decode cX6_read 3 = .ok (.istore_n 2, 1) := by decide +kernel
theorem dX6_read_4 : decode cX6_read 4 = .ok (.iload_n 2, 1) := by decide +kernel
theorem dX6_read_5 : decode cX6_read 5 = .ok (.sipush 3000, 3) := by decide +kernel
theorem dX6_read_8 : decode cX6_read 8 = .ok (.if_icmp .gt 106, 3) := by decide +kernel
theorem dX6_read_11 : decode cX6_read 11 = .ok (.iload_n 1, 1) := by decide +kernel
theorem dX6_read_12 : decode cX6_read 12 = .ok (.ifCond .eq 102, 3) := by decide +kernel
theorem dX6_read_15 : decode cX6_read 15 = .ok (.aload_n 0, 1) := by decide +kernel
theorem dX6_read_16 : decode cX6_read 16 = .ok (.getfield 47, 3) := by decide +kernel
theorem dX6_read_19 : decode cX6_read 19 = .ok (.ifCond .eq 95, 3) := by decide +kernel
theorem dX6_read_22 : decode cX6_read 22 = .ok (.aload_n 0, 1) := by decide +kernel
theorem dX6_read_23 : decode cX6_read 23 = .ok (.iconst 0, 1) := by decide +kernel
theorem dX6_read_24 : decode cX6_read 24 = .ok (.invokevirtual 64, 3) := by decide +kernel
theorem dX6_read_27 : decode cX6_read 27 = .ok (.ifCond .eq 11, 3) := by decide +kernel
theorem dX6_read_30 : decode cX6_read 30 = .ok (.aload_n 0, 1) := by decide +kernel
theorem dX6_read_31 : decode cX6_read 31 = .ok (.invokevirtual 68, 3) := by decide +kernel
theorem dX6_read_34 : decode cX6_read 34 = .ok (.istore_n 1, 1) := by decide +kernel
theorem dX6_read_35 : decode cX6_read 35 = .ok (.goto 73, 3) := by decide +kernel
theorem dX6_read_38 : decode cX6_read 38 = .ok (.aload_n 0, 1) := by decide +kernel
theorem dX6_read_39 : decode cX6_read 39 = .ok (.iconst 1, 1) := by decide +kernel
theorem dX6_read_40 : decode cX6_read 40 = .ok (.invokevirtual 64, 3) := by decide +kernel
theorem dX6_read_43 : decode cX6_read 43 = .ok (.ifCond .eq 11, 3) := by decide +kernel
theorem dX6_read_46 : decode cX6_read 46 = .ok (.aload_n 0, 1) := by decide +kernel
theorem dX6_read_47 : decode cX6_read 47 = .ok (.invokevirtual 72, 3) := by decide +kernel
theorem dX6_read_50 : decode cX6_read 50 = .ok (.istore_n 1, 1) := by decide +kernel
theorem dX6_read_51 : decode cX6_read 51 = .ok (.goto 57, 3) := by decide +kernel
theorem dX6_read_54 : decode cX6_read 54 = .ok (.aload_n 0, 1) := by decide +kernel
theorem dX6_read_55 : decode cX6_read 55 = .ok (.iconst 2, 1) := by decide +kernel
theorem dX6_read_56 : decode cX6_read 56 = .ok (.invokevirtual 64, 3) := by decide +kernel
theorem dX6_read_59 : decode cX6_read 59 = .ok (.ifCond .eq 11, 3) := by decide +kernel
theorem dX6_read_62 : decode cX6_read 62 = .ok (.aload_n 0, 1) := by decide +kernel
theorem dX6_read_63 : decode cX6_read 63 = .ok (.invokevirtual 75, 3) := by decide +kernel
theorem dX6_read_66 : decode cX6_read 66 = .ok (.istore_n 1, 1) := by decide +kernel
theorem dX6_read_67 : decode cX6_read 67 = .ok (.goto 41, 3) := by decide +kernel
theorem dX6_read_70 : decode cX6_read 70 = .ok (.aload_n 0, 1) := by decide +kernel
theorem dX6_read_71 : decode cX6_read 71 = .ok (.iconst 4, 1) := by decide +kernel
theorem dX6_read_72 : decode cX6_read 72 = .ok (.invokevirtual 64, 3) := by decide +kernel
theorem dX6_read_75 : decode cX6_read 75 = .ok (.ifCond .eq 11, 3) := by decide +kernel
theorem dX6_read_78 : decode cX6_read 78 = .ok (.aload_n 0, 1) := by decide +kernel
theorem dX6_read_79 : decode cX6_read 79 = .ok (.invokevirtual 78, 3) := by decide +kernel
theorem dX6_read_82 : decode cX6_read 82 = .ok (.istore_n 1, 1) := by decide +kernel
theorem dX6_read_83 : decode cX6_read 83 = .ok (.goto 25, 3) := by decide +kernel
theorem dX6_read_86 : decode cX6_read 86 = .ok (.aload_n 0, 1) := by decide +kernel
theorem dX6_read_87 : decode cX6_read 87 = .ok (.iconst 5, 1) := by decide +kernel
theorem dX6_read_88 : decode cX6_read 88 = .ok (.invokevirtual 64, 3) := by decide +kernel
theorem dX6_read_91 : decode cX6_read 91 = .ok (.ifCond .eq 11, 3) := by decide +kernel
theorem dX6_read_94 : decode cX6_read 94 = .ok (.aload_n 0, 1) := by decide +kernel
theorem dX6_read_95 : decode cX6_read 95 = .ok (.invokevirtual 81, 3) := by decide +kernel
theorem dX6_read_98 : decode cX6_read 98 = .ok (.istore_n 1, 1) := by decide +kernel
theorem dX6_read_99 : decode cX6_read 99 = .ok (.goto 9, 3) := by decide +kernel
theorem dX6_read_102 : decode cX6_read 102 = .ok (.aload_n 0, 1) := by decide +kernel
theorem dX6_read_103 : decode cX6_read 103 = .ok (.iconst 2, 1) := by decide +kernel
theorem dX6_read_104 : decode cX6_read 104 = .ok (.invokevirtual 84, 3) := by decide +kernel
theorem dX6_read_107 : decode cX6_read 107 = .ok (.istore_n 1, 1) := by decide +kernel
theorem dX6_read_108 : decode cX6_read 108 = .ok (.iinc 2 1, 3) := by decide +kernel
theorem dX6_read_111 : decode cX6_read 111 = .ok (.goto (-107), 3) := by decide +kernel
theorem dX6_read_114 : decode cX6_read 114 = .ok (.return_, 1) := by decide +kernel
theorem dX6_isWord_0 : decode cX6_isWord 0 = .ok (.aload_n 0, 1) := by decide +kernel
theorem dX6_isWord_1 : decode cX6_isWord 1 = .ok (.getfield 47, 3) := by decide +kernel
theorem dX6_isWord_4 : decode cX6_isWord 4 = .ok (.iconst 5, 1) := by decide +kernel
theorem dX6_isWord_5 : decode cX6_isWord 5 = .ok (.if_icmp .ne 17, 3) := by decide +kernel
theorem dX6_isWord_8 : decode cX6_isWord 8 = .ok (.aload_n 0, 1) := by decide +kernel
theorem dX6_isWord_9 : decode cX6_isWord 9 = .ok (.getfield 54, 3) := by decide +kernel
theorem dX6_isWord_12 : decode cX6_isWord 12 = .ok (.iload_n 1, 1) := by decide +kernel
theorem dX6_isWord_13 : decode cX6_isWord 13 = .ok (.i2l, 1) := by decide +kernel
theorem dX6_isWord_14 : decode cX6_isWord 14 = .ok (.lcmp, 1) := by decide +kernel
theorem dX6_isWord_15 : decode cX6_isWord 15 = .ok (.ifCond .ne 7, 3) := by decide +kernel
theorem dX6_isWord_18 : decode cX6_isWord 18 = .ok (.iconst 1, 1) := by decide +kernel
theorem dX6_isWord_19 : decode cX6_isWord 19 = .ok (.goto 4, 3) := by decide +kernel
theorem dX6_isWord_22 : decode cX6_isWord 22 = .ok (.iconst 0, 1) := by decide +kernel
theorem dX6_isWord_23 : decode cX6_isWord 23 = .ok (.ireturn, 1) := by decide +kernel
theorem dX6_readGroup_0 : decode cX6_readGroup 0 = .ok (.aload_n 0, 1) := by decide +kernel
theorem dX6_readGroup_1 : decode cX6_readGroup 1 = .ok (.getfield 22, 3) := by decide +kernel
theorem dX6_readGroup_4 : decode cX6_readGroup 4 = .ok (.getfield 108, 3) := by decide +kernel
theorem dX6_readGroup_7 : decode cX6_readGroup 7 = .ok (.istore_n 1, 1) := by decide +kernel
theorem dX6_readGroup_8 : decode cX6_readGroup 8 = .ok (.aload_n 0, 1) := by decide +kernel
theorem dX6_readGroup_9 : decode cX6_readGroup 9 = .ok (.iconst 1, 1) := by decide +kernel
theorem dX6_readGroup_10 : decode cX6_readGroup 10 = .ok (.iload_n 1, 1) := by decide +kernel
theorem dX6_readGroup_11 : decode cX6_readGroup 11 = .ok (.bipush 8, 2) := by decide +kernel
theorem dX6_readGroup_13 : decode cX6_readGroup 13 = .ok (.invokevirtual 111, 3) := by decide +kernel
theorem dX6_readGroup_16 : decode cX6_readGroup 16 = .ok (.ifCond .ne 5, 3) := by decide +kernel
theorem dX6_readGroup_19 : decode cX6_readGroup 19 = .ok (.iconst 0, 1) := by decide +kernel
theorem dX6_readGroup_20 : decode cX6_readGroup 20 = .ok (.ireturn, 1) := by decide +kernel
theorem dX6_readGroup_21 : decode cX6_readGroup 21 = .ok (.aload_n 0, 1) := by decide +kernel
theorem dX6_readGroup_22 : decode cX6_readGroup 22 = .ok (.iconst 0, 1) := by decide +kernel
theorem dX6_readGroup_23 : decode cX6_readGroup 23 = .ok (.putfield 101, 3) := by decide +kernel
theorem dX6_readGroup_26 : decode cX6_readGroup 26 = .ok (.aload_n 0, 1) := by decide +kernel
theorem dX6_readGroup_27 : decode cX6_readGroup 27 = .ok (.getfield 47, 3) := by decide +kernel
theorem dX6_readGroup_30 : decode cX6_readGroup 30 = .ok (.bipush 58, 2) := by decide +kernel
theorem dX6_readGroup_32 : decode cX6_readGroup 32 = .ok (.if_icmp .ne 17, 3) := by decide +kernel
theorem dX6_readGroup_35 : decode cX6_readGroup 35 = .ok (.aload_n 0, 1) := by decide +kernel
theorem dX6_readGroup_36 : decode cX6_readGroup 36 = .ok (.invokevirtual 87, 3) := by decide +kernel
theorem dX6_readGroup_39 : decode cX6_readGroup 39 = .ok (.aload_n 0, 1) := by decide +kernel
theorem dX6_readGroup_40 : decode cX6_readGroup 40 = .ok (.iload_n 1, 1) := by decide +kernel
theorem dX6_readGroup_41 : decode cX6_readGroup 41 = .ok (.invokevirtual 115, 3) := by decide +kernel
theorem dX6_readGroup_44 : decode cX6_readGroup 44 = .ok (.ifCond .ne 5, 3) := by decide +kernel
theorem dX6_readGroup_47 : decode cX6_readGroup 47 = .ok (.iconst 0, 1) := by decide +kernel
theorem dX6_readGroup_48 : decode cX6_readGroup 48 = .ok (.ireturn, 1) := by decide +kernel
theorem dX6_readGroup_49 : decode cX6_readGroup 49 = .ok (.aload_n 0, 1) := by decide +kernel
theorem dX6_readGroup_50 : decode cX6_readGroup 50 = .ok (.getfield 22, 3) := by decide +kernel
theorem dX6_readGroup_53 : decode cX6_readGroup 53 = .ok (.aload_n 0, 1) := by decide +kernel
theorem dX6_readGroup_54 : decode cX6_readGroup 54 = .ok (.getfield 25, 3) := by decide +kernel
theorem dX6_readGroup_57 : decode cX6_readGroup 57 = .ok (.aload_n 0, 1) := by decide +kernel
theorem dX6_readGroup_58 : decode cX6_readGroup 58 = .ok (.getfield 101, 3) := by decide +kernel
theorem dX6_readGroup_61 : decode cX6_readGroup 61 = .ok (.invokevirtual 118, 3) := by decide +kernel
theorem dX6_readGroup_64 : decode cX6_readGroup 64 = .ok (.aload_n 0, 1) := by decide +kernel
theorem dX6_readGroup_65 : decode cX6_readGroup 65 = .ok (.bipush 59, 2) := by decide +kernel
theorem dX6_readGroup_67 : decode cX6_readGroup 67 = .ok (.invokevirtual 122, 3) := by decide +kernel
theorem dX6_readGroup_70 : decode cX6_readGroup 70 = .ok (.ireturn, 1) := by decide +kernel
theorem dX6_readHead_0 : decode cX6_readHead 0 = .ok (.iload_n 2, 1) := by decide +kernel
theorem dX6_readHead_1 : decode cX6_readHead 1 = .ok (.iload_n 3, 1) := by decide +kernel
theorem dX6_readHead_2 : decode cX6_readHead 2 = .ok (.if_icmp .lt 9, 3) := by decide +kernel
theorem dX6_readHead_5 : decode cX6_readHead 5 = .ok (.aload_n 0, 1) := by decide +kernel
theorem dX6_readHead_6 : decode cX6_readHead 6 = .ok (.iconst 2, 1) := by decide +kernel
theorem dX6_readHead_7 : decode cX6_readHead 7 = .ok (.invokevirtual 84, 3) := by decide +kernel
theorem dX6_readHead_10 : decode cX6_readHead 10 = .ok (.ireturn, 1) := by decide +kernel
theorem dX6_readHead_11 : decode cX6_readHead 11 = .ok (.aload_n 0, 1) := by decide +kernel
theorem dX6_readHead_12 : decode cX6_readHead 12 = .ok (.invokevirtual 87, 3) := by decide +kernel
theorem dX6_readHead_15 : decode cX6_readHead 15 = .ok (.aload_n 0, 1) := by decide +kernel
theorem dX6_readHead_16 : decode cX6_readHead 16 = .ok (.getfield 47, 3) := by decide +kernel
theorem dX6_readHead_19 : decode cX6_readHead 19 = .ok (.iconst 2, 1) := by decide +kernel
theorem dX6_readHead_20 : decode cX6_readHead 20 = .ok (.if_icmp .eq 9, 3) := by decide +kernel
theorem dX6_readHead_23 : decode cX6_readHead 23 = .ok (.aload_n 0, 1) := by decide +kernel
theorem dX6_readHead_24 : decode cX6_readHead 24 = .ok (.iconst 2, 1) := by decide +kernel
theorem dX6_readHead_25 : decode cX6_readHead 25 = .ok (.invokevirtual 84, 3) := by decide +kernel
theorem dX6_readHead_28 : decode cX6_readHead 28 = .ok (.ireturn, 1) := by decide +kernel
theorem dX6_readHead_29 : decode cX6_readHead 29 = .ok (.aload_n 0, 1) := by decide +kernel
theorem dX6_readHead_30 : decode cX6_readHead 30 = .ok (.getfield 54, 3) := by decide +kernel
theorem dX6_readHead_33 : decode cX6_readHead 33 = .ok (.invokestatic 90, 3) := by decide +kernel
theorem dX6_readHead_36 : decode cX6_readHead 36 = .ok (.ifCond .ne 18, 3) := by decide +kernel
theorem dX6_readHead_39 : decode cX6_readHead 39 = .ok (.aload_n 0, 1) := by decide +kernel
theorem dX6_readHead_40 : decode cX6_readHead 40 = .ok (.getfield 22, 3) := by decide +kernel
theorem dX6_readHead_43 : decode cX6_readHead 43 = .ok (.aload_n 0, 1) := by decide +kernel
theorem dX6_readHead_44 : decode cX6_readHead 44 = .ok (.getfield 54, 3) := by decide +kernel
theorem dX6_readHead_47 : decode cX6_readHead 47 = .ok (.invokevirtual 94, 3) := by decide +kernel
theorem dX6_readHead_50 : decode cX6_readHead 50 = .ok (.iconst (-1), 1) := by decide +kernel
theorem dX6_readHead_51 : decode cX6_readHead 51 = .ok (.if_icmp .eq 9, 3) := by decide +kernel
theorem dX6_readHead_54 : decode cX6_readHead 54 = .ok (.aload_n 0, 1) := by decide +kernel
theorem dX6_readHead_55 : decode cX6_readHead 55 = .ok (.iconst 3, 1) := by decide +kernel
theorem dX6_readHead_56 : decode cX6_readHead 56 = .ok (.invokevirtual 84, 3) := by decide +kernel
theorem dX6_readHead_59 : decode cX6_readHead 59 = .ok (.ireturn, 1) := by decide +kernel
theorem dX6_readHead_60 : decode cX6_readHead 60 = .ok (.aload_n 0, 1) := by decide +kernel
theorem dX6_readHead_61 : decode cX6_readHead 61 = .ok (.getfield 22, 3) := by decide +kernel
theorem dX6_readHead_64 : decode cX6_readHead 64 = .ok (.aload_n 0, 1) := by decide +kernel
theorem dX6_readHead_65 : decode cX6_readHead 65 = .ok (.getfield 54, 3) := by decide +kernel
theorem dX6_readHead_68 : decode cX6_readHead 68 = .ok (.iload_n 1, 1) := by decide +kernel
theorem dX6_readHead_69 : decode cX6_readHead 69 = .ok (.bipush 100, 2) := by decide +kernel
theorem dX6_readHead_71 : decode cX6_readHead 71 = .ok (.imul, 1) := by decide +kernel
theorem dX6_readHead_72 : decode cX6_readHead 72 = .ok (.iload_n 2, 1) := by decide +kernel
theorem dX6_readHead_73 : decode cX6_readHead 73 = .ok (.iadd, 1) := by decide +kernel
theorem dX6_readHead_74 : decode cX6_readHead 74 = .ok (.invokevirtual 97, 3) := by decide +kernel
theorem dX6_readHead_77 : decode cX6_readHead 77 = .ok (.aload_n 0, 1) := by decide +kernel
theorem dX6_readHead_78 : decode cX6_readHead 78 = .ok (.invokevirtual 87, 3) := by decide +kernel
theorem dX6_readHead_81 : decode cX6_readHead 81 = .ok (.iconst 1, 1) := by decide +kernel
theorem dX6_readHead_82 : decode cX6_readHead 82 = .ok (.ireturn, 1) := by decide +kernel
theorem dX6_wrong_0 : decode cX6_wrong 0 = .ok (.aload_n 0, 1) := by decide +kernel
theorem dX6_wrong_1 : decode cX6_wrong 1 = .ok (.aload_n 0, 1) := by decide +kernel
theorem dX6_wrong_2 : decode cX6_wrong 2 = .ok (.getfield 47, 3) := by decide +kernel
theorem dX6_wrong_5 : decode cX6_wrong 5 = .ok (.iconst 1, 1) := by decide +kernel
theorem dX6_wrong_6 : decode cX6_wrong 6 = .ok (.if_icmp .ne 7, 3) := by decide +kernel
theorem dX6_wrong_9 : decode cX6_wrong 9 = .ok (.iconst 1, 1) := by decide +kernel
theorem dX6_wrong_10 : decode cX6_wrong 10 = .ok (.goto 4, 3) := by decide +kernel
theorem dX6_wrong_13 : decode cX6_wrong 13 = .ok (.iload_n 1, 1) := by decide +kernel
theorem dX6_wrong_14 : decode cX6_wrong 14 = .ok (.putfield 58, 3) := by decide +kernel
theorem dX6_wrong_17 : decode cX6_wrong 17 = .ok (.aload_n 0, 1) := by decide +kernel
theorem dX6_wrong_18 : decode cX6_wrong 18 = .ok (.aload_n 0, 1) := by decide +kernel
theorem dX6_wrong_19 : decode cX6_wrong 19 = .ok (.getfield 9, 3) := by decide +kernel
theorem dX6_wrong_22 : decode cX6_wrong 22 = .ok (.getfield 61, 3) := by decide +kernel
theorem dX6_wrong_25 : decode cX6_wrong 25 = .ok (.aload_n 0, 1) := by decide +kernel
theorem dX6_wrong_26 : decode cX6_wrong 26 = .ok (.getfield 39, 3) := by decide +kernel
theorem dX6_wrong_29 : decode cX6_wrong 29 = .ok (.iaload, 1) := by decide +kernel
theorem dX6_wrong_30 : decode cX6_wrong 30 = .ok (.putfield 35, 3) := by decide +kernel
theorem dX6_wrong_33 : decode cX6_wrong 33 = .ok (.iconst 0, 1) := by decide +kernel
theorem dX6_wrong_34 : decode cX6_wrong 34 = .ok (.ireturn, 1) := by decide +kernel
theorem dX6_advance_0 : decode cX6_advance 0 = .ok (.aload_n 0, 1) := by decide +kernel
theorem dX6_advance_1 : decode cX6_advance 1 = .ok (.getfield 47, 3) := by decide +kernel
theorem dX6_advance_4 : decode cX6_advance 4 = .ok (.ifCond .eq 63, 3) := by decide +kernel
theorem dX6_advance_7 : decode cX6_advance 7 = .ok (.aload_n 0, 1) := by decide +kernel
theorem dX6_advance_8 : decode cX6_advance 8 = .ok (.getfield 47, 3) := by decide +kernel
theorem dX6_advance_11 : decode cX6_advance 11 = .ok (.iconst 1, 1) := by decide +kernel
theorem dX6_advance_12 : decode cX6_advance 12 = .ok (.if_icmp .eq 55, 3) := by decide +kernel
theorem dX6_advance_15 : decode cX6_advance 15 = .ok (.aload_n 0, 1) := by decide +kernel
theorem dX6_advance_16 : decode cX6_advance 16 = .ok (.getfield 39, 3) := by decide +kernel
theorem dX6_advance_19 : decode cX6_advance 19 = .ok (.sipush 3000, 3) := by decide +kernel
theorem dX6_advance_22 : decode cX6_advance 22 = .ok (.if_icmp .ge 45, 3) := by decide +kernel
theorem dX6_advance_25 : decode cX6_advance 25 = .ok (.aload_n 0, 1) := by decide +kernel
theorem dX6_advance_26 : decode cX6_advance 26 = .ok (.dup, 1) := by decide +kernel
theorem dX6_advance_27 : decode cX6_advance 27 = .ok (.getfield 39, 3) := by decide +kernel
theorem dX6_advance_30 : decode cX6_advance 30 = .ok (.iconst 1, 1) := by decide +kernel
theorem dX6_advance_31 : decode cX6_advance 31 = .ok (.iadd, 1) := by decide +kernel
theorem dX6_advance_32 : decode cX6_advance 32 = .ok (.putfield 39, 3) := by decide +kernel
theorem dX6_advance_35 : decode cX6_advance 35 = .ok (.aload_n 0, 1) := by decide +kernel
theorem dX6_advance_36 : decode cX6_advance 36 = .ok (.aload_n 0, 1) := by decide +kernel
theorem dX6_advance_37 : decode cX6_advance 37 = .ok (.getfield 9, 3) := by decide +kernel
theorem dX6_advance_40 : decode cX6_advance 40 = .ok (.getfield 42, 3) := by decide +kernel
theorem dX6_advance_43 : decode cX6_advance 43 = .ok (.aload_n 0, 1) := by decide +kernel
theorem dX6_advance_44 : decode cX6_advance 44 = .ok (.getfield 39, 3) := by decide +kernel
theorem dX6_advance_47 : decode cX6_advance 47 = .ok (.iaload, 1) := by decide +kernel
theorem dX6_advance_48 : decode cX6_advance 48 = .ok (.putfield 47, 3) := by decide +kernel
theorem dX6_advance_51 : decode cX6_advance 51 = .ok (.aload_n 0, 1) := by decide +kernel
theorem dX6_advance_52 : decode cX6_advance 52 = .ok (.aload_n 0, 1) := by decide +kernel
theorem dX6_advance_53 : decode cX6_advance 53 = .ok (.getfield 9, 3) := by decide +kernel
theorem dX6_advance_56 : decode cX6_advance 56 = .ok (.getfield 50, 3) := by decide +kernel
theorem dX6_advance_59 : decode cX6_advance 59 = .ok (.aload_n 0, 1) := by decide +kernel
theorem dX6_advance_60 : decode cX6_advance 60 = .ok (.getfield 39, 3) := by decide +kernel
theorem dX6_advance_63 : decode cX6_advance 63 = .ok (.laload, 1) := by decide +kernel
theorem dX6_advance_64 : decode cX6_advance 64 = .ok (.putfield 54, 3) := by decide +kernel
theorem dX6_advance_67 : decode cX6_advance 67 = .ok (.return_, 1) := by decide +kernel
theorem dX0_builtIn_0 : decode cX0_builtIn 0 = .ok (.iconst 0, 1) := by decide +kernel
theorem dX0_builtIn_1 : decode cX0_builtIn 1 = .ok (.istore_n 2, 1) := by decide +kernel
theorem dX0_builtIn_2 : decode cX0_builtIn 2 = .ok (.iload_n 2, 1) := by decide +kernel
theorem dX0_builtIn_3 : decode cX0_builtIn 3 = .ok (.getstatic 54, 3) := by decide +kernel
theorem dX0_builtIn_6 : decode cX0_builtIn 6 = .ok (.arraylength, 1) := by decide +kernel
theorem dX0_builtIn_7 : decode cX0_builtIn 7 = .ok (.if_icmp .ge 23, 3) := by decide +kernel
theorem dX0_builtIn_10 : decode cX0_builtIn 10 = .ok (.getstatic 54, 3) := by decide +kernel
theorem dX0_builtIn_13 : decode cX0_builtIn 13 = .ok (.iload_n 2, 1) := by decide +kernel
theorem dX0_builtIn_14 : decode cX0_builtIn 14 = .ok (.laload, 1) := by decide +kernel
theorem dX0_builtIn_15 : decode cX0_builtIn 15 = .ok (.lload_n 0, 1) := by decide +kernel
theorem dX0_builtIn_16 : decode cX0_builtIn 16 = .ok (.lcmp, 1) := by decide +kernel
theorem dX0_builtIn_17 : decode cX0_builtIn 17 = .ok (.ifCond .ne 7, 3) := by decide +kernel
theorem dX0_builtIn_20 : decode cX0_builtIn 20 = .ok (.iload_n 2, 1) := by decide +kernel
theorem dX0_builtIn_21 : decode cX0_builtIn 21 = .ok (.iconst 1, 1) := by decide +kernel
theorem dX0_builtIn_22 : decode cX0_builtIn 22 = .ok (.iadd, 1) := by decide +kernel
theorem dX0_builtIn_23 : decode cX0_builtIn 23 = .ok (.ireturn, 1) := by decide +kernel
theorem dX0_builtIn_24 : decode cX0_builtIn 24 = .ok (.iinc 2 1, 3) := by decide +kernel
theorem dX0_builtIn_27 : decode cX0_builtIn 27 = .ok (.goto (-25), 3) := by decide +kernel
theorem dX0_builtIn_30 : decode cX0_builtIn 30 = .ok (.iconst 0, 1) := by decide +kernel
theorem dX0_builtIn_31 : decode cX0_builtIn 31 = .ok (.ireturn, 1) := by decide +kernel
theorem dX0_find_0 : decode cX0_find 0 = .ok (.iconst 0, 1) := by decide +kernel
theorem dX0_find_1 : decode cX0_find 1 = .ok (.istore_n 3, 1) := by decide +kernel
theorem dX0_find_2 : decode cX0_find 2 = .ok (.iload_n 3, 1) := by decide +kernel
theorem dX0_find_3 : decode cX0_find 3 = .ok (.aload_n 0, 1) := by decide +kernel
theorem dX0_find_4 : decode cX0_find 4 = .ok (.getfield 49, 3) := by decide +kernel
theorem dX0_find_7 : decode cX0_find 7 = .ok (.if_icmp .ge 27, 3) := by decide +kernel
theorem dX0_find_10 : decode cX0_find 10 = .ok (.aload_n 0, 1) := by decide +kernel
theorem dX0_find_11 : decode cX0_find 11 = .ok (.getfield 36, 3) := by decide +kernel
theorem dX0_find_14 : decode cX0_find 14 = .ok (.iload_n 3, 1) := by decide +kernel
theorem dX0_find_15 : decode cX0_find 15 = .ok (.laload, 1) := by decide +kernel
theorem dX0_find_16 : decode cX0_find 16 = .ok (.lload_n 1, 1) := by decide +kernel
theorem dX0_find_17 : decode cX0_find 17 = .ok (.lcmp, 1) := by decide +kernel
theorem dX0_find_18 : decode cX0_find 18 = .ok (.ifCond .ne 10, 3) := by decide +kernel
theorem dX0_find_21 : decode cX0_find 21 = .ok (.aload_n 0, 1) := by decide +kernel
theorem dX0_find_22 : decode cX0_find 22 = .ok (.getfield 40, 3) := by decide +kernel
theorem dX0_find_25 : decode cX0_find 25 = .ok (.iload_n 3, 1) := by decide +kernel
theorem dX0_find_26 : decode cX0_find 26 = .ok (.iaload, 1) := by decide +kernel
theorem dX0_find_27 : decode cX0_find 27 = .ok (.ireturn, 1) := by decide +kernel
theorem dX0_find_28 : decode cX0_find 28 = .ok (.iinc 3 1, 3) := by decide +kernel
theorem dX0_find_31 : decode cX0_find 31 = .ok (.goto (-29), 3) := by decide +kernel
theorem dX0_find_34 : decode cX0_find 34 = .ok (.iconst (-1), 1) := by decide +kernel
theorem dX0_find_35 : decode cX0_find 35 = .ok (.ireturn, 1) := by decide +kernel
theorem dX0_tell_0 : decode cX0_tell 0 = .ok (.aload_n 0, 1) := by decide +kernel
theorem dX0_tell_1 : decode cX0_tell 1 = .ok (.getfield 49, 3) := by decide +kernel
theorem dX0_tell_4 : decode cX0_tell 4 = .ok (.bipush 62, 2) := by decide +kernel
theorem dX0_tell_6 : decode cX0_tell 6 = .ok (.if_icmp .ge 33, 3) := by decide +kernel
theorem dX0_tell_9 : decode cX0_tell 9 = .ok (.aload_n 0, 1) := by decide +kernel
theorem dX0_tell_10 : decode cX0_tell 10 = .ok (.getfield 36, 3) := by decide +kernel
theorem dX0_tell_13 : decode cX0_tell 13 = .ok (.aload_n 0, 1) := by decide +kernel
theorem dX0_tell_14 : decode cX0_tell 14 = .ok (.getfield 49, 3) := by decide +kernel
theorem dX0_tell_17 : decode cX0_tell 17 = .ok (.lload_n 1, 1) := by decide +kernel
theorem dX0_tell_18 : decode cX0_tell 18 = .ok (.lastore, 1) := by decide +kernel
theorem dX0_tell_19 : decode cX0_tell 19 = .ok (.aload_n 0, 1) := by decide +kernel
theorem dX0_tell_20 : decode cX0_tell 20 = .ok (.getfield 40, 3) := by decide +kernel
theorem dX0_tell_23 : decode cX0_tell 23 = .ok (.aload_n 0, 1) := by decide +kernel
theorem dX0_tell_24 : decode cX0_tell 24 = .ok (.getfield 49, 3) := by decide +kernel
theorem dX0_tell_27 : decode cX0_tell 27 = .ok (.iload_n 3, 1) := by decide +kernel
theorem dX0_tell_28 : decode cX0_tell 28 = .ok (.iastore, 1) := by decide +kernel
theorem dX0_tell_29 : decode cX0_tell 29 = .ok (.aload_n 0, 1) := by decide +kernel
theorem dX0_tell_30 : decode cX0_tell 30 = .ok (.dup, 1) := by decide +kernel
theorem dX0_tell_31 : decode cX0_tell 31 = .ok (.getfield 49, 3) := by decide +kernel
theorem dX0_tell_34 : decode cX0_tell 34 = .ok (.iconst 1, 1) := by decide +kernel
theorem dX0_tell_35 : decode cX0_tell 35 = .ok (.iadd, 1) := by decide +kernel
theorem dX0_tell_36 : decode cX0_tell 36 = .ok (.putfield 49, 3) := by decide +kernel
theorem dX0_tell_39 : decode cX0_tell 39 = .ok (.return_, 1) := by decide +kernel
theorem dX6_readRow_0 : decode cX6_readRow 0 = .ok (.aload_n 0, 1) := by decide +kernel
theorem dX6_readRow_1 : decode cX6_readRow 1 = .ok (.iconst 0, 1) := by decide +kernel
theorem dX6_readRow_2 : decode cX6_readRow 2 = .ok (.putfield 101, 3) := by decide +kernel
theorem dX6_readRow_5 : decode cX6_readRow 5 = .ok (.iconst 0, 1) := by decide +kernel
theorem dX6_readRow_6 : decode cX6_readRow 6 = .ok (.istore_n 2, 1) := by decide +kernel
theorem dX6_readRow_7 : decode cX6_readRow 7 = .ok (.iload_n 2, 1) := by decide +kernel
theorem dX6_readRow_8 : decode cX6_readRow 8 = .ok (.bipush 8, 2) := by decide +kernel
theorem dX6_readRow_10 : decode cX6_readRow 10 = .ok (.if_icmp .gt 95, 3) := by decide +kernel
theorem dX6_readRow_13 : decode cX6_readRow 13 = .ok (.aload_n 0, 1) := by decide +kernel
theorem dX6_readRow_14 : decode cX6_readRow 14 = .ok (.getfield 47, 3) := by decide +kernel
theorem dX6_readRow_17 : decode cX6_readRow 17 = .ok (.iconst 2, 1) := by decide +kernel
theorem dX6_readRow_18 : decode cX6_readRow 18 = .ok (.if_icmp .ne 12, 3) := by decide +kernel
theorem dX6_readRow_21 : decode cX6_readRow 21 = .ok (.aload_n 0, 1) := by decide +kernel
theorem dX6_readRow_22 : decode cX6_readRow 22 = .ok (.getfield 101, 3) := by decide +kernel
theorem dX6_readRow_25 : decode cX6_readRow 25 = .ok (.bipush 8, 2) := by decide +kernel
theorem dX6_readRow_27 : decode cX6_readRow 27 = .ok (.if_icmp .lt 9, 3) := by decide +kernel
theorem dX6_readRow_30 : decode cX6_readRow 30 = .ok (.aload_n 0, 1) := by decide +kernel
theorem dX6_readRow_31 : decode cX6_readRow 31 = .ok (.iconst 2, 1) := by decide +kernel
theorem dX6_readRow_32 : decode cX6_readRow 32 = .ok (.invokevirtual 84, 3) := by decide +kernel
theorem dX6_readRow_35 : decode cX6_readRow 35 = .ok (.ireturn, 1) := by decide +kernel
theorem dX6_readRow_36 : decode cX6_readRow 36 = .ok (.aload_n 0, 1) := by decide +kernel
theorem dX6_readRow_37 : decode cX6_readRow 37 = .ok (.iconst 1, 1) := by decide +kernel
theorem dX6_readRow_38 : decode cX6_readRow 38 = .ok (.invokevirtual 104, 3) := by decide +kernel
theorem dX6_readRow_41 : decode cX6_readRow 41 = .ok (.istore_n 3, 1) := by decide +kernel
theorem dX6_readRow_42 : decode cX6_readRow 42 = .ok (.iload_n 3, 1) := by decide +kernel
theorem dX6_readRow_43 : decode cX6_readRow 43 = .ok (.iconst (-1), 1) := by decide +kernel
theorem dX6_readRow_44 : decode cX6_readRow 44 = .ok (.if_icmp .ne 5, 3) := by decide +kernel
theorem dX6_readRow_47 : decode cX6_readRow 47 = .ok (.iconst 0, 1) := by decide +kernel
theorem dX6_readRow_48 : decode cX6_readRow 48 = .ok (.ireturn, 1) := by decide +kernel
theorem dX6_readRow_49 : decode cX6_readRow 49 = .ok (.iload_n 3, 1) := by decide +kernel
theorem dX6_readRow_50 : decode cX6_readRow 50 = .ok (.iload_n 1, 1) := by decide +kernel
theorem dX6_readRow_51 : decode cX6_readRow 51 = .ok (.if_icmp .lt 9, 3) := by decide +kernel
theorem dX6_readRow_54 : decode cX6_readRow 54 = .ok (.aload_n 0, 1) := by decide +kernel
theorem dX6_readRow_55 : decode cX6_readRow 55 = .ok (.iconst 5, 1) := by decide +kernel
theorem dX6_readRow_56 : decode cX6_readRow 56 = .ok (.invokevirtual 84, 3) := by decide +kernel
theorem dX6_readRow_59 : decode cX6_readRow 59 = .ok (.ireturn, 1) := by decide +kernel
theorem dX6_readRow_60 : decode cX6_readRow 60 = .ok (.aload_n 0, 1) := by decide +kernel
theorem dX6_readRow_61 : decode cX6_readRow 61 = .ok (.getfield 25, 3) := by decide +kernel
theorem dX6_readRow_64 : decode cX6_readRow 64 = .ok (.aload_n 0, 1) := by decide +kernel
theorem dX6_readRow_65 : decode cX6_readRow 65 = .ok (.getfield 101, 3) := by decide +kernel
theorem dX6_readRow_68 : decode cX6_readRow 68 = .ok (.iload_n 3, 1) := by decide +kernel
theorem dX6_readRow_69 : decode cX6_readRow 69 = .ok (.iastore, 1) := by decide +kernel
theorem dX6_readRow_70 : decode cX6_readRow 70 = .ok (.aload_n 0, 1) := by decide +kernel
theorem dX6_readRow_71 : decode cX6_readRow 71 = .ok (.dup, 1) := by decide +kernel
theorem dX6_readRow_72 : decode cX6_readRow 72 = .ok (.getfield 101, 3) := by decide +kernel
theorem dX6_readRow_75 : decode cX6_readRow 75 = .ok (.iconst 1, 1) := by decide +kernel
theorem dX6_readRow_76 : decode cX6_readRow 76 = .ok (.iadd, 1) := by decide +kernel
theorem dX6_readRow_77 : decode cX6_readRow 77 = .ok (.putfield 101, 3) := by decide +kernel
theorem dX6_readRow_80 : decode cX6_readRow 80 = .ok (.aload_n 0, 1) := by decide +kernel
theorem dX6_readRow_81 : decode cX6_readRow 81 = .ok (.invokevirtual 87, 3) := by decide +kernel
theorem dX6_readRow_84 : decode cX6_readRow 84 = .ok (.aload_n 0, 1) := by decide +kernel
theorem dX6_readRow_85 : decode cX6_readRow 85 = .ok (.getfield 47, 3) := by decide +kernel
theorem dX6_readRow_88 : decode cX6_readRow 88 = .ok (.bipush 44, 2) := by decide +kernel
theorem dX6_readRow_90 : decode cX6_readRow 90 = .ok (.if_icmp .eq 5, 3) := by decide +kernel
theorem dX6_readRow_93 : decode cX6_readRow 93 = .ok (.iconst 1, 1) := by decide +kernel
theorem dX6_readRow_94 : decode cX6_readRow 94 = .ok (.ireturn, 1) := by decide +kernel
theorem dX6_readRow_95 : decode cX6_readRow 95 = .ok (.aload_n 0, 1) := by decide +kernel
theorem dX6_readRow_96 : decode cX6_readRow 96 = .ok (.invokevirtual 87, 3) := by decide +kernel
theorem dX6_readRow_99 : decode cX6_readRow 99 = .ok (.iinc 2 1, 3) := by decide +kernel
theorem dX6_readRow_102 : decode cX6_readRow 102 = .ok (.goto (-95), 3) := by decide +kernel
theorem dX6_readRow_105 : decode cX6_readRow 105 = .ok (.iconst 0, 1) := by decide +kernel
theorem dX6_readRow_106 : decode cX6_readRow 106 = .ok (.ireturn, 1) := by decide +kernel
theorem dX6_readReference_0 : decode cX6_readReference 0 = .ok (.iconst 0, 1) := by decide +kernel
theorem dX6_readReference_1 : decode cX6_readReference 1 = .ok (.istore_n 2, 1) := by decide +kernel
theorem dX6_readReference_2 : decode cX6_readReference 2 = .ok (.aload_n 0, 1) := by decide +kernel
theorem dX6_readReference_3 : decode cX6_readReference 3 = .ok (.getfield 15, 3) := by decide +kernel
theorem dX6_readReference_6 : decode cX6_readReference 6 = .ok (.ifnull 41, 3) := by decide +kernel
theorem dX6_readReference_9 : decode cX6_readReference 9 = .ok (.aload_n 0, 1) := by decide +kernel
theorem dX6_readReference_10 : decode cX6_readReference 10 = .ok (.getfield 15, 3) := by decide +kernel
theorem dX6_readReference_13 : decode cX6_readReference 13 = .ok (.aload_n 0, 1) := by decide +kernel
theorem dX6_readReference_14 : decode cX6_readReference 14 = .ok (.getfield 54, 3) := by decide +kernel
theorem dX6_readReference_17 : decode cX6_readReference 17 = .ok (.invokevirtual 94, 3) := by decide +kernel
theorem dX6_readReference_20 : decode cX6_readReference 20 = .ok (.istore_n 3, 1) := by decide +kernel
theorem dX6_readReference_21 : decode cX6_readReference 21 = .ok (.iload_n 3, 1) := by decide +kernel
theorem dX6_readReference_22 : decode cX6_readReference 22 = .ok (.iconst (-1), 1) := by decide +kernel
theorem dX6_readReference_23 : decode cX6_readReference 23 = .ok (.if_icmp .eq 11, 3) := by decide +kernel
theorem dX6_readReference_26 : decode cX6_readReference 26 = .ok (.iload_n 3, 1) := by decide +kernel
theorem dX6_readReference_27 : decode cX6_readReference 27 = .ok (.bipush 100, 2) := by decide +kernel
theorem dX6_readReference_29 : decode cX6_readReference 29 = .ok (.idiv, 1) := by decide +kernel
theorem dX6_readReference_30 : decode cX6_readReference 30 = .ok (.iload_n 1, 1) := by decide +kernel
theorem dX6_readReference_31 : decode cX6_readReference 31 = .ok (.if_icmp .eq 11, 3) := by decide +kernel
theorem dX6_readReference_34 : decode cX6_readReference 34 = .ok (.aload_n 0, 1) := by decide +kernel
theorem dX6_readReference_35 : decode cX6_readReference 35 = .ok (.iconst 5, 1) := by decide +kernel
theorem dX6_readReference_36 : decode cX6_readReference 36 = .ok (.invokevirtual 84, 3) := by decide +kernel
theorem dX6_readReference_39 : decode cX6_readReference 39 = .ok (.pop, 1) := by decide +kernel
theorem dX6_readReference_40 : decode cX6_readReference 40 = .ok (.iconst (-1), 1) := by decide +kernel
theorem dX6_readReference_41 : decode cX6_readReference 41 = .ok (.ireturn, 1) := by decide +kernel
theorem dX6_readReference_42 : decode cX6_readReference 42 = .ok (.iload_n 3, 1) := by decide +kernel
theorem dX6_readReference_43 : decode cX6_readReference 43 = .ok (.bipush 100, 2) := by decide +kernel
theorem dX6_readReference_45 : decode cX6_readReference 45 = .ok (.irem, 1) := by decide +kernel
theorem dX6_readReference_46 : decode cX6_readReference 46 = .ok (.istore_n 2, 1) := by decide +kernel
theorem dX6_readReference_47 : decode cX6_readReference 47 = .ok (.iload_n 2, 1) := by decide +kernel
theorem dX6_readReference_48 : decode cX6_readReference 48 = .ok (.ireturn, 1) := by decide +kernel
theorem dX0_addGroup_0 : decode cX0_addGroup 0 = .ok (.aload_n 0, 1) := by decide +kernel
theorem dX0_addGroup_1 : decode cX0_addGroup 1 = .ok (.getfield 43, 3) := by decide +kernel
theorem dX0_addGroup_4 : decode cX0_addGroup 4 = .ok (.bipush 8, 2) := by decide +kernel
theorem dX0_addGroup_6 : decode cX0_addGroup 6 = .ok (.if_icmp .ge 56, 3) := by decide +kernel
theorem dX0_addGroup_9 : decode cX0_addGroup 9 = .ok (.iconst 1, 1) := by decide +kernel
theorem dX0_addGroup_10 : decode cX0_addGroup 10 = .ok (.aload_n 0, 1) := by decide +kernel
theorem dX0_addGroup_11 : decode cX0_addGroup 11 = .ok (.getfield 43, 3) := by decide +kernel
theorem dX0_addGroup_14 : decode cX0_addGroup 14 = .ok (.ishl, 1) := by decide +kernel
theorem dX0_addGroup_15 : decode cX0_addGroup 15 = .ok (.istore_n 3, 1) := by decide +kernel
theorem dX0_addGroup_16 : decode cX0_addGroup 16 = .ok (.iconst 0, 1) := by decide +kernel
theorem dX0_addGroup_17 : decode cX0_addGroup 17 = .ok (.istore 4, 2) := by decide +kernel
theorem dX0_addGroup_19 : decode cX0_addGroup 19 = .ok (.iload 4, 2) := by decide +kernel
theorem dX0_addGroup_21 : decode cX0_addGroup 21 = .ok (.iload_n 2, 1) := by decide +kernel
theorem dX0_addGroup_22 : decode cX0_addGroup 22 = .ok (.if_icmp .ge 20, 3) := by decide +kernel
theorem dX0_addGroup_25 : decode cX0_addGroup 25 = .ok (.iload_n 3, 1) := by decide +kernel
theorem dX0_addGroup_26 : decode cX0_addGroup 26 = .ok (.aload_n 0, 1) := by decide +kernel
theorem dX0_addGroup_27 : decode cX0_addGroup 27 = .ok (.aload_n 1, 1) := by decide +kernel
theorem dX0_addGroup_28 : decode cX0_addGroup 28 = .ok (.iload 4, 2) := by decide +kernel
theorem dX0_addGroup_30 : decode cX0_addGroup 30 = .ok (.iaload, 1) := by decide +kernel
theorem dX0_addGroup_31 : decode cX0_addGroup 31 = .ok (.invokevirtual 57, 3) := by decide +kernel
theorem dX0_addGroup_34 : decode cX0_addGroup 34 = .ok (.ior, 1) := by decide +kernel
theorem dX0_addGroup_35 : decode cX0_addGroup 35 = .ok (.istore_n 3, 1) := by decide +kernel
theorem dX0_addGroup_36 : decode cX0_addGroup 36 = .ok (.iinc 4 1, 3) := by decide +kernel
theorem dX0_addGroup_39 : decode cX0_addGroup 39 = .ok (.goto (-20), 3) := by decide +kernel
theorem dX0_addGroup_42 : decode cX0_addGroup 42 = .ok (.aload_n 0, 1) := by decide +kernel
theorem dX0_addGroup_43 : decode cX0_addGroup 43 = .ok (.getfield 33, 3) := by decide +kernel
theorem dX0_addGroup_46 : decode cX0_addGroup 46 = .ok (.aload_n 0, 1) := by decide +kernel
theorem dX0_addGroup_47 : decode cX0_addGroup 47 = .ok (.getfield 43, 3) := by decide +kernel
theorem dX0_addGroup_50 : decode cX0_addGroup 50 = .ok (.iload_n 3, 1) := by decide +kernel
theorem dX0_addGroup_51 : decode cX0_addGroup 51 = .ok (.iastore, 1) := by decide +kernel
theorem dX0_addGroup_52 : decode cX0_addGroup 52 = .ok (.aload_n 0, 1) := by decide +kernel
theorem dX0_addGroup_53 : decode cX0_addGroup 53 = .ok (.dup, 1) := by decide +kernel
theorem dX0_addGroup_54 : decode cX0_addGroup 54 = .ok (.getfield 43, 3) := by decide +kernel
theorem dX0_addGroup_57 : decode cX0_addGroup 57 = .ok (.iconst 1, 1) := by decide +kernel
theorem dX0_addGroup_58 : decode cX0_addGroup 58 = .ok (.iadd, 1) := by decide +kernel
theorem dX0_addGroup_59 : decode cX0_addGroup 59 = .ok (.putfield 43, 3) := by decide +kernel
theorem dX0_addGroup_62 : decode cX0_addGroup 62 = .ok (.return_, 1) := by decide +kernel
theorem dX0_maskOf_0 : decode cX0_maskOf 0 = .ok (.iload_n 1, 1) := by decide +kernel
theorem dX0_maskOf_1 : decode cX0_maskOf 1 = .ok (.ifCond .lt 18, 3) := by decide +kernel
theorem dX0_maskOf_4 : decode cX0_maskOf 4 = .ok (.iload_n 1, 1) := by decide +kernel
theorem dX0_maskOf_5 : decode cX0_maskOf 5 = .ok (.bipush 8, 2) := by decide +kernel
theorem dX0_maskOf_7 : decode cX0_maskOf 7 = .ok (.if_icmp .ge 12, 3) := by decide +kernel
theorem dX0_maskOf_10 : decode cX0_maskOf 10 = .ok (.aload_n 0, 1) := by decide +kernel
theorem dX0_maskOf_11 : decode cX0_maskOf 11 = .ok (.getfield 33, 3) := by decide +kernel
theorem dX0_maskOf_14 : decode cX0_maskOf 14 = .ok (.iload_n 1, 1) := by decide +kernel
theorem dX0_maskOf_15 : decode cX0_maskOf 15 = .ok (.iaload, 1) := by decide +kernel
theorem dX0_maskOf_16 : decode cX0_maskOf 16 = .ok (.goto 4, 3) := by decide +kernel
theorem dX0_maskOf_19 : decode cX0_maskOf 19 = .ok (.iconst 0, 1) := by decide +kernel
theorem dX0_maskOf_20 : decode cX0_maskOf 20 = .ok (.ireturn, 1) := by decide +kernel
theorem dX6_readSign_0 : decode cX6_readSign 0 = .ok (.aload_n 0, 1) := by decide +kernel
theorem dX6_readSign_1 : decode cX6_readSign 1 = .ok (.getfield 47, 3) := by decide +kernel
theorem dX6_readSign_4 : decode cX6_readSign 4 = .ok (.iload_n 1, 1) := by decide +kernel
theorem dX6_readSign_5 : decode cX6_readSign 5 = .ok (.if_icmp .eq 9, 3) := by decide +kernel
theorem dX6_readSign_8 : decode cX6_readSign 8 = .ok (.aload_n 0, 1) := by decide +kernel
theorem dX6_readSign_9 : decode cX6_readSign 9 = .ok (.iconst 2, 1) := by decide +kernel
theorem dX6_readSign_10 : decode cX6_readSign 10 = .ok (.invokevirtual 84, 3) := by decide +kernel
theorem dX6_readSign_13 : decode cX6_readSign 13 = .ok (.ireturn, 1) := by decide +kernel
theorem dX6_readSign_14 : decode cX6_readSign 14 = .ok (.aload_n 0, 1) := by decide +kernel
theorem dX6_readSign_15 : decode cX6_readSign 15 = .ok (.invokevirtual 87, 3) := by decide +kernel
theorem dX6_readSign_18 : decode cX6_readSign 18 = .ok (.iconst 1, 1) := by decide +kernel
theorem dX6_readSign_19 : decode cX6_readSign 19 = .ok (.ireturn, 1) := by decide +kernel
theorem dX6_readChain_0 : decode cX6_readChain 0 = .ok (.aload_n 0, 1) := by decide +kernel
theorem dX6_readChain_1 : decode cX6_readChain 1 = .ok (.iconst 2, 1) := by decide +kernel
theorem dX6_readChain_2 : decode cX6_readChain 2 = .ok (.aload_n 0, 1) := by decide +kernel
theorem dX6_readChain_3 : decode cX6_readChain 3 = .ok (.getfield 22, 3) := by decide +kernel
theorem dX6_readChain_6 : decode cX6_readChain 6 = .ok (.getfield 125, 3) := by decide +kernel
theorem dX6_readChain_9 : decode cX6_readChain 9 = .ok (.bipush 6, 2) := by decide +kernel
theorem dX6_readChain_11 : decode cX6_readChain 11 = .ok (.invokevirtual 111, 3) := by decide +kernel
theorem dX6_readChain_14 : decode cX6_readChain 14 = .ok (.ifCond .eq 21, 3) := by decide +kernel
theorem dX6_readChain_17 : decode cX6_readChain 17 = .ok (.aload_n 0, 1) := by decide +kernel
theorem dX6_readChain_18 : decode cX6_readChain 18 = .ok (.bipush 58, 2) := by decide +kernel
theorem dX6_readChain_20 : decode cX6_readChain 20 = .ok (.invokevirtual 122, 3) := by decide +kernel
theorem dX6_readChain_23 : decode cX6_readChain 23 = .ok (.ifCond .eq 12, 3) := by decide +kernel
theorem dX6_readChain_26 : decode cX6_readChain 26 = .ok (.aload_n 0, 1) := by decide +kernel
theorem dX6_readChain_27 : decode cX6_readChain 27 = .ok (.bipush 8, 2) := by decide +kernel
theorem dX6_readChain_29 : decode cX6_readChain 29 = .ok (.invokevirtual 115, 3) := by decide +kernel
theorem dX6_readChain_32 : decode cX6_readChain 32 = .ok (.ifCond .ne 5, 3) := by decide +kernel
theorem dX6_readChain_35 : decode cX6_readChain 35 = .ok (.iconst 0, 1) := by decide +kernel
theorem dX6_readChain_36 : decode cX6_readChain 36 = .ok (.ireturn, 1) := by decide +kernel
theorem dX6_readChain_37 : decode cX6_readChain 37 = .ok (.aload_n 0, 1) := by decide +kernel
theorem dX6_readChain_38 : decode cX6_readChain 38 = .ok (.getfield 22, 3) := by decide +kernel
theorem dX6_readChain_41 : decode cX6_readChain 41 = .ok (.aload_n 0, 1) := by decide +kernel
theorem dX6_readChain_42 : decode cX6_readChain 42 = .ok (.getfield 25, 3) := by decide +kernel
theorem dX6_readChain_45 : decode cX6_readChain 45 = .ok (.aload_n 0, 1) := by decide +kernel
theorem dX6_readChain_46 : decode cX6_readChain 46 = .ok (.getfield 101, 3) := by decide +kernel
theorem dX6_readChain_49 : decode cX6_readChain 49 = .ok (.invokevirtual 128, 3) := by decide +kernel
theorem dX6_readChain_52 : decode cX6_readChain 52 = .ok (.aload_n 0, 1) := by decide +kernel
theorem dX6_readChain_53 : decode cX6_readChain 53 = .ok (.bipush 59, 2) := by decide +kernel
theorem dX6_readChain_55 : decode cX6_readChain 55 = .ok (.invokevirtual 122, 3) := by decide +kernel
theorem dX6_readChain_58 : decode cX6_readChain 58 = .ok (.ireturn, 1) := by decide +kernel
theorem dX0_addChain_0 : decode cX0_addChain 0 = .ok (.aload_n 0, 1) := by decide +kernel
theorem dX0_addChain_1 : decode cX0_addChain 1 = .ok (.getfield 61, 3) := by decide +kernel
theorem dX0_addChain_4 : decode cX0_addChain 4 = .ok (.bipush 6, 2) := by decide +kernel
theorem dX0_addChain_6 : decode cX0_addChain 6 = .ok (.if_icmp .ge 27, 3) := by decide +kernel
theorem dX0_addChain_9 : decode cX0_addChain 9 = .ok (.aload_n 0, 1) := by decide +kernel
theorem dX0_addChain_10 : decode cX0_addChain 10 = .ok (.getfield 29, 3) := by decide +kernel
theorem dX0_addChain_13 : decode cX0_addChain 13 = .ok (.aload_n 0, 1) := by decide +kernel
theorem dX0_addChain_14 : decode cX0_addChain 14 = .ok (.getfield 61, 3) := by decide +kernel
theorem dX0_addChain_17 : decode cX0_addChain 17 = .ok (.aload_n 1, 1) := by decide +kernel
theorem dX0_addChain_18 : decode cX0_addChain 18 = .ok (.iload_n 2, 1) := by decide +kernel
theorem dX0_addChain_19 : decode cX0_addChain 19 = .ok (.invokestatic 64, 3) := by decide +kernel
theorem dX0_addChain_22 : decode cX0_addChain 22 = .ok (.aastore, 1) := by decide +kernel
theorem dX0_addChain_23 : decode cX0_addChain 23 = .ok (.aload_n 0, 1) := by decide +kernel
theorem dX0_addChain_24 : decode cX0_addChain 24 = .ok (.dup, 1) := by decide +kernel
theorem dX0_addChain_25 : decode cX0_addChain 25 = .ok (.getfield 61, 3) := by decide +kernel
theorem dX0_addChain_28 : decode cX0_addChain 28 = .ok (.iconst 1, 1) := by decide +kernel
theorem dX0_addChain_29 : decode cX0_addChain 29 = .ok (.iadd, 1) := by decide +kernel
theorem dX0_addChain_30 : decode cX0_addChain 30 = .ok (.putfield 61, 3) := by decide +kernel
theorem dX0_addChain_33 : decode cX0_addChain 33 = .ok (.return_, 1) := by decide +kernel
