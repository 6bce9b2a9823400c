theorem dX12_paper_0 : decode cX12_paper 0 = .ok (.iload_n 1, 1) := by decide +kernel
theorem dX12_paper_1 : decode cX12_paper 1 = .ok (.ifCond .lt 21, 3) := by decide +kernel
theorem dX12_paper_4 : decode cX12_paper 4 = .ok (.iload_n 1, 1) := by decide +kernel
theorem dX12_paper_5 : decode cX12_paper 5 = .ok (.aload_n 0, 1) := by decide +kernel
theorem dX12_paper_6 : decode cX12_paper 6 = .ok (.getfield 478, 3) := by decide +kernel
theorem dX12_paper_9 : decode cX12_paper 9 = .ok (.if_icmp .ge 13, 3) := by decide +kernel
theorem dX12_paper_12 : decode cX12_paper 12 = .ok (.aload_n 0, 1) := by decide +kernel
theorem dX12_paper_13 : decode cX12_paper 13 = .ok (.getfield 524, 3) := by decide +kernel
theorem dX12_paper_16 : decode cX12_paper 16 = .ok (.sipush 200, 3) := by decide +kernel
theorem dX12_paper_19 : decode cX12_paper 19 = .ok (.if_icmp .ne 5, 3) := by decide +kernel
theorem dX12_paper_22 : decode cX12_paper 22 = .ok (.iconst (-1), 1) := by decide +kernel
theorem dX12_paper_23 : decode cX12_paper 23 = .ok (.ireturn, 1) := by decide +kernel
theorem dX12_paper_24 : decode cX12_paper 24 = .ok (.aload_n 0, 1) := by decide +kernel
theorem dX12_paper_25 : decode cX12_paper 25 = .ok (.getfield 315, 3) := by decide +kernel
theorem dX12_paper_28 : decode cX12_paper 28 = .ok (.aload_n 0, 1) := by decide +kernel
theorem dX12_paper_29 : decode cX12_paper 29 = .ok (.getfield 524, 3) := by decide +kernel
theorem dX12_paper_32 : decode cX12_paper 32 = .ok (.iload_n 1, 1) := by decide +kernel
theorem dX12_paper_33 : decode cX12_paper 33 = .ok (.iastore, 1) := by decide +kernel
theorem dX12_paper_34 : decode cX12_paper 34 = .ok (.bipush 12, 2) := by decide +kernel
theorem dX12_paper_36 : decode cX12_paper 36 = .ok (.aload_n 0, 1) := by decide +kernel
theorem dX12_paper_37 : decode cX12_paper 37 = .ok (.getfield 524, 3) := by decide +kernel
theorem dX12_paper_40 : decode cX12_paper 40 = .ok (.imul, 1) := by decide +kernel
theorem dX12_paper_41 : decode cX12_paper 41 = .ok (.istore_n 2, 1) := by decide +kernel
theorem dX12_paper_42 : decode cX12_paper 42 = .ok (.iload_n 2, 1) := by decide +kernel
theorem dX12_paper_43 : decode cX12_paper 43 = .ok (.bipush 12, 2) := by decide +kernel
theorem dX12_paper_45 : decode cX12_paper 45 = .ok (.aload_n 0, 1) := by decide +kernel
theorem dX12_paper_46 : decode cX12_paper 46 = .ok (.getfield 524, 3) := by decide +kernel
theorem dX12_paper_49 : decode cX12_paper 49 = .ok (.imul, 1) := by decide +kernel
theorem dX12_paper_50 : decode cX12_paper 50 = .ok (.bipush 12, 2) := by decide +kernel
theorem dX12_paper_52 : decode cX12_paper 52 = .ok (.iadd, 1) := by decide +kernel
theorem dX12_paper_53 : decode cX12_paper 53 = .ok (.if_icmp .ge 23, 3) := by decide +kernel
theorem dX12_paper_56 : decode cX12_paper 56 = .ok (.aload_n 0, 1) := by decide +kernel
theorem dX12_paper_57 : decode cX12_paper 57 = .ok (.getfield 334, 3) := by decide +kernel
theorem dX12_paper_60 : decode cX12_paper 60 = .ok (.iload_n 2, 1) := by decide +kernel
theorem dX12_paper_61 : decode cX12_paper 61 = .ok (.iconst 0, 1) := by decide +kernel
theorem dX12_paper_62 : decode cX12_paper 62 = .ok (.bastore, 1) := by decide +kernel
theorem dX12_paper_63 : decode cX12_paper 63 = .ok (.aload_n 0, 1) := by decide +kernel
theorem dX12_paper_64 : decode cX12_paper 64 = .ok (.getfield 327, 3) := by decide +kernel
theorem dX12_paper_67 : decode cX12_paper 67 = .ok (.iload_n 2, 1) := by decide +kernel
theorem dX12_paper_68 : decode cX12_paper 68 = .ok (.iconst 0, 1) := by decide +kernel
theorem dX12_paper_69 : decode cX12_paper 69 = .ok (.iastore, 1) := by decide +kernel
theorem dX12_paper_70 : decode cX12_paper 70 = .ok (.iinc 2 1, 3) := by decide +kernel
theorem dX12_paper_73 : decode cX12_paper 73 = .ok (.goto (-31), 3) := by decide +kernel
theorem dX12_paper_76 : decode cX12_paper 76 = .ok (.aload_n 0, 1) := by decide +kernel
theorem dX12_paper_77 : decode cX12_paper 77 = .ok (.dup, 1) := by decide +kernel
theorem dX12_paper_78 : decode cX12_paper 78 = .ok (.getfield 524, 3) := by decide +kernel
theorem dX12_paper_81 : decode cX12_paper 81 = .ok (.iconst 1, 1) := by decide +kernel
theorem dX12_paper_82 : decode cX12_paper 82 = .ok (.iadd, 1) := by decide +kernel
theorem dX12_paper_83 : decode cX12_paper 83 = .ok (.putfield 524, 3) := by decide +kernel
theorem dX12_paper_86 : decode cX12_paper 86 = .ok (.aload_n 0, 1) := by decide +kernel
theorem dX12_paper_87 : decode cX12_paper 87 = .ok (.getfield 524, 3) := by decide +kernel
theorem dX12_paper_90 : decode cX12_paper 90 = .ok (.iconst 1, 1) := by decide +kernel
theorem dX12_paper_91 : decode cX12_paper 91 = .ok (.isub, 1) := by decide +kernel
theorem dX12_paper_92 : decode cX12_paper 92 = .ok (.ireturn, 1) := by decide +kernel
theorem dX12_setInt_0 : decode cX12_setInt 0 = .ok (.aload_n 0, 1) := by decide +kernel
theorem dX12_setInt_1 : decode cX12_setInt 1 = .ok (.iload_n 1, 1) := by decide +kernel
theorem dX12_setInt_2 : decode cX12_setInt 2 = .ok (.iload_n 2, 1) := by decide +kernel
theorem dX12_setInt_3 : decode cX12_setInt 3 = .ok (.iconst 0, 1) := by decide +kernel
theorem dX12_setInt_4 : decode cX12_setInt 4 = .ok (.invokevirtual 595, 3) := by decide +kernel
theorem dX12_setInt_7 : decode cX12_setInt 7 = .ok (.ifCond .ne 5, 3) := by decide +kernel
theorem dX12_setInt_10 : decode cX12_setInt 10 = .ok (.iconst 0, 1) := by decide +kernel
theorem dX12_setInt_11 : decode cX12_setInt 11 = .ok (.ireturn, 1) := by decide +kernel
theorem dX12_setInt_12 : decode cX12_setInt 12 = .ok (.aload_n 0, 1) := by decide +kernel
theorem dX12_setInt_13 : decode cX12_setInt 13 = .ok (.getfield 334, 3) := by decide +kernel
theorem dX12_setInt_16 : decode cX12_setInt 16 = .ok (.bipush 12, 2) := by decide +kernel
theorem dX12_setInt_18 : decode cX12_setInt 18 = .ok (.iload_n 1, 1) := by decide +kernel
theorem dX12_setInt_19 : decode cX12_setInt 19 = .ok (.imul, 1) := by decide +kernel
theorem dX12_setInt_20 : decode cX12_setInt 20 = .ok (.iload_n 2, 1) := by decide +kernel
theorem dX12_setInt_21 : decode cX12_setInt 21 = .ok (.iadd, 1) := by decide +kernel
theorem dX12_setInt_22 : decode cX12_setInt 22 = .ok (.iload 4, 2) := by decide +kernel
theorem dX12_setInt_24 : decode cX12_setInt 24 = .ok (.bastore, 1) := by decide +kernel
theorem dX12_setInt_25 : decode cX12_setInt 25 = .ok (.aload_n 0, 1) := by decide +kernel
theorem dX12_setInt_26 : decode cX12_setInt 26 = .ok (.getfield 318, 3) := by decide +kernel
theorem dX12_setInt_29 : decode cX12_setInt 29 = .ok (.bipush 12, 2) := by decide +kernel
theorem dX12_setInt_31 : decode cX12_setInt 31 = .ok (.iload_n 1, 1) := by decide +kernel
theorem dX12_setInt_32 : decode cX12_setInt 32 = .ok (.imul, 1) := by decide +kernel
theorem dX12_setInt_33 : decode cX12_setInt 33 = .ok (.iload_n 2, 1) := by decide +kernel
theorem dX12_setInt_34 : decode cX12_setInt 34 = .ok (.iadd, 1) := by decide +kernel
theorem dX12_setInt_35 : decode cX12_setInt 35 = .ok (.iload_n 3, 1) := by decide +kernel
theorem dX12_setInt_36 : decode cX12_setInt 36 = .ok (.iastore, 1) := by decide +kernel
theorem dX12_setInt_37 : decode cX12_setInt 37 = .ok (.iconst 1, 1) := by decide +kernel
theorem dX12_setInt_38 : decode cX12_setInt 38 = .ok (.ireturn, 1) := by decide +kernel
theorem dX12_setText_0 : decode cX12_setText 0 = .ok (.aload_n 0, 1) := by decide +kernel
theorem dX12_setText_1 : decode cX12_setText 1 = .ok (.iload_n 1, 1) := by decide +kernel
theorem dX12_setText_2 : decode cX12_setText 2 = .ok (.iload_n 2, 1) := by decide +kernel
theorem dX12_setText_3 : decode cX12_setText 3 = .ok (.iconst 1, 1) := by decide +kernel
theorem dX12_setText_4 : decode cX12_setText 4 = .ok (.invokevirtual 595, 3) := by decide +kernel
theorem dX12_setText_7 : decode cX12_setText 7 = .ok (.ifCond .ne 5, 3) := by decide +kernel
theorem dX12_setText_10 : decode cX12_setText 10 = .ok (.iconst 0, 1) := by decide +kernel
theorem dX12_setText_11 : decode cX12_setText 11 = .ok (.ireturn, 1) := by decide +kernel
theorem dX12_setText_12 : decode cX12_setText 12 = .ok (.iconst 0, 1) := by decide +kernel
theorem dX12_setText_13 : decode cX12_setText 13 = .ok (.istore 6, 2) := by decide +kernel
theorem dX12_setText_15 : decode cX12_setText 15 = .ok (.iconst 1, 1) := by decide +kernel
theorem dX12_setText_16 : decode cX12_setText 16 = .ok (.istore 7, 2) := by decide +kernel
theorem dX12_setText_18 : decode cX12_setText 18 = .ok (.bipush 56, 2) := by decide +kernel
theorem dX12_setText_20 : decode cX12_setText 20 = .ok (.istore 8, 2) := by decide +kernel
theorem dX12_setText_22 : decode cX12_setText 22 = .ok (.iload 8, 2) := by decide +kernel
theorem dX12_setText_24 : decode cX12_setText 24 = .ok (.ifCond .lt 66, 3) := by decide +kernel
theorem dX12_setText_27 : decode cX12_setText 27 = .ok (.lload_n 3, 1) := by decide +kernel
theorem dX12_setText_28 : decode cX12_setText 28 = .ok (.iload 8, 2) := by decide +kernel
theorem dX12_setText_30 : decode cX12_setText 30 = .ok (.lshr, 1) := by decide +kernel
theorem dX12_setText_31 : decode cX12_setText 31 = .ok (.l2i, 1) := by decide +kernel
theorem dX12_setText_32 : decode cX12_setText 32 = .ok (.sipush 255, 3) := by decide +kernel
theorem dX12_setText_35 : decode cX12_setText 35 = .ok (.iand, 1) := by decide +kernel
theorem dX12_setText_36 : decode cX12_setText 36 = .ok (.istore 9, 2) := by decide +kernel
theorem dX12_setText_38 : decode cX12_setText 38 = .ok (.iload 7, 2) := by decide +kernel
theorem dX12_setText_40 : decode cX12_setText 40 = .ok (.ifCond .eq 26, 3) := by decide +kernel
theorem dX12_setText_43 : decode cX12_setText 43 = .ok (.iload 9, 2) := by decide +kernel
theorem dX12_setText_45 : decode cX12_setText 45 = .ok (.ifCond .eq 17, 3) := by decide +kernel
theorem dX12_setText_48 : decode cX12_setText 48 = .ok (.iload 9, 2) := by decide +kernel
theorem dX12_setText_50 : decode cX12_setText 50 = .ok (.bipush 32, 2) := by decide +kernel
theorem dX12_setText_52 : decode cX12_setText 52 = .ok (.if_icmp .lt 14, 3) := by decide +kernel
theorem dX12_setText_55 : decode cX12_setText 55 = .ok (.iload 9, 2) := by decide +kernel
theorem dX12_setText_57 : decode cX12_setText 57 = .ok (.bipush 126, 2) := by decide +kernel
theorem dX12_setText_59 : decode cX12_setText 59 = .ok (.if_icmp .gt 7, 3) := by decide +kernel
theorem dX12_setText_62 : decode cX12_setText 62 = .ok (.iconst 1, 1) := by decide +kernel
theorem dX12_setText_63 : decode cX12_setText 63 = .ok (.goto 4, 3) := by decide +kernel
theorem dX12_setText_66 : decode cX12_setText 66 = .ok (.iconst 0, 1) := by decide +kernel
theorem dX12_setText_67 : decode cX12_setText 67 = .ok (.istore 7, 2) := by decide +kernel
theorem dX12_setText_69 : decode cX12_setText 69 = .ok (.iload 6, 2) := by decide +kernel
theorem dX12_setText_71 : decode cX12_setText 71 = .ok (.iload 9, 2) := by decide +kernel
theorem dX12_setText_73 : decode cX12_setText 73 = .ok (.ifCond .le 7, 3) := by decide +kernel
theorem dX12_setText_76 : decode cX12_setText 76 = .ok (.iconst 1, 1) := by decide +kernel
theorem dX12_setText_77 : decode cX12_setText 77 = .ok (.goto 4, 3) := by decide +kernel
theorem dX12_setText_80 : decode cX12_setText 80 = .ok (.iconst 0, 1) := by decide +kernel
theorem dX12_setText_81 : decode cX12_setText 81 = .ok (.iadd, 1) := by decide +kernel
theorem dX12_setText_82 : decode cX12_setText 82 = .ok (.istore 6, 2) := by decide +kernel
theorem dX12_setText_84 : decode cX12_setText 84 = .ok (.iinc 8 (-8), 3) := by decide +kernel
theorem dX12_setText_87 : decode cX12_setText 87 = .ok (.goto (-65), 3) := by decide +kernel
theorem dX12_setText_90 : decode cX12_setText 90 = .ok (.iload 7, 2) := by decide +kernel
theorem dX12_setText_92 : decode cX12_setText 92 = .ok (.ifCond .ne 5, 3) := by decide +kernel
theorem dX12_setText_95 : decode cX12_setText 95 = .ok (.iconst 0, 1) := by decide +kernel
theorem dX12_setText_96 : decode cX12_setText 96 = .ok (.ireturn, 1) := by decide +kernel
theorem dX12_setText_97 : decode cX12_setText 97 = .ok (.aload_n 0, 1) := by decide +kernel
theorem dX12_setText_98 : decode cX12_setText 98 = .ok (.getfield 334, 3) := by decide +kernel
theorem dX12_setText_101 : decode cX12_setText 101 = .ok (.bipush 12, 2) := by decide +kernel
theorem dX12_setText_103 : decode cX12_setText 103 = .ok (.iload_n 1, 1) := by decide +kernel
theorem dX12_setText_104 : decode cX12_setText 104 = .ok (.imul, 1) := by decide +kernel
theorem dX12_setText_105 : decode cX12_setText 105 = .ok (.iload_n 2, 1) := by decide +kernel
theorem dX12_setText_106 : decode cX12_setText 106 = .ok (.iadd, 1) := by decide +kernel
theorem dX12_setText_107 : decode cX12_setText 107 = .ok (.iload 5, 2) := by decide +kernel
theorem dX12_setText_109 : decode cX12_setText 109 = .ok (.bastore, 1) := by decide +kernel
theorem dX12_setText_110 : decode cX12_setText 110 = .ok (.aload_n 0, 1) := by decide +kernel
theorem dX12_setText_111 : decode cX12_setText 111 = .ok (.getfield 321, 3) := by decide +kernel
theorem dX12_setText_114 : decode cX12_setText 114 = .ok (.bipush 12, 2) := by decide +kernel
theorem dX12_setText_116 : decode cX12_setText 116 = .ok (.iload_n 1, 1) := by decide +kernel
theorem dX12_setText_117 : decode cX12_setText 117 = .ok (.imul, 1) := by decide +kernel
theorem dX12_setText_118 : decode cX12_setText 118 = .ok (.iload_n 2, 1) := by decide +kernel
theorem dX12_setText_119 : decode cX12_setText 119 = .ok (.iadd, 1) := by decide +kernel
theorem dX12_setText_120 : decode cX12_setText 120 = .ok (.iload 6, 2) := by decide +kernel
theorem dX12_setText_122 : decode cX12_setText 122 = .ok (.iastore, 1) := by decide +kernel
theorem dX12_setText_123 : decode cX12_setText 123 = .ok (.iconst 1, 1) := by decide +kernel
theorem dX12_setText_124 : decode cX12_setText 124 = .ok (.ireturn, 1) := by decide +kernel
theorem dX12_isOf_0 : decode cX12_isOf 0 = .ok (.aload_n 0, 1) := by decide +kernel
theorem dX12_isOf_1 : decode cX12_isOf 1 = .ok (.getfield 315, 3) := by decide +kernel
theorem dX12_isOf_4 : decode cX12_isOf 4 = .ok (.iload_n 1, 1) := by decide +kernel
theorem dX12_isOf_5 : decode cX12_isOf 5 = .ok (.iaload, 1) := by decide +kernel
theorem dX12_isOf_6 : decode cX12_isOf 6 = .ok (.istore_n 3, 1) := by decide +kernel
theorem dX12_isOf_7 : decode cX12_isOf 7 = .ok (.iload_n 3, 1) := by decide +kernel
theorem dX12_isOf_8 : decode cX12_isOf 8 = .ok (.ifCond .lt 26, 3) := by decide +kernel
theorem dX12_isOf_11 : decode cX12_isOf 11 = .ok (.iload_n 3, 1) := by decide +kernel
theorem dX12_isOf_12 : decode cX12_isOf 12 = .ok (.iload_n 2, 1) := by decide +kernel
theorem dX12_isOf_13 : decode cX12_isOf 13 = .ok (.if_icmp .eq 21, 3) := by decide +kernel
theorem dX12_isOf_16 : decode cX12_isOf 16 = .ok (.aload_n 0, 1) := by decide +kernel
theorem dX12_isOf_17 : decode cX12_isOf 17 = .ok (.getfield 196, 3) := by decide +kernel
theorem dX12_isOf_20 : decode cX12_isOf 20 = .ok (.bipush 16, 2) := by decide +kernel
theorem dX12_isOf_22 : decode cX12_isOf 22 = .ok (.aload_n 0, 1) := by decide +kernel
theorem dX12_isOf_23 : decode cX12_isOf 23 = .ok (.getfield 11, 3) := by decide +kernel
theorem dX12_isOf_26 : decode cX12_isOf 26 = .ok (.imul, 1) := by decide +kernel
theorem dX12_isOf_27 : decode cX12_isOf 27 = .ok (.iload_n 3, 1) := by decide +kernel
theorem dX12_isOf_28 : decode cX12_isOf 28 = .ok (.iadd, 1) := by decide +kernel
theorem dX12_isOf_29 : decode cX12_isOf 29 = .ok (.iaload, 1) := by decide +kernel
theorem dX12_isOf_30 : decode cX12_isOf 30 = .ok (.istore_n 3, 1) := by decide +kernel
theorem dX12_isOf_31 : decode cX12_isOf 31 = .ok (.goto (-24), 3) := by decide +kernel
theorem dX12_isOf_34 : decode cX12_isOf 34 = .ok (.iload_n 3, 1) := by decide +kernel
theorem dX12_isOf_35 : decode cX12_isOf 35 = .ok (.iload_n 2, 1) := by decide +kernel
theorem dX12_isOf_36 : decode cX12_isOf 36 = .ok (.if_icmp .ne 7, 3) := by decide +kernel
theorem dX12_isOf_39 : decode cX12_isOf 39 = .ok (.iconst 1, 1) := by decide +kernel
theorem dX12_isOf_40 : decode cX12_isOf 40 = .ok (.goto 4, 3) := by decide +kernel
theorem dX12_isOf_43 : decode cX12_isOf 43 = .ok (.iconst 0, 1) := by decide +kernel
theorem dX12_isOf_44 : decode cX12_isOf 44 = .ok (.ireturn, 1) := by decide +kernel
theorem dX12_link_0 : decode cX12_link 0 = .ok (.aload_n 0, 1) := by decide +kernel
theorem dX12_link_1 : decode cX12_link 1 = .ok (.iload_n 1, 1) := by decide +kernel
theorem dX12_link_2 : decode cX12_link 2 = .ok (.iload_n 2, 1) := by decide +kernel
theorem dX12_link_3 : decode cX12_link 3 = .ok (.iconst 3, 1) := by decide +kernel
theorem dX12_link_4 : decode cX12_link 4 = .ok (.invokevirtual 595, 3) := by decide +kernel
theorem dX12_link_7 : decode cX12_link 7 = .ok (.ifCond .eq 35, 3) := by decide +kernel
theorem dX12_link_10 : decode cX12_link 10 = .ok (.iload_n 3, 1) := by decide +kernel
theorem dX12_link_11 : decode cX12_link 11 = .ok (.iconst (-1), 1) := by decide +kernel
theorem dX12_link_12 : decode cX12_link 12 = .ok (.if_icmp .eq 32, 3) := by decide +kernel
theorem dX12_link_15 : decode cX12_link 15 = .ok (.aload_n 0, 1) := by decide +kernel
theorem dX12_link_16 : decode cX12_link 16 = .ok (.iload_n 3, 1) := by decide +kernel
theorem dX12_link_17 : decode cX12_link 17 = .ok (.invokevirtual 592, 3) := by decide +kernel
theorem dX12_link_20 : decode cX12_link 20 = .ok (.ifCond .eq 22, 3) := by decide +kernel
theorem dX12_link_23 : decode cX12_link 23 = .ok (.aload_n 0, 1) := by decide +kernel
theorem dX12_link_24 : decode cX12_link 24 = .ok (.iload_n 3, 1) := by decide +kernel
theorem dX12_link_25 : decode cX12_link 25 = .ok (.aload_n 0, 1) := by decide +kernel
theorem dX12_link_26 : decode cX12_link 26 = .ok (.aload_n 0, 1) := by decide +kernel
theorem dX12_link_27 : decode cX12_link 27 = .ok (.getfield 315, 3) := by decide +kernel
theorem dX12_link_30 : decode cX12_link 30 = .ok (.iload_n 1, 1) := by decide +kernel
theorem dX12_link_31 : decode cX12_link 31 = .ok (.iaload, 1) := by decide +kernel
theorem dX12_link_32 : decode cX12_link 32 = .ok (.iload_n 2, 1) := by decide +kernel
theorem dX12_link_33 : decode cX12_link 33 = .ok (.invokevirtual 580, 3) := by decide +kernel
theorem dX12_link_36 : decode cX12_link 36 = .ok (.invokevirtual 598, 3) := by decide +kernel
theorem dX12_link_39 : decode cX12_link 39 = .ok (.ifCond .ne 5, 3) := by decide +kernel
theorem dX12_link_42 : decode cX12_link 42 = .ok (.iconst 0, 1) := by decide +kernel
theorem dX12_link_43 : decode cX12_link 43 = .ok (.ireturn, 1) := by decide +kernel
theorem dX12_link_44 : decode cX12_link 44 = .ok (.aload_n 0, 1) := by decide +kernel
theorem dX12_link_45 : decode cX12_link 45 = .ok (.getfield 334, 3) := by decide +kernel
theorem dX12_link_48 : decode cX12_link 48 = .ok (.bipush 12, 2) := by decide +kernel
theorem dX12_link_50 : decode cX12_link 50 = .ok (.iload_n 1, 1) := by decide +kernel
theorem dX12_link_51 : decode cX12_link 51 = .ok (.imul, 1) := by decide +kernel
theorem dX12_link_52 : decode cX12_link 52 = .ok (.iload_n 2, 1) := by decide +kernel
theorem dX12_link_53 : decode cX12_link 53 = .ok (.iadd, 1) := by decide +kernel
theorem dX12_link_54 : decode cX12_link 54 = .ok (.iload_n 3, 1) := by decide +kernel
theorem dX12_link_55 : decode cX12_link 55 = .ok (.ifCond .lt 7, 3) := by decide +kernel
theorem dX12_link_58 : decode cX12_link 58 = .ok (.iconst 1, 1) := by decide +kernel
theorem dX12_link_59 : decode cX12_link 59 = .ok (.goto 4, 3) := by decide +kernel
theorem dX12_link_62 : decode cX12_link 62 = .ok (.iconst 0, 1) := by decide +kernel
theorem dX12_link_63 : decode cX12_link 63 = .ok (.bastore, 1) := by decide +kernel
theorem dX12_link_64 : decode cX12_link 64 = .ok (.aload_n 0, 1) := by decide +kernel
theorem dX12_link_65 : decode cX12_link 65 = .ok (.getfield 324, 3) := by decide +kernel
theorem dX12_link_68 : decode cX12_link 68 = .ok (.bipush 12, 2) := by decide +kernel
theorem dX12_link_70 : decode cX12_link 70 = .ok (.iload_n 1, 1) := by decide +kernel
theorem dX12_link_71 : decode cX12_link 71 = .ok (.imul, 1) := by decide +kernel
theorem dX12_link_72 : decode cX12_link 72 = .ok (.iload_n 2, 1) := by decide +kernel
theorem dX12_link_73 : decode cX12_link 73 = .ok (.iadd, 1) := by decide +kernel
theorem dX12_link_74 : decode cX12_link 74 = .ok (.iload_n 3, 1) := by decide +kernel
theorem dX12_link_75 : decode cX12_link 75 = .ok (.iastore, 1) := by decide +kernel
theorem dX12_link_76 : decode cX12_link 76 = .ok (.iconst 1, 1) := by decide +kernel
theorem dX12_link_77 : decode cX12_link 77 = .ok (.ireturn, 1) := by decide +kernel
theorem dX12_item_0 : decode cX12_item 0 = .ok (.aload_n 0, 1) := by decide +kernel
theorem dX12_item_1 : decode cX12_item 1 = .ok (.iload_n 1, 1) := by decide +kernel
theorem dX12_item_2 : decode cX12_item 2 = .ok (.iload_n 2, 1) := by decide +kernel
theorem dX12_item_3 : decode cX12_item 3 = .ok (.iconst 2, 1) := by decide +kernel
theorem dX12_item_4 : decode cX12_item 4 = .ok (.invokevirtual 595, 3) := by decide +kernel
theorem dX12_item_7 : decode cX12_item 7 = .ok (.ifCond .eq 30, 3) := by decide +kernel
theorem dX12_item_10 : decode cX12_item 10 = .ok (.aload_n 0, 1) := by decide +kernel
theorem dX12_item_11 : decode cX12_item 11 = .ok (.iload_n 3, 1) := by decide +kernel
theorem dX12_item_12 : decode cX12_item 12 = .ok (.invokevirtual 592, 3) := by decide +kernel
theorem dX12_item_15 : decode cX12_item 15 = .ok (.ifCond .eq 22, 3) := by decide +kernel
theorem dX12_item_18 : decode cX12_item 18 = .ok (.aload_n 0, 1) := by decide +kernel
theorem dX12_item_19 : decode cX12_item 19 = .ok (.iload_n 3, 1) := by decide +kernel
theorem dX12_item_20 : decode cX12_item 20 = .ok (.aload_n 0, 1) := by decide +kernel
theorem dX12_item_21 : decode cX12_item 21 = .ok (.aload_n 0, 1) := by decide +kernel
theorem dX12_item_22 : decode cX12_item 22 = .ok (.getfield 315, 3) := by decide +kernel
theorem dX12_item_25 : decode cX12_item 25 = .ok (.iload_n 1, 1) := by decide +kernel
theorem dX12_item_26 : decode cX12_item 26 = .ok (.iaload, 1) := by decide +kernel
theorem dX12_item_27 : decode cX12_item 27 = .ok (.iload_n 2, 1) := by decide +kernel
theorem dX12_item_28 : decode cX12_item 28 = .ok (.invokevirtual 580, 3) := by decide +kernel
theorem dX12_item_31 : decode cX12_item 31 = .ok (.invokevirtual 598, 3) := by decide +kernel
theorem dX12_item_34 : decode cX12_item 34 = .ok (.ifCond .ne 5, 3) := by decide +kernel
theorem dX12_item_37 : decode cX12_item 37 = .ok (.iconst (-1), 1) := by decide +kernel
theorem dX12_item_38 : decode cX12_item 38 = .ok (.ireturn, 1) := by decide +kernel
theorem dX12_item_39 : decode cX12_item 39 = .ok (.bipush 12, 2) := by decide +kernel
theorem dX12_item_41 : decode cX12_item 41 = .ok (.iload_n 1, 1) := by decide +kernel
theorem dX12_item_42 : decode cX12_item 42 = .ok (.imul, 1) := by decide +kernel
theorem dX12_item_43 : decode cX12_item 43 = .ok (.iload_n 2, 1) := by decide +kernel
theorem dX12_item_44 : decode cX12_item 44 = .ok (.iadd, 1) := by decide +kernel
theorem dX12_item_45 : decode cX12_item 45 = .ok (.istore 4, 2) := by decide +kernel
theorem dX12_item_47 : decode cX12_item 47 = .ok (.aload_n 0, 1) := by decide +kernel
theorem dX12_item_48 : decode cX12_item 48 = .ok (.getfield 327, 3) := by decide +kernel
theorem dX12_item_51 : decode cX12_item 51 = .ok (.iload 4, 2) := by decide +kernel
theorem dX12_item_53 : decode cX12_item 53 = .ok (.iaload, 1) := by decide +kernel
theorem dX12_item_54 : decode cX12_item 54 = .ok (.bipush 20, 2) := by decide +kernel
theorem dX12_item_56 : decode cX12_item 56 = .ok (.if_icmp .ne 5, 3) := by decide +kernel
theorem dX12_item_59 : decode cX12_item 59 = .ok (.iconst (-1), 1) := by decide +kernel
theorem dX12_item_60 : decode cX12_item 60 = .ok (.ireturn, 1) := by decide +kernel
theorem dX12_item_61 : decode cX12_item 61 = .ok (.aload_n 0, 1) := by decide +kernel
theorem dX12_item_62 : decode cX12_item 62 = .ok (.getfield 331, 3) := by decide +kernel
theorem dX12_item_65 : decode cX12_item 65 = .ok (.bipush 20, 2) := by decide +kernel
theorem dX12_item_67 : decode cX12_item 67 = .ok (.iload 4, 2) := by decide +kernel
theorem dX12_item_69 : decode cX12_item 69 = .ok (.imul, 1) := by decide +kernel
theorem dX12_item_70 : decode cX12_item 70 = .ok (.aload_n 0, 1) := by decide +kernel
theorem dX12_item_71 : decode cX12_item 71 = .ok (.getfield 327, 3) := by decide +kernel
theorem dX12_item_74 : decode cX12_item 74 = .ok (.iload 4, 2) := by decide +kernel
theorem dX12_item_76 : decode cX12_item 76 = .ok (.iaload, 1) := by decide +kernel
theorem dX12_item_77 : decode cX12_item 77 = .ok (.iadd, 1) := by decide +kernel
theorem dX12_item_78 : decode cX12_item 78 = .ok (.iload_n 3, 1) := by decide +kernel
theorem dX12_item_79 : decode cX12_item 79 = .ok (.iastore, 1) := by decide +kernel
theorem dX12_item_80 : decode cX12_item 80 = .ok (.aload_n 0, 1) := by decide +kernel
theorem dX12_item_81 : decode cX12_item 81 = .ok (.getfield 327, 3) := by decide +kernel
theorem dX12_item_84 : decode cX12_item 84 = .ok (.iload 4, 2) := by decide +kernel
theorem dX12_item_86 : decode cX12_item 86 = .ok (.dup2, 1) := by decide +kernel
theorem dX12_item_87 : decode cX12_item 87 = .ok (.iaload, 1) := by decide +kernel
theorem dX12_item_88 : decode cX12_item 88 = .ok (.iconst 1, 1) := by decide +kernel
theorem dX12_item_89 : decode cX12_item 89 = .ok (.iadd, 1) := by decide +kernel
theorem dX12_item_90 : decode cX12_item 90 = .ok (.iastore, 1) := by decide +kernel
theorem dX12_item_91 : decode cX12_item 91 = .ok (.aload_n 0, 1) := by decide +kernel
theorem dX12_item_92 : decode cX12_item 92 = .ok (.getfield 327, 3) := by decide +kernel
theorem dX12_item_95 : decode cX12_item 95 = .ok (.iload 4, 2) := by decide +kernel
theorem dX12_item_97 : decode cX12_item 97 = .ok (.iaload, 1) := by decide +kernel
theorem dX12_item_98 : decode cX12_item 98 = .ok (.ireturn, 1) := by decide +kernel
theorem dX12_value_0 : decode cX12_value 0 = .ok (.aload_n 0, 1) := by decide +kernel
theorem dX12_value_1 : decode cX12_value 1 = .ok (.iload_n 1, 1) := by decide +kernel
theorem dX12_value_2 : decode cX12_value 2 = .ok (.invokevirtual 592, 3) := by decide +kernel
theorem dX12_value_5 : decode cX12_value 5 = .ok (.ifCond .eq 39, 3) := by decide +kernel
theorem dX12_value_8 : decode cX12_value 8 = .ok (.iload_n 2, 1) := by decide +kernel
theorem dX12_value_9 : decode cX12_value 9 = .ok (.ifCond .lt 35, 3) := by decide +kernel
theorem dX12_value_12 : decode cX12_value 12 = .ok (.iload_n 2, 1) := by decide +kernel
theorem dX12_value_13 : decode cX12_value 13 = .ok (.aload_n 0, 1) := by decide +kernel
theorem dX12_value_14 : decode cX12_value 14 = .ok (.getfield 205, 3) := by decide +kernel
theorem dX12_value_17 : decode cX12_value 17 = .ok (.bipush 16, 2) := by decide +kernel
theorem dX12_value_19 : decode cX12_value 19 = .ok (.aload_n 0, 1) := by decide +kernel
theorem dX12_value_20 : decode cX12_value 20 = .ok (.getfield 11, 3) := by decide +kernel
theorem dX12_value_23 : decode cX12_value 23 = .ok (.imul, 1) := by decide +kernel
theorem dX12_value_24 : decode cX12_value 24 = .ok (.aload_n 0, 1) := by decide +kernel
theorem dX12_value_25 : decode cX12_value 25 = .ok (.getfield 315, 3) := by decide +kernel
theorem dX12_value_28 : decode cX12_value 28 = .ok (.iload_n 1, 1) := by decide +kernel
theorem dX12_value_29 : decode cX12_value 29 = .ok (.iaload, 1) := by decide +kernel
theorem dX12_value_30 : decode cX12_value 30 = .ok (.iadd, 1) := by decide +kernel
theorem dX12_value_31 : decode cX12_value 31 = .ok (.iaload, 1) := by decide +kernel
theorem dX12_value_32 : decode cX12_value 32 = .ok (.if_icmp .ge 12, 3) := by decide +kernel
theorem dX12_value_35 : decode cX12_value 35 = .ok (.iload_n 3, 1) := by decide +kernel
theorem dX12_value_36 : decode cX12_value 36 = .ok (.ifCond .lt 8, 3) := by decide +kernel
theorem dX12_value_39 : decode cX12_value 39 = .ok (.iload_n 3, 1) := by decide +kernel
theorem dX12_value_40 : decode cX12_value 40 = .ok (.iconst 1, 1) := by decide +kernel
theorem dX12_value_41 : decode cX12_value 41 = .ok (.if_icmp .le 5, 3) := by decide +kernel
theorem dX12_value_44 : decode cX12_value 44 = .ok (.iconst (-1), 1) := by decide +kernel
theorem dX12_value_45 : decode cX12_value 45 = .ok (.ireturn, 1) := by decide +kernel
theorem dX12_value_46 : decode cX12_value 46 = .ok (.bipush 12, 2) := by decide +kernel
theorem dX12_value_48 : decode cX12_value 48 = .ok (.iload_n 1, 1) := by decide +kernel
theorem dX12_value_49 : decode cX12_value 49 = .ok (.imul, 1) := by decide +kernel
theorem dX12_value_50 : decode cX12_value 50 = .ok (.iload_n 2, 1) := by decide +kernel
theorem dX12_value_51 : decode cX12_value 51 = .ok (.iadd, 1) := by decide +kernel
theorem dX12_value_52 : decode cX12_value 52 = .ok (.istore 4, 2) := by decide +kernel
theorem dX12_value_54 : decode cX12_value 54 = .ok (.aload_n 0, 1) := by decide +kernel
theorem dX12_value_55 : decode cX12_value 55 = .ok (.aload_n 0, 1) := by decide +kernel
theorem dX12_value_56 : decode cX12_value 56 = .ok (.getfield 315, 3) := by decide +kernel
theorem dX12_value_59 : decode cX12_value 59 = .ok (.iload_n 1, 1) := by decide +kernel
theorem dX12_value_60 : decode cX12_value 60 = .ok (.iaload, 1) := by decide +kernel
theorem dX12_value_61 : decode cX12_value 61 = .ok (.iload_n 2, 1) := by decide +kernel
theorem dX12_value_62 : decode cX12_value 62 = .ok (.invokevirtual 569, 3) := by decide +kernel
theorem dX12_value_65 : decode cX12_value 65 = .ok (.istore 5, 2) := by decide +kernel
theorem dX12_value_67 : decode cX12_value 67 = .ok (.iload 5, 2) := by decide +kernel
theorem dX12_value_69 : decode cX12_value 69 = .ok (.iconst 2, 1) := by decide +kernel
theorem dX12_value_70 : decode cX12_value 70 = .ok (.if_icmp .eq 13, 3) := by decide +kernel
theorem dX12_value_73 : decode cX12_value 73 = .ok (.aload_n 0, 1) := by decide +kernel
theorem dX12_value_74 : decode cX12_value 74 = .ok (.getfield 334, 3) := by decide +kernel
theorem dX12_value_77 : decode cX12_value 77 = .ok (.iload 4, 2) := by decide +kernel
theorem dX12_value_79 : decode cX12_value 79 = .ok (.baload, 1) := by decide +kernel
theorem dX12_value_80 : decode cX12_value 80 = .ok (.ifCond .eq 7, 3) := by decide +kernel
theorem dX12_value_83 : decode cX12_value 83 = .ok (.iconst 1, 1) := by decide +kernel
theorem dX12_value_84 : decode cX12_value 84 = .ok (.goto 4, 3) := by decide +kernel
theorem dX12_value_87 : decode cX12_value 87 = .ok (.iconst 0, 1) := by decide +kernel
theorem dX12_value_88 : decode cX12_value 88 = .ok (.istore 6, 2) := by decide +kernel
theorem dX12_value_90 : decode cX12_value 90 = .ok (.iload_n 3, 1) := by decide +kernel
theorem dX12_value_91 : decode cX12_value 91 = .ok (.ifCond .ne 14, 3) := by decide +kernel
theorem dX12_value_94 : decode cX12_value 94 = .ok (.iload 6, 2) := by decide +kernel
theorem dX12_value_96 : decode cX12_value 96 = .ok (.ifCond .eq 7, 3) := by decide +kernel
theorem dX12_value_99 : decode cX12_value 99 = .ok (.iconst 1, 1) := by decide +kernel
theorem dX12_value_100 : decode cX12_value 100 = .ok (.goto 4, 3) := by decide +kernel
theorem dX12_value_103 : decode cX12_value 103 = .ok (.iconst 0, 1) := by decide +kernel
theorem dX12_value_104 : decode cX12_value 104 = .ok (.ireturn, 1) := by decide +kernel
theorem dX12_value_105 : decode cX12_value 105 = .ok (.iload 6, 2) := by decide +kernel
theorem dX12_value_107 : decode cX12_value 107 = .ok (.ifCond .ne 7, 3) := by decide +kernel
theorem dX12_value_110 : decode cX12_value 110 = .ok (.iconst 0, 1) := by decide +kernel
theorem dX12_value_111 : decode cX12_value 111 = .ok (.goto 57, 3) := by decide +kernel
theorem dX12_value_114 : decode cX12_value 114 = .ok (.iload 5, 2) := by decide +kernel
theorem dX12_value_116 : decode cX12_value 116 = .ok (.ifCond .ne 13, 3) := by decide +kernel
theorem dX12_value_119 : decode cX12_value 119 = .ok (.aload_n 0, 1) := by decide +kernel
theorem dX12_value_120 : decode cX12_value 120 = .ok (.getfield 318, 3) := by decide +kernel
theorem dX12_value_123 : decode cX12_value 123 = .ok (.iload 4, 2) := by decide +kernel
theorem dX12_value_125 : decode cX12_value 125 = .ok (.iaload, 1) := by decide +kernel
theorem dX12_value_126 : decode cX12_value 126 = .ok (.goto 42, 3) := by decide +kernel
theorem dX12_value_129 : decode cX12_value 129 = .ok (.iload 5, 2) := by decide +kernel
theorem dX12_value_131 : decode cX12_value 131 = .ok (.iconst 1, 1) := by decide +kernel
theorem dX12_value_132 : decode cX12_value 132 = .ok (.if_icmp .ne 13, 3) := by decide +kernel
theorem dX12_value_135 : decode cX12_value 135 = .ok (.aload_n 0, 1) := by decide +kernel
theorem dX12_value_136 : decode cX12_value 136 = .ok (.getfield 321, 3) := by decide +kernel
theorem dX12_value_139 : decode cX12_value 139 = .ok (.iload 4, 2) := by decide +kernel
theorem dX12_value_141 : decode cX12_value 141 = .ok (.iaload, 1) := by decide +kernel
theorem dX12_value_142 : decode cX12_value 142 = .ok (.goto 26, 3) := by decide +kernel
theorem dX12_value_145 : decode cX12_value 145 = .ok (.iload 5, 2) := by decide +kernel
theorem dX12_value_147 : decode cX12_value 147 = .ok (.iconst 2, 1) := by decide +kernel
theorem dX12_value_148 : decode cX12_value 148 = .ok (.if_icmp .ne 13, 3) := by decide +kernel
theorem dX12_value_151 : decode cX12_value 151 = .ok (.aload_n 0, 1) := by decide +kernel
theorem dX12_value_152 : decode cX12_value 152 = .ok (.getfield 327, 3) := by decide +kernel
theorem dX12_value_155 : decode cX12_value 155 = .ok (.iload 4, 2) := by decide +kernel
theorem dX12_value_157 : decode cX12_value 157 = .ok (.iaload, 1) := by decide +kernel
theorem dX12_value_158 : decode cX12_value 158 = .ok (.goto 10, 3) := by decide +kernel
theorem dX12_value_161 : decode cX12_value 161 = .ok (.aload_n 0, 1) := by decide +kernel
theorem dX12_value_162 : decode cX12_value 162 = .ok (.getfield 324, 3) := by decide +kernel
theorem dX12_value_165 : decode cX12_value 165 = .ok (.iload 4, 2) := by decide +kernel
theorem dX12_value_167 : decode cX12_value 167 = .ok (.iaload, 1) := by decide +kernel
theorem dX12_value_168 : decode cX12_value 168 = .ok (.ireturn, 1) := by decide +kernel
theorem dX12_work_0 : decode cX12_work 0 = .ok (.iconst 0, 1) := by decide +kernel
theorem dX12_work_1 : decode cX12_work 1 = .ok (.istore 6, 2) := by decide +kernel
theorem dX12_work_3 : decode cX12_work 3 = .ok (.aload_n 0, 1) := by decide +kernel
theorem dX12_work_4 : decode cX12_work 4 = .ok (.iconst 0, 1) := by decide +kernel
theorem dX12_work_5 : decode cX12_work 5 = .ok (.putfield 601, 3) := by decide +kernel
theorem dX12_work_8 : decode cX12_work 8 = .ok (.sipush 1500, 3) := by decide +kernel
theorem dX12_work_11 : decode cX12_work 11 = .ok (.aload_n 0, 1) := by decide +kernel
theorem dX12_work_12 : decode cX12_work 12 = .ok (.getfield 11, 3) := by decide +kernel
theorem dX12_work_15 : decode cX12_work 15 = .ok (.imul, 1) := by decide +kernel
theorem dX12_work_16 : decode cX12_work 16 = .ok (.iload_n 1, 1) := by decide +kernel
theorem dX12_work_17 : decode cX12_work 17 = .ok (.iadd, 1) := by decide +kernel
theorem dX12_work_18 : decode cX12_work 18 = .ok (.istore 7, 2) := by decide +kernel
theorem dX12_work_20 : decode cX12_work 20 = .ok (.iload 7, 2) := by decide +kernel
theorem dX12_work_22 : decode cX12_work 22 = .ok (.sipush 1500, 3) := by decide +kernel
theorem dX12_work_25 : decode cX12_work 25 = .ok (.aload_n 0, 1) := by decide +kernel
theorem dX12_work_26 : decode cX12_work 26 = .ok (.getfield 11, 3) := by decide +kernel
theorem dX12_work_29 : decode cX12_work 29 = .ok (.imul, 1) := by decide +kernel
theorem dX12_work_30 : decode cX12_work 30 = .ok (.iload_n 1, 1) := by decide +kernel
theorem dX12_work_31 : decode cX12_work 31 = .ok (.iadd, 1) := by decide +kernel
theorem dX12_work_32 : decode cX12_work 32 = .ok (.iload_n 2, 1) := by decide +kernel
theorem dX12_work_33 : decode cX12_work 33 = .ok (.iadd, 1) := by decide +kernel
theorem dX12_work_34 : decode cX12_work 34 = .ok (.if_icmp .ge 178, 3) := by decide +kernel
theorem dX12_work_37 : decode cX12_work 37 = .ok (.aload_n 0, 1) := by decide +kernel
theorem dX12_work_38 : decode cX12_work 38 = .ok (.getfield 601, 3) := by decide +kernel
theorem dX12_work_41 : decode cX12_work 41 = .ok (.ifCond .ne 171, 3) := by decide +kernel
theorem dX12_work_44 : decode cX12_work 44 = .ok (.aload_n 0, 1) := by decide +kernel
theorem dX12_work_45 : decode cX12_work 45 = .ok (.getfield 184, 3) := by decide +kernel
theorem dX12_work_48 : decode cX12_work 48 = .ok (.iload 7, 2) := by decide +kernel
theorem dX12_work_50 : decode cX12_work 50 = .ok (.iaload, 1) := by decide +kernel
theorem dX12_work_51 : decode cX12_work 51 = .ok (.istore 8, 2) := by decide +kernel
theorem dX12_work_53 : decode cX12_work 53 = .ok (.iload 8, 2) := by decide +kernel
theorem dX12_work_55 : decode cX12_work 55 = .ok (.bipush 110, 2) := by decide +kernel
theorem dX12_work_57 : decode cX12_work 57 = .ok (.if_icmp .eq 24, 3) := by decide +kernel
theorem dX12_work_60 : decode cX12_work 60 = .ok (.iload 8, 2) := by decide +kernel
theorem dX12_work_62 : decode cX12_work 62 = .ok (.bipush 118, 2) := by decide +kernel
theorem dX12_work_64 : decode cX12_work 64 = .ok (.if_icmp .eq 17, 3) := by decide +kernel
theorem dX12_work_67 : decode cX12_work 67 = .ok (.iload 8, 2) := by decide +kernel
theorem dX12_work_69 : decode cX12_work 69 = .ok (.bipush 97, 2) := by decide +kernel
theorem dX12_work_71 : decode cX12_work 71 = .ok (.if_icmp .eq 10, 3) := by decide +kernel
theorem dX12_work_74 : decode cX12_work 74 = .ok (.iload 8, 2) := by decide +kernel
theorem dX12_work_76 : decode cX12_work 76 = .ok (.bipush 98, 2) := by decide +kernel
theorem dX12_work_78 : decode cX12_work 78 = .ok (.if_icmp .ne 58, 3) := by decide +kernel
theorem dX12_work_81 : decode cX12_work 81 = .ok (.aload_n 0, 1) := by decide +kernel
theorem dX12_work_82 : decode cX12_work 82 = .ok (.getfield 352, 3) := by decide +kernel
theorem dX12_work_85 : decode cX12_work 85 = .ok (.iload 6, 2) := by decide +kernel
theorem dX12_work_87 : decode cX12_work 87 = .ok (.iload 8, 2) := by decide +kernel
theorem dX12_work_89 : decode cX12_work 89 = .ok (.bipush 110, 2) := by decide +kernel
theorem dX12_work_91 : decode cX12_work 91 = .ok (.if_icmp .ne 13, 3) := by decide +kernel
theorem dX12_work_94 : decode cX12_work 94 = .ok (.aload_n 0, 1) := by decide +kernel
theorem dX12_work_95 : decode cX12_work 95 = .ok (.getfield 187, 3) := by decide +kernel
theorem dX12_work_98 : decode cX12_work 98 = .ok (.iload 7, 2) := by decide +kernel
theorem dX12_work_100 : decode cX12_work 100 = .ok (.iaload, 1) := by decide +kernel
theorem dX12_work_101 : decode cX12_work 101 = .ok (.goto 28, 3) := by decide +kernel
theorem dX12_work_104 : decode cX12_work 104 = .ok (.iload 8, 2) := by decide +kernel
theorem dX12_work_106 : decode cX12_work 106 = .ok (.bipush 118, 2) := by decide +kernel
theorem dX12_work_108 : decode cX12_work 108 = .ok (.if_icmp .ne 7, 3) := by decide +kernel
theorem dX12_work_111 : decode cX12_work 111 = .ok (.iload_n 3, 1) := by decide +kernel
theorem dX12_work_112 : decode cX12_work 112 = .ok (.goto 17, 3) := by decide +kernel
theorem dX12_work_115 : decode cX12_work 115 = .ok (.iload 8, 2) := by decide +kernel
theorem dX12_work_117 : decode cX12_work 117 = .ok (.bipush 97, 2) := by decide +kernel
theorem dX12_work_119 : decode cX12_work 119 = .ok (.if_icmp .ne 8, 3) := by decide +kernel
theorem dX12_work_122 : decode cX12_work 122 = .ok (.iload 4, 2) := by decide +kernel
theorem dX12_work_124 : decode cX12_work 124 = .ok (.goto 5, 3) := by decide +kernel
theorem dX12_work_127 : decode cX12_work 127 = .ok (.iload 5, 2) := by decide +kernel
theorem dX12_work_129 : decode cX12_work 129 = .ok (.iastore, 1) := by decide +kernel
theorem dX12_work_130 : decode cX12_work 130 = .ok (.iinc 6 1, 3) := by decide +kernel
theorem dX12_work_133 : decode cX12_work 133 = .ok (.goto 73, 3) := by decide +kernel
theorem dX12_work_136 : decode cX12_work 136 = .ok (.iload 8, 2) := by decide +kernel
theorem dX12_work_138 : decode cX12_work 138 = .ok (.bipush 126, 2) := by decide +kernel
theorem dX12_work_140 : decode cX12_work 140 = .ok (.if_icmp .ne 32, 3) := by decide +kernel
theorem dX12_work_143 : decode cX12_work 143 = .ok (.aload_n 0, 1) := by decide +kernel
theorem dX12_work_144 : decode cX12_work 144 = .ok (.getfield 352, 3) := by decide +kernel
theorem dX12_work_147 : decode cX12_work 147 = .ok (.iload 6, 2) := by decide +kernel
theorem dX12_work_149 : decode cX12_work 149 = .ok (.iconst 1, 1) := by decide +kernel
theorem dX12_work_150 : decode cX12_work 150 = .ok (.isub, 1) := by decide +kernel
theorem dX12_work_151 : decode cX12_work 151 = .ok (.aload_n 0, 1) := by decide +kernel
theorem dX12_work_152 : decode cX12_work 152 = .ok (.getfield 352, 3) := by decide +kernel
theorem dX12_work_155 : decode cX12_work 155 = .ok (.iload 6, 2) := by decide +kernel
theorem dX12_work_157 : decode cX12_work 157 = .ok (.iconst 1, 1) := by decide +kernel
theorem dX12_work_158 : decode cX12_work 158 = .ok (.isub, 1) := by decide +kernel
theorem dX12_work_159 : decode cX12_work 159 = .ok (.iaload, 1) := by decide +kernel
theorem dX12_work_160 : decode cX12_work 160 = .ok (.ifCond .ne 7, 3) := by decide +kernel
theorem dX12_work_163 : decode cX12_work 163 = .ok (.iconst 1, 1) := by decide +kernel
theorem dX12_work_164 : decode cX12_work 164 = .ok (.goto 4, 3) := by decide +kernel
theorem dX12_work_167 : decode cX12_work 167 = .ok (.iconst 0, 1) := by decide +kernel
theorem dX12_work_168 : decode cX12_work 168 = .ok (.iastore, 1) := by decide +kernel
theorem dX12_work_169 : decode cX12_work 169 = .ok (.goto 37, 3) := by decide +kernel
theorem dX12_work_172 : decode cX12_work 172 = .ok (.iinc 6 (-1), 3) := by decide +kernel
theorem dX12_work_175 : decode cX12_work 175 = .ok (.aload_n 0, 1) := by decide +kernel
theorem dX12_work_176 : decode cX12_work 176 = .ok (.getfield 352, 3) := by decide +kernel
theorem dX12_work_179 : decode cX12_work 179 = .ok (.iload 6, 2) := by decide +kernel
theorem dX12_work_181 : decode cX12_work 181 = .ok (.iconst 1, 1) := by decide +kernel
theorem dX12_work_182 : decode cX12_work 182 = .ok (.isub, 1) := by decide +kernel
theorem dX12_work_183 : decode cX12_work 183 = .ok (.aload_n 0, 1) := by decide +kernel
theorem dX12_work_184 : decode cX12_work 184 = .ok (.iload 8, 2) := by decide +kernel
theorem dX12_work_186 : decode cX12_work 186 = .ok (.aload_n 0, 1) := by decide +kernel
theorem dX12_work_187 : decode cX12_work 187 = .ok (.getfield 352, 3) := by decide +kernel
theorem dX12_work_190 : decode cX12_work 190 = .ok (.iload 6, 2) := by decide +kernel
theorem dX12_work_192 : decode cX12_work 192 = .ok (.iconst 1, 1) := by decide +kernel
theorem dX12_work_193 : decode cX12_work 193 = .ok (.isub, 1) := by decide +kernel
theorem dX12_work_194 : decode cX12_work 194 = .ok (.iaload, 1) := by decide +kernel
theorem dX12_work_195 : decode cX12_work 195 = .ok (.aload_n 0, 1) := by decide +kernel
theorem dX12_work_196 : decode cX12_work 196 = .ok (.getfield 352, 3) := by decide +kernel
theorem dX12_work_199 : decode cX12_work 199 = .ok (.iload 6, 2) := by decide +kernel
theorem dX12_work_201 : decode cX12_work 201 = .ok (.iaload, 1) := by decide +kernel
theorem dX12_work_202 : decode cX12_work 202 = .ok (.invokevirtual 604, 3) := by decide +kernel
theorem dX12_work_205 : decode cX12_work 205 = .ok (.iastore, 1) := by decide +kernel
theorem dX12_work_206 : decode cX12_work 206 = .ok (.iinc 7 1, 3) := by decide +kernel
theorem dX12_work_209 : decode cX12_work 209 = .ok (.goto (-189), 3) := by decide +kernel
theorem dX12_work_212 : decode cX12_work 212 = .ok (.iload 6, 2) := by decide +kernel
theorem dX12_work_214 : decode cX12_work 214 = .ok (.ifCond .le 12, 3) := by decide +kernel
theorem dX12_work_217 : decode cX12_work 217 = .ok (.aload_n 0, 1) := by decide +kernel
theorem dX12_work_218 : decode cX12_work 218 = .ok (.getfield 352, 3) := by decide +kernel
theorem dX12_work_221 : decode cX12_work 221 = .ok (.iconst 0, 1) := by decide +kernel
theorem dX12_work_222 : decode cX12_work 222 = .ok (.iaload, 1) := by decide +kernel
theorem dX12_work_223 : decode cX12_work 223 = .ok (.goto 4, 3) := by decide +kernel
theorem dX12_work_226 : decode cX12_work 226 = .ok (.iconst 1, 1) := by decide +kernel
theorem dX12_work_227 : decode cX12_work 227 = .ok (.ireturn, 1) := by decide +kernel
theorem dX12_two_0 : decode cX12_two 0 = .ok (.iload_n 1, 1) := by decide +kernel
theorem dX12_two_1 : decode cX12_two 1 = .ok (.tableswitch 226 37 62 #[131, 222, 226, 226, 226, 127, 119, 226, 123, 226, 131, 226, 226, 226, 226, 226, 226, 226, 226, 226, 226, 226, 226, 189, 211, 200], 119) := by decide +kernel
theorem dX12_two_120 : decode cX12_two 120 = .ok (.iload_n 2, 1) := by decide +kernel
theorem dX12_two_121 : decode cX12_two 121 = .ok (.iload_n 3, 1) := by decide +kernel
theorem dX12_two_122 : decode cX12_two 122 = .ok (.iadd, 1) := by decide +kernel
theorem dX12_two_123 : decode cX12_two 123 = .ok (.ireturn, 1) := by decide +kernel
theorem dX12_two_124 : decode cX12_two 124 = .ok (.iload_n 2, 1) := by decide +kernel
theorem dX12_two_125 : decode cX12_two 125 = .ok (.iload_n 3, 1) := by decide +kernel
theorem dX12_two_126 : decode cX12_two 126 = .ok (.isub, 1) := by decide +kernel
theorem dX12_two_127 : decode cX12_two 127 = .ok (.ireturn, 1) := by decide +kernel
theorem dX12_two_128 : decode cX12_two 128 = .ok (.iload_n 2, 1) := by decide +kernel
theorem dX12_two_129 : decode cX12_two 129 = .ok (.iload_n 3, 1) := by decide +kernel
theorem dX12_two_130 : decode cX12_two 130 = .ok (.imul, 1) := by decide +kernel
theorem dX12_two_131 : decode cX12_two 131 = .ok (.ireturn, 1) := by decide +kernel
theorem dX12_two_132 : decode cX12_two 132 = .ok (.aload_n 0, 1) := by decide +kernel
theorem dX12_two_133 : decode cX12_two 133 = .ok (.iload_n 3, 1) := by decide +kernel
theorem dX12_two_134 : decode cX12_two 134 = .ok (.ifCond .ne 7, 3) := by decide +kernel
theorem dX12_two_137 : decode cX12_two 137 = .ok (.iconst 1, 1) := by decide +kernel
theorem dX12_two_138 : decode cX12_two 138 = .ok (.goto 4, 3) := by decide +kernel
theorem dX12_two_141 : decode cX12_two 141 = .ok (.iconst 0, 1) := by decide +kernel
theorem dX12_two_142 : decode cX12_two 142 = .ok (.putfield 601, 3) := by decide +kernel
theorem dX12_two_145 : decode cX12_two 145 = .ok (.aload_n 0, 1) := by decide +kernel
theorem dX12_two_146 : decode cX12_two 146 = .ok (.getfield 601, 3) := by decide +kernel
theorem dX12_two_149 : decode cX12_two 149 = .ok (.ifCond .eq 5, 3) := by decide +kernel
theorem dX12_two_152 : decode cX12_two 152 = .ok (.iconst 0, 1) := by decide +kernel
theorem dX12_two_153 : decode cX12_two 153 = .ok (.ireturn, 1) := by decide +kernel
theorem dX12_two_154 : decode cX12_two 154 = .ok (.iload_n 3, 1) := by decide +kernel
theorem dX12_two_155 : decode cX12_two 155 = .ok (.iconst (-1), 1) := by decide +kernel
theorem dX12_two_156 : decode cX12_two 156 = .ok (.if_icmp .ne 18, 3) := by decide +kernel
theorem dX12_two_159 : decode cX12_two 159 = .ok (.iload_n 1, 1) := by decide +kernel
theorem dX12_two_160 : decode cX12_two 160 = .ok (.bipush 47, 2) := by decide +kernel
theorem dX12_two_162 : decode cX12_two 162 = .ok (.if_icmp .ne 8, 3) := by decide +kernel
theorem dX12_two_165 : decode cX12_two 165 = .ok (.iload_n 2, 1) := by decide +kernel
theorem dX12_two_166 : decode cX12_two 166 = .ok (.ineg, 1) := by decide +kernel
theorem dX12_two_167 : decode cX12_two 167 = .ok (.goto 22, 3) := by decide +kernel
theorem dX12_two_170 : decode cX12_two 170 = .ok (.iconst 0, 1) := by decide +kernel
theorem dX12_two_171 : decode cX12_two 171 = .ok (.goto 18, 3) := by decide +kernel
theorem dX12_two_174 : decode cX12_two 174 = .ok (.iload_n 1, 1) := by decide +kernel
theorem dX12_two_175 : decode cX12_two 175 = .ok (.bipush 47, 2) := by decide +kernel
theorem dX12_two_177 : decode cX12_two 177 = .ok (.if_icmp .ne 9, 3) := by decide +kernel
theorem dX12_two_180 : decode cX12_two 180 = .ok (.iload_n 2, 1) := by decide +kernel
theorem dX12_two_181 : decode cX12_two 181 = .ok (.iload_n 3, 1) := by decide +kernel
theorem dX12_two_182 : decode cX12_two 182 = .ok (.idiv, 1) := by decide +kernel
theorem dX12_two_183 : decode cX12_two 183 = .ok (.goto 6, 3) := by decide +kernel
theorem dX12_two_186 : decode cX12_two 186 = .ok (.iload_n 2, 1) := by decide +kernel
theorem dX12_two_187 : decode cX12_two 187 = .ok (.iload_n 3, 1) := by decide +kernel
theorem dX12_two_188 : decode cX12_two 188 = .ok (.irem, 1) := by decide +kernel
theorem dX12_two_189 : decode cX12_two 189 = .ok (.ireturn, 1) := by decide +kernel
theorem dX12_two_190 : decode cX12_two 190 = .ok (.iload_n 2, 1) := by decide +kernel
theorem dX12_two_191 : decode cX12_two 191 = .ok (.iload_n 3, 1) := by decide +kernel
theorem dX12_two_192 : decode cX12_two 192 = .ok (.if_icmp .ge 7, 3) := by decide +kernel
theorem dX12_two_195 : decode cX12_two 195 = .ok (.iconst 1, 1) := by decide +kernel
theorem dX12_two_196 : decode cX12_two 196 = .ok (.goto 4, 3) := by decide +kernel
theorem dX12_two_199 : decode cX12_two 199 = .ok (.iconst 0, 1) := by decide +kernel
theorem dX12_two_200 : decode cX12_two 200 = .ok (.ireturn, 1) := by decide +kernel
theorem dX12_two_201 : decode cX12_two 201 = .ok (.iload_n 2, 1) := by decide +kernel
theorem dX12_two_202 : decode cX12_two 202 = .ok (.iload_n 3, 1) := by decide +kernel
theorem dX12_two_203 : decode cX12_two 203 = .ok (.if_icmp .le 7, 3) := by decide +kernel
theorem dX12_two_206 : decode cX12_two 206 = .ok (.iconst 1, 1) := by decide +kernel
theorem dX12_two_207 : decode cX12_two 207 = .ok (.goto 4, 3) := by decide +kernel
theorem dX12_two_210 : decode cX12_two 210 = .ok (.iconst 0, 1) := by decide +kernel
theorem dX12_two_211 : decode cX12_two 211 = .ok (.ireturn, 1) := by decide +kernel
theorem dX12_two_212 : decode cX12_two 212 = .ok (.iload_n 2, 1) := by decide +kernel
theorem dX12_two_213 : decode cX12_two 213 = .ok (.iload_n 3, 1) := by decide +kernel
theorem dX12_two_214 : decode cX12_two 214 = .ok (.if_icmp .ne 7, 3) := by decide +kernel
theorem dX12_two_217 : decode cX12_two 217 = .ok (.iconst 1, 1) := by decide +kernel
theorem dX12_two_218 : decode cX12_two 218 = .ok (.goto 4, 3) := by decide +kernel
theorem dX12_two_221 : decode cX12_two 221 = .ok (.iconst 0, 1) := by decide +kernel
theorem dX12_two_222 : decode cX12_two 222 = .ok (.ireturn, 1) := by decide +kernel
theorem dX12_two_223 : decode cX12_two 223 = .ok (.iload_n 2, 1) := by decide +kernel
theorem dX12_two_224 : decode cX12_two 224 = .ok (.iload_n 3, 1) := by decide +kernel
theorem dX12_two_225 : decode cX12_two 225 = .ok (.iand, 1) := by decide +kernel
theorem dX12_two_226 : decode cX12_two 226 = .ok (.ireturn, 1) := by decide +kernel
theorem dX12_two_227 : decode cX12_two 227 = .ok (.iload_n 2, 1) := by decide +kernel
theorem dX12_two_228 : decode cX12_two 228 = .ok (.iload_n 3, 1) := by decide +kernel
theorem dX12_two_229 : decode cX12_two 229 = .ok (.ior, 1) := by decide +kernel
theorem dX12_two_230 : decode cX12_two 230 = .ok (.ireturn, 1) := by decide +kernel
theorem dX12_ownOf_0 : decode cX12_ownOf 0 = .ok (.aload_n 0, 1) := by decide +kernel
theorem dX12_ownOf_1 : decode cX12_ownOf 1 = .ok (.aload_n 0, 1) := by decide +kernel
theorem dX12_ownOf_2 : decode cX12_ownOf 2 = .ok (.getfield 178, 3) := by decide +kernel
theorem dX12_ownOf_5 : decode cX12_ownOf 5 = .ok (.bipush 16, 2) := by decide +kernel
theorem dX12_ownOf_7 : decode cX12_ownOf 7 = .ok (.aload_n 0, 1) := by decide +kernel
theorem dX12_ownOf_8 : decode cX12_ownOf 8 = .ok (.getfield 11, 3) := by decide +kernel
theorem dX12_ownOf_11 : decode cX12_ownOf 11 = .ok (.imul, 1) := by decide +kernel
theorem dX12_ownOf_12 : decode cX12_ownOf 12 = .ok (.iload_n 1, 1) := by decide +kernel
theorem dX12_ownOf_13 : decode cX12_ownOf 13 = .ok (.iadd, 1) := by decide +kernel
theorem dX12_ownOf_14 : decode cX12_ownOf 14 = .ok (.iaload, 1) := by decide +kernel
theorem dX12_ownOf_15 : decode cX12_ownOf 15 = .ok (.aload_n 0, 1) := by decide +kernel
theorem dX12_ownOf_16 : decode cX12_ownOf 16 = .ok (.getfield 181, 3) := by decide +kernel
theorem dX12_ownOf_19 : decode cX12_ownOf 19 = .ok (.bipush 16, 2) := by decide +kernel
theorem dX12_ownOf_21 : decode cX12_ownOf 21 = .ok (.aload_n 0, 1) := by decide +kernel
theorem dX12_ownOf_22 : decode cX12_ownOf 22 = .ok (.getfield 11, 3) := by decide +kernel
theorem dX12_ownOf_25 : decode cX12_ownOf 25 = .ok (.imul, 1) := by decide +kernel
theorem dX12_ownOf_26 : decode cX12_ownOf 26 = .ok (.iload_n 1, 1) := by decide +kernel
theorem dX12_ownOf_27 : decode cX12_ownOf 27 = .ok (.iadd, 1) := by decide +kernel
theorem dX12_ownOf_28 : decode cX12_ownOf 28 = .ok (.iaload, 1) := by decide +kernel
theorem dX12_ownOf_29 : decode cX12_ownOf 29 = .ok (.iload_n 2, 1) := by decide +kernel
theorem dX12_ownOf_30 : decode cX12_ownOf 30 = .ok (.aload_n 0, 1) := by decide +kernel
theorem dX12_ownOf_31 : decode cX12_ownOf 31 = .ok (.getfield 284, 3) := by decide +kernel
theorem dX12_ownOf_34 : decode cX12_ownOf 34 = .ok (.iload_n 3, 1) := by decide +kernel
theorem dX12_ownOf_35 : decode cX12_ownOf 35 = .ok (.iaload, 1) := by decide +kernel
theorem dX12_ownOf_36 : decode cX12_ownOf 36 = .ok (.ifCond .le 14, 3) := by decide +kernel
theorem dX12_ownOf_39 : decode cX12_ownOf 39 = .ok (.aload_n 0, 1) := by decide +kernel
theorem dX12_ownOf_40 : decode cX12_ownOf 40 = .ok (.getfield 288, 3) := by decide +kernel
theorem dX12_ownOf_43 : decode cX12_ownOf 43 = .ok (.iconst 4, 1) := by decide +kernel
theorem dX12_ownOf_44 : decode cX12_ownOf 44 = .ok (.iload_n 3, 1) := by decide +kernel
theorem dX12_ownOf_45 : decode cX12_ownOf 45 = .ok (.imul, 1) := by decide +kernel
theorem dX12_ownOf_46 : decode cX12_ownOf 46 = .ok (.iaload, 1) := by decide +kernel
theorem dX12_ownOf_47 : decode cX12_ownOf 47 = .ok (.goto 4, 3) := by decide +kernel
theorem dX12_ownOf_50 : decode cX12_ownOf 50 = .ok (.iconst 0, 1) := by decide +kernel
theorem dX12_ownOf_51 : decode cX12_ownOf 51 = .ok (.aload_n 0, 1) := by decide +kernel
theorem dX12_ownOf_52 : decode cX12_ownOf 52 = .ok (.getfield 284, 3) := by decide +kernel
theorem dX12_ownOf_55 : decode cX12_ownOf 55 = .ok (.iload_n 3, 1) := by decide +kernel
theorem dX12_ownOf_56 : decode cX12_ownOf 56 = .ok (.iaload, 1) := by decide +kernel
theorem dX12_ownOf_57 : decode cX12_ownOf 57 = .ok (.iconst 1, 1) := by decide +kernel
theorem dX12_ownOf_58 : decode cX12_ownOf 58 = .ok (.if_icmp .le 16, 3) := by decide +kernel
theorem dX12_ownOf_61 : decode cX12_ownOf 61 = .ok (.aload_n 0, 1) := by decide +kernel
theorem dX12_ownOf_62 : decode cX12_ownOf 62 = .ok (.getfield 288, 3) := by decide +kernel
theorem dX12_ownOf_65 : decode cX12_ownOf 65 = .ok (.iconst 4, 1) := by decide +kernel
theorem dX12_ownOf_66 : decode cX12_ownOf 66 = .ok (.iload_n 3, 1) := by decide +kernel
theorem dX12_ownOf_67 : decode cX12_ownOf 67 = .ok (.imul, 1) := by decide +kernel
theorem dX12_ownOf_68 : decode cX12_ownOf 68 = .ok (.iconst 1, 1) := by decide +kernel
theorem dX12_ownOf_69 : decode cX12_ownOf 69 = .ok (.iadd, 1) := by decide +kernel
theorem dX12_ownOf_70 : decode cX12_ownOf 70 = .ok (.iaload, 1) := by decide +kernel
theorem dX12_ownOf_71 : decode cX12_ownOf 71 = .ok (.goto 4, 3) := by decide +kernel
theorem dX12_ownOf_74 : decode cX12_ownOf 74 = .ok (.iconst 0, 1) := by decide +kernel
theorem dX12_ownOf_75 : decode cX12_ownOf 75 = .ok (.invokevirtual 607, 3) := by decide +kernel
theorem dX12_ownOf_78 : decode cX12_ownOf 78 = .ok (.ireturn, 1) := by decide +kernel
theorem dX12_starts_0 : decode cX12_starts 0 = .ok (.aload_n 0, 1) := by decide +kernel
theorem dX12_starts_1 : decode cX12_starts 1 = .ok (.getfield 337, 3) := by decide +kernel
theorem dX12_starts_4 : decode cX12_starts 4 = .ok (.iload_n 1, 1) := by decide +kernel
theorem dX12_starts_5 : decode cX12_starts 5 = .ok (.iaload, 1) := by decide +kernel
theorem dX12_starts_6 : decode cX12_starts 6 = .ok (.ifCond .le 19, 3) := by decide +kernel
theorem dX12_starts_9 : decode cX12_starts 9 = .ok (.aload_n 0, 1) := by decide +kernel
theorem dX12_starts_10 : decode cX12_starts 10 = .ok (.getfield 337, 3) := by decide +kernel
theorem dX12_starts_13 : decode cX12_starts 13 = .ok (.iload_n 1, 1) := by decide +kernel
theorem dX12_starts_14 : decode cX12_starts 14 = .ok (.iaload, 1) := by decide +kernel
theorem dX12_starts_15 : decode cX12_starts 15 = .ok (.iconst 1, 1) := by decide +kernel
theorem dX12_starts_16 : decode cX12_starts 16 = .ok (.if_icmp .ne 7, 3) := by decide +kernel
theorem dX12_starts_19 : decode cX12_starts 19 = .ok (.iconst 1, 1) := by decide +kernel
theorem dX12_starts_20 : decode cX12_starts 20 = .ok (.goto 4, 3) := by decide +kernel
theorem dX12_starts_23 : decode cX12_starts 23 = .ok (.iconst 0, 1) := by decide +kernel
theorem dX12_starts_24 : decode cX12_starts 24 = .ok (.ireturn, 1) := by decide +kernel
theorem dX12_starts_25 : decode cX12_starts 25 = .ok (.aload_n 0, 1) := by decide +kernel
theorem dX12_starts_26 : decode cX12_starts 26 = .ok (.getfield 175, 3) := by decide +kernel
theorem dX12_starts_29 : decode cX12_starts 29 = .ok (.bipush 16, 2) := by decide +kernel
theorem dX12_starts_31 : decode cX12_starts 31 = .ok (.aload_n 0, 1) := by decide +kernel
theorem dX12_starts_32 : decode cX12_starts 32 = .ok (.getfield 11, 3) := by decide +kernel
theorem dX12_starts_35 : decode cX12_starts 35 = .ok (.imul, 1) := by decide +kernel
theorem dX12_starts_36 : decode cX12_starts 36 = .ok (.iload_n 1, 1) := by decide +kernel
theorem dX12_starts_37 : decode cX12_starts 37 = .ok (.iadd, 1) := by decide +kernel
theorem dX12_starts_38 : decode cX12_starts 38 = .ok (.iaload, 1) := by decide +kernel
theorem dX12_starts_39 : decode cX12_starts 39 = .ok (.ifCond .ne 7, 3) := by decide +kernel
theorem dX12_starts_42 : decode cX12_starts 42 = .ok (.iconst 1, 1) := by decide +kernel
theorem dX12_starts_43 : decode cX12_starts 43 = .ok (.goto 38, 3) := by decide +kernel
theorem dX12_starts_46 : decode cX12_starts 46 = .ok (.aload_n 0, 1) := by decide +kernel
theorem dX12_starts_47 : decode cX12_starts 47 = .ok (.aload_n 0, 1) := by decide +kernel
theorem dX12_starts_48 : decode cX12_starts 48 = .ok (.getfield 172, 3) := by decide +kernel
theorem dX12_starts_51 : decode cX12_starts 51 = .ok (.bipush 16, 2) := by decide +kernel
theorem dX12_starts_53 : decode cX12_starts 53 = .ok (.aload_n 0, 1) := by decide +kernel
theorem dX12_starts_54 : decode cX12_starts 54 = .ok (.getfield 11, 3) := by decide +kernel
theorem dX12_starts_57 : decode cX12_starts 57 = .ok (.imul, 1) := by decide +kernel
theorem dX12_starts_58 : decode cX12_starts 58 = .ok (.iload_n 1, 1) := by decide +kernel
theorem dX12_starts_59 : decode cX12_starts 59 = .ok (.iadd, 1) := by decide +kernel
theorem dX12_starts_60 : decode cX12_starts 60 = .ok (.iaload, 1) := by decide +kernel
theorem dX12_starts_61 : decode cX12_starts 61 = .ok (.aload_n 0, 1) := by decide +kernel
theorem dX12_starts_62 : decode cX12_starts 62 = .ok (.getfield 175, 3) := by decide +kernel
theorem dX12_starts_65 : decode cX12_starts 65 = .ok (.bipush 16, 2) := by decide +kernel
theorem dX12_starts_67 : decode cX12_starts 67 = .ok (.aload_n 0, 1) := by decide +kernel
theorem dX12_starts_68 : decode cX12_starts 68 = .ok (.getfield 11, 3) := by decide +kernel
theorem dX12_starts_71 : decode cX12_starts 71 = .ok (.imul, 1) := by decide +kernel
theorem dX12_starts_72 : decode cX12_starts 72 = .ok (.iload_n 1, 1) := by decide +kernel
theorem dX12_starts_73 : decode cX12_starts 73 = .ok (.iadd, 1) := by decide +kernel
theorem dX12_starts_74 : decode cX12_starts 74 = .ok (.iaload, 1) := by decide +kernel
theorem dX12_starts_75 : decode cX12_starts 75 = .ok (.iconst 0, 1) := by decide +kernel
theorem dX12_starts_76 : decode cX12_starts 76 = .ok (.iconst 0, 1) := by decide +kernel
theorem dX12_starts_77 : decode cX12_starts 77 = .ok (.iconst 0, 1) := by decide +kernel
theorem dX12_starts_78 : decode cX12_starts 78 = .ok (.invokevirtual 607, 3) := by decide +kernel
theorem dX12_starts_81 : decode cX12_starts 81 = .ok (.istore_n 2, 1) := by decide +kernel
theorem dX12_starts_82 : decode cX12_starts 82 = .ok (.aload_n 0, 1) := by decide +kernel
theorem dX12_starts_83 : decode cX12_starts 83 = .ok (.getfield 175, 3) := by decide +kernel
theorem dX12_starts_86 : decode cX12_starts 86 = .ok (.bipush 16, 2) := by decide +kernel
theorem dX12_starts_88 : decode cX12_starts 88 = .ok (.aload_n 0, 1) := by decide +kernel
theorem dX12_starts_89 : decode cX12_starts 89 = .ok (.getfield 11, 3) := by decide +kernel
theorem dX12_starts_92 : decode cX12_starts 92 = .ok (.imul, 1) := by decide +kernel
theorem dX12_starts_93 : decode cX12_starts 93 = .ok (.iload_n 1, 1) := by decide +kernel
theorem dX12_starts_94 : decode cX12_starts 94 = .ok (.iadd, 1) := by decide +kernel
theorem dX12_starts_95 : decode cX12_starts 95 = .ok (.iaload, 1) := by decide +kernel
theorem dX12_starts_96 : decode cX12_starts 96 = .ok (.ifCond .le 14, 3) := by decide +kernel
theorem dX12_starts_99 : decode cX12_starts 99 = .ok (.aload_n 0, 1) := by decide +kernel
theorem dX12_starts_100 : decode cX12_starts 100 = .ok (.getfield 601, 3) := by decide +kernel
theorem dX12_starts_103 : decode cX12_starts 103 = .ok (.ifCond .eq 7, 3) := by decide +kernel
theorem dX12_starts_106 : decode cX12_starts 106 = .ok (.iconst 1, 1) := by decide +kernel
theorem dX12_starts_107 : decode cX12_starts 107 = .ok (.goto 4, 3) := by decide +kernel
theorem dX12_starts_110 : decode cX12_starts 110 = .ok (.iconst 0, 1) := by decide +kernel
theorem dX12_starts_111 : decode cX12_starts 111 = .ok (.istore_n 3, 1) := by decide +kernel
theorem dX12_starts_112 : decode cX12_starts 112 = .ok (.aload_n 0, 1) := by decide +kernel
theorem dX12_starts_113 : decode cX12_starts 113 = .ok (.getfield 337, 3) := by decide +kernel
theorem dX12_starts_116 : decode cX12_starts 116 = .ok (.iload_n 1, 1) := by decide +kernel
theorem dX12_starts_117 : decode cX12_starts 117 = .ok (.iload_n 3, 1) := by decide +kernel
theorem dX12_starts_118 : decode cX12_starts 118 = .ok (.ifCond .ne 7, 3) := by decide +kernel
theorem dX12_starts_121 : decode cX12_starts 121 = .ok (.iload_n 2, 1) := by decide +kernel
theorem dX12_starts_122 : decode cX12_starts 122 = .ok (.ifCond .ne 7, 3) := by decide +kernel
theorem dX12_starts_125 : decode cX12_starts 125 = .ok (.iconst 2, 1) := by decide +kernel
theorem dX12_starts_126 : decode cX12_starts 126 = .ok (.goto 4, 3) := by decide +kernel
theorem dX12_starts_129 : decode cX12_starts 129 = .ok (.iconst 1, 1) := by decide +kernel
theorem dX12_starts_130 : decode cX12_starts 130 = .ok (.iastore, 1) := by decide +kernel
theorem dX12_starts_131 : decode cX12_starts 131 = .ok (.aload_n 0, 1) := by decide +kernel
theorem dX12_starts_132 : decode cX12_starts 132 = .ok (.getfield 337, 3) := by decide +kernel
theorem dX12_starts_135 : decode cX12_starts 135 = .ok (.iload_n 1, 1) := by decide +kernel
theorem dX12_starts_136 : decode cX12_starts 136 = .ok (.iaload, 1) := by decide +kernel
theorem dX12_starts_137 : decode cX12_starts 137 = .ok (.iconst 1, 1) := by decide +kernel
theorem dX12_starts_138 : decode cX12_starts 138 = .ok (.if_icmp .ne 5, 3) := by decide +kernel
theorem dX12_starts_141 : decode cX12_starts 141 = .ok (.iconst 1, 1) := by decide +kernel
theorem dX12_starts_142 : decode cX12_starts 142 = .ok (.ireturn, 1) := by decide +kernel
theorem dX12_starts_143 : decode cX12_starts 143 = .ok (.aload_n 0, 1) := by decide +kernel
theorem dX12_starts_144 : decode cX12_starts 144 = .ok (.getfield 346, 3) := by decide +kernel
theorem dX12_starts_147 : decode cX12_starts 147 = .ok (.aload_n 0, 1) := by decide +kernel
theorem dX12_starts_148 : decode cX12_starts 148 = .ok (.getfield 527, 3) := by decide +kernel
theorem dX12_starts_151 : decode cX12_starts 151 = .ok (.iload_n 1, 1) := by decide +kernel
theorem dX12_starts_152 : decode cX12_starts 152 = .ok (.iastore, 1) := by decide +kernel
theorem dX12_starts_153 : decode cX12_starts 153 = .ok (.aload_n 0, 1) := by decide +kernel
theorem dX12_starts_154 : decode cX12_starts 154 = .ok (.getfield 349, 3) := by decide +kernel
theorem dX12_starts_157 : decode cX12_starts 157 = .ok (.aload_n 0, 1) := by decide +kernel
theorem dX12_starts_158 : decode cX12_starts 158 = .ok (.getfield 527, 3) := by decide +kernel
theorem dX12_starts_161 : decode cX12_starts 161 = .ok (.iload_n 3, 1) := by decide +kernel
theorem dX12_starts_162 : decode cX12_starts 162 = .ok (.ifCond .eq 7, 3) := by decide +kernel
theorem dX12_starts_165 : decode cX12_starts 165 = .ok (.iconst 1, 1) := by decide +kernel
theorem dX12_starts_166 : decode cX12_starts 166 = .ok (.goto 4, 3) := by decide +kernel
theorem dX12_starts_169 : decode cX12_starts 169 = .ok (.iconst 2, 1) := by decide +kernel
theorem dX12_starts_170 : decode cX12_starts 170 = .ok (.iastore, 1) := by decide +kernel
theorem dX12_starts_171 : decode cX12_starts 171 = .ok (.aload_n 0, 1) := by decide +kernel
theorem dX12_starts_172 : decode cX12_starts 172 = .ok (.dup, 1) := by decide +kernel
theorem dX12_starts_173 : decode cX12_starts 173 = .ok (.getfield 527, 3) := by decide +kernel
theorem dX12_starts_176 : decode cX12_starts 176 = .ok (.iconst 1, 1) := by decide +kernel
theorem dX12_starts_177 : decode cX12_starts 177 = .ok (.iadd, 1) := by decide +kernel
theorem dX12_starts_178 : decode cX12_starts 178 = .ok (.putfield 527, 3) := by decide +kernel
theorem dX12_starts_181 : decode cX12_starts 181 = .ok (.iconst 0, 1) := by decide +kernel
theorem dX12_starts_182 : decode cX12_starts 182 = .ok (.ireturn, 1) := by decide +kernel
theorem dX12_failed_0 : decode cX12_failed 0 = .ok (.iload_n 1, 1) := by decide +kernel
theorem dX12_failed_1 : decode cX12_failed 1 = .ok (.ifCond .lt 11, 3) := by decide +kernel
theorem dX12_failed_4 : decode cX12_failed 4 = .ok (.iload_n 1, 1) := by decide +kernel
theorem dX12_failed_5 : decode cX12_failed 5 = .ok (.aload_n 0, 1) := by decide +kernel
theorem dX12_failed_6 : decode cX12_failed 6 = .ok (.getfield 527, 3) := by decide +kernel
theorem dX12_failed_9 : decode cX12_failed 9 = .ok (.if_icmp .lt 7, 3) := by decide +kernel
theorem dX12_failed_12 : decode cX12_failed 12 = .ok (.iconst (-1), 1) := by decide +kernel
theorem dX12_failed_13 : decode cX12_failed 13 = .ok (.goto 31, 3) := by decide +kernel
theorem dX12_failed_16 : decode cX12_failed 16 = .ok (.iload_n 2, 1) := by decide +kernel
theorem dX12_failed_17 : decode cX12_failed 17 = .ok (.ifCond .ne 12, 3) := by decide +kernel
theorem dX12_failed_20 : decode cX12_failed 20 = .ok (.aload_n 0, 1) := by decide +kernel
theorem dX12_failed_21 : decode cX12_failed 21 = .ok (.getfield 346, 3) := by decide +kernel
theorem dX12_failed_24 : decode cX12_failed 24 = .ok (.iload_n 1, 1) := by decide +kernel
theorem dX12_failed_25 : decode cX12_failed 25 = .ok (.iaload, 1) := by decide +kernel
theorem dX12_failed_26 : decode cX12_failed 26 = .ok (.goto 18, 3) := by decide +kernel
theorem dX12_failed_29 : decode cX12_failed 29 = .ok (.iload_n 2, 1) := by decide +kernel
theorem dX12_failed_30 : decode cX12_failed 30 = .ok (.iconst 1, 1) := by decide +kernel
theorem dX12_failed_31 : decode cX12_failed 31 = .ok (.if_icmp .ne 12, 3) := by decide +kernel
theorem dX12_failed_34 : decode cX12_failed 34 = .ok (.aload_n 0, 1) := by decide +kernel
theorem dX12_failed_35 : decode cX12_failed 35 = .ok (.getfield 349, 3) := by decide +kernel
theorem dX12_failed_38 : decode cX12_failed 38 = .ok (.iload_n 1, 1) := by decide +kernel
theorem dX12_failed_39 : decode cX12_failed 39 = .ok (.iaload, 1) := by decide +kernel
theorem dX12_failed_40 : decode cX12_failed 40 = .ok (.goto 4, 3) := by decide +kernel
theorem dX12_failed_43 : decode cX12_failed 43 = .ok (.iconst (-1), 1) := by decide +kernel
theorem dX12_failed_44 : decode cX12_failed 44 = .ok (.ireturn, 1) := by decide +kernel
theorem dX12_asked_0 : decode cX12_asked 0 = .ok (.iload_n 1, 1) := by decide +kernel
theorem dX12_asked_1 : decode cX12_asked 1 = .ok (.ifCond .lt 11, 3) := by decide +kernel
theorem dX12_asked_4 : decode cX12_asked 4 = .ok (.iload_n 1, 1) := by decide +kernel
theorem dX12_asked_5 : decode cX12_asked 5 = .ok (.aload_n 0, 1) := by decide +kernel
theorem dX12_asked_6 : decode cX12_asked 6 = .ok (.getfield 462, 3) := by decide +kernel
theorem dX12_asked_9 : decode cX12_asked 9 = .ok (.if_icmp .lt 7, 3) := by decide +kernel
theorem dX12_asked_12 : decode cX12_asked 12 = .ok (.iconst (-1), 1) := by decide +kernel
theorem dX12_asked_13 : decode cX12_asked 13 = .ok (.goto 31, 3) := by decide +kernel
theorem dX12_asked_16 : decode cX12_asked 16 = .ok (.iload_n 2, 1) := by decide +kernel
theorem dX12_asked_17 : decode cX12_asked 17 = .ok (.ifCond .ne 12, 3) := by decide +kernel
theorem dX12_asked_20 : decode cX12_asked 20 = .ok (.aload_n 0, 1) := by decide +kernel
theorem dX12_asked_21 : decode cX12_asked 21 = .ok (.getfield 340, 3) := by decide +kernel
theorem dX12_asked_24 : decode cX12_asked 24 = .ok (.iload_n 1, 1) := by decide +kernel
theorem dX12_asked_25 : decode cX12_asked 25 = .ok (.iaload, 1) := by decide +kernel
theorem dX12_asked_26 : decode cX12_asked 26 = .ok (.goto 18, 3) := by decide +kernel
theorem dX12_asked_29 : decode cX12_asked 29 = .ok (.iload_n 2, 1) := by decide +kernel
theorem dX12_asked_30 : decode cX12_asked 30 = .ok (.iconst 1, 1) := by decide +kernel
theorem dX12_asked_31 : decode cX12_asked 31 = .ok (.if_icmp .ne 12, 3) := by decide +kernel
theorem dX12_asked_34 : decode cX12_asked 34 = .ok (.aload_n 0, 1) := by decide +kernel
theorem dX12_asked_35 : decode cX12_asked 35 = .ok (.getfield 337, 3) := by decide +kernel
theorem dX12_asked_38 : decode cX12_asked 38 = .ok (.iload_n 1, 1) := by decide +kernel
theorem dX12_asked_39 : decode cX12_asked 39 = .ok (.iaload, 1) := by decide +kernel
theorem dX12_asked_40 : decode cX12_asked 40 = .ok (.goto 4, 3) := by decide +kernel
theorem dX12_asked_43 : decode cX12_asked 43 = .ok (.iconst (-1), 1) := by decide +kernel
theorem dX12_asked_44 : decode cX12_asked 44 = .ok (.ireturn, 1) := by decide +kernel
theorem dX12_check_0 : decode cX12_check 0 = .ok (.aload_n 0, 1) := by decide +kernel
theorem dX12_check_1 : decode cX12_check 1 = .ok (.iload_n 1, 1) := by decide +kernel
theorem dX12_check_2 : decode cX12_check 2 = .ok (.invokevirtual 592, 3) := by decide +kernel
theorem dX12_check_5 : decode cX12_check 5 = .ok (.ifCond .eq 15, 3) := by decide +kernel
theorem dX12_check_8 : decode cX12_check 8 = .ok (.iload_n 2, 1) := by decide +kernel
theorem dX12_check_9 : decode cX12_check 9 = .ok (.ifCond .lt 11, 3) := by decide +kernel
theorem dX12_check_12 : decode cX12_check 12 = .ok (.iload_n 2, 1) := by decide +kernel
theorem dX12_check_13 : decode cX12_check 13 = .ok (.aload_n 0, 1) := by decide +kernel
theorem dX12_check_14 : decode cX12_check 14 = .ok (.getfield 446, 3) := by decide +kernel
theorem dX12_check_17 : decode cX12_check 17 = .ok (.if_icmp .lt 5, 3) := by decide +kernel
theorem dX12_check_20 : decode cX12_check 20 = .ok (.iconst (-1), 1) := by decide +kernel
theorem dX12_check_21 : decode cX12_check 21 = .ok (.ireturn, 1) := by decide +kernel
theorem dX12_check_22 : decode cX12_check 22 = .ok (.aload_n 0, 1) := by decide +kernel
theorem dX12_check_23 : decode cX12_check 23 = .ok (.iconst 1, 1) := by decide +kernel
theorem dX12_check_24 : decode cX12_check 24 = .ok (.putfield 530, 3) := by decide +kernel
theorem dX12_check_27 : decode cX12_check 27 = .ok (.aload_n 0, 1) := by decide +kernel
theorem dX12_check_28 : decode cX12_check 28 = .ok (.iconst 0, 1) := by decide +kernel
theorem dX12_check_29 : decode cX12_check 29 = .ok (.putfield 611, 3) := by decide +kernel
theorem dX12_check_32 : decode cX12_check 32 = .ok (.aload_n 0, 1) := by decide +kernel
theorem dX12_check_33 : decode cX12_check 33 = .ok (.iconst 0, 1) := by decide +kernel
theorem dX12_check_34 : decode cX12_check 34 = .ok (.putfield 534, 3) := by decide +kernel
theorem dX12_check_37 : decode cX12_check 37 = .ok (.aload_n 0, 1) := by decide +kernel
theorem dX12_check_38 : decode cX12_check 38 = .ok (.iconst 0, 1) := by decide +kernel
theorem dX12_check_39 : decode cX12_check 39 = .ok (.putfield 614, 3) := by decide +kernel
theorem dX12_check_42 : decode cX12_check 42 = .ok (.aload_n 0, 1) := by decide +kernel
theorem dX12_check_43 : decode cX12_check 43 = .ok (.iconst 0, 1) := by decide +kernel
theorem dX12_check_44 : decode cX12_check 44 = .ok (.putfield 537, 3) := by decide +kernel
theorem dX12_check_47 : decode cX12_check 47 = .ok (.aload_n 0, 1) := by decide +kernel
theorem dX12_check_48 : decode cX12_check 48 = .ok (.iconst 0, 1) := by decide +kernel
theorem dX12_check_49 : decode cX12_check 49 = .ok (.putfield 617, 3) := by decide +kernel
theorem dX12_check_52 : decode cX12_check 52 = .ok (.aload_n 0, 1) := by decide +kernel
theorem dX12_check_53 : decode cX12_check 53 = .ok (.iconst 0, 1) := by decide +kernel
theorem dX12_check_54 : decode cX12_check 54 = .ok (.putfield 620, 3) := by decide +kernel
theorem dX12_check_57 : decode cX12_check 57 = .ok (.iconst 0, 1) := by decide +kernel
theorem dX12_check_58 : decode cX12_check 58 = .ok (.istore_n 3, 1) := by decide +kernel
theorem dX12_check_59 : decode cX12_check 59 = .ok (.iload_n 3, 1) := by decide +kernel
theorem dX12_check_60 : decode cX12_check 60 = .ok (.bipush 16, 2) := by decide +kernel
theorem dX12_check_62 : decode cX12_check 62 = .ok (.if_icmp .ge 16, 3) := by decide +kernel
theorem dX12_check_65 : decode cX12_check 65 = .ok (.aload_n 0, 1) := by decide +kernel
theorem dX12_check_66 : decode cX12_check 66 = .ok (.getfield 340, 3) := by decide +kernel
theorem dX12_check_69 : decode cX12_check 69 = .ok (.iload_n 3, 1) := by decide +kernel
theorem dX12_check_70 : decode cX12_check 70 = .ok (.iconst 0, 1) := by decide +kernel
theorem dX12_check_71 : decode cX12_check 71 = .ok (.iastore, 1) := by decide +kernel
theorem dX12_check_72 : decode cX12_check 72 = .ok (.iinc 3 1, 3) := by decide +kernel
theorem dX12_check_75 : decode cX12_check 75 = .ok (.goto (-16), 3) := by decide +kernel
theorem dX12_check_78 : decode cX12_check 78 = .ok (.bipush 6, 2) := by decide +kernel
theorem dX12_check_80 : decode cX12_check 80 = .ok (.aload_n 0, 1) := by decide +kernel
theorem dX12_check_81 : decode cX12_check 81 = .ok (.getfield 11, 3) := by decide +kernel
theorem dX12_check_84 : decode cX12_check 84 = .ok (.imul, 1) := by decide +kernel
theorem dX12_check_85 : decode cX12_check 85 = .ok (.iload_n 2, 1) := by decide +kernel
theorem dX12_check_86 : decode cX12_check 86 = .ok (.iadd, 1) := by decide +kernel
theorem dX12_check_87 : decode cX12_check 87 = .ok (.istore_n 3, 1) := by decide +kernel
theorem dX12_check_88 : decode cX12_check 88 = .ok (.iconst 0, 1) := by decide +kernel
theorem dX12_check_89 : decode cX12_check 89 = .ok (.istore 4, 2) := by decide +kernel
theorem dX12_check_91 : decode cX12_check 91 = .ok (.iload 4, 2) := by decide +kernel
theorem dX12_check_93 : decode cX12_check 93 = .ok (.aload_n 0, 1) := by decide +kernel
theorem dX12_check_94 : decode cX12_check 94 = .ok (.getfield 169, 3) := by decide +kernel
theorem dX12_check_97 : decode cX12_check 97 = .ok (.iload_n 3, 1) := by decide +kernel
theorem dX12_check_98 : decode cX12_check 98 = .ok (.iaload, 1) := by decide +kernel
theorem dX12_check_99 : decode cX12_check 99 = .ok (.if_icmp .ge 67, 3) := by decide +kernel
theorem dX12_check_102 : decode cX12_check 102 = .ok (.aload_n 0, 1) := by decide +kernel
theorem dX12_check_103 : decode cX12_check 103 = .ok (.getfield 617, 3) := by decide +kernel
theorem dX12_check_106 : decode cX12_check 106 = .ok (.ifCond .ne 60, 3) := by decide +kernel
theorem dX12_check_109 : decode cX12_check 109 = .ok (.aload_n 0, 1) := by decide +kernel
theorem dX12_check_110 : decode cX12_check 110 = .ok (.invokevirtual 623, 3) := by decide +kernel
theorem dX12_check_113 : decode cX12_check 113 = .ok (.ifCond .ne 53, 3) := by decide +kernel
theorem dX12_check_116 : decode cX12_check 116 = .ok (.aload_n 0, 1) := by decide +kernel
theorem dX12_check_117 : decode cX12_check 117 = .ok (.aload_n 0, 1) := by decide +kernel
theorem dX12_check_118 : decode cX12_check 118 = .ok (.getfield 163, 3) := by decide +kernel
theorem dX12_check_121 : decode cX12_check 121 = .ok (.bipush 9, 2) := by decide +kernel
theorem dX12_check_123 : decode cX12_check 123 = .ok (.aload_n 0, 1) := by decide +kernel
theorem dX12_check_124 : decode cX12_check 124 = .ok (.getfield 11, 3) := by decide +kernel
theorem dX12_check_127 : decode cX12_check 127 = .ok (.imul, 1) := by decide +kernel
theorem dX12_check_128 : decode cX12_check 128 = .ok (.aload_n 0, 1) := by decide +kernel
theorem dX12_check_129 : decode cX12_check 129 = .ok (.getfield 166, 3) := by decide +kernel
theorem dX12_check_132 : decode cX12_check 132 = .ok (.bipush 8, 2) := by decide +kernel
theorem dX12_check_134 : decode cX12_check 134 = .ok (.iload_n 3, 1) := by decide +kernel
theorem dX12_check_135 : decode cX12_check 135 = .ok (.imul, 1) := by decide +kernel
theorem dX12_check_136 : decode cX12_check 136 = .ok (.iload 4, 2) := by decide +kernel
theorem dX12_check_138 : decode cX12_check 138 = .ok (.iadd, 1) := by decide +kernel
theorem dX12_check_139 : decode cX12_check 139 = .ok (.iaload, 1) := by decide +kernel
theorem dX12_check_140 : decode cX12_check 140 = .ok (.iadd, 1) := by decide +kernel
theorem dX12_check_141 : decode cX12_check 141 = .ok (.iaload, 1) := by decide +kernel
theorem dX12_check_142 : decode cX12_check 142 = .ok (.putfield 626, 3) := by decide +kernel
theorem dX12_check_145 : decode cX12_check 145 = .ok (.aload_n 0, 1) := by decide +kernel
theorem dX12_check_146 : decode cX12_check 146 = .ok (.dup, 1) := by decide +kernel
theorem dX12_check_147 : decode cX12_check 147 = .ok (.getfield 614, 3) := by decide +kernel
theorem dX12_check_150 : decode cX12_check 150 = .ok (.iconst 1, 1) := by decide +kernel
theorem dX12_check_151 : decode cX12_check 151 = .ok (.iadd, 1) := by decide +kernel
theorem dX12_check_152 : decode cX12_check 152 = .ok (.putfield 614, 3) := by decide +kernel
theorem dX12_check_155 : decode cX12_check 155 = .ok (.aload_n 0, 1) := by decide +kernel
theorem dX12_check_156 : decode cX12_check 156 = .ok (.iload_n 1, 1) := by decide +kernel
theorem dX12_check_157 : decode cX12_check 157 = .ok (.invokevirtual 629, 3) := by decide +kernel
theorem dX12_check_160 : decode cX12_check 160 = .ok (.iinc 4 1, 3) := by decide +kernel
theorem dX12_check_163 : decode cX12_check 163 = .ok (.goto (-72), 3) := by decide +kernel
theorem dX12_check_166 : decode cX12_check 166 = .ok (.aload_n 0, 1) := by decide +kernel
theorem dX12_check_167 : decode cX12_check 167 = .ok (.getfield 534, 3) := by decide +kernel
theorem dX12_check_170 : decode cX12_check 170 = .ok (.ireturn, 1) := by decide +kernel
theorem dX12_isOver_0 : decode cX12_isOver 0 = .ok (.aload_n 0, 1) := by decide +kernel
theorem dX12_isOver_1 : decode cX12_isOver 1 = .ok (.getfield 620, 3) := by decide +kernel
theorem dX12_isOver_4 : decode cX12_isOver 4 = .ok (.sipush 5000, 3) := by decide +kernel
theorem dX12_isOver_7 : decode cX12_isOver 7 = .ok (.if_icmp .lt 7, 3) := by decide +kernel
theorem dX12_isOver_10 : decode cX12_isOver 10 = .ok (.iconst 1, 1) := by decide +kernel
theorem dX12_isOver_11 : decode cX12_isOver 11 = .ok (.goto 4, 3) := by decide +kernel
theorem dX12_isOver_14 : decode cX12_isOver 14 = .ok (.iconst 0, 1) := by decide +kernel
theorem dX12_isOver_15 : decode cX12_isOver 15 = .ok (.ireturn, 1) := by decide +kernel
theorem dX12_go_0 : decode cX12_go 0 = .ok (.iconst 0, 1) := by decide +kernel
theorem dX12_go_1 : decode cX12_go 1 = .ok (.istore_n 2, 1) := by decide +kernel
theorem dX12_go_2 : decode cX12_go 2 = .ok (.iload_n 2, 1) := by decide +kernel
theorem dX12_go_3 : decode cX12_go 3 = .ok (.aload_n 0, 1) := by decide +kernel
theorem dX12_go_4 : decode cX12_go 4 = .ok (.getfield 524, 3) := by decide +kernel
theorem dX12_go_7 : decode cX12_go 7 = .ok (.if_icmp .ge 16, 3) := by decide +kernel
theorem dX12_go_10 : decode cX12_go 10 = .ok (.aload_n 0, 1) := by decide +kernel
theorem dX12_go_11 : decode cX12_go 11 = .ok (.getfield 395, 3) := by decide +kernel
theorem dX12_go_14 : decode cX12_go 14 = .ok (.iload_n 2, 1) := by decide +kernel
theorem dX12_go_15 : decode cX12_go 15 = .ok (.iconst 0, 1) := by decide +kernel
theorem dX12_go_16 : decode cX12_go 16 = .ok (.bastore, 1) := by decide +kernel
theorem dX12_go_17 : decode cX12_go 17 = .ok (.iinc 2 1, 3) := by decide +kernel
theorem dX12_go_20 : decode cX12_go 20 = .ok (.goto (-18), 3) := by decide +kernel
theorem dX12_go_23 : decode cX12_go 23 = .ok (.aload_n 0, 1) := by decide +kernel
theorem dX12_go_24 : decode cX12_go 24 = .ok (.iconst 0, 1) := by decide +kernel
theorem dX12_go_25 : decode cX12_go 25 = .ok (.putfield 632, 3) := by decide +kernel
theorem dX12_go_28 : decode cX12_go 28 = .ok (.aload_n 0, 1) := by decide +kernel
theorem dX12_go_29 : decode cX12_go 29 = .ok (.iload_n 1, 1) := by decide +kernel
theorem dX12_go_30 : decode cX12_go 30 = .ok (.iconst 0, 1) := by decide +kernel
theorem dX12_go_31 : decode cX12_go 31 = .ok (.invokevirtual 635, 3) := by decide +kernel
theorem dX12_go_34 : decode cX12_go 34 = .ok (.aload_n 0, 1) := by decide +kernel
theorem dX12_go_35 : decode cX12_go 35 = .ok (.getfield 632, 3) := by decide +kernel
theorem dX12_go_38 : decode cX12_go 38 = .ok (.ifCond .le 225, 3) := by decide +kernel
theorem dX12_go_41 : decode cX12_go 41 = .ok (.aload_n 0, 1) := by decide +kernel
theorem dX12_go_42 : decode cX12_go 42 = .ok (.invokevirtual 623, 3) := by decide +kernel
theorem dX12_go_45 : decode cX12_go 45 = .ok (.ifCond .ne 218, 3) := by decide +kernel
theorem dX12_go_48 : decode cX12_go 48 = .ok (.aload_n 0, 1) := by decide +kernel
theorem dX12_go_49 : decode cX12_go 49 = .ok (.getfield 632, 3) := by decide +kernel
theorem dX12_go_52 : decode cX12_go 52 = .ok (.iconst 1, 1) := by decide +kernel
theorem dX12_go_53 : decode cX12_go 53 = .ok (.isub, 1) := by decide +kernel
theorem dX12_go_54 : decode cX12_go 54 = .ok (.istore_n 2, 1) := by decide +kernel
theorem dX12_go_55 : decode cX12_go 55 = .ok (.aload_n 0, 1) := by decide +kernel
theorem dX12_go_56 : decode cX12_go 56 = .ok (.getfield 398, 3) := by decide +kernel
theorem dX12_go_59 : decode cX12_go 59 = .ok (.iload_n 2, 1) := by decide +kernel
theorem dX12_go_60 : decode cX12_go 60 = .ok (.iaload, 1) := by decide +kernel
theorem dX12_go_61 : decode cX12_go 61 = .ok (.istore_n 3, 1) := by decide +kernel
theorem dX12_go_62 : decode cX12_go 62 = .ok (.aload_n 0, 1) := by decide +kernel
theorem dX12_go_63 : decode cX12_go 63 = .ok (.getfield 401, 3) := by decide +kernel
theorem dX12_go_66 : decode cX12_go 66 = .ok (.iload_n 2, 1) := by decide +kernel
theorem dX12_go_67 : decode cX12_go 67 = .ok (.iaload, 1) := by decide +kernel
theorem dX12_go_68 : decode cX12_go 68 = .ok (.aload_n 0, 1) := by decide +kernel
theorem dX12_go_69 : decode cX12_go 69 = .ok (.getfield 205, 3) := by decide +kernel
theorem dX12_go_72 : decode cX12_go 72 = .ok (.bipush 16, 2) := by decide +kernel
theorem dX12_go_74 : decode cX12_go 74 = .ok (.aload_n 0, 1) := by decide +kernel
theorem dX12_go_75 : decode cX12_go 75 = .ok (.getfield 11, 3) := by decide +kernel
theorem dX12_go_78 : decode cX12_go 78 = .ok (.imul, 1) := by decide +kernel
theorem dX12_go_79 : decode cX12_go 79 = .ok (.aload_n 0, 1) := by decide +kernel
theorem dX12_go_80 : decode cX12_go 80 = .ok (.getfield 315, 3) := by decide +kernel
theorem dX12_go_83 : decode cX12_go 83 = .ok (.iload_n 3, 1) := by decide +kernel
theorem dX12_go_84 : decode cX12_go 84 = .ok (.iaload, 1) := by decide +kernel
theorem dX12_go_85 : decode cX12_go 85 = .ok (.iadd, 1) := by decide +kernel
theorem dX12_go_86 : decode cX12_go 86 = .ok (.iaload, 1) := by decide +kernel
theorem dX12_go_87 : decode cX12_go 87 = .ok (.if_icmp .ne 16, 3) := by decide +kernel
theorem dX12_go_90 : decode cX12_go 90 = .ok (.aload_n 0, 1) := by decide +kernel
theorem dX12_go_91 : decode cX12_go 91 = .ok (.dup, 1) := by decide +kernel
theorem dX12_go_92 : decode cX12_go 92 = .ok (.getfield 632, 3) := by decide +kernel
theorem dX12_go_95 : decode cX12_go 95 = .ok (.iconst 1, 1) := by decide +kernel
theorem dX12_go_96 : decode cX12_go 96 = .ok (.isub, 1) := by decide +kernel
theorem dX12_go_97 : decode cX12_go 97 = .ok (.putfield 632, 3) := by decide +kernel
theorem dX12_go_100 : decode cX12_go 100 = .ok (.goto (-66), 3) := by decide +kernel
theorem dX12_go_103 : decode cX12_go 103 = .ok (.aload_n 0, 1) := by decide +kernel
theorem dX12_go_104 : decode cX12_go 104 = .ok (.getfield 401, 3) := by decide +kernel
theorem dX12_go_107 : decode cX12_go 107 = .ok (.iload_n 2, 1) := by decide +kernel
theorem dX12_go_108 : decode cX12_go 108 = .ok (.iaload, 1) := by decide +kernel
theorem dX12_go_109 : decode cX12_go 109 = .ok (.istore 4, 2) := by decide +kernel
theorem dX12_go_111 : decode cX12_go 111 = .ok (.aload_n 0, 1) := by decide +kernel
theorem dX12_go_112 : decode cX12_go 112 = .ok (.iload_n 3, 1) := by decide +kernel
theorem dX12_go_113 : decode cX12_go 113 = .ok (.iload 4, 2) := by decide +kernel
theorem dX12_go_115 : decode cX12_go 115 = .ok (.invokevirtual 638, 3) := by decide +kernel
theorem dX12_go_118 : decode cX12_go 118 = .ok (.ifCond .eq 19, 3) := by decide +kernel
theorem dX12_go_121 : decode cX12_go 121 = .ok (.aload_n 0, 1) := by decide +kernel
theorem dX12_go_122 : decode cX12_go 122 = .ok (.iload_n 3, 1) := by decide +kernel
theorem dX12_go_123 : decode cX12_go 123 = .ok (.iload 4, 2) := by decide +kernel
theorem dX12_go_125 : decode cX12_go 125 = .ok (.aload_n 0, 1) := by decide +kernel
theorem dX12_go_126 : decode cX12_go 126 = .ok (.getfield 404, 3) := by decide +kernel
theorem dX12_go_129 : decode cX12_go 129 = .ok (.iload_n 2, 1) := by decide +kernel
theorem dX12_go_130 : decode cX12_go 130 = .ok (.iaload, 1) := by decide +kernel
theorem dX12_go_131 : decode cX12_go 131 = .ok (.invokevirtual 641, 3) := by decide +kernel
theorem dX12_go_134 : decode cX12_go 134 = .ok (.goto 4, 3) := by decide +kernel
theorem dX12_go_137 : decode cX12_go 137 = .ok (.iconst (-1), 1) := by decide +kernel
theorem dX12_go_138 : decode cX12_go 138 = .ok (.istore 5, 2) := by decide +kernel
theorem dX12_go_140 : decode cX12_go 140 = .ok (.iload 5, 2) := by decide +kernel
theorem dX12_go_142 : decode cX12_go 142 = .ok (.ifCond .ge 23, 3) := by decide +kernel
theorem dX12_go_145 : decode cX12_go 145 = .ok (.aload_n 0, 1) := by decide +kernel
theorem dX12_go_146 : decode cX12_go 146 = .ok (.getfield 401, 3) := by decide +kernel
theorem dX12_go_149 : decode cX12_go 149 = .ok (.iload_n 2, 1) := by decide +kernel
theorem dX12_go_150 : decode cX12_go 150 = .ok (.dup2, 1) := by decide +kernel
theorem dX12_go_151 : decode cX12_go 151 = .ok (.iaload, 1) := by decide +kernel
theorem dX12_go_152 : decode cX12_go 152 = .ok (.iconst 1, 1) := by decide +kernel
theorem dX12_go_153 : decode cX12_go 153 = .ok (.iadd, 1) := by decide +kernel
theorem dX12_go_154 : decode cX12_go 154 = .ok (.iastore, 1) := by decide +kernel
theorem dX12_go_155 : decode cX12_go 155 = .ok (.aload_n 0, 1) := by decide +kernel
theorem dX12_go_156 : decode cX12_go 156 = .ok (.getfield 404, 3) := by decide +kernel
theorem dX12_go_159 : decode cX12_go 159 = .ok (.iload_n 2, 1) := by decide +kernel
theorem dX12_go_160 : decode cX12_go 160 = .ok (.iconst 0, 1) := by decide +kernel
theorem dX12_go_161 : decode cX12_go 161 = .ok (.iastore, 1) := by decide +kernel
theorem dX12_go_162 : decode cX12_go 162 = .ok (.goto (-128), 3) := by decide +kernel
theorem dX12_go_165 : decode cX12_go 165 = .ok (.bipush 100, 2) := by decide +kernel
theorem dX12_go_167 : decode cX12_go 167 = .ok (.iload 4, 2) := by decide +kernel
theorem dX12_go_169 : decode cX12_go 169 = .ok (.imul, 1) := by decide +kernel
theorem dX12_go_170 : decode cX12_go 170 = .ok (.aload_n 0, 1) := by decide +kernel
theorem dX12_go_171 : decode cX12_go 171 = .ok (.aload_n 0, 1) := by decide +kernel
theorem dX12_go_172 : decode cX12_go 172 = .ok (.getfield 315, 3) := by decide +kernel
theorem dX12_go_175 : decode cX12_go 175 = .ok (.iload_n 3, 1) := by decide +kernel
theorem dX12_go_176 : decode cX12_go 176 = .ok (.iaload, 1) := by decide +kernel
theorem dX12_go_177 : decode cX12_go 177 = .ok (.iload 4, 2) := by decide +kernel
theorem dX12_go_179 : decode cX12_go 179 = .ok (.invokevirtual 569, 3) := by decide +kernel
theorem dX12_go_182 : decode cX12_go 182 = .ok (.iconst 2, 1) := by decide +kernel
theorem dX12_go_183 : decode cX12_go 183 = .ok (.if_icmp .ne 12, 3) := by decide +kernel
theorem dX12_go_186 : decode cX12_go 186 = .ok (.aload_n 0, 1) := by decide +kernel
theorem dX12_go_187 : decode cX12_go 187 = .ok (.getfield 404, 3) := by decide +kernel
theorem dX12_go_190 : decode cX12_go 190 = .ok (.iload_n 2, 1) := by decide +kernel
theorem dX12_go_191 : decode cX12_go 191 = .ok (.iaload, 1) := by decide +kernel
theorem dX12_go_192 : decode cX12_go 192 = .ok (.goto 4, 3) := by decide +kernel
theorem dX12_go_195 : decode cX12_go 195 = .ok (.iconst 0, 1) := by decide +kernel
theorem dX12_go_196 : decode cX12_go 196 = .ok (.iadd, 1) := by decide +kernel
theorem dX12_go_197 : decode cX12_go 197 = .ok (.istore 6, 2) := by decide +kernel
theorem dX12_go_199 : decode cX12_go 199 = .ok (.aload_n 0, 1) := by decide +kernel
theorem dX12_go_200 : decode cX12_go 200 = .ok (.getfield 404, 3) := by decide +kernel
theorem dX12_go_203 : decode cX12_go 203 = .ok (.iload_n 2, 1) := by decide +kernel
theorem dX12_go_204 : decode cX12_go 204 = .ok (.dup2, 1) := by decide +kernel
theorem dX12_go_205 : decode cX12_go 205 = .ok (.iaload, 1) := by decide +kernel
theorem dX12_go_206 : decode cX12_go 206 = .ok (.iconst 1, 1) := by decide +kernel
theorem dX12_go_207 : decode cX12_go 207 = .ok (.iadd, 1) := by decide +kernel
theorem dX12_go_208 : decode cX12_go 208 = .ok (.iastore, 1) := by decide +kernel
theorem dX12_go_209 : decode cX12_go 209 = .ok (.aload_n 0, 1) := by decide +kernel
theorem dX12_go_210 : decode cX12_go 210 = .ok (.getfield 395, 3) := by decide +kernel
theorem dX12_go_213 : decode cX12_go 213 = .ok (.iload 5, 2) := by decide +kernel
theorem dX12_go_215 : decode cX12_go 215 = .ok (.baload, 1) := by decide +kernel
theorem dX12_go_216 : decode cX12_go 216 = .ok (.ifCond .eq 36, 3) := by decide +kernel
theorem dX12_go_219 : decode cX12_go 219 = .ok (.aload_n 0, 1) := by decide +kernel
theorem dX12_go_220 : decode cX12_go 220 = .ok (.getfield 537, 3) := by decide +kernel
theorem dX12_go_223 : decode cX12_go 223 = .ok (.bipush 60, 2) := by decide +kernel
theorem dX12_go_225 : decode cX12_go 225 = .ok (.if_icmp .ge 14, 3) := by decide +kernel
theorem dX12_go_228 : decode cX12_go 228 = .ok (.aload_n 0, 1) := by decide +kernel
theorem dX12_go_229 : decode cX12_go 229 = .ok (.getfield 392, 3) := by decide +kernel
theorem dX12_go_232 : decode cX12_go 232 = .ok (.aload_n 0, 1) := by decide +kernel
theorem dX12_go_233 : decode cX12_go 233 = .ok (.getfield 537, 3) := by decide +kernel
theorem dX12_go_236 : decode cX12_go 236 = .ok (.iload 5, 2) := by decide +kernel
theorem dX12_go_238 : decode cX12_go 238 = .ok (.iastore, 1) := by decide +kernel
theorem dX12_go_239 : decode cX12_go 239 = .ok (.aload_n 0, 1) := by decide +kernel
theorem dX12_go_240 : decode cX12_go 240 = .ok (.dup, 1) := by decide +kernel
theorem dX12_go_241 : decode cX12_go 241 = .ok (.getfield 537, 3) := by decide +kernel
theorem dX12_go_244 : decode cX12_go 244 = .ok (.iconst 1, 1) := by decide +kernel
theorem dX12_go_245 : decode cX12_go 245 = .ok (.iadd, 1) := by decide +kernel
theorem dX12_go_246 : decode cX12_go 246 = .ok (.putfield 537, 3) := by decide +kernel
theorem dX12_go_249 : decode cX12_go 249 = .ok (.goto 11, 3) := by decide +kernel
theorem dX12_go_252 : decode cX12_go 252 = .ok (.aload_n 0, 1) := by decide +kernel
theorem dX12_go_253 : decode cX12_go 253 = .ok (.iload 5, 2) := by decide +kernel
theorem dX12_go_255 : decode cX12_go 255 = .ok (.iload 6, 2) := by decide +kernel
theorem dX12_go_257 : decode cX12_go 257 = .ok (.invokevirtual 635, 3) := by decide +kernel
theorem dX12_go_260 : decode cX12_go 260 = .ok (.goto (-226), 3) := by decide +kernel
theorem dX12_go_263 : decode cX12_go 263 = .ok (.return_, 1) := by decide +kernel
theorem dX12_listOf_0 : decode cX12_listOf 0 = .ok (.aload_n 0, 1) := by decide +kernel
theorem dX12_listOf_1 : decode cX12_listOf 1 = .ok (.getfield 208, 3) := by decide +kernel
theorem dX12_listOf_4 : decode cX12_listOf 4 = .ok (.bipush 12, 2) := by decide +kernel
theorem dX12_listOf_6 : decode cX12_listOf 6 = .ok (.bipush 16, 2) := by decide +kernel
theorem dX12_listOf_8 : decode cX12_listOf 8 = .ok (.aload_n 0, 1) := by decide +kernel
theorem dX12_listOf_9 : decode cX12_listOf 9 = .ok (.getfield 11, 3) := by decide +kernel
theorem dX12_listOf_12 : decode cX12_listOf 12 = .ok (.imul, 1) := by decide +kernel
theorem dX12_listOf_13 : decode cX12_listOf 13 = .ok (.iload_n 1, 1) := by decide +kernel
theorem dX12_listOf_14 : decode cX12_listOf 14 = .ok (.iadd, 1) := by decide +kernel
theorem dX12_listOf_15 : decode cX12_listOf 15 = .ok (.imul, 1) := by decide +kernel
theorem dX12_listOf_16 : decode cX12_listOf 16 = .ok (.iload_n 2, 1) := by decide +kernel
theorem dX12_listOf_17 : decode cX12_listOf 17 = .ok (.iadd, 1) := by decide +kernel
theorem dX12_listOf_18 : decode cX12_listOf 18 = .ok (.iaload, 1) := by decide +kernel
theorem dX12_listOf_19 : decode cX12_listOf 19 = .ok (.sipush 200, 3) := by decide +kernel
theorem dX12_listOf_22 : decode cX12_listOf 22 = .ok (.aload_n 0, 1) := by decide +kernel
theorem dX12_listOf_23 : decode cX12_listOf 23 = .ok (.getfield 11, 3) := by decide +kernel
theorem dX12_listOf_26 : decode cX12_listOf 26 = .ok (.imul, 1) := by decide +kernel
theorem dX12_listOf_27 : decode cX12_listOf 27 = .ok (.isub, 1) := by decide +kernel
theorem dX12_listOf_28 : decode cX12_listOf 28 = .ok (.ireturn, 1) := by decide +kernel
theorem dX12_goes_0 : decode cX12_goes 0 = .ok (.aload_n 0, 1) := by decide +kernel
theorem dX12_goes_1 : decode cX12_goes 1 = .ok (.aload_n 0, 1) := by decide +kernel
theorem dX12_goes_2 : decode cX12_goes 2 = .ok (.getfield 315, 3) := by decide +kernel
theorem dX12_goes_5 : decode cX12_goes 5 = .ok (.iload_n 1, 1) := by decide +kernel
theorem dX12_goes_6 : decode cX12_goes 6 = .ok (.iaload, 1) := by decide +kernel
theorem dX12_goes_7 : decode cX12_goes 7 = .ok (.iload_n 2, 1) := by decide +kernel
theorem dX12_goes_8 : decode cX12_goes 8 = .ok (.invokevirtual 644, 3) := by decide +kernel
theorem dX12_goes_11 : decode cX12_goes 11 = .ok (.istore_n 3, 1) := by decide +kernel
theorem dX12_goes_12 : decode cX12_goes 12 = .ok (.iconst 0, 1) := by decide +kernel
theorem dX12_goes_13 : decode cX12_goes 13 = .ok (.istore 4, 2) := by decide +kernel
theorem dX12_goes_15 : decode cX12_goes 15 = .ok (.iload 4, 2) := by decide +kernel
theorem dX12_goes_17 : decode cX12_goes 17 = .ok (.aload_n 0, 1) := by decide +kernel
theorem dX12_goes_18 : decode cX12_goes 18 = .ok (.getfield 263, 3) := by decide +kernel
theorem dX12_goes_21 : decode cX12_goes 21 = .ok (.iload_n 3, 1) := by decide +kernel
theorem dX12_goes_22 : decode cX12_goes 22 = .ok (.iaload, 1) := by decide +kernel
theorem dX12_goes_23 : decode cX12_goes 23 = .ok (.if_icmp .ge 27, 3) := by decide +kernel
theorem dX12_goes_26 : decode cX12_goes 26 = .ok (.aload_n 0, 1) := by decide +kernel
theorem dX12_goes_27 : decode cX12_goes 27 = .ok (.getfield 266, 3) := by decide +kernel
theorem dX12_goes_30 : decode cX12_goes 30 = .ok (.bipush 40, 2) := by decide +kernel
theorem dX12_goes_32 : decode cX12_goes 32 = .ok (.iload_n 3, 1) := by decide +kernel
theorem dX12_goes_33 : decode cX12_goes 33 = .ok (.imul, 1) := by decide +kernel
theorem dX12_goes_34 : decode cX12_goes 34 = .ok (.iload 4, 2) := by decide +kernel
theorem dX12_goes_36 : decode cX12_goes 36 = .ok (.iadd, 1) := by decide +kernel
theorem dX12_goes_37 : decode cX12_goes 37 = .ok (.iaload, 1) := by decide +kernel
theorem dX12_goes_38 : decode cX12_goes 38 = .ok (.iconst 2, 1) := by decide +kernel
theorem dX12_goes_39 : decode cX12_goes 39 = .ok (.if_icmp .ne 5, 3) := by decide +kernel
theorem dX12_goes_42 : decode cX12_goes 42 = .ok (.iconst 1, 1) := by decide +kernel
theorem dX12_goes_43 : decode cX12_goes 43 = .ok (.ireturn, 1) := by decide +kernel
theorem dX12_goes_44 : decode cX12_goes 44 = .ok (.iinc 4 1, 3) := by decide +kernel
theorem dX12_goes_47 : decode cX12_goes 47 = .ok (.goto (-32), 3) := by decide +kernel
theorem dX12_goes_50 : decode cX12_goes 50 = .ok (.iconst 0, 1) := by decide +kernel
theorem dX12_goes_51 : decode cX12_goes 51 = .ok (.ireturn, 1) := by decide +kernel
theorem dX12_nextOf_0 : decode cX12_nextOf 0 = .ok (.bipush 12, 2) := by decide +kernel
theorem dX12_nextOf_2 : decode cX12_nextOf 2 = .ok (.iload_n 1, 1) := by decide +kernel
theorem dX12_nextOf_3 : decode cX12_nextOf 3 = .ok (.imul, 1) := by decide +kernel
theorem dX12_nextOf_4 : decode cX12_nextOf 4 = .ok (.iload_n 2, 1) := by decide +kernel
theorem dX12_nextOf_5 : decode cX12_nextOf 5 = .ok (.iadd, 1) := by decide +kernel
theorem dX12_nextOf_6 : decode cX12_nextOf 6 = .ok (.istore 4, 2) := by decide +kernel
theorem dX12_nextOf_8 : decode cX12_nextOf 8 = .ok (.aload_n 0, 1) := by decide +kernel
theorem dX12_nextOf_9 : decode cX12_nextOf 9 = .ok (.aload_n 0, 1) := by decide +kernel
theorem dX12_nextOf_10 : decode cX12_nextOf 10 = .ok (.getfield 315, 3) := by decide +kernel
theorem dX12_nextOf_13 : decode cX12_nextOf 13 = .ok (.iload_n 1, 1) := by decide +kernel
theorem dX12_nextOf_14 : decode cX12_nextOf 14 = .ok (.iaload, 1) := by decide +kernel
theorem dX12_nextOf_15 : decode cX12_nextOf 15 = .ok (.iload_n 2, 1) := by decide +kernel
theorem dX12_nextOf_16 : decode cX12_nextOf 16 = .ok (.invokevirtual 569, 3) := by decide +kernel
theorem dX12_nextOf_19 : decode cX12_nextOf 19 = .ok (.iconst 2, 1) := by decide +kernel
theorem dX12_nextOf_20 : decode cX12_nextOf 20 = .ok (.if_icmp .ne 31, 3) := by decide +kernel
theorem dX12_nextOf_23 : decode cX12_nextOf 23 = .ok (.iload_n 3, 1) := by decide +kernel
theorem dX12_nextOf_24 : decode cX12_nextOf 24 = .ok (.aload_n 0, 1) := by decide +kernel
theorem dX12_nextOf_25 : decode cX12_nextOf 25 = .ok (.getfield 327, 3) := by decide +kernel
theorem dX12_nextOf_28 : decode cX12_nextOf 28 = .ok (.iload 4, 2) := by decide +kernel
theorem dX12_nextOf_30 : decode cX12_nextOf 30 = .ok (.iaload, 1) := by decide +kernel
theorem dX12_nextOf_31 : decode cX12_nextOf 31 = .ok (.if_icmp .ge 18, 3) := by decide +kernel
theorem dX12_nextOf_34 : decode cX12_nextOf 34 = .ok (.aload_n 0, 1) := by decide +kernel
theorem dX12_nextOf_35 : decode cX12_nextOf 35 = .ok (.getfield 331, 3) := by decide +kernel
theorem dX12_nextOf_38 : decode cX12_nextOf 38 = .ok (.bipush 20, 2) := by decide +kernel
theorem dX12_nextOf_40 : decode cX12_nextOf 40 = .ok (.iload 4, 2) := by decide +kernel
theorem dX12_nextOf_42 : decode cX12_nextOf 42 = .ok (.imul, 1) := by decide +kernel
theorem dX12_nextOf_43 : decode cX12_nextOf 43 = .ok (.iload_n 3, 1) := by decide +kernel
theorem dX12_nextOf_44 : decode cX12_nextOf 44 = .ok (.iadd, 1) := by decide +kernel
theorem dX12_nextOf_45 : decode cX12_nextOf 45 = .ok (.iaload, 1) := by decide +kernel
theorem dX12_nextOf_46 : decode cX12_nextOf 46 = .ok (.goto 4, 3) := by decide +kernel
theorem dX12_nextOf_49 : decode cX12_nextOf 49 = .ok (.iconst (-1), 1) := by decide +kernel
theorem dX12_nextOf_50 : decode cX12_nextOf 50 = .ok (.ireturn, 1) := by decide +kernel
theorem dX12_nextOf_51 : decode cX12_nextOf 51 = .ok (.iload_n 3, 1) := by decide +kernel
theorem dX12_nextOf_52 : decode cX12_nextOf 52 = .ok (.ifCond .ne 23, 3) := by decide +kernel
theorem dX12_nextOf_55 : decode cX12_nextOf 55 = .ok (.aload_n 0, 1) := by decide +kernel
theorem dX12_nextOf_56 : decode cX12_nextOf 56 = .ok (.getfield 334, 3) := by decide +kernel
theorem dX12_nextOf_59 : decode cX12_nextOf 59 = .ok (.iload 4, 2) := by decide +kernel
theorem dX12_nextOf_61 : decode cX12_nextOf 61 = .ok (.baload, 1) := by decide +kernel
theorem dX12_nextOf_62 : decode cX12_nextOf 62 = .ok (.ifCond .eq 13, 3) := by decide +kernel
theorem dX12_nextOf_65 : decode cX12_nextOf 65 = .ok (.aload_n 0, 1) := by decide +kernel
theorem dX12_nextOf_66 : decode cX12_nextOf 66 = .ok (.getfield 324, 3) := by decide +kernel
theorem dX12_nextOf_69 : decode cX12_nextOf 69 = .ok (.iload 4, 2) := by decide +kernel
theorem dX12_nextOf_71 : decode cX12_nextOf 71 = .ok (.iaload, 1) := by decide +kernel
theorem dX12_nextOf_72 : decode cX12_nextOf 72 = .ok (.goto 4, 3) := by decide +kernel
theorem dX12_nextOf_75 : decode cX12_nextOf 75 = .ok (.iconst (-1), 1) := by decide +kernel
theorem dX12_nextOf_76 : decode cX12_nextOf 76 = .ok (.ireturn, 1) := by decide +kernel
theorem dX12_enter_0 : decode cX12_enter 0 = .ok (.aload_n 0, 1) := by decide +kernel
theorem dX12_enter_1 : decode cX12_enter 1 = .ok (.getfield 395, 3) := by decide +kernel
theorem dX12_enter_4 : decode cX12_enter 4 = .ok (.iload_n 1, 1) := by decide +kernel
theorem dX12_enter_5 : decode cX12_enter 5 = .ok (.iconst 1, 1) := by decide +kernel
theorem dX12_enter_6 : decode cX12_enter 6 = .ok (.bastore, 1) := by decide +kernel
theorem dX12_enter_7 : decode cX12_enter 7 = .ok (.aload_n 0, 1) := by decide +kernel
theorem dX12_enter_8 : decode cX12_enter 8 = .ok (.getfield 398, 3) := by decide +kernel
theorem dX12_enter_11 : decode cX12_enter 11 = .ok (.aload_n 0, 1) := by decide +kernel
theorem dX12_enter_12 : decode cX12_enter 12 = .ok (.getfield 632, 3) := by decide +kernel
theorem dX12_enter_15 : decode cX12_enter 15 = .ok (.iload_n 1, 1) := by decide +kernel
theorem dX12_enter_16 : decode cX12_enter 16 = .ok (.iastore, 1) := by decide +kernel
theorem dX12_enter_17 : decode cX12_enter 17 = .ok (.aload_n 0, 1) := by decide +kernel
theorem dX12_enter_18 : decode cX12_enter 18 = .ok (.getfield 401, 3) := by decide +kernel
theorem dX12_enter_21 : decode cX12_enter 21 = .ok (.aload_n 0, 1) := by decide +kernel
theorem dX12_enter_22 : decode cX12_enter 22 = .ok (.getfield 632, 3) := by decide +kernel
theorem dX12_enter_25 : decode cX12_enter 25 = .ok (.iconst 0, 1) := by decide +kernel
theorem dX12_enter_26 : decode cX12_enter 26 = .ok (.iastore, 1) := by decide +kernel
theorem dX12_enter_27 : decode cX12_enter 27 = .ok (.aload_n 0, 1) := by decide +kernel
theorem dX12_enter_28 : decode cX12_enter 28 = .ok (.getfield 404, 3) := by decide +kernel
theorem dX12_enter_31 : decode cX12_enter 31 = .ok (.aload_n 0, 1) := by decide +kernel
theorem dX12_enter_32 : decode cX12_enter 32 = .ok (.getfield 632, 3) := by decide +kernel
theorem dX12_enter_35 : decode cX12_enter 35 = .ok (.iconst 0, 1) := by decide +kernel
theorem dX12_enter_36 : decode cX12_enter 36 = .ok (.iastore, 1) := by decide +kernel
theorem dX12_enter_37 : decode cX12_enter 37 = .ok (.aload_n 0, 1) := by decide +kernel
theorem dX12_enter_38 : decode cX12_enter 38 = .ok (.getfield 407, 3) := by decide +kernel
theorem dX12_enter_41 : decode cX12_enter 41 = .ok (.aload_n 0, 1) := by decide +kernel
theorem dX12_enter_42 : decode cX12_enter 42 = .ok (.getfield 632, 3) := by decide +kernel
theorem dX12_enter_45 : decode cX12_enter 45 = .ok (.iload_n 2, 1) := by decide +kernel
theorem dX12_enter_46 : decode cX12_enter 46 = .ok (.iastore, 1) := by decide +kernel
theorem dX12_enter_47 : decode cX12_enter 47 = .ok (.aload_n 0, 1) := by decide +kernel
theorem dX12_enter_48 : decode cX12_enter 48 = .ok (.dup, 1) := by decide +kernel
theorem dX12_enter_49 : decode cX12_enter 49 = .ok (.getfield 632, 3) := by decide +kernel
theorem dX12_enter_52 : decode cX12_enter 52 = .ok (.iconst 1, 1) := by decide +kernel
theorem dX12_enter_53 : decode cX12_enter 53 = .ok (.iadd, 1) := by decide +kernel
theorem dX12_enter_54 : decode cX12_enter 54 = .ok (.putfield 632, 3) := by decide +kernel
theorem dX12_enter_57 : decode cX12_enter 57 = .ok (.iconst 0, 1) := by decide +kernel
theorem dX12_enter_58 : decode cX12_enter 58 = .ok (.istore_n 3, 1) := by decide +kernel
theorem dX12_enter_59 : decode cX12_enter 59 = .ok (.aload_n 0, 1) := by decide +kernel
theorem dX12_enter_60 : decode cX12_enter 60 = .ok (.getfield 315, 3) := by decide +kernel
theorem dX12_enter_63 : decode cX12_enter 63 = .ok (.iload_n 1, 1) := by decide +kernel
theorem dX12_enter_64 : decode cX12_enter 64 = .ok (.iaload, 1) := by decide +kernel
theorem dX12_enter_65 : decode cX12_enter 65 = .ok (.istore 4, 2) := by decide +kernel
theorem dX12_enter_67 : decode cX12_enter 67 = .ok (.iload 4, 2) := by decide +kernel
theorem dX12_enter_69 : decode cX12_enter 69 = .ok (.ifCond .lt 34, 3) := by decide +kernel
theorem dX12_enter_72 : decode cX12_enter 72 = .ok (.aload_n 0, 1) := by decide +kernel
theorem dX12_enter_73 : decode cX12_enter 73 = .ok (.getfield 410, 3) := by decide +kernel
theorem dX12_enter_76 : decode cX12_enter 76 = .ok (.iload_n 3, 1) := by decide +kernel
theorem dX12_enter_77 : decode cX12_enter 77 = .ok (.iload 4, 2) := by decide +kernel
theorem dX12_enter_79 : decode cX12_enter 79 = .ok (.iastore, 1) := by decide +kernel
theorem dX12_enter_80 : decode cX12_enter 80 = .ok (.iinc 3 1, 3) := by decide +kernel
theorem dX12_enter_83 : decode cX12_enter 83 = .ok (.aload_n 0, 1) := by decide +kernel
theorem dX12_enter_84 : decode cX12_enter 84 = .ok (.getfield 196, 3) := by decide +kernel
theorem dX12_enter_87 : decode cX12_enter 87 = .ok (.bipush 16, 2) := by decide +kernel
theorem dX12_enter_89 : decode cX12_enter 89 = .ok (.aload_n 0, 1) := by decide +kernel
theorem dX12_enter_90 : decode cX12_enter 90 = .ok (.getfield 11, 3) := by decide +kernel
theorem dX12_enter_93 : decode cX12_enter 93 = .ok (.imul, 1) := by decide +kernel
theorem dX12_enter_94 : decode cX12_enter 94 = .ok (.iload 4, 2) := by decide +kernel
theorem dX12_enter_96 : decode cX12_enter 96 = .ok (.iadd, 1) := by decide +kernel
theorem dX12_enter_97 : decode cX12_enter 97 = .ok (.iaload, 1) := by decide +kernel
theorem dX12_enter_98 : decode cX12_enter 98 = .ok (.istore 4, 2) := by decide +kernel
theorem dX12_enter_100 : decode cX12_enter 100 = .ok (.goto (-33), 3) := by decide +kernel
theorem dX12_enter_103 : decode cX12_enter 103 = .ok (.iload_n 3, 1) := by decide +kernel
theorem dX12_enter_104 : decode cX12_enter 104 = .ok (.iconst 1, 1) := by decide +kernel
theorem dX12_enter_105 : decode cX12_enter 105 = .ok (.isub, 1) := by decide +kernel
theorem dX12_enter_106 : decode cX12_enter 106 = .ok (.istore 4, 2) := by decide +kernel
theorem dX12_enter_108 : decode cX12_enter 108 = .ok (.iload 4, 2) := by decide +kernel
theorem dX12_enter_110 : decode cX12_enter 110 = .ok (.ifCond .lt 26, 3) := by decide +kernel
theorem dX12_enter_113 : decode cX12_enter 113 = .ok (.aload_n 0, 1) := by decide +kernel
theorem dX12_enter_114 : decode cX12_enter 114 = .ok (.iload_n 1, 1) := by decide +kernel
theorem dX12_enter_115 : decode cX12_enter 115 = .ok (.iconst (-1), 1) := by decide +kernel
theorem dX12_enter_116 : decode cX12_enter 116 = .ok (.sipush 200, 3) := by decide +kernel
theorem dX12_enter_119 : decode cX12_enter 119 = .ok (.aload_n 0, 1) := by decide +kernel
theorem dX12_enter_120 : decode cX12_enter 120 = .ok (.getfield 410, 3) := by decide +kernel
theorem dX12_enter_123 : decode cX12_enter 123 = .ok (.iload 4, 2) := by decide +kernel
theorem dX12_enter_125 : decode cX12_enter 125 = .ok (.iaload, 1) := by decide +kernel
theorem dX12_enter_126 : decode cX12_enter 126 = .ok (.iadd, 1) := by decide +kernel
theorem dX12_enter_127 : decode cX12_enter 127 = .ok (.invokevirtual 647, 3) := by decide +kernel
theorem dX12_enter_130 : decode cX12_enter 130 = .ok (.iinc 4 (-1), 3) := by decide +kernel
theorem dX12_enter_133 : decode cX12_enter 133 = .ok (.goto (-25), 3) := by decide +kernel
theorem dX12_enter_136 : decode cX12_enter 136 = .ok (.iconst 0, 1) := by decide +kernel
theorem dX12_enter_137 : decode cX12_enter 137 = .ok (.istore 4, 2) := by decide +kernel
theorem dX12_enter_139 : decode cX12_enter 139 = .ok (.iload 4, 2) := by decide +kernel
theorem dX12_enter_141 : decode cX12_enter 141 = .ok (.aload_n 0, 1) := by decide +kernel
theorem dX12_enter_142 : decode cX12_enter 142 = .ok (.getfield 205, 3) := by decide +kernel
theorem dX12_enter_145 : decode cX12_enter 145 = .ok (.bipush 16, 2) := by decide +kernel
theorem dX12_enter_147 : decode cX12_enter 147 = .ok (.aload_n 0, 1) := by decide +kernel
theorem dX12_enter_148 : decode cX12_enter 148 = .ok (.getfield 11, 3) := by decide +kernel
theorem dX12_enter_151 : decode cX12_enter 151 = .ok (.imul, 1) := by decide +kernel
theorem dX12_enter_152 : decode cX12_enter 152 = .ok (.aload_n 0, 1) := by decide +kernel
theorem dX12_enter_153 : decode cX12_enter 153 = .ok (.getfield 315, 3) := by decide +kernel
theorem dX12_enter_156 : decode cX12_enter 156 = .ok (.iload_n 1, 1) := by decide +kernel
theorem dX12_enter_157 : decode cX12_enter 157 = .ok (.iaload, 1) := by decide +kernel
theorem dX12_enter_158 : decode cX12_enter 158 = .ok (.iadd, 1) := by decide +kernel
theorem dX12_enter_159 : decode cX12_enter 159 = .ok (.iaload, 1) := by decide +kernel
theorem dX12_enter_160 : decode cX12_enter 160 = .ok (.if_icmp .ge 28, 3) := by decide +kernel
theorem dX12_enter_163 : decode cX12_enter 163 = .ok (.aload_n 0, 1) := by decide +kernel
theorem dX12_enter_164 : decode cX12_enter 164 = .ok (.iload_n 1, 1) := by decide +kernel
theorem dX12_enter_165 : decode cX12_enter 165 = .ok (.iload 4, 2) := by decide +kernel
theorem dX12_enter_167 : decode cX12_enter 167 = .ok (.aload_n 0, 1) := by decide +kernel
theorem dX12_enter_168 : decode cX12_enter 168 = .ok (.aload_n 0, 1) := by decide +kernel
theorem dX12_enter_169 : decode cX12_enter 169 = .ok (.getfield 315, 3) := by decide +kernel
theorem dX12_enter_172 : decode cX12_enter 172 = .ok (.iload_n 1, 1) := by decide +kernel
theorem dX12_enter_173 : decode cX12_enter 173 = .ok (.iaload, 1) := by decide +kernel
theorem dX12_enter_174 : decode cX12_enter 174 = .ok (.iload 4, 2) := by decide +kernel
theorem dX12_enter_176 : decode cX12_enter 176 = .ok (.invokevirtual 644, 3) := by decide +kernel
theorem dX12_enter_179 : decode cX12_enter 179 = .ok (.invokevirtual 647, 3) := by decide +kernel
theorem dX12_enter_182 : decode cX12_enter 182 = .ok (.iinc 4 1, 3) := by decide +kernel
theorem dX12_enter_185 : decode cX12_enter 185 = .ok (.goto (-46), 3) := by decide +kernel
theorem dX12_enter_188 : decode cX12_enter 188 = .ok (.return_, 1) := by decide +kernel
theorem dX12_askList_0 : decode cX12_askList 0 = .ok (.iconst 0, 1) := by decide +kernel
theorem dX12_askList_1 : decode cX12_askList 1 = .ok (.istore 4, 2) := by decide +kernel
theorem dX12_askList_3 : decode cX12_askList 3 = .ok (.iload 4, 2) := by decide +kernel
theorem dX12_askList_5 : decode cX12_askList 5 = .ok (.aload_n 0, 1) := by decide +kernel
theorem dX12_askList_6 : decode cX12_askList 6 = .ok (.getfield 263, 3) := by decide +kernel
theorem dX12_askList_9 : decode cX12_askList 9 = .ok (.iload_n 3, 1) := by decide +kernel
theorem dX12_askList_10 : decode cX12_askList 10 = .ok (.iaload, 1) := by decide +kernel
theorem dX12_askList_11 : decode cX12_askList 11 = .ok (.if_icmp .ge 62, 3) := by decide +kernel
theorem dX12_askList_14 : decode cX12_askList 14 = .ok (.aload_n 0, 1) := by decide +kernel
theorem dX12_askList_15 : decode cX12_askList 15 = .ok (.invokevirtual 623, 3) := by decide +kernel
theorem dX12_askList_18 : decode cX12_askList 18 = .ok (.ifCond .ne 55, 3) := by decide +kernel
theorem dX12_askList_21 : decode cX12_askList 21 = .ok (.bipush 40, 2) := by decide +kernel
theorem dX12_askList_23 : decode cX12_askList 23 = .ok (.iload_n 3, 1) := by decide +kernel
theorem dX12_askList_24 : decode cX12_askList 24 = .ok (.imul, 1) := by decide +kernel
theorem dX12_askList_25 : decode cX12_askList 25 = .ok (.iload 4, 2) := by decide +kernel
theorem dX12_askList_27 : decode cX12_askList 27 = .ok (.iadd, 1) := by decide +kernel
theorem dX12_askList_28 : decode cX12_askList 28 = .ok (.istore 5, 2) := by decide +kernel
theorem dX12_askList_30 : decode cX12_askList 30 = .ok (.aload_n 0, 1) := by decide +kernel
theorem dX12_askList_31 : decode cX12_askList 31 = .ok (.getfield 266, 3) := by decide +kernel
theorem dX12_askList_34 : decode cX12_askList 34 = .ok (.iload 5, 2) := by decide +kernel
theorem dX12_askList_36 : decode cX12_askList 36 = .ok (.iaload, 1) := by decide +kernel
theorem dX12_askList_37 : decode cX12_askList 37 = .ok (.iconst 2, 1) := by decide +kernel
theorem dX12_askList_38 : decode cX12_askList 38 = .ok (.if_icmp .eq 29, 3) := by decide +kernel
theorem dX12_askList_41 : decode cX12_askList 41 = .ok (.aload_n 0, 1) := by decide +kernel
theorem dX12_askList_42 : decode cX12_askList 42 = .ok (.getfield 626, 3) := by decide +kernel
theorem dX12_askList_45 : decode cX12_askList 45 = .ok (.aload_n 0, 1) := by decide +kernel
theorem dX12_askList_46 : decode cX12_askList 46 = .ok (.getfield 272, 3) := by decide +kernel
theorem dX12_askList_49 : decode cX12_askList 49 = .ok (.iload 5, 2) := by decide +kernel
theorem dX12_askList_51 : decode cX12_askList 51 = .ok (.iaload, 1) := by decide +kernel
theorem dX12_askList_52 : decode cX12_askList 52 = .ok (.ishr, 1) := by decide +kernel
theorem dX12_askList_53 : decode cX12_askList 53 = .ok (.iconst 1, 1) := by decide +kernel
theorem dX12_askList_54 : decode cX12_askList 54 = .ok (.iand, 1) := by decide +kernel
theorem dX12_askList_55 : decode cX12_askList 55 = .ok (.iconst 1, 1) := by decide +kernel
theorem dX12_askList_56 : decode cX12_askList 56 = .ok (.if_icmp .ne 11, 3) := by decide +kernel
theorem dX12_askList_59 : decode cX12_askList 59 = .ok (.aload_n 0, 1) := by decide +kernel
theorem dX12_askList_60 : decode cX12_askList 60 = .ok (.iload_n 1, 1) := by decide +kernel
theorem dX12_askList_61 : decode cX12_askList 61 = .ok (.iload_n 2, 1) := by decide +kernel
theorem dX12_askList_62 : decode cX12_askList 62 = .ok (.iload 5, 2) := by decide +kernel
theorem dX12_askList_64 : decode cX12_askList 64 = .ok (.invokevirtual 651, 3) := by decide +kernel
theorem dX12_askList_67 : decode cX12_askList 67 = .ok (.iinc 4 1, 3) := by decide +kernel
theorem dX12_askList_70 : decode cX12_askList 70 = .ok (.goto (-67), 3) := by decide +kernel
theorem dX12_askList_73 : decode cX12_askList 73 = .ok (.return_, 1) := by decide +kernel
