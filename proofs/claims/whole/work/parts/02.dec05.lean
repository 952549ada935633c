theorem dX9_word_37 : decode cX9_word 37 = .ok (.land, 1) := by decide +kernel
theorem dX9_word_38 : decode cX9_word 38 = .ok (.lcmp, 1) := by decide +kernel
theorem dX9_word_39 : decode cX9_word 39 = .ok (.ifCond .eq 5, 3) := by decide +kernel
theorem dX9_word_42 : decode cX9_word 42 = .ok (.iconst 0, 1) := by decide +kernel
theorem dX9_word_43 : decode cX9_word 43 = .ok (.ireturn, 1) := by decide +kernel
theorem dX9_word_44 : decode cX9_word 44 = .ok (.iinc 4 1, 3) := by decide +kernel
theorem dX9_word_47 : decode cX9_word 47 = .ok (.goto (-44), 3) := by decide +kernel
theorem dX9_word_50 : decode cX9_word 50 = .ok (.aload_n 0, 1) := by decide +kernel
theorem dX9_word_51 : decode cX9_word 51 = .ok (.dup, 1) := by decide +kernel
theorem dX9_word_52 : decode cX9_word 52 = .ok (.getfield 65, 3) := by decide +kernel
theorem dX9_word_55 : decode cX9_word 55 = .ok (.iload_n 3, 1) := by decide +kernel
theorem dX9_word_56 : decode cX9_word 56 = .ok (.iadd, 1) := by decide +kernel
theorem dX9_word_57 : decode cX9_word 57 = .ok (.putfield 65, 3) := by decide +kernel
theorem dX9_word_60 : decode cX9_word 60 = .ok (.iconst 1, 1) := by decide +kernel
theorem dX9_word_61 : decode cX9_word 61 = .ok (.ireturn, 1) := by decide +kernel
theorem dX9_word5_0 : decode cX9_word5 0 = .ok (.iload_n 0, 1) := by decide +kernel
theorem dX9_word5_1 : decode cX9_word5 1 = .ok (.i2l, 1) := by decide +kernel
theorem dX9_word5_2 : decode cX9_word5 2 = .ok (.ldc2_w 78, 3) := by decide +kernel
theorem dX9_word5_5 : decode cX9_word5 5 = .ok (.lsub, 1) := by decide +kernel
theorem dX9_word5_6 : decode cX9_word5 6 = .ok (.ldc2_w 54, 3) := by decide +kernel
theorem dX9_word5_9 : decode cX9_word5 9 = .ok (.lmul, 1) := by decide +kernel
theorem dX9_word5_10 : decode cX9_word5 10 = .ok (.iload_n 1, 1) := by decide +kernel
theorem dX9_word5_11 : decode cX9_word5 11 = .ok (.i2l, 1) := by decide +kernel
theorem dX9_word5_12 : decode cX9_word5 12 = .ok (.ladd, 1) := by decide +kernel
theorem dX9_word5_13 : decode cX9_word5 13 = .ok (.ldc2_w 78, 3) := by decide +kernel
theorem dX9_word5_16 : decode cX9_word5 16 = .ok (.lsub, 1) := by decide +kernel
theorem dX9_word5_17 : decode cX9_word5 17 = .ok (.ldc2_w 54, 3) := by decide +kernel
theorem dX9_word5_20 : decode cX9_word5 20 = .ok (.lmul, 1) := by decide +kernel
theorem dX9_word5_21 : decode cX9_word5 21 = .ok (.iload_n 2, 1) := by decide +kernel
theorem dX9_word5_22 : decode cX9_word5 22 = .ok (.i2l, 1) := by decide +kernel
theorem dX9_word5_23 : decode cX9_word5 23 = .ok (.ladd, 1) := by decide +kernel
theorem dX9_word5_24 : decode cX9_word5 24 = .ok (.ldc2_w 78, 3) := by decide +kernel
theorem dX9_word5_27 : decode cX9_word5 27 = .ok (.lsub, 1) := by decide +kernel
theorem dX9_word5_28 : decode cX9_word5 28 = .ok (.ldc2_w 54, 3) := by decide +kernel
theorem dX9_word5_31 : decode cX9_word5 31 = .ok (.lmul, 1) := by decide +kernel
theorem dX9_word5_32 : decode cX9_word5 32 = .ok (.iload_n 3, 1) := by decide +kernel
theorem dX9_word5_33 : decode cX9_word5 33 = .ok (.i2l, 1) := by decide +kernel
theorem dX9_word5_34 : decode cX9_word5 34 = .ok (.ladd, 1) := by decide +kernel
theorem dX9_word5_35 : decode cX9_word5 35 = .ok (.ldc2_w 78, 3) := by decide +kernel
theorem dX9_word5_38 : decode cX9_word5 38 = .ok (.lsub, 1) := by decide +kernel
theorem dX9_word5_39 : decode cX9_word5 39 = .ok (.ldc2_w 54, 3) := by decide +kernel
theorem dX9_word5_42 : decode cX9_word5 42 = .ok (.lmul, 1) := by decide +kernel
theorem dX9_word5_43 : decode cX9_word5 43 = .ok (.iload 4, 2) := by decide +kernel
theorem dX9_word5_45 : decode cX9_word5 45 = .ok (.i2l, 1) := by decide +kernel
theorem dX9_word5_46 : decode cX9_word5 46 = .ok (.ladd, 1) := by decide +kernel
theorem dX9_word5_47 : decode cX9_word5 47 = .ok (.ldc2_w 78, 3) := by decide +kernel
theorem dX9_word5_50 : decode cX9_word5 50 = .ok (.lsub, 1) := by decide +kernel
theorem dX9_word5_51 : decode cX9_word5 51 = .ok (.lreturn, 1) := by decide +kernel
theorem dX9_word4_0 : decode cX9_word4 0 = .ok (.iload_n 0, 1) := by decide +kernel
theorem dX9_word4_1 : decode cX9_word4 1 = .ok (.i2l, 1) := by decide +kernel
theorem dX9_word4_2 : decode cX9_word4 2 = .ok (.ldc2_w 78, 3) := by decide +kernel
theorem dX9_word4_5 : decode cX9_word4 5 = .ok (.lsub, 1) := by decide +kernel
theorem dX9_word4_6 : decode cX9_word4 6 = .ok (.ldc2_w 54, 3) := by decide +kernel
theorem dX9_word4_9 : decode cX9_word4 9 = .ok (.lmul, 1) := by decide +kernel
theorem dX9_word4_10 : decode cX9_word4 10 = .ok (.iload_n 1, 1) := by decide +kernel
theorem dX9_word4_11 : decode cX9_word4 11 = .ok (.i2l, 1) := by decide +kernel
theorem dX9_word4_12 : decode cX9_word4 12 = .ok (.ladd, 1) := by decide +kernel
theorem dX9_word4_13 : decode cX9_word4 13 = .ok (.ldc2_w 78, 3) := by decide +kernel
theorem dX9_word4_16 : decode cX9_word4 16 = .ok (.lsub, 1) := by decide +kernel
theorem dX9_word4_17 : decode cX9_word4 17 = .ok (.ldc2_w 54, 3) := by decide +kernel
theorem dX9_word4_20 : decode cX9_word4 20 = .ok (.lmul, 1) := by decide +kernel
theorem dX9_word4_21 : decode cX9_word4 21 = .ok (.iload_n 2, 1) := by decide +kernel
theorem dX9_word4_22 : decode cX9_word4 22 = .ok (.i2l, 1) := by decide +kernel
theorem dX9_word4_23 : decode cX9_word4 23 = .ok (.ladd, 1) := by decide +kernel
theorem dX9_word4_24 : decode cX9_word4 24 = .ok (.ldc2_w 78, 3) := by decide +kernel
theorem dX9_word4_27 : decode cX9_word4 27 = .ok (.lsub, 1) := by decide +kernel
theorem dX9_word4_28 : decode cX9_word4 28 = .ok (.ldc2_w 54, 3) := by decide +kernel
theorem dX9_word4_31 : decode cX9_word4 31 = .ok (.lmul, 1) := by decide +kernel
theorem dX9_word4_32 : decode cX9_word4 32 = .ok (.iload_n 3, 1) := by decide +kernel
theorem dX9_word4_33 : decode cX9_word4 33 = .ok (.i2l, 1) := by decide +kernel
theorem dX9_word4_34 : decode cX9_word4 34 = .ok (.ladd, 1) := by decide +kernel
theorem dX9_word4_35 : decode cX9_word4 35 = .ok (.ldc2_w 78, 3) := by decide +kernel
theorem dX9_word4_38 : decode cX9_word4 38 = .ok (.lsub, 1) := by decide +kernel
theorem dX9_word4_39 : decode cX9_word4 39 = .ok (.lreturn, 1) := by decide +kernel
theorem dX9_isApart_0 : decode cX9_isApart 0 = .ok (.bipush 29, 2) := by decide +kernel
theorem dX9_isApart_2 : decode cX9_isApart 2 = .ok (.iconst 4, 1) := by decide +kernel
theorem dX9_isApart_3 : decode cX9_isApart 3 = .ok (.iload_n 1, 1) := by decide +kernel
theorem dX9_isApart_4 : decode cX9_isApart 4 = .ok (.imul, 1) := by decide +kernel
theorem dX9_isApart_5 : decode cX9_isApart 5 = .ok (.iadd, 1) := by decide +kernel
theorem dX9_isApart_6 : decode cX9_isApart 6 = .ok (.istore_n 3, 1) := by decide +kernel
theorem dX9_isApart_7 : decode cX9_isApart 7 = .ok (.bipush 29, 2) := by decide +kernel
theorem dX9_isApart_9 : decode cX9_isApart 9 = .ok (.iconst 4, 1) := by decide +kernel
theorem dX9_isApart_10 : decode cX9_isApart 10 = .ok (.iload_n 2, 1) := by decide +kernel
theorem dX9_isApart_11 : decode cX9_isApart 11 = .ok (.imul, 1) := by decide +kernel
theorem dX9_isApart_12 : decode cX9_isApart 12 = .ok (.iadd, 1) := by decide +kernel
theorem dX9_isApart_13 : decode cX9_isApart 13 = .ok (.istore 4, 2) := by decide +kernel
theorem dX9_isApart_15 : decode cX9_isApart 15 = .ok (.aload_n 0, 1) := by decide +kernel
theorem dX9_isApart_16 : decode cX9_isApart 16 = .ok (.getfield 16, 3) := by decide +kernel
theorem dX9_isApart_19 : decode cX9_isApart 19 = .ok (.iload_n 3, 1) := by decide +kernel
theorem dX9_isApart_20 : decode cX9_isApart 20 = .ok (.iaload, 1) := by decide +kernel
theorem dX9_isApart_21 : decode cX9_isApart 21 = .ok (.aload_n 0, 1) := by decide +kernel
theorem dX9_isApart_22 : decode cX9_isApart 22 = .ok (.getfield 16, 3) := by decide +kernel
theorem dX9_isApart_25 : decode cX9_isApart 25 = .ok (.iload_n 3, 1) := by decide +kernel
theorem dX9_isApart_26 : decode cX9_isApart 26 = .ok (.iconst 2, 1) := by decide +kernel
theorem dX9_isApart_27 : decode cX9_isApart 27 = .ok (.iadd, 1) := by decide +kernel
theorem dX9_isApart_28 : decode cX9_isApart 28 = .ok (.iaload, 1) := by decide +kernel
theorem dX9_isApart_29 : decode cX9_isApart 29 = .ok (.iadd, 1) := by decide +kernel
theorem dX9_isApart_30 : decode cX9_isApart 30 = .ok (.aload_n 0, 1) := by decide +kernel
theorem dX9_isApart_31 : decode cX9_isApart 31 = .ok (.getfield 16, 3) := by decide +kernel
theorem dX9_isApart_34 : decode cX9_isApart 34 = .ok (.iload 4, 2) := by decide +kernel
theorem dX9_isApart_36 : decode cX9_isApart 36 = .ok (.iaload, 1) := by decide +kernel
theorem dX9_isApart_37 : decode cX9_isApart 37 = .ok (.if_icmp .le 88, 3) := by decide +kernel
theorem dX9_isApart_40 : decode cX9_isApart 40 = .ok (.aload_n 0, 1) := by decide +kernel
theorem dX9_isApart_41 : decode cX9_isApart 41 = .ok (.getfield 16, 3) := by decide +kernel
theorem dX9_isApart_44 : decode cX9_isApart 44 = .ok (.iload 4, 2) := by decide +kernel
theorem dX9_isApart_46 : decode cX9_isApart 46 = .ok (.iaload, 1) := by decide +kernel
theorem dX9_isApart_47 : decode cX9_isApart 47 = .ok (.aload_n 0, 1) := by decide +kernel
theorem dX9_isApart_48 : decode cX9_isApart 48 = .ok (.getfield 16, 3) := by decide +kernel
theorem dX9_isApart_51 : decode cX9_isApart 51 = .ok (.iload 4, 2) := by decide +kernel
theorem dX9_isApart_53 : decode cX9_isApart 53 = .ok (.iconst 2, 1) := by decide +kernel
theorem dX9_isApart_54 : decode cX9_isApart 54 = .ok (.iadd, 1) := by decide +kernel
theorem dX9_isApart_55 : decode cX9_isApart 55 = .ok (.iaload, 1) := by decide +kernel
theorem dX9_isApart_56 : decode cX9_isApart 56 = .ok (.iadd, 1) := by decide +kernel
theorem dX9_isApart_57 : decode cX9_isApart 57 = .ok (.aload_n 0, 1) := by decide +kernel
theorem dX9_isApart_58 : decode cX9_isApart 58 = .ok (.getfield 16, 3) := by decide +kernel
theorem dX9_isApart_61 : decode cX9_isApart 61 = .ok (.iload_n 3, 1) := by decide +kernel
theorem dX9_isApart_62 : decode cX9_isApart 62 = .ok (.iaload, 1) := by decide +kernel
theorem dX9_isApart_63 : decode cX9_isApart 63 = .ok (.if_icmp .le 62, 3) := by decide +kernel
theorem dX9_isApart_66 : decode cX9_isApart 66 = .ok (.aload_n 0, 1) := by decide +kernel
theorem dX9_isApart_67 : decode cX9_isApart 67 = .ok (.getfield 16, 3) := by decide +kernel
theorem dX9_isApart_70 : decode cX9_isApart 70 = .ok (.iload_n 3, 1) := by decide +kernel
theorem dX9_isApart_71 : decode cX9_isApart 71 = .ok (.iconst 1, 1) := by decide +kernel
theorem dX9_isApart_72 : decode cX9_isApart 72 = .ok (.iadd, 1) := by decide +kernel
theorem dX9_isApart_73 : decode cX9_isApart 73 = .ok (.iaload, 1) := by decide +kernel
theorem dX9_isApart_74 : decode cX9_isApart 74 = .ok (.aload_n 0, 1) := by decide +kernel
theorem dX9_isApart_75 : decode cX9_isApart 75 = .ok (.getfield 16, 3) := by decide +kernel
theorem dX9_isApart_78 : decode cX9_isApart 78 = .ok (.iload_n 3, 1) := by decide +kernel
theorem dX9_isApart_79 : decode cX9_isApart 79 = .ok (.iconst 3, 1) := by decide +kernel
theorem dX9_isApart_80 : decode cX9_isApart 80 = .ok (.iadd, 1) := by decide +kernel
theorem dX9_isApart_81 : decode cX9_isApart 81 = .ok (.iaload, 1) := by decide +kernel
theorem dX9_isApart_82 : decode cX9_isApart 82 = .ok (.iadd, 1) := by decide +kernel
theorem dX9_isApart_83 : decode cX9_isApart 83 = .ok (.aload_n 0, 1) := by decide +kernel
theorem dX9_isApart_84 : decode cX9_isApart 84 = .ok (.getfield 16, 3) := by decide +kernel
theorem dX9_isApart_87 : decode cX9_isApart 87 = .ok (.iload 4, 2) := by decide +kernel
theorem dX9_isApart_89 : decode cX9_isApart 89 = .ok (.iconst 1, 1) := by decide +kernel
theorem dX9_isApart_90 : decode cX9_isApart 90 = .ok (.iadd, 1) := by decide +kernel
theorem dX9_isApart_91 : decode cX9_isApart 91 = .ok (.iaload, 1) := by decide +kernel
theorem dX9_isApart_92 : decode cX9_isApart 92 = .ok (.if_icmp .le 33, 3) := by decide +kernel
theorem dX9_isApart_95 : decode cX9_isApart 95 = .ok (.aload_n 0, 1) := by decide +kernel
theorem dX9_isApart_96 : decode cX9_isApart 96 = .ok (.getfield 16, 3) := by decide +kernel
theorem dX9_isApart_99 : decode cX9_isApart 99 = .ok (.iload 4, 2) := by decide +kernel
theorem dX9_isApart_101 : decode cX9_isApart 101 = .ok (.iconst 1, 1) := by decide +kernel
theorem dX9_isApart_102 : decode cX9_isApart 102 = .ok (.iadd, 1) := by decide +kernel
theorem dX9_isApart_103 : decode cX9_isApart 103 = .ok (.iaload, 1) := by decide +kernel
theorem dX9_isApart_104 : decode cX9_isApart 104 = .ok (.aload_n 0, 1) := by decide +kernel
theorem dX9_isApart_105 : decode cX9_isApart 105 = .ok (.getfield 16, 3) := by decide +kernel
theorem dX9_isApart_108 : decode cX9_isApart 108 = .ok (.iload 4, 2) := by decide +kernel
theorem dX9_isApart_110 : decode cX9_isApart 110 = .ok (.iconst 3, 1) := by decide +kernel
theorem dX9_isApart_111 : decode cX9_isApart 111 = .ok (.iadd, 1) := by decide +kernel
theorem dX9_isApart_112 : decode cX9_isApart 112 = .ok (.iaload, 1) := by decide +kernel
theorem dX9_isApart_113 : decode cX9_isApart 113 = .ok (.iadd, 1) := by decide +kernel
theorem dX9_isApart_114 : decode cX9_isApart 114 = .ok (.aload_n 0, 1) := by decide +kernel
theorem dX9_isApart_115 : decode cX9_isApart 115 = .ok (.getfield 16, 3) := by decide +kernel
theorem dX9_isApart_118 : decode cX9_isApart 118 = .ok (.iload_n 3, 1) := by decide +kernel
theorem dX9_isApart_119 : decode cX9_isApart 119 = .ok (.iconst 1, 1) := by decide +kernel
theorem dX9_isApart_120 : decode cX9_isApart 120 = .ok (.iadd, 1) := by decide +kernel
theorem dX9_isApart_121 : decode cX9_isApart 121 = .ok (.iaload, 1) := by decide +kernel
theorem dX9_isApart_122 : decode cX9_isApart 122 = .ok (.if_icmp .gt 7, 3) := by decide +kernel
theorem dX9_isApart_125 : decode cX9_isApart 125 = .ok (.iconst 1, 1) := by decide +kernel
theorem dX9_isApart_126 : decode cX9_isApart 126 = .ok (.goto 4, 3) := by decide +kernel
theorem dX9_isApart_129 : decode cX9_isApart 129 = .ok (.iconst 0, 1) := by decide +kernel
theorem dX9_isApart_130 : decode cX9_isApart 130 = .ok (.ireturn, 1) := by decide +kernel
theorem dX9_holeItem_0 : decode cX9_holeItem 0 = .ok (.aload_n 0, 1) := by decide +kernel
theorem dX9_holeItem_1 : decode cX9_holeItem 1 = .ok (.getfield 16, 3) := by decide +kernel
theorem dX9_holeItem_4 : decode cX9_holeItem 4 = .ok (.iconst 3, 1) := by decide +kernel
theorem dX9_holeItem_5 : decode cX9_holeItem 5 = .ok (.iaload, 1) := by decide +kernel
theorem dX9_holeItem_6 : decode cX9_holeItem 6 = .ok (.istore_n 1, 1) := by decide +kernel
theorem dX9_holeItem_7 : decode cX9_holeItem 7 = .ok (.iload_n 1, 1) := by decide +kernel
theorem dX9_holeItem_8 : decode cX9_holeItem 8 = .ok (.iconst 5, 1) := by decide +kernel
theorem dX9_holeItem_9 : decode cX9_holeItem 9 = .ok (.if_icmp .ne 5, 3) := by decide +kernel
theorem dX9_holeItem_12 : decode cX9_holeItem 12 = .ok (.iconst 0, 1) := by decide +kernel
theorem dX9_holeItem_13 : decode cX9_holeItem 13 = .ok (.ireturn, 1) := by decide +kernel
theorem dX9_holeItem_14 : decode cX9_holeItem 14 = .ok (.bipush 29, 2) := by decide +kernel
theorem dX9_holeItem_16 : decode cX9_holeItem 16 = .ok (.iconst 4, 1) := by decide +kernel
theorem dX9_holeItem_17 : decode cX9_holeItem 17 = .ok (.iload_n 1, 1) := by decide +kernel
theorem dX9_holeItem_18 : decode cX9_holeItem 18 = .ok (.imul, 1) := by decide +kernel
theorem dX9_holeItem_19 : decode cX9_holeItem 19 = .ok (.iadd, 1) := by decide +kernel
theorem dX9_holeItem_20 : decode cX9_holeItem 20 = .ok (.istore_n 2, 1) := by decide +kernel
theorem dX9_holeItem_21 : decode cX9_holeItem 21 = .ok (.aload_n 0, 1) := by decide +kernel
theorem dX9_holeItem_22 : decode cX9_holeItem 22 = .ok (.getfield 16, 3) := by decide +kernel
theorem dX9_holeItem_25 : decode cX9_holeItem 25 = .ok (.iconst 3, 1) := by decide +kernel
theorem dX9_holeItem_26 : decode cX9_holeItem 26 = .ok (.dup2, 1) := by decide +kernel
theorem dX9_holeItem_27 : decode cX9_holeItem 27 = .ok (.iaload, 1) := by decide +kernel
theorem dX9_holeItem_28 : decode cX9_holeItem 28 = .ok (.iconst 1, 1) := by decide +kernel
theorem dX9_holeItem_29 : decode cX9_holeItem 29 = .ok (.iadd, 1) := by decide +kernel
theorem dX9_holeItem_30 : decode cX9_holeItem 30 = .ok (.iastore, 1) := by decide +kernel
theorem dX9_holeItem_31 : decode cX9_holeItem 31 = .ok (.aload_n 0, 1) := by decide +kernel
theorem dX9_holeItem_32 : decode cX9_holeItem 32 = .ok (.bipush 32, 2) := by decide +kernel
theorem dX9_holeItem_34 : decode cX9_holeItem 34 = .ok (.iload_n 2, 1) := by decide +kernel
theorem dX9_holeItem_35 : decode cX9_holeItem 35 = .ok (.iconst 0, 1) := by decide +kernel
theorem dX9_holeItem_36 : decode cX9_holeItem 36 = .ok (.aload_n 0, 1) := by decide +kernel
theorem dX9_holeItem_37 : decode cX9_holeItem 37 = .ok (.getfield 16, 3) := by decide +kernel
theorem dX9_holeItem_40 : decode cX9_holeItem 40 = .ok (.iconst 0, 1) := by decide +kernel
theorem dX9_holeItem_41 : decode cX9_holeItem 41 = .ok (.iaload, 1) := by decide +kernel
theorem dX9_holeItem_42 : decode cX9_holeItem 42 = .ok (.iconst 1, 1) := by decide +kernel
theorem dX9_holeItem_43 : decode cX9_holeItem 43 = .ok (.isub, 1) := by decide +kernel
theorem dX9_holeItem_44 : decode cX9_holeItem 44 = .ok (.invokevirtual 80, 3) := by decide +kernel
theorem dX9_holeItem_47 : decode cX9_holeItem 47 = .ok (.ifCond .eq 82, 3) := by decide +kernel
theorem dX9_holeItem_50 : decode cX9_holeItem 50 = .ok (.aload_n 0, 1) := by decide +kernel
theorem dX9_holeItem_51 : decode cX9_holeItem 51 = .ok (.bipush 44, 2) := by decide +kernel
theorem dX9_holeItem_53 : decode cX9_holeItem 53 = .ok (.iload_n 2, 1) := by decide +kernel
theorem dX9_holeItem_54 : decode cX9_holeItem 54 = .ok (.iconst 1, 1) := by decide +kernel
theorem dX9_holeItem_55 : decode cX9_holeItem 55 = .ok (.iadd, 1) := by decide +kernel
theorem dX9_holeItem_56 : decode cX9_holeItem 56 = .ok (.iconst 0, 1) := by decide +kernel
theorem dX9_holeItem_57 : decode cX9_holeItem 57 = .ok (.aload_n 0, 1) := by decide +kernel
theorem dX9_holeItem_58 : decode cX9_holeItem 58 = .ok (.getfield 16, 3) := by decide +kernel
theorem dX9_holeItem_61 : decode cX9_holeItem 61 = .ok (.iconst 1, 1) := by decide +kernel
theorem dX9_holeItem_62 : decode cX9_holeItem 62 = .ok (.iaload, 1) := by decide +kernel
theorem dX9_holeItem_63 : decode cX9_holeItem 63 = .ok (.iconst 1, 1) := by decide +kernel
theorem dX9_holeItem_64 : decode cX9_holeItem 64 = .ok (.isub, 1) := by decide +kernel
theorem dX9_holeItem_65 : decode cX9_holeItem 65 = .ok (.invokevirtual 80, 3) := by decide +kernel
theorem dX9_holeItem_68 : decode cX9_holeItem 68 = .ok (.ifCond .eq 61, 3) := by decide +kernel
theorem dX9_holeItem_71 : decode cX9_holeItem 71 = .ok (.aload_n 0, 1) := by decide +kernel
theorem dX9_holeItem_72 : decode cX9_holeItem 72 = .ok (.bipush 44, 2) := by decide +kernel
theorem dX9_holeItem_74 : decode cX9_holeItem 74 = .ok (.iload_n 2, 1) := by decide +kernel
theorem dX9_holeItem_75 : decode cX9_holeItem 75 = .ok (.iconst 2, 1) := by decide +kernel
theorem dX9_holeItem_76 : decode cX9_holeItem 76 = .ok (.iadd, 1) := by decide +kernel
theorem dX9_holeItem_77 : decode cX9_holeItem 77 = .ok (.iconst 1, 1) := by decide +kernel
theorem dX9_holeItem_78 : decode cX9_holeItem 78 = .ok (.aload_n 0, 1) := by decide +kernel
theorem dX9_holeItem_79 : decode cX9_holeItem 79 = .ok (.getfield 16, 3) := by decide +kernel
theorem dX9_holeItem_82 : decode cX9_holeItem 82 = .ok (.iconst 0, 1) := by decide +kernel
theorem dX9_holeItem_83 : decode cX9_holeItem 83 = .ok (.iaload, 1) := by decide +kernel
theorem dX9_holeItem_84 : decode cX9_holeItem 84 = .ok (.aload_n 0, 1) := by decide +kernel
theorem dX9_holeItem_85 : decode cX9_holeItem 85 = .ok (.getfield 16, 3) := by decide +kernel
theorem dX9_holeItem_88 : decode cX9_holeItem 88 = .ok (.iload_n 2, 1) := by decide +kernel
theorem dX9_holeItem_89 : decode cX9_holeItem 89 = .ok (.iaload, 1) := by decide +kernel
theorem dX9_holeItem_90 : decode cX9_holeItem 90 = .ok (.isub, 1) := by decide +kernel
theorem dX9_holeItem_91 : decode cX9_holeItem 91 = .ok (.invokevirtual 80, 3) := by decide +kernel
theorem dX9_holeItem_94 : decode cX9_holeItem 94 = .ok (.ifCond .eq 35, 3) := by decide +kernel
theorem dX9_holeItem_97 : decode cX9_holeItem 97 = .ok (.aload_n 0, 1) := by decide +kernel
theorem dX9_holeItem_98 : decode cX9_holeItem 98 = .ok (.bipush 44, 2) := by decide +kernel
theorem dX9_holeItem_100 : decode cX9_holeItem 100 = .ok (.iload_n 2, 1) := by decide +kernel
theorem dX9_holeItem_101 : decode cX9_holeItem 101 = .ok (.iconst 3, 1) := by decide +kernel
theorem dX9_holeItem_102 : decode cX9_holeItem 102 = .ok (.iadd, 1) := by decide +kernel
theorem dX9_holeItem_103 : decode cX9_holeItem 103 = .ok (.iconst 1, 1) := by decide +kernel
theorem dX9_holeItem_104 : decode cX9_holeItem 104 = .ok (.aload_n 0, 1) := by decide +kernel
theorem dX9_holeItem_105 : decode cX9_holeItem 105 = .ok (.getfield 16, 3) := by decide +kernel
theorem dX9_holeItem_108 : decode cX9_holeItem 108 = .ok (.iconst 1, 1) := by decide +kernel
theorem dX9_holeItem_109 : decode cX9_holeItem 109 = .ok (.iaload, 1) := by decide +kernel
theorem dX9_holeItem_110 : decode cX9_holeItem 110 = .ok (.aload_n 0, 1) := by decide +kernel
theorem dX9_holeItem_111 : decode cX9_holeItem 111 = .ok (.getfield 16, 3) := by decide +kernel
theorem dX9_holeItem_114 : decode cX9_holeItem 114 = .ok (.iload_n 2, 1) := by decide +kernel
theorem dX9_holeItem_115 : decode cX9_holeItem 115 = .ok (.iconst 1, 1) := by decide +kernel
theorem dX9_holeItem_116 : decode cX9_holeItem 116 = .ok (.iadd, 1) := by decide +kernel
theorem dX9_holeItem_117 : decode cX9_holeItem 117 = .ok (.iaload, 1) := by decide +kernel
theorem dX9_holeItem_118 : decode cX9_holeItem 118 = .ok (.isub, 1) := by decide +kernel
theorem dX9_holeItem_119 : decode cX9_holeItem 119 = .ok (.invokevirtual 80, 3) := by decide +kernel
theorem dX9_holeItem_122 : decode cX9_holeItem 122 = .ok (.ifCond .eq 7, 3) := by decide +kernel
theorem dX9_holeItem_125 : decode cX9_holeItem 125 = .ok (.iconst 1, 1) := by decide +kernel
theorem dX9_holeItem_126 : decode cX9_holeItem 126 = .ok (.goto 4, 3) := by decide +kernel
theorem dX9_holeItem_129 : decode cX9_holeItem 129 = .ok (.iconst 0, 1) := by decide +kernel
theorem dX9_holeItem_130 : decode cX9_holeItem 130 = .ok (.istore_n 3, 1) := by decide +kernel
theorem dX9_holeItem_131 : decode cX9_holeItem 131 = .ok (.iconst 0, 1) := by decide +kernel
theorem dX9_holeItem_132 : decode cX9_holeItem 132 = .ok (.istore 4, 2) := by decide +kernel
theorem dX9_holeItem_134 : decode cX9_holeItem 134 = .ok (.iload 4, 2) := by decide +kernel
theorem dX9_holeItem_136 : decode cX9_holeItem 136 = .ok (.iload_n 1, 1) := by decide +kernel
theorem dX9_holeItem_137 : decode cX9_holeItem 137 = .ok (.if_icmp .ge 21, 3) := by decide +kernel
theorem dX9_holeItem_140 : decode cX9_holeItem 140 = .ok (.iload_n 3, 1) := by decide +kernel
theorem dX9_holeItem_141 : decode cX9_holeItem 141 = .ok (.ifCond .eq 17, 3) := by decide +kernel
theorem dX9_holeItem_144 : decode cX9_holeItem 144 = .ok (.aload_n 0, 1) := by decide +kernel
theorem dX9_holeItem_145 : decode cX9_holeItem 145 = .ok (.iload_n 1, 1) := by decide +kernel
theorem dX9_holeItem_146 : decode cX9_holeItem 146 = .ok (.iload 4, 2) := by decide +kernel
theorem dX9_holeItem_148 : decode cX9_holeItem 148 = .ok (.invokevirtual 84, 3) := by decide +kernel
theorem dX9_holeItem_151 : decode cX9_holeItem 151 = .ok (.istore_n 3, 1) := by decide +kernel
theorem dX9_holeItem_152 : decode cX9_holeItem 152 = .ok (.iinc 4 1, 3) := by decide +kernel
theorem dX9_holeItem_155 : decode cX9_holeItem 155 = .ok (.goto (-21), 3) := by decide +kernel
theorem dX9_holeItem_158 : decode cX9_holeItem 158 = .ok (.iload_n 3, 1) := by decide +kernel
theorem dX9_holeItem_159 : decode cX9_holeItem 159 = .ok (.ireturn, 1) := by decide +kernel
theorem dX9_item_0 : decode cX9_item 0 = .ok (.aload_n 0, 1) := by decide +kernel
theorem dX9_item_1 : decode cX9_item 1 = .ok (.bipush 115, 2) := by decide +kernel
theorem dX9_item_3 : decode cX9_item 3 = .ok (.bipush 104, 2) := by decide +kernel
theorem dX9_item_5 : decode cX9_item 5 = .ok (.bipush 101, 2) := by decide +kernel
theorem dX9_item_7 : decode cX9_item 7 = .ok (.bipush 101, 2) := by decide +kernel
theorem dX9_item_9 : decode cX9_item 9 = .ok (.bipush 116, 2) := by decide +kernel
theorem dX9_item_11 : decode cX9_item 11 = .ok (.invokestatic 88, 3) := by decide +kernel
theorem dX9_item_14 : decode cX9_item 14 = .ok (.iconst 5, 1) := by decide +kernel
theorem dX9_item_15 : decode cX9_item 15 = .ok (.invokevirtual 92, 3) := by decide +kernel
theorem dX9_item_18 : decode cX9_item 18 = .ok (.ifCond .eq 44, 3) := by decide +kernel
theorem dX9_item_21 : decode cX9_item 21 = .ok (.aload_n 0, 1) := by decide +kernel
theorem dX9_item_22 : decode cX9_item 22 = .ok (.getfield 16, 3) := by decide +kernel
theorem dX9_item_25 : decode cX9_item 25 = .ok (.iconst 0, 1) := by decide +kernel
theorem dX9_item_26 : decode cX9_item 26 = .ok (.iaload, 1) := by decide +kernel
theorem dX9_item_27 : decode cX9_item 27 = .ok (.ifCond .ne 33, 3) := by decide +kernel
theorem dX9_item_30 : decode cX9_item 30 = .ok (.aload_n 0, 1) := by decide +kernel
theorem dX9_item_31 : decode cX9_item 31 = .ok (.bipush 32, 2) := by decide +kernel
theorem dX9_item_33 : decode cX9_item 33 = .ok (.iconst 0, 1) := by decide +kernel
theorem dX9_item_34 : decode cX9_item 34 = .ok (.iconst 3, 1) := by decide +kernel
theorem dX9_item_35 : decode cX9_item 35 = .ok (.bipush 12, 2) := by decide +kernel
theorem dX9_item_37 : decode cX9_item 37 = .ok (.invokevirtual 80, 3) := by decide +kernel
theorem dX9_item_40 : decode cX9_item 40 = .ok (.ifCond .eq 20, 3) := by decide +kernel
theorem dX9_item_43 : decode cX9_item 43 = .ok (.aload_n 0, 1) := by decide +kernel
theorem dX9_item_44 : decode cX9_item 44 = .ok (.bipush 44, 2) := by decide +kernel
theorem dX9_item_46 : decode cX9_item 46 = .ok (.iconst 1, 1) := by decide +kernel
theorem dX9_item_47 : decode cX9_item 47 = .ok (.iconst 3, 1) := by decide +kernel
theorem dX9_item_48 : decode cX9_item 48 = .ok (.bipush 12, 2) := by decide +kernel
theorem dX9_item_50 : decode cX9_item 50 = .ok (.invokevirtual 80, 3) := by decide +kernel
theorem dX9_item_53 : decode cX9_item 53 = .ok (.ifCond .eq 7, 3) := by decide +kernel
theorem dX9_item_56 : decode cX9_item 56 = .ok (.iconst 1, 1) := by decide +kernel
theorem dX9_item_57 : decode cX9_item 57 = .ok (.goto 4, 3) := by decide +kernel
theorem dX9_item_60 : decode cX9_item 60 = .ok (.iconst 0, 1) := by decide +kernel
theorem dX9_item_61 : decode cX9_item 61 = .ok (.ireturn, 1) := by decide +kernel
theorem dX9_item_62 : decode cX9_item 62 = .ok (.aload_n 0, 1) := by decide +kernel
theorem dX9_item_63 : decode cX9_item 63 = .ok (.getfield 16, 3) := by decide +kernel
theorem dX9_item_66 : decode cX9_item 66 = .ok (.iconst 0, 1) := by decide +kernel
theorem dX9_item_67 : decode cX9_item 67 = .ok (.iaload, 1) := by decide +kernel
theorem dX9_item_68 : decode cX9_item 68 = .ok (.ifCond .ne 5, 3) := by decide +kernel
theorem dX9_item_71 : decode cX9_item 71 = .ok (.iconst 0, 1) := by decide +kernel
theorem dX9_item_72 : decode cX9_item 72 = .ok (.ireturn, 1) := by decide +kernel
theorem dX9_item_73 : decode cX9_item 73 = .ok (.aload_n 0, 1) := by decide +kernel
theorem dX9_item_74 : decode cX9_item 74 = .ok (.bipush 116, 2) := by decide +kernel
theorem dX9_item_76 : decode cX9_item 76 = .ok (.bipush 111, 2) := by decide +kernel
theorem dX9_item_78 : decode cX9_item 78 = .ok (.bipush 111, 2) := by decide +kernel
theorem dX9_item_80 : decode cX9_item 80 = .ok (.bipush 108, 2) := by decide +kernel
theorem dX9_item_82 : decode cX9_item 82 = .ok (.invokestatic 96, 3) := by decide +kernel
theorem dX9_item_85 : decode cX9_item 85 = .ok (.iconst 4, 1) := by decide +kernel
theorem dX9_item_86 : decode cX9_item 86 = .ok (.invokevirtual 92, 3) := by decide +kernel
theorem dX9_item_89 : decode cX9_item 89 = .ok (.ifCond .eq 98, 3) := by decide +kernel
theorem dX9_item_92 : decode cX9_item 92 = .ok (.iconst 5, 1) := by decide +kernel
theorem dX9_item_93 : decode cX9_item 93 = .ok (.iconst 4, 1) := by decide +kernel
theorem dX9_item_94 : decode cX9_item 94 = .ok (.aload_n 0, 1) := by decide +kernel
theorem dX9_item_95 : decode cX9_item 95 = .ok (.getfield 16, 3) := by decide +kernel
theorem dX9_item_98 : decode cX9_item 98 = .ok (.iconst 2, 1) := by decide +kernel
theorem dX9_item_99 : decode cX9_item 99 = .ok (.iaload, 1) := by decide +kernel
theorem dX9_item_100 : decode cX9_item 100 = .ok (.imul, 1) := by decide +kernel
theorem dX9_item_101 : decode cX9_item 101 = .ok (.iadd, 1) := by decide +kernel
theorem dX9_item_102 : decode cX9_item 102 = .ok (.istore_n 1, 1) := by decide +kernel
theorem dX9_item_103 : decode cX9_item 103 = .ok (.aload_n 0, 1) := by decide +kernel
theorem dX9_item_104 : decode cX9_item 104 = .ok (.getfield 16, 3) := by decide +kernel
theorem dX9_item_107 : decode cX9_item 107 = .ok (.iconst 2, 1) := by decide +kernel
theorem dX9_item_108 : decode cX9_item 108 = .ok (.dup2, 1) := by decide +kernel
theorem dX9_item_109 : decode cX9_item 109 = .ok (.iaload, 1) := by decide +kernel
theorem dX9_item_110 : decode cX9_item 110 = .ok (.iconst 1, 1) := by decide +kernel
theorem dX9_item_111 : decode cX9_item 111 = .ok (.iadd, 1) := by decide +kernel
theorem dX9_item_112 : decode cX9_item 112 = .ok (.iastore, 1) := by decide +kernel
theorem dX9_item_113 : decode cX9_item 113 = .ok (.aload_n 0, 1) := by decide +kernel
theorem dX9_item_114 : decode cX9_item 114 = .ok (.getfield 16, 3) := by decide +kernel
theorem dX9_item_117 : decode cX9_item 117 = .ok (.iconst 2, 1) := by decide +kernel
theorem dX9_item_118 : decode cX9_item 118 = .ok (.iaload, 1) := by decide +kernel
theorem dX9_item_119 : decode cX9_item 119 = .ok (.bipush 7, 2) := by decide +kernel
theorem dX9_item_121 : decode cX9_item 121 = .ok (.if_icmp .ge 64, 3) := by decide +kernel
theorem dX9_item_124 : decode cX9_item 124 = .ok (.aload_n 0, 1) := by decide +kernel
theorem dX9_item_125 : decode cX9_item 125 = .ok (.bipush 32, 2) := by decide +kernel
theorem dX9_item_127 : decode cX9_item 127 = .ok (.iload_n 1, 1) := by decide +kernel
theorem dX9_item_128 : decode cX9_item 128 = .ok (.iconst 1, 1) := by decide +kernel
theorem dX9_item_129 : decode cX9_item 129 = .ok (.bipush 6, 2) := by decide +kernel
theorem dX9_item_131 : decode cX9_item 131 = .ok (.invokevirtual 80, 3) := by decide +kernel
theorem dX9_item_134 : decode cX9_item 134 = .ok (.ifCond .eq 51, 3) := by decide +kernel
theorem dX9_item_137 : decode cX9_item 137 = .ok (.aload_n 0, 1) := by decide +kernel
theorem dX9_item_138 : decode cX9_item 138 = .ok (.bipush 44, 2) := by decide +kernel
theorem dX9_item_140 : decode cX9_item 140 = .ok (.iload_n 1, 1) := by decide +kernel
theorem dX9_item_141 : decode cX9_item 141 = .ok (.iconst 1, 1) := by decide +kernel
theorem dX9_item_142 : decode cX9_item 142 = .ok (.iadd, 1) := by decide +kernel
theorem dX9_item_143 : decode cX9_item 143 = .ok (.iconst 1, 1) := by decide +kernel
theorem dX9_item_144 : decode cX9_item 144 = .ok (.bipush 6, 2) := by decide +kernel
theorem dX9_item_146 : decode cX9_item 146 = .ok (.invokevirtual 80, 3) := by decide +kernel
theorem dX9_item_149 : decode cX9_item 149 = .ok (.ifCond .eq 36, 3) := by decide +kernel
theorem dX9_item_152 : decode cX9_item 152 = .ok (.aload_n 0, 1) := by decide +kernel
theorem dX9_item_153 : decode cX9_item 153 = .ok (.bipush 44, 2) := by decide +kernel
theorem dX9_item_155 : decode cX9_item 155 = .ok (.iload_n 1, 1) := by decide +kernel
theorem dX9_item_156 : decode cX9_item 156 = .ok (.iconst 2, 1) := by decide +kernel
theorem dX9_item_157 : decode cX9_item 157 = .ok (.iadd, 1) := by decide +kernel
theorem dX9_item_158 : decode cX9_item 158 = .ok (.iconst 0, 1) := by decide +kernel
theorem dX9_item_159 : decode cX9_item 159 = .ok (.iconst 1, 1) := by decide +kernel
theorem dX9_item_160 : decode cX9_item 160 = .ok (.invokevirtual 80, 3) := by decide +kernel
theorem dX9_item_163 : decode cX9_item 163 = .ok (.ifCond .eq 22, 3) := by decide +kernel
theorem dX9_item_166 : decode cX9_item 166 = .ok (.aload_n 0, 1) := by decide +kernel
theorem dX9_item_167 : decode cX9_item 167 = .ok (.bipush 44, 2) := by decide +kernel
theorem dX9_item_169 : decode cX9_item 169 = .ok (.iload_n 1, 1) := by decide +kernel
theorem dX9_item_170 : decode cX9_item 170 = .ok (.iconst 3, 1) := by decide +kernel
theorem dX9_item_171 : decode cX9_item 171 = .ok (.iadd, 1) := by decide +kernel
theorem dX9_item_172 : decode cX9_item 172 = .ok (.iconst 1, 1) := by decide +kernel
theorem dX9_item_173 : decode cX9_item 173 = .ok (.bipush 99, 2) := by decide +kernel
theorem dX9_item_175 : decode cX9_item 175 = .ok (.invokevirtual 80, 3) := by decide +kernel
theorem dX9_item_178 : decode cX9_item 178 = .ok (.ifCond .eq 7, 3) := by decide +kernel
theorem dX9_item_181 : decode cX9_item 181 = .ok (.iconst 1, 1) := by decide +kernel
theorem dX9_item_182 : decode cX9_item 182 = .ok (.goto 4, 3) := by decide +kernel
theorem dX9_item_185 : decode cX9_item 185 = .ok (.iconst 0, 1) := by decide +kernel
theorem dX9_item_186 : decode cX9_item 186 = .ok (.ireturn, 1) := by decide +kernel
theorem dX9_item_187 : decode cX9_item 187 = .ok (.aload_n 0, 1) := by decide +kernel
theorem dX9_item_188 : decode cX9_item 188 = .ok (.bipush 104, 2) := by decide +kernel
theorem dX9_item_190 : decode cX9_item 190 = .ok (.bipush 111, 2) := by decide +kernel
theorem dX9_item_192 : decode cX9_item 192 = .ok (.bipush 108, 2) := by decide +kernel
theorem dX9_item_194 : decode cX9_item 194 = .ok (.bipush 101, 2) := by decide +kernel
theorem dX9_item_196 : decode cX9_item 196 = .ok (.invokestatic 96, 3) := by decide +kernel
theorem dX9_item_199 : decode cX9_item 199 = .ok (.iconst 4, 1) := by decide +kernel
theorem dX9_item_200 : decode cX9_item 200 = .ok (.invokevirtual 92, 3) := by decide +kernel
theorem dX9_item_203 : decode cX9_item 203 = .ok (.ifCond .eq 8, 3) := by decide +kernel
theorem dX9_item_206 : decode cX9_item 206 = .ok (.aload_n 0, 1) := by decide +kernel
theorem dX9_item_207 : decode cX9_item 207 = .ok (.invokevirtual 100, 3) := by decide +kernel
theorem dX9_item_210 : decode cX9_item 210 = .ok (.ireturn, 1) := by decide +kernel
theorem dX9_item_211 : decode cX9_item 211 = .ok (.aload_n 0, 1) := by decide +kernel
theorem dX9_item_212 : decode cX9_item 212 = .ok (.bipush 99, 2) := by decide +kernel
theorem dX9_item_214 : decode cX9_item 214 = .ok (.bipush 108, 2) := by decide +kernel
theorem dX9_item_216 : decode cX9_item 216 = .ok (.bipush 97, 2) := by decide +kernel
theorem dX9_item_218 : decode cX9_item 218 = .ok (.bipush 109, 2) := by decide +kernel
theorem dX9_item_220 : decode cX9_item 220 = .ok (.bipush 112, 2) := by decide +kernel
theorem dX9_item_222 : decode cX9_item 222 = .ok (.invokestatic 88, 3) := by decide +kernel
theorem dX9_item_225 : decode cX9_item 225 = .ok (.iconst 5, 1) := by decide +kernel
theorem dX9_item_226 : decode cX9_item 226 = .ok (.invokevirtual 92, 3) := by decide +kernel
theorem dX9_item_229 : decode cX9_item 229 = .ok (.ifCond .eq 102, 3) := by decide +kernel
theorem dX9_item_232 : decode cX9_item 232 = .ok (.bipush 49, 2) := by decide +kernel
theorem dX9_item_234 : decode cX9_item 234 = .ok (.aload_n 0, 1) := by decide +kernel
theorem dX9_item_235 : decode cX9_item 235 = .ok (.getfield 16, 3) := by decide +kernel
theorem dX9_item_238 : decode cX9_item 238 = .ok (.iconst 4, 1) := by decide +kernel
theorem dX9_item_239 : decode cX9_item 239 = .ok (.iaload, 1) := by decide +kernel
theorem dX9_item_240 : decode cX9_item 240 = .ok (.iadd, 1) := by decide +kernel
theorem dX9_item_241 : decode cX9_item 241 = .ok (.istore_n 1, 1) := by decide +kernel
theorem dX9_item_242 : decode cX9_item 242 = .ok (.aload_n 0, 1) := by decide +kernel
theorem dX9_item_243 : decode cX9_item 243 = .ok (.getfield 16, 3) := by decide +kernel
theorem dX9_item_246 : decode cX9_item 246 = .ok (.iconst 4, 1) := by decide +kernel
theorem dX9_item_247 : decode cX9_item 247 = .ok (.dup2, 1) := by decide +kernel
theorem dX9_item_248 : decode cX9_item 248 = .ok (.iaload, 1) := by decide +kernel
theorem dX9_item_249 : decode cX9_item 249 = .ok (.iconst 1, 1) := by decide +kernel
theorem dX9_item_250 : decode cX9_item 250 = .ok (.iadd, 1) := by decide +kernel
theorem dX9_item_251 : decode cX9_item 251 = .ok (.iastore, 1) := by decide +kernel
theorem dX9_item_252 : decode cX9_item 252 = .ok (.aload_n 0, 1) := by decide +kernel
theorem dX9_item_253 : decode cX9_item 253 = .ok (.getfield 16, 3) := by decide +kernel
theorem dX9_item_256 : decode cX9_item 256 = .ok (.iconst 4, 1) := by decide +kernel
theorem dX9_item_257 : decode cX9_item 257 = .ok (.iaload, 1) := by decide +kernel
theorem dX9_item_258 : decode cX9_item 258 = .ok (.iconst 3, 1) := by decide +kernel
theorem dX9_item_259 : decode cX9_item 259 = .ok (.if_icmp .ge 70, 3) := by decide +kernel
theorem dX9_item_262 : decode cX9_item 262 = .ok (.aload_n 0, 1) := by decide +kernel
theorem dX9_item_263 : decode cX9_item 263 = .ok (.bipush 32, 2) := by decide +kernel
theorem dX9_item_265 : decode cX9_item 265 = .ok (.iload_n 1, 1) := by decide +kernel
theorem dX9_item_266 : decode cX9_item 266 = .ok (.iconst 0, 1) := by decide +kernel
theorem dX9_item_267 : decode cX9_item 267 = .ok (.aload_n 0, 1) := by decide +kernel
theorem dX9_item_268 : decode cX9_item 268 = .ok (.getfield 16, 3) := by decide +kernel
theorem dX9_item_271 : decode cX9_item 271 = .ok (.iconst 0, 1) := by decide +kernel
theorem dX9_item_272 : decode cX9_item 272 = .ok (.iaload, 1) := by decide +kernel
theorem dX9_item_273 : decode cX9_item 273 = .ok (.iconst 2, 1) := by decide +kernel
theorem dX9_item_274 : decode cX9_item 274 = .ok (.isub, 1) := by decide +kernel
theorem dX9_item_275 : decode cX9_item 275 = .ok (.invokevirtual 80, 3) := by decide +kernel
theorem dX9_item_278 : decode cX9_item 278 = .ok (.ifCond .eq 51, 3) := by decide +kernel
theorem dX9_item_281 : decode cX9_item 281 = .ok (.iload_n 1, 1) := by decide +kernel
theorem dX9_item_282 : decode cX9_item 282 = .ok (.bipush 49, 2) := by decide +kernel
theorem dX9_item_284 : decode cX9_item 284 = .ok (.if_icmp .eq 41, 3) := by decide +kernel
theorem dX9_item_287 : decode cX9_item 287 = .ok (.aload_n 0, 1) := by decide +kernel
theorem dX9_item_288 : decode cX9_item 288 = .ok (.getfield 16, 3) := by decide +kernel
theorem dX9_item_291 : decode cX9_item 291 = .ok (.bipush 50, 2) := by decide +kernel
theorem dX9_item_293 : decode cX9_item 293 = .ok (.iaload, 1) := by decide +kernel
theorem dX9_item_294 : decode cX9_item 294 = .ok (.aload_n 0, 1) := by decide +kernel
theorem dX9_item_295 : decode cX9_item 295 = .ok (.getfield 16, 3) := by decide +kernel
theorem dX9_item_298 : decode cX9_item 298 = .ok (.bipush 49, 2) := by decide +kernel
theorem dX9_item_300 : decode cX9_item 300 = .ok (.iaload, 1) := by decide +kernel
theorem dX9_item_301 : decode cX9_item 301 = .ok (.isub, 1) := by decide +kernel
theorem dX9_item_302 : decode cX9_item 302 = .ok (.iconst 1, 1) := by decide +kernel
theorem dX9_item_303 : decode cX9_item 303 = .ok (.if_icmp .gt 22, 3) := by decide +kernel
theorem dX9_item_306 : decode cX9_item 306 = .ok (.aload_n 0, 1) := by decide +kernel
theorem dX9_item_307 : decode cX9_item 307 = .ok (.getfield 16, 3) := by decide +kernel
theorem dX9_item_310 : decode cX9_item 310 = .ok (.bipush 49, 2) := by decide +kernel
theorem dX9_item_312 : decode cX9_item 312 = .ok (.iaload, 1) := by decide +kernel
theorem dX9_item_313 : decode cX9_item 313 = .ok (.aload_n 0, 1) := by decide +kernel
theorem dX9_item_314 : decode cX9_item 314 = .ok (.getfield 16, 3) := by decide +kernel
theorem dX9_item_317 : decode cX9_item 317 = .ok (.bipush 50, 2) := by decide +kernel
theorem dX9_item_319 : decode cX9_item 319 = .ok (.iaload, 1) := by decide +kernel
theorem dX9_item_320 : decode cX9_item 320 = .ok (.isub, 1) := by decide +kernel
theorem dX9_item_321 : decode cX9_item 321 = .ok (.iconst 1, 1) := by decide +kernel
theorem dX9_item_322 : decode cX9_item 322 = .ok (.if_icmp .le 7, 3) := by decide +kernel
theorem dX9_item_325 : decode cX9_item 325 = .ok (.iconst 1, 1) := by decide +kernel
theorem dX9_item_326 : decode cX9_item 326 = .ok (.goto 4, 3) := by decide +kernel
theorem dX9_item_329 : decode cX9_item 329 = .ok (.iconst 0, 1) := by decide +kernel
theorem dX9_item_330 : decode cX9_item 330 = .ok (.ireturn, 1) := by decide +kernel
theorem dX9_item_331 : decode cX9_item 331 = .ok (.iconst 0, 1) := by decide +kernel
theorem dX9_item_332 : decode cX9_item 332 = .ok (.ireturn, 1) := by decide +kernel
theorem dX9_fault_0 : decode cX9_fault 0 = .ok (.iconst 0, 1) := by decide +kernel
theorem dX9_fault_1 : decode cX9_fault 1 = .ok (.istore_n 1, 1) := by decide +kernel
theorem dX9_fault_2 : decode cX9_fault 2 = .ok (.iload_n 1, 1) := by decide +kernel
theorem dX9_fault_3 : decode cX9_fault 3 = .ok (.bipush 51, 2) := by decide +kernel
theorem dX9_fault_5 : decode cX9_fault 5 = .ok (.if_icmp .ge 16, 3) := by decide +kernel
theorem dX9_fault_8 : decode cX9_fault 8 = .ok (.aload_n 0, 1) := by decide +kernel
theorem dX9_fault_9 : decode cX9_fault 9 = .ok (.getfield 16, 3) := by decide +kernel
theorem dX9_fault_12 : decode cX9_fault 12 = .ok (.iload_n 1, 1) := by decide +kernel
theorem dX9_fault_13 : decode cX9_fault 13 = .ok (.iconst 0, 1) := by decide +kernel
theorem dX9_fault_14 : decode cX9_fault 14 = .ok (.iastore, 1) := by decide +kernel
theorem dX9_fault_15 : decode cX9_fault 15 = .ok (.iinc 1 1, 3) := by decide +kernel
theorem dX9_fault_18 : decode cX9_fault 18 = .ok (.goto (-16), 3) := by decide +kernel
theorem dX9_fault_21 : decode cX9_fault 21 = .ok (.aload_n 0, 1) := by decide +kernel
theorem dX9_fault_22 : decode cX9_fault 22 = .ok (.iconst 0, 1) := by decide +kernel
theorem dX9_fault_23 : decode cX9_fault 23 = .ok (.putfield 65, 3) := by decide +kernel
theorem dX9_fault_26 : decode cX9_fault 26 = .ok (.aload_n 0, 1) := by decide +kernel
theorem dX9_fault_27 : decode cX9_fault 27 = .ok (.getfield 65, 3) := by decide +kernel
theorem dX9_fault_30 : decode cX9_fault 30 = .ok (.aload_n 0, 1) := by decide +kernel
theorem dX9_fault_31 : decode cX9_fault 31 = .ok (.getfield 62, 3) := by decide +kernel
theorem dX9_fault_34 : decode cX9_fault 34 = .ok (.if_icmp .ge 43, 3) := by decide +kernel
theorem dX9_fault_37 : decode cX9_fault 37 = .ok (.aload_n 0, 1) := by decide +kernel
theorem dX9_fault_38 : decode cX9_fault 38 = .ok (.getfield 65, 3) := by decide +kernel
theorem dX9_fault_41 : decode cX9_fault 41 = .ok (.istore_n 1, 1) := by decide +kernel
theorem dX9_fault_42 : decode cX9_fault 42 = .ok (.aload_n 0, 1) := by decide +kernel
theorem dX9_fault_43 : decode cX9_fault 43 = .ok (.invokevirtual 104, 3) := by decide +kernel
theorem dX9_fault_46 : decode cX9_fault 46 = .ok (.ifCond .eq 16, 3) := by decide +kernel
theorem dX9_fault_49 : decode cX9_fault 49 = .ok (.aload_n 0, 1) := by decide +kernel
theorem dX9_fault_50 : decode cX9_fault 50 = .ok (.aload_n 0, 1) := by decide +kernel
theorem dX9_fault_51 : decode cX9_fault 51 = .ok (.getfield 65, 3) := by decide +kernel
theorem dX9_fault_54 : decode cX9_fault 54 = .ok (.invokevirtual 68, 3) := by decide +kernel
theorem dX9_fault_57 : decode cX9_fault 57 = .ok (.bipush 59, 2) := by decide +kernel
theorem dX9_fault_59 : decode cX9_fault 59 = .ok (.if_icmp .eq 5, 3) := by decide +kernel
theorem dX9_fault_62 : decode cX9_fault 62 = .ok (.iload_n 1, 1) := by decide +kernel
theorem dX9_fault_63 : decode cX9_fault 63 = .ok (.ireturn, 1) := by decide +kernel
theorem dX9_fault_64 : decode cX9_fault 64 = .ok (.aload_n 0, 1) := by decide +kernel
theorem dX9_fault_65 : decode cX9_fault 65 = .ok (.dup, 1) := by decide +kernel
theorem dX9_fault_66 : decode cX9_fault 66 = .ok (.getfield 65, 3) := by decide +kernel
theorem dX9_fault_69 : decode cX9_fault 69 = .ok (.iconst 1, 1) := by decide +kernel
theorem dX9_fault_70 : decode cX9_fault 70 = .ok (.iadd, 1) := by decide +kernel
theorem dX9_fault_71 : decode cX9_fault 71 = .ok (.putfield 65, 3) := by decide +kernel
theorem dX9_fault_74 : decode cX9_fault 74 = .ok (.goto (-48), 3) := by decide +kernel
theorem dX9_fault_77 : decode cX9_fault 77 = .ok (.bipush (-4), 2) := by decide +kernel
theorem dX9_fault_79 : decode cX9_fault 79 = .ok (.ireturn, 1) := by decide +kernel
theorem dX9_lay_0 : decode cX9_lay 0 = .ok (.aload_n 0, 1) := by decide +kernel
theorem dX9_lay_1 : decode cX9_lay 1 = .ok (.invokevirtual 107, 3) := by decide +kernel
theorem dX9_lay_4 : decode cX9_lay 4 = .ok (.bipush (-4), 2) := by decide +kernel
theorem dX9_lay_6 : decode cX9_lay 6 = .ok (.if_icmp .ne 21, 3) := by decide +kernel
theorem dX9_lay_9 : decode cX9_lay 9 = .ok (.aload_n 0, 1) := by decide +kernel
theorem dX9_lay_10 : decode cX9_lay 10 = .ok (.getfield 16, 3) := by decide +kernel
theorem dX9_lay_13 : decode cX9_lay 13 = .ok (.iconst 0, 1) := by decide +kernel
theorem dX9_lay_14 : decode cX9_lay 14 = .ok (.iaload, 1) := by decide +kernel
theorem dX9_lay_15 : decode cX9_lay 15 = .ok (.ifCond .eq 12, 3) := by decide +kernel
theorem dX9_lay_18 : decode cX9_lay 18 = .ok (.aload_n 0, 1) := by decide +kernel
theorem dX9_lay_19 : decode cX9_lay 19 = .ok (.getfield 16, 3) := by decide +kernel
theorem dX9_lay_22 : decode cX9_lay 22 = .ok (.iconst 2, 1) := by decide +kernel
theorem dX9_lay_23 : decode cX9_lay 23 = .ok (.iaload, 1) := by decide +kernel
theorem dX9_lay_24 : decode cX9_lay 24 = .ok (.ifCond .ne 6, 3) := by decide +kernel
theorem dX9_lay_27 : decode cX9_lay 27 = .ok (.bipush (-2), 2) := by decide +kernel
theorem dX9_lay_29 : decode cX9_lay 29 = .ok (.ireturn, 1) := by decide +kernel
theorem dX9_lay_30 : decode cX9_lay 30 = .ok (.iconst 0, 1) := by decide +kernel
theorem dX9_lay_31 : decode cX9_lay 31 = .ok (.istore_n 1, 1) := by decide +kernel
theorem dX9_lay_32 : decode cX9_lay 32 = .ok (.iload_n 1, 1) := by decide +kernel
theorem dX9_lay_33 : decode cX9_lay 33 = .ok (.bipush 51, 2) := by decide +kernel
theorem dX9_lay_35 : decode cX9_lay 35 = .ok (.if_icmp .ge 21, 3) := by decide +kernel
theorem dX9_lay_38 : decode cX9_lay 38 = .ok (.aload_n 0, 1) := by decide +kernel
theorem dX9_lay_39 : decode cX9_lay 39 = .ok (.getfield 13, 3) := by decide +kernel
theorem dX9_lay_42 : decode cX9_lay 42 = .ok (.iload_n 1, 1) := by decide +kernel
theorem dX9_lay_43 : decode cX9_lay 43 = .ok (.aload_n 0, 1) := by decide +kernel
theorem dX9_lay_44 : decode cX9_lay 44 = .ok (.getfield 16, 3) := by decide +kernel
theorem dX9_lay_47 : decode cX9_lay 47 = .ok (.iload_n 1, 1) := by decide +kernel
theorem dX9_lay_48 : decode cX9_lay 48 = .ok (.iaload, 1) := by decide +kernel
theorem dX9_lay_49 : decode cX9_lay 49 = .ok (.iastore, 1) := by decide +kernel
theorem dX9_lay_50 : decode cX9_lay 50 = .ok (.iinc 1 1, 3) := by decide +kernel
theorem dX9_lay_53 : decode cX9_lay 53 = .ok (.goto (-21), 3) := by decide +kernel
theorem dX9_lay_56 : decode cX9_lay 56 = .ok (.aload_n 0, 1) := by decide +kernel
theorem dX9_lay_57 : decode cX9_lay 57 = .ok (.invokevirtual 47, 3) := by decide +kernel
theorem dX9_lay_60 : decode cX9_lay 60 = .ok (.aload_n 0, 1) := by decide +kernel
theorem dX9_lay_61 : decode cX9_lay 61 = .ok (.getfield 13, 3) := by decide +kernel
theorem dX9_lay_64 : decode cX9_lay 64 = .ok (.iconst 2, 1) := by decide +kernel
theorem dX9_lay_65 : decode cX9_lay 65 = .ok (.iaload, 1) := by decide +kernel
theorem dX9_lay_66 : decode cX9_lay 66 = .ok (.ireturn, 1) := by decide +kernel
theorem dX9_note_0 : decode cX9_note 0 = .ok (.aload_n 0, 1) := by decide +kernel
theorem dX9_note_1 : decode cX9_note 1 = .ok (.getfield 50, 3) := by decide +kernel
theorem dX9_note_4 : decode cX9_note 4 = .ok (.bipush 6, 2) := by decide +kernel
theorem dX9_note_6 : decode cX9_note 6 = .ok (.if_icmp .ne 44, 3) := by decide +kernel
theorem dX9_note_9 : decode cX9_note 9 = .ok (.iconst 0, 1) := by decide +kernel
theorem dX9_note_10 : decode cX9_note 10 = .ok (.istore_n 1, 1) := by decide +kernel
theorem dX9_note_11 : decode cX9_note 11 = .ok (.iload_n 1, 1) := by decide +kernel
theorem dX9_note_12 : decode cX9_note 12 = .ok (.sipush 780, 3) := by decide +kernel
theorem dX9_note_15 : decode cX9_note 15 = .ok (.if_icmp .ge 25, 3) := by decide +kernel
theorem dX9_note_18 : decode cX9_note 18 = .ok (.aload_n 0, 1) := by decide +kernel
theorem dX9_note_19 : decode cX9_note 19 = .ok (.getfield 22, 3) := by decide +kernel
theorem dX9_note_22 : decode cX9_note 22 = .ok (.iload_n 1, 1) := by decide +kernel
theorem dX9_note_23 : decode cX9_note 23 = .ok (.aload_n 0, 1) := by decide +kernel
theorem dX9_note_24 : decode cX9_note 24 = .ok (.getfield 22, 3) := by decide +kernel
theorem dX9_note_27 : decode cX9_note 27 = .ok (.sipush 156, 3) := by decide +kernel
theorem dX9_note_30 : decode cX9_note 30 = .ok (.iload_n 1, 1) := by decide +kernel
theorem dX9_note_31 : decode cX9_note 31 = .ok (.iadd, 1) := by decide +kernel
theorem dX9_note_32 : decode cX9_note 32 = .ok (.iaload, 1) := by decide +kernel
theorem dX9_note_33 : decode cX9_note 33 = .ok (.iastore, 1) := by decide +kernel
theorem dX9_note_34 : decode cX9_note 34 = .ok (.iinc 1 1, 3) := by decide +kernel
theorem dX9_note_37 : decode cX9_note 37 = .ok (.goto (-26), 3) := by decide +kernel
theorem dX9_note_40 : decode cX9_note 40 = .ok (.aload_n 0, 1) := by decide +kernel
theorem dX9_note_41 : decode cX9_note 41 = .ok (.dup, 1) := by decide +kernel
theorem dX9_note_42 : decode cX9_note 42 = .ok (.getfield 50, 3) := by decide +kernel
theorem dX9_note_45 : decode cX9_note 45 = .ok (.iconst 1, 1) := by decide +kernel
theorem dX9_note_46 : decode cX9_note 46 = .ok (.isub, 1) := by decide +kernel
theorem dX9_note_47 : decode cX9_note 47 = .ok (.putfield 50, 3) := by decide +kernel
theorem dX9_note_50 : decode cX9_note 50 = .ok (.iconst 0, 1) := by decide +kernel
theorem dX9_note_51 : decode cX9_note 51 = .ok (.istore_n 1, 1) := by decide +kernel
theorem dX9_note_52 : decode cX9_note 52 = .ok (.iload_n 1, 1) := by decide +kernel
theorem dX9_note_53 : decode cX9_note 53 = .ok (.sipush 156, 3) := by decide +kernel
theorem dX9_note_56 : decode cX9_note 56 = .ok (.if_icmp .ge 30, 3) := by decide +kernel
theorem dX9_note_59 : decode cX9_note 59 = .ok (.aload_n 0, 1) := by decide +kernel
theorem dX9_note_60 : decode cX9_note 60 = .ok (.getfield 22, 3) := by decide +kernel
theorem dX9_note_63 : decode cX9_note 63 = .ok (.sipush 156, 3) := by decide +kernel
theorem dX9_note_66 : decode cX9_note 66 = .ok (.aload_n 0, 1) := by decide +kernel
theorem dX9_note_67 : decode cX9_note 67 = .ok (.getfield 50, 3) := by decide +kernel
theorem dX9_note_70 : decode cX9_note 70 = .ok (.imul, 1) := by decide +kernel
theorem dX9_note_71 : decode cX9_note 71 = .ok (.iload_n 1, 1) := by decide +kernel
theorem dX9_note_72 : decode cX9_note 72 = .ok (.iadd, 1) := by decide +kernel
theorem dX9_note_73 : decode cX9_note 73 = .ok (.aload_n 0, 1) := by decide +kernel
theorem dX9_note_74 : decode cX9_note 74 = .ok (.getfield 19, 3) := by decide +kernel
theorem dX9_note_77 : decode cX9_note 77 = .ok (.iload_n 1, 1) := by decide +kernel
theorem dX9_note_78 : decode cX9_note 78 = .ok (.iaload, 1) := by decide +kernel
theorem dX9_note_79 : decode cX9_note 79 = .ok (.iastore, 1) := by decide +kernel
theorem dX9_note_80 : decode cX9_note 80 = .ok (.iinc 1 1, 3) := by decide +kernel
theorem dX9_note_83 : decode cX9_note 83 = .ok (.goto (-31), 3) := by decide +kernel
theorem dX9_note_86 : decode cX9_note 86 = .ok (.aload_n 0, 1) := by decide +kernel
theorem dX9_note_87 : decode cX9_note 87 = .ok (.dup, 1) := by decide +kernel
theorem dX9_note_88 : decode cX9_note 88 = .ok (.getfield 50, 3) := by decide +kernel
theorem dX9_note_91 : decode cX9_note 91 = .ok (.iconst 1, 1) := by decide +kernel
theorem dX9_note_92 : decode cX9_note 92 = .ok (.iadd, 1) := by decide +kernel
theorem dX9_note_93 : decode cX9_note 93 = .ok (.putfield 50, 3) := by decide +kernel
theorem dX9_note_96 : decode cX9_note 96 = .ok (.return_, 1) := by decide +kernel
theorem dX9_takesBack_0 : decode cX9_takesBack 0 = .ok (.aload_n 0, 1) := by decide +kernel
