theorem dX2_downBeyond_60 : decode cX2_downBeyond 60 = .ok (.iinc 4 1, 3) := by decide +kernel
theorem dX2_downBeyond_63 : decode cX2_downBeyond 63 = .ok (.goto (-58), 3) := by decide +kernel
theorem dX2_downBeyond_66 : decode cX2_downBeyond 66 = .ok (.iconst 0, 1) := by decide +kernel
theorem dX2_downBeyond_67 : decode cX2_downBeyond 67 = .ok (.ireturn, 1) := by decide +kernel
theorem dX3_init_0 : decode cX3_init 0 = .ok (.aload_n 0, 1) := by decide +kernel
theorem dX3_init_1 : decode cX3_init 1 = .ok (.invokespecial 3, 3) := by decide +kernel
theorem dX3_init_4 : decode cX3_init 4 = .ok (.aload_n 0, 1) := by decide +kernel
theorem dX3_init_5 : decode cX3_init 5 = .ok (.bipush 30, 2) := by decide +kernel
theorem dX3_init_7 : decode cX3_init 7 = .ok (.newarray .int, 2) := by decide +kernel
theorem dX3_init_9 : decode cX3_init 9 = .ok (.putfield 9, 3) := by decide +kernel
theorem dX3_init_12 : decode cX3_init 12 = .ok (.aload_n 0, 1) := by decide +kernel
theorem dX3_init_13 : decode cX3_init 13 = .ok (.bipush 30, 2) := by decide +kernel
theorem dX3_init_15 : decode cX3_init 15 = .ok (.newarray .int, 2) := by decide +kernel
theorem dX3_init_17 : decode cX3_init 17 = .ok (.putfield 15, 3) := by decide +kernel
theorem dX3_init_20 : decode cX3_init 20 = .ok (.aload_n 0, 1) := by decide +kernel
theorem dX3_init_21 : decode cX3_init 21 = .ok (.iconst 5, 1) := by decide +kernel
theorem dX3_init_22 : decode cX3_init 22 = .ok (.newarray .int, 2) := by decide +kernel
theorem dX3_init_24 : decode cX3_init 24 = .ok (.putfield 18, 3) := by decide +kernel
theorem dX3_init_27 : decode cX3_init 27 = .ok (.aload_n 0, 1) := by decide +kernel
theorem dX3_init_28 : decode cX3_init 28 = .ok (.iconst 5, 1) := by decide +kernel
theorem dX3_init_29 : decode cX3_init 29 = .ok (.newarray .int, 2) := by decide +kernel
theorem dX3_init_31 : decode cX3_init 31 = .ok (.putfield 21, 3) := by decide +kernel
theorem dX3_init_34 : decode cX3_init 34 = .ok (.return_, 1) := by decide +kernel
theorem dX3_work_0 : decode cX3_work 0 = .ok (.aload_n 0, 1) := by decide +kernel
theorem dX3_work_1 : decode cX3_work 1 = .ok (.iconst 0, 1) := by decide +kernel
theorem dX3_work_2 : decode cX3_work 2 = .ok (.putfield 24, 3) := by decide +kernel
theorem dX3_work_5 : decode cX3_work 5 = .ok (.aload_n 0, 1) := by decide +kernel
theorem dX3_work_6 : decode cX3_work 6 = .ok (.aload_n 1, 1) := by decide +kernel
theorem dX3_work_7 : decode cX3_work 7 = .ok (.invokevirtual 28, 3) := by decide +kernel
theorem dX3_work_10 : decode cX3_work 10 = .ok (.iconst 0, 1) := by decide +kernel
theorem dX3_work_11 : decode cX3_work 11 = .ok (.istore_n 3, 1) := by decide +kernel
theorem dX3_work_12 : decode cX3_work 12 = .ok (.iload_n 3, 1) := by decide +kernel
theorem dX3_work_13 : decode cX3_work 13 = .ok (.iconst 1, 1) := by decide +kernel
theorem dX3_work_14 : decode cX3_work 14 = .ok (.aload_n 1, 1) := by decide +kernel
theorem dX3_work_15 : decode cX3_work 15 = .ok (.getfield 32, 3) := by decide +kernel
theorem dX3_work_18 : decode cX3_work 18 = .ok (.ishl, 1) := by decide +kernel
theorem dX3_work_19 : decode cX3_work 19 = .ok (.if_icmp .ge 59, 3) := by decide +kernel
theorem dX3_work_22 : decode cX3_work 22 = .ok (.aload_n 0, 1) := by decide +kernel
theorem dX3_work_23 : decode cX3_work 23 = .ok (.aload_n 1, 1) := by decide +kernel
theorem dX3_work_24 : decode cX3_work 24 = .ok (.aload_n 2, 1) := by decide +kernel
theorem dX3_work_25 : decode cX3_work 25 = .ok (.iload_n 3, 1) := by decide +kernel
theorem dX3_work_26 : decode cX3_work 26 = .ok (.invokevirtual 38, 3) := by decide +kernel
theorem dX3_work_29 : decode cX3_work 29 = .ok (.ifCond .ne 6, 3) := by decide +kernel
theorem dX3_work_32 : decode cX3_work 32 = .ok (.goto 40, 3) := by decide +kernel
theorem dX3_work_35 : decode cX3_work 35 = .ok (.aload_n 1, 1) := by decide +kernel
theorem dX3_work_36 : decode cX3_work 36 = .ok (.aload_n 2, 1) := by decide +kernel
theorem dX3_work_37 : decode cX3_work 37 = .ok (.getfield 42, 3) := by decide +kernel
theorem dX3_work_40 : decode cX3_work 40 = .ok (.iload_n 3, 1) := by decide +kernel
theorem dX3_work_41 : decode cX3_work 41 = .ok (.invokevirtual 47, 3) := by decide +kernel
theorem dX3_work_44 : decode cX3_work 44 = .ok (.istore 4, 2) := by decide +kernel
theorem dX3_work_46 : decode cX3_work 46 = .ok (.aload_n 0, 1) := by decide +kernel
theorem dX3_work_47 : decode cX3_work 47 = .ok (.getfield 24, 3) := by decide +kernel
theorem dX3_work_50 : decode cX3_work 50 = .ok (.ifCond .eq 16, 3) := by decide +kernel
theorem dX3_work_53 : decode cX3_work 53 = .ok (.aload_n 0, 1) := by decide +kernel
theorem dX3_work_54 : decode cX3_work 54 = .ok (.aload_n 1, 1) := by decide +kernel
theorem dX3_work_55 : decode cX3_work 55 = .ok (.getfield 51, 3) := by decide +kernel
theorem dX3_work_58 : decode cX3_work 58 = .ok (.iload 4, 2) := by decide +kernel
theorem dX3_work_60 : decode cX3_work 60 = .ok (.invokevirtual 54, 3) := by decide +kernel
theorem dX3_work_63 : decode cX3_work 63 = .ok (.ifCond .eq 9, 3) := by decide +kernel
theorem dX3_work_66 : decode cX3_work 66 = .ok (.aload_n 0, 1) := by decide +kernel
theorem dX3_work_67 : decode cX3_work 67 = .ok (.iload 4, 2) := by decide +kernel
theorem dX3_work_69 : decode cX3_work 69 = .ok (.invokevirtual 58, 3) := by decide +kernel
theorem dX3_work_72 : decode cX3_work 72 = .ok (.iinc 3 1, 3) := by decide +kernel
theorem dX3_work_75 : decode cX3_work 75 = .ok (.goto (-63), 3) := by decide +kernel
theorem dX3_work_78 : decode cX3_work 78 = .ok (.return_, 1) := by decide +kernel
theorem dX3_weighWays_0 : decode cX3_weighWays 0 = .ok (.iconst 0, 1) := by decide +kernel
theorem dX3_weighWays_1 : decode cX3_weighWays 1 = .ok (.istore_n 2, 1) := by decide +kernel
theorem dX3_weighWays_2 : decode cX3_weighWays 2 = .ok (.iload_n 2, 1) := by decide +kernel
theorem dX3_weighWays_3 : decode cX3_weighWays 3 = .ok (.aload_n 1, 1) := by decide +kernel
theorem dX3_weighWays_4 : decode cX3_weighWays 4 = .ok (.getfield 51, 3) := by decide +kernel
theorem dX3_weighWays_7 : decode cX3_weighWays 7 = .ok (.if_icmp .ge 128, 3) := by decide +kernel
theorem dX3_weighWays_10 : decode cX3_weighWays 10 = .ok (.iconst 0, 1) := by decide +kernel
theorem dX3_weighWays_11 : decode cX3_weighWays 11 = .ok (.istore_n 3, 1) := by decide +kernel
theorem dX3_weighWays_12 : decode cX3_weighWays 12 = .ok (.iload_n 3, 1) := by decide +kernel
theorem dX3_weighWays_13 : decode cX3_weighWays 13 = .ok (.aload_n 1, 1) := by decide +kernel
theorem dX3_weighWays_14 : decode cX3_weighWays 14 = .ok (.getfield 32, 3) := by decide +kernel
theorem dX3_weighWays_17 : decode cX3_weighWays 17 = .ok (.if_icmp .ge 112, 3) := by decide +kernel
theorem dX3_weighWays_20 : decode cX3_weighWays 20 = .ok (.aload_n 1, 1) := by decide +kernel
theorem dX3_weighWays_21 : decode cX3_weighWays 21 = .ok (.getfield 62, 3) := by decide +kernel
theorem dX3_weighWays_24 : decode cX3_weighWays 24 = .ok (.iload_n 3, 1) := by decide +kernel
theorem dX3_weighWays_25 : decode cX3_weighWays 25 = .ok (.aaload, 1) := by decide +kernel
theorem dX3_weighWays_26 : decode cX3_weighWays 26 = .ok (.aload_n 1, 1) := by decide +kernel
theorem dX3_weighWays_27 : decode cX3_weighWays 27 = .ok (.getfield 66, 3) := by decide +kernel
theorem dX3_weighWays_30 : decode cX3_weighWays 30 = .ok (.iload_n 2, 1) := by decide +kernel
theorem dX3_weighWays_31 : decode cX3_weighWays 31 = .ok (.aaload, 1) := by decide +kernel
theorem dX3_weighWays_32 : decode cX3_weighWays 32 = .ok (.iconst 0, 1) := by decide +kernel
theorem dX3_weighWays_33 : decode cX3_weighWays 33 = .ok (.invokevirtual 70, 3) := by decide +kernel
theorem dX3_weighWays_36 : decode cX3_weighWays 36 = .ok (.istore 4, 2) := by decide +kernel
theorem dX3_weighWays_38 : decode cX3_weighWays 38 = .ok (.aload_n 1, 1) := by decide +kernel
theorem dX3_weighWays_39 : decode cX3_weighWays 39 = .ok (.getfield 62, 3) := by decide +kernel
theorem dX3_weighWays_42 : decode cX3_weighWays 42 = .ok (.iload_n 3, 1) := by decide +kernel
theorem dX3_weighWays_43 : decode cX3_weighWays 43 = .ok (.aaload, 1) := by decide +kernel
theorem dX3_weighWays_44 : decode cX3_weighWays 44 = .ok (.aload_n 1, 1) := by decide +kernel
theorem dX3_weighWays_45 : decode cX3_weighWays 45 = .ok (.getfield 66, 3) := by decide +kernel
theorem dX3_weighWays_48 : decode cX3_weighWays 48 = .ok (.iload_n 2, 1) := by decide +kernel
theorem dX3_weighWays_49 : decode cX3_weighWays 49 = .ok (.aaload, 1) := by decide +kernel
theorem dX3_weighWays_50 : decode cX3_weighWays 50 = .ok (.iconst 1, 1) := by decide +kernel
theorem dX3_weighWays_51 : decode cX3_weighWays 51 = .ok (.invokevirtual 70, 3) := by decide +kernel
theorem dX3_weighWays_54 : decode cX3_weighWays 54 = .ok (.istore 5, 2) := by decide +kernel
theorem dX3_weighWays_56 : decode cX3_weighWays 56 = .ok (.iload 5, 2) := by decide +kernel
theorem dX3_weighWays_58 : decode cX3_weighWays 58 = .ok (.ifCond .eq 19, 3) := by decide +kernel
theorem dX3_weighWays_61 : decode cX3_weighWays 61 = .ok (.iload 4, 2) := by decide +kernel
theorem dX3_weighWays_63 : decode cX3_weighWays 63 = .ok (.ifCond .eq 10, 3) := by decide +kernel
theorem dX3_weighWays_66 : decode cX3_weighWays 66 = .ok (.iload 5, 2) := by decide +kernel
theorem dX3_weighWays_68 : decode cX3_weighWays 68 = .ok (.iload 4, 2) := by decide +kernel
theorem dX3_weighWays_70 : decode cX3_weighWays 70 = .ok (.if_icmp .ge 7, 3) := by decide +kernel
theorem dX3_weighWays_73 : decode cX3_weighWays 73 = .ok (.iconst 1, 1) := by decide +kernel
theorem dX3_weighWays_74 : decode cX3_weighWays 74 = .ok (.goto 4, 3) := by decide +kernel
theorem dX3_weighWays_77 : decode cX3_weighWays 77 = .ok (.iconst 0, 1) := by decide +kernel
theorem dX3_weighWays_78 : decode cX3_weighWays 78 = .ok (.istore 6, 2) := by decide +kernel
theorem dX3_weighWays_80 : decode cX3_weighWays 80 = .ok (.aload_n 0, 1) := by decide +kernel
theorem dX3_weighWays_81 : decode cX3_weighWays 81 = .ok (.getfield 9, 3) := by decide +kernel
theorem dX3_weighWays_84 : decode cX3_weighWays 84 = .ok (.iload_n 2, 1) := by decide +kernel
theorem dX3_weighWays_85 : decode cX3_weighWays 85 = .ok (.bipush 6, 2) := by decide +kernel
theorem dX3_weighWays_87 : decode cX3_weighWays 87 = .ok (.imul, 1) := by decide +kernel
theorem dX3_weighWays_88 : decode cX3_weighWays 88 = .ok (.iload_n 3, 1) := by decide +kernel
theorem dX3_weighWays_89 : decode cX3_weighWays 89 = .ok (.iadd, 1) := by decide +kernel
theorem dX3_weighWays_90 : decode cX3_weighWays 90 = .ok (.iload 6, 2) := by decide +kernel
theorem dX3_weighWays_92 : decode cX3_weighWays 92 = .ok (.ifCond .eq 8, 3) := by decide +kernel
theorem dX3_weighWays_95 : decode cX3_weighWays 95 = .ok (.iload 5, 2) := by decide +kernel
theorem dX3_weighWays_97 : decode cX3_weighWays 97 = .ok (.goto 5, 3) := by decide +kernel
theorem dX3_weighWays_100 : decode cX3_weighWays 100 = .ok (.iload 4, 2) := by decide +kernel
theorem dX3_weighWays_102 : decode cX3_weighWays 102 = .ok (.iastore, 1) := by decide +kernel
theorem dX3_weighWays_103 : decode cX3_weighWays 103 = .ok (.aload_n 0, 1) := by decide +kernel
theorem dX3_weighWays_104 : decode cX3_weighWays 104 = .ok (.getfield 15, 3) := by decide +kernel
theorem dX3_weighWays_107 : decode cX3_weighWays 107 = .ok (.iload_n 2, 1) := by decide +kernel
theorem dX3_weighWays_108 : decode cX3_weighWays 108 = .ok (.bipush 6, 2) := by decide +kernel
theorem dX3_weighWays_110 : decode cX3_weighWays 110 = .ok (.imul, 1) := by decide +kernel
theorem dX3_weighWays_111 : decode cX3_weighWays 111 = .ok (.iload_n 3, 1) := by decide +kernel
theorem dX3_weighWays_112 : decode cX3_weighWays 112 = .ok (.iadd, 1) := by decide +kernel
theorem dX3_weighWays_113 : decode cX3_weighWays 113 = .ok (.iconst 2, 1) := by decide +kernel
theorem dX3_weighWays_114 : decode cX3_weighWays 114 = .ok (.iload_n 3, 1) := by decide +kernel
theorem dX3_weighWays_115 : decode cX3_weighWays 115 = .ok (.imul, 1) := by decide +kernel
theorem dX3_weighWays_116 : decode cX3_weighWays 116 = .ok (.iload 6, 2) := by decide +kernel
theorem dX3_weighWays_118 : decode cX3_weighWays 118 = .ok (.invokestatic 76, 3) := by decide +kernel
theorem dX3_weighWays_121 : decode cX3_weighWays 121 = .ok (.iadd, 1) := by decide +kernel
theorem dX3_weighWays_122 : decode cX3_weighWays 122 = .ok (.iastore, 1) := by decide +kernel
theorem dX3_weighWays_123 : decode cX3_weighWays 123 = .ok (.iinc 3 1, 3) := by decide +kernel
theorem dX3_weighWays_126 : decode cX3_weighWays 126 = .ok (.goto (-114), 3) := by decide +kernel
theorem dX3_weighWays_129 : decode cX3_weighWays 129 = .ok (.iinc 2 1, 3) := by decide +kernel
theorem dX3_weighWays_132 : decode cX3_weighWays 132 = .ok (.goto (-130), 3) := by decide +kernel
theorem dX3_weighWays_135 : decode cX3_weighWays 135 = .ok (.return_, 1) := by decide +kernel
theorem dX3_triesSet_0 : decode cX3_triesSet 0 = .ok (.aload_n 0, 1) := by decide +kernel
theorem dX3_triesSet_1 : decode cX3_triesSet 1 = .ok (.iconst 0, 1) := by decide +kernel
theorem dX3_triesSet_2 : decode cX3_triesSet 2 = .ok (.putfield 80, 3) := by decide +kernel
theorem dX3_triesSet_5 : decode cX3_triesSet 5 = .ok (.iconst 0, 1) := by decide +kernel
theorem dX3_triesSet_6 : decode cX3_triesSet 6 = .ok (.istore 4, 2) := by decide +kernel
theorem dX3_triesSet_8 : decode cX3_triesSet 8 = .ok (.iload 4, 2) := by decide +kernel
theorem dX3_triesSet_10 : decode cX3_triesSet 10 = .ok (.aload_n 1, 1) := by decide +kernel
theorem dX3_triesSet_11 : decode cX3_triesSet 11 = .ok (.getfield 51, 3) := by decide +kernel
theorem dX3_triesSet_14 : decode cX3_triesSet 14 = .ok (.if_icmp .ge 66, 3) := by decide +kernel
theorem dX3_triesSet_17 : decode cX3_triesSet 17 = .ok (.aload_n 0, 1) := by decide +kernel
theorem dX3_triesSet_18 : decode cX3_triesSet 18 = .ok (.getfield 18, 3) := by decide +kernel
theorem dX3_triesSet_21 : decode cX3_triesSet 21 = .ok (.iload 4, 2) := by decide +kernel
theorem dX3_triesSet_23 : decode cX3_triesSet 23 = .ok (.bipush (-4), 2) := by decide +kernel
theorem dX3_triesSet_25 : decode cX3_triesSet 25 = .ok (.iastore, 1) := by decide +kernel
theorem dX3_triesSet_26 : decode cX3_triesSet 26 = .ok (.aload_n 2, 1) := by decide +kernel
theorem dX3_triesSet_27 : decode cX3_triesSet 27 = .ok (.aload_n 1, 1) := by decide +kernel
theorem dX3_triesSet_28 : decode cX3_triesSet 28 = .ok (.getfield 66, 3) := by decide +kernel
theorem dX3_triesSet_31 : decode cX3_triesSet 31 = .ok (.iload 4, 2) := by decide +kernel
theorem dX3_triesSet_33 : decode cX3_triesSet 33 = .ok (.aaload, 1) := by decide +kernel
theorem dX3_triesSet_34 : decode cX3_triesSet 34 = .ok (.invokevirtual 83, 3) := by decide +kernel
theorem dX3_triesSet_37 : decode cX3_triesSet 37 = .ok (.ifCond .eq 6, 3) := by decide +kernel
theorem dX3_triesSet_40 : decode cX3_triesSet 40 = .ok (.goto 34, 3) := by decide +kernel
theorem dX3_triesSet_43 : decode cX3_triesSet 43 = .ok (.aload_n 0, 1) := by decide +kernel
theorem dX3_triesSet_44 : decode cX3_triesSet 44 = .ok (.iload 4, 2) := by decide +kernel
theorem dX3_triesSet_46 : decode cX3_triesSet 46 = .ok (.aload_n 1, 1) := by decide +kernel
theorem dX3_triesSet_47 : decode cX3_triesSet 47 = .ok (.getfield 32, 3) := by decide +kernel
theorem dX3_triesSet_50 : decode cX3_triesSet 50 = .ok (.iload_n 3, 1) := by decide +kernel
theorem dX3_triesSet_51 : decode cX3_triesSet 51 = .ok (.invokevirtual 87, 3) := by decide +kernel
theorem dX3_triesSet_54 : decode cX3_triesSet 54 = .ok (.istore 5, 2) := by decide +kernel
theorem dX3_triesSet_56 : decode cX3_triesSet 56 = .ok (.iload 5, 2) := by decide +kernel
theorem dX3_triesSet_58 : decode cX3_triesSet 58 = .ok (.ifCond .ne 5, 3) := by decide +kernel
theorem dX3_triesSet_61 : decode cX3_triesSet 61 = .ok (.iconst 0, 1) := by decide +kernel
theorem dX3_triesSet_62 : decode cX3_triesSet 62 = .ok (.ireturn, 1) := by decide +kernel
theorem dX3_triesSet_63 : decode cX3_triesSet 63 = .ok (.aload_n 0, 1) := by decide +kernel
theorem dX3_triesSet_64 : decode cX3_triesSet 64 = .ok (.dup, 1) := by decide +kernel
theorem dX3_triesSet_65 : decode cX3_triesSet 65 = .ok (.getfield 80, 3) := by decide +kernel
theorem dX3_triesSet_68 : decode cX3_triesSet 68 = .ok (.iload 5, 2) := by decide +kernel
theorem dX3_triesSet_70 : decode cX3_triesSet 70 = .ok (.iadd, 1) := by decide +kernel
theorem dX3_triesSet_71 : decode cX3_triesSet 71 = .ok (.putfield 80, 3) := by decide +kernel
theorem dX3_triesSet_74 : decode cX3_triesSet 74 = .ok (.iinc 4 1, 3) := by decide +kernel
theorem dX3_triesSet_77 : decode cX3_triesSet 77 = .ok (.goto (-69), 3) := by decide +kernel
theorem dX3_triesSet_80 : decode cX3_triesSet 80 = .ok (.iconst 1, 1) := by decide +kernel
theorem dX3_triesSet_81 : decode cX3_triesSet 81 = .ok (.ireturn, 1) := by decide +kernel
theorem dX3_takeFirstFewest_0 : decode cX3_takeFirstFewest 0 = .ok (.iconst 0, 1) := by decide +kernel
theorem dX3_takeFirstFewest_1 : decode cX3_takeFirstFewest 1 = .ok (.istore 4, 2) := by decide +kernel
theorem dX3_takeFirstFewest_3 : decode cX3_takeFirstFewest 3 = .ok (.iconst 0, 1) := by decide +kernel
theorem dX3_takeFirstFewest_4 : decode cX3_takeFirstFewest 4 = .ok (.istore 5, 2) := by decide +kernel
theorem dX3_takeFirstFewest_6 : decode cX3_takeFirstFewest 6 = .ok (.iload 5, 2) := by decide +kernel
theorem dX3_takeFirstFewest_8 : decode cX3_takeFirstFewest 8 = .ok (.iload_n 2, 1) := by decide +kernel
theorem dX3_takeFirstFewest_9 : decode cX3_takeFirstFewest 9 = .ok (.if_icmp .ge 71, 3) := by decide +kernel
theorem dX3_takeFirstFewest_12 : decode cX3_takeFirstFewest 12 = .ok (.aload_n 0, 1) := by decide +kernel
theorem dX3_takeFirstFewest_13 : decode cX3_takeFirstFewest 13 = .ok (.getfield 9, 3) := by decide +kernel
theorem dX3_takeFirstFewest_16 : decode cX3_takeFirstFewest 16 = .ok (.iload_n 1, 1) := by decide +kernel
theorem dX3_takeFirstFewest_17 : decode cX3_takeFirstFewest 17 = .ok (.bipush 6, 2) := by decide +kernel
theorem dX3_takeFirstFewest_19 : decode cX3_takeFirstFewest 19 = .ok (.imul, 1) := by decide +kernel
theorem dX3_takeFirstFewest_20 : decode cX3_takeFirstFewest 20 = .ok (.iload 5, 2) := by decide +kernel
theorem dX3_takeFirstFewest_22 : decode cX3_takeFirstFewest 22 = .ok (.iadd, 1) := by decide +kernel
theorem dX3_takeFirstFewest_23 : decode cX3_takeFirstFewest 23 = .ok (.iaload, 1) := by decide +kernel
theorem dX3_takeFirstFewest_24 : decode cX3_takeFirstFewest 24 = .ok (.istore 6, 2) := by decide +kernel
theorem dX3_takeFirstFewest_26 : decode cX3_takeFirstFewest 26 = .ok (.iload_n 3, 1) := by decide +kernel
theorem dX3_takeFirstFewest_27 : decode cX3_takeFirstFewest 27 = .ok (.iconst 1, 1) := by decide +kernel
theorem dX3_takeFirstFewest_28 : decode cX3_takeFirstFewest 28 = .ok (.iload 5, 2) := by decide +kernel
theorem dX3_takeFirstFewest_30 : decode cX3_takeFirstFewest 30 = .ok (.ishl, 1) := by decide +kernel
theorem dX3_takeFirstFewest_31 : decode cX3_takeFirstFewest 31 = .ok (.iand, 1) := by decide +kernel
theorem dX3_takeFirstFewest_32 : decode cX3_takeFirstFewest 32 = .ok (.ifCond .eq 42, 3) := by decide +kernel
theorem dX3_takeFirstFewest_35 : decode cX3_takeFirstFewest 35 = .ok (.iload 6, 2) := by decide +kernel
theorem dX3_takeFirstFewest_37 : decode cX3_takeFirstFewest 37 = .ok (.ifCond .eq 37, 3) := by decide +kernel
theorem dX3_takeFirstFewest_40 : decode cX3_takeFirstFewest 40 = .ok (.iload 4, 2) := by decide +kernel
theorem dX3_takeFirstFewest_42 : decode cX3_takeFirstFewest 42 = .ok (.ifCond .eq 10, 3) := by decide +kernel
theorem dX3_takeFirstFewest_45 : decode cX3_takeFirstFewest 45 = .ok (.iload 6, 2) := by decide +kernel
theorem dX3_takeFirstFewest_47 : decode cX3_takeFirstFewest 47 = .ok (.iload 4, 2) := by decide +kernel
theorem dX3_takeFirstFewest_49 : decode cX3_takeFirstFewest 49 = .ok (.if_icmp .ge 25, 3) := by decide +kernel
theorem dX3_takeFirstFewest_52 : decode cX3_takeFirstFewest 52 = .ok (.iload 6, 2) := by decide +kernel
theorem dX3_takeFirstFewest_54 : decode cX3_takeFirstFewest 54 = .ok (.istore 4, 2) := by decide +kernel
theorem dX3_takeFirstFewest_56 : decode cX3_takeFirstFewest 56 = .ok (.aload_n 0, 1) := by decide +kernel
theorem dX3_takeFirstFewest_57 : decode cX3_takeFirstFewest 57 = .ok (.getfield 18, 3) := by decide +kernel
theorem dX3_takeFirstFewest_60 : decode cX3_takeFirstFewest 60 = .ok (.iload_n 1, 1) := by decide +kernel
theorem dX3_takeFirstFewest_61 : decode cX3_takeFirstFewest 61 = .ok (.aload_n 0, 1) := by decide +kernel
theorem dX3_takeFirstFewest_62 : decode cX3_takeFirstFewest 62 = .ok (.getfield 15, 3) := by decide +kernel
theorem dX3_takeFirstFewest_65 : decode cX3_takeFirstFewest 65 = .ok (.iload_n 1, 1) := by decide +kernel
theorem dX3_takeFirstFewest_66 : decode cX3_takeFirstFewest 66 = .ok (.bipush 6, 2) := by decide +kernel
theorem dX3_takeFirstFewest_68 : decode cX3_takeFirstFewest 68 = .ok (.imul, 1) := by decide +kernel
theorem dX3_takeFirstFewest_69 : decode cX3_takeFirstFewest 69 = .ok (.iload 5, 2) := by decide +kernel
theorem dX3_takeFirstFewest_71 : decode cX3_takeFirstFewest 71 = .ok (.iadd, 1) := by decide +kernel
theorem dX3_takeFirstFewest_72 : decode cX3_takeFirstFewest 72 = .ok (.iaload, 1) := by decide +kernel
theorem dX3_takeFirstFewest_73 : decode cX3_takeFirstFewest 73 = .ok (.iastore, 1) := by decide +kernel
theorem dX3_takeFirstFewest_74 : decode cX3_takeFirstFewest 74 = .ok (.iinc 5 1, 3) := by decide +kernel
theorem dX3_takeFirstFewest_77 : decode cX3_takeFirstFewest 77 = .ok (.goto (-71), 3) := by decide +kernel
theorem dX3_takeFirstFewest_80 : decode cX3_takeFirstFewest 80 = .ok (.iload 4, 2) := by decide +kernel
theorem dX3_takeFirstFewest_82 : decode cX3_takeFirstFewest 82 = .ok (.ireturn, 1) := by decide +kernel
theorem dX3_isBetter_0 : decode cX3_isBetter 0 = .ok (.aload_n 0, 1) := by decide +kernel
theorem dX3_isBetter_1 : decode cX3_isBetter 1 = .ok (.getfield 80, 3) := by decide +kernel
theorem dX3_isBetter_4 : decode cX3_isBetter 4 = .ok (.iload_n 2, 1) := by decide +kernel
theorem dX3_isBetter_5 : decode cX3_isBetter 5 = .ok (.iadd, 1) := by decide +kernel
theorem dX3_isBetter_6 : decode cX3_isBetter 6 = .ok (.aload_n 0, 1) := by decide +kernel
theorem dX3_isBetter_7 : decode cX3_isBetter 7 = .ok (.getfield 91, 3) := by decide +kernel
theorem dX3_isBetter_10 : decode cX3_isBetter 10 = .ok (.aload_n 0, 1) := by decide +kernel
theorem dX3_isBetter_11 : decode cX3_isBetter 11 = .ok (.getfield 94, 3) := by decide +kernel
theorem dX3_isBetter_14 : decode cX3_isBetter 14 = .ok (.iadd, 1) := by decide +kernel
theorem dX3_isBetter_15 : decode cX3_isBetter 15 = .ok (.if_icmp .eq 27, 3) := by decide +kernel
theorem dX3_isBetter_18 : decode cX3_isBetter 18 = .ok (.aload_n 0, 1) := by decide +kernel
theorem dX3_isBetter_19 : decode cX3_isBetter 19 = .ok (.getfield 80, 3) := by decide +kernel
theorem dX3_isBetter_22 : decode cX3_isBetter 22 = .ok (.iload_n 2, 1) := by decide +kernel
theorem dX3_isBetter_23 : decode cX3_isBetter 23 = .ok (.iadd, 1) := by decide +kernel
theorem dX3_isBetter_24 : decode cX3_isBetter 24 = .ok (.aload_n 0, 1) := by decide +kernel
theorem dX3_isBetter_25 : decode cX3_isBetter 25 = .ok (.getfield 91, 3) := by decide +kernel
theorem dX3_isBetter_28 : decode cX3_isBetter 28 = .ok (.aload_n 0, 1) := by decide +kernel
theorem dX3_isBetter_29 : decode cX3_isBetter 29 = .ok (.getfield 94, 3) := by decide +kernel
theorem dX3_isBetter_32 : decode cX3_isBetter 32 = .ok (.iadd, 1) := by decide +kernel
theorem dX3_isBetter_33 : decode cX3_isBetter 33 = .ok (.if_icmp .ge 7, 3) := by decide +kernel
theorem dX3_isBetter_36 : decode cX3_isBetter 36 = .ok (.iconst 1, 1) := by decide +kernel
theorem dX3_isBetter_37 : decode cX3_isBetter 37 = .ok (.goto 4, 3) := by decide +kernel
theorem dX3_isBetter_40 : decode cX3_isBetter 40 = .ok (.iconst 0, 1) := by decide +kernel
theorem dX3_isBetter_41 : decode cX3_isBetter 41 = .ok (.ireturn, 1) := by decide +kernel
theorem dX3_isBetter_42 : decode cX3_isBetter 42 = .ok (.iload_n 2, 1) := by decide +kernel
theorem dX3_isBetter_43 : decode cX3_isBetter 43 = .ok (.aload_n 0, 1) := by decide +kernel
theorem dX3_isBetter_44 : decode cX3_isBetter 44 = .ok (.getfield 94, 3) := by decide +kernel
theorem dX3_isBetter_47 : decode cX3_isBetter 47 = .ok (.if_icmp .eq 17, 3) := by decide +kernel
theorem dX3_isBetter_50 : decode cX3_isBetter 50 = .ok (.iload_n 2, 1) := by decide +kernel
theorem dX3_isBetter_51 : decode cX3_isBetter 51 = .ok (.aload_n 0, 1) := by decide +kernel
theorem dX3_isBetter_52 : decode cX3_isBetter 52 = .ok (.getfield 94, 3) := by decide +kernel
theorem dX3_isBetter_55 : decode cX3_isBetter 55 = .ok (.if_icmp .ge 7, 3) := by decide +kernel
theorem dX3_isBetter_58 : decode cX3_isBetter 58 = .ok (.iconst 1, 1) := by decide +kernel
theorem dX3_isBetter_59 : decode cX3_isBetter 59 = .ok (.goto 4, 3) := by decide +kernel
theorem dX3_isBetter_62 : decode cX3_isBetter 62 = .ok (.iconst 0, 1) := by decide +kernel
theorem dX3_isBetter_63 : decode cX3_isBetter 63 = .ok (.ireturn, 1) := by decide +kernel
theorem dX3_isBetter_64 : decode cX3_isBetter 64 = .ok (.iconst 0, 1) := by decide +kernel
theorem dX3_isBetter_65 : decode cX3_isBetter 65 = .ok (.istore_n 3, 1) := by decide +kernel
theorem dX3_isBetter_66 : decode cX3_isBetter 66 = .ok (.iload_n 3, 1) := by decide +kernel
theorem dX3_isBetter_67 : decode cX3_isBetter 67 = .ok (.iload_n 1, 1) := by decide +kernel
theorem dX3_isBetter_68 : decode cX3_isBetter 68 = .ok (.if_icmp .ge 45, 3) := by decide +kernel
theorem dX3_isBetter_71 : decode cX3_isBetter 71 = .ok (.aload_n 0, 1) := by decide +kernel
theorem dX3_isBetter_72 : decode cX3_isBetter 72 = .ok (.getfield 18, 3) := by decide +kernel
theorem dX3_isBetter_75 : decode cX3_isBetter 75 = .ok (.iload_n 3, 1) := by decide +kernel
theorem dX3_isBetter_76 : decode cX3_isBetter 76 = .ok (.iaload, 1) := by decide +kernel
theorem dX3_isBetter_77 : decode cX3_isBetter 77 = .ok (.aload_n 0, 1) := by decide +kernel
theorem dX3_isBetter_78 : decode cX3_isBetter 78 = .ok (.getfield 21, 3) := by decide +kernel
theorem dX3_isBetter_81 : decode cX3_isBetter 81 = .ok (.iload_n 3, 1) := by decide +kernel
theorem dX3_isBetter_82 : decode cX3_isBetter 82 = .ok (.iaload, 1) := by decide +kernel
theorem dX3_isBetter_83 : decode cX3_isBetter 83 = .ok (.if_icmp .eq 24, 3) := by decide +kernel
theorem dX3_isBetter_86 : decode cX3_isBetter 86 = .ok (.aload_n 0, 1) := by decide +kernel
theorem dX3_isBetter_87 : decode cX3_isBetter 87 = .ok (.getfield 18, 3) := by decide +kernel
theorem dX3_isBetter_90 : decode cX3_isBetter 90 = .ok (.iload_n 3, 1) := by decide +kernel
theorem dX3_isBetter_91 : decode cX3_isBetter 91 = .ok (.iaload, 1) := by decide +kernel
theorem dX3_isBetter_92 : decode cX3_isBetter 92 = .ok (.aload_n 0, 1) := by decide +kernel
theorem dX3_isBetter_93 : decode cX3_isBetter 93 = .ok (.getfield 21, 3) := by decide +kernel
theorem dX3_isBetter_96 : decode cX3_isBetter 96 = .ok (.iload_n 3, 1) := by decide +kernel
theorem dX3_isBetter_97 : decode cX3_isBetter 97 = .ok (.iaload, 1) := by decide +kernel
theorem dX3_isBetter_98 : decode cX3_isBetter 98 = .ok (.if_icmp .ge 7, 3) := by decide +kernel
theorem dX3_isBetter_101 : decode cX3_isBetter 101 = .ok (.iconst 1, 1) := by decide +kernel
theorem dX3_isBetter_102 : decode cX3_isBetter 102 = .ok (.goto 4, 3) := by decide +kernel
theorem dX3_isBetter_105 : decode cX3_isBetter 105 = .ok (.iconst 0, 1) := by decide +kernel
theorem dX3_isBetter_106 : decode cX3_isBetter 106 = .ok (.ireturn, 1) := by decide +kernel
theorem dX3_isBetter_107 : decode cX3_isBetter 107 = .ok (.iinc 3 1, 3) := by decide +kernel
theorem dX3_isBetter_110 : decode cX3_isBetter 110 = .ok (.goto (-44), 3) := by decide +kernel
theorem dX3_isBetter_113 : decode cX3_isBetter 113 = .ok (.iconst 0, 1) := by decide +kernel
theorem dX3_isBetter_114 : decode cX3_isBetter 114 = .ok (.ireturn, 1) := by decide +kernel
theorem dX3_keepTried_0 : decode cX3_keepTried 0 = .ok (.aload_n 0, 1) := by decide +kernel
theorem dX3_keepTried_1 : decode cX3_keepTried 1 = .ok (.iconst 1, 1) := by decide +kernel
theorem dX3_keepTried_2 : decode cX3_keepTried 2 = .ok (.putfield 24, 3) := by decide +kernel
theorem dX3_keepTried_5 : decode cX3_keepTried 5 = .ok (.aload_n 0, 1) := by decide +kernel
theorem dX3_keepTried_6 : decode cX3_keepTried 6 = .ok (.aload_n 0, 1) := by decide +kernel
theorem dX3_keepTried_7 : decode cX3_keepTried 7 = .ok (.getfield 80, 3) := by decide +kernel
theorem dX3_keepTried_10 : decode cX3_keepTried 10 = .ok (.putfield 91, 3) := by decide +kernel
theorem dX3_keepTried_13 : decode cX3_keepTried 13 = .ok (.aload_n 0, 1) := by decide +kernel
theorem dX3_keepTried_14 : decode cX3_keepTried 14 = .ok (.iload_n 1, 1) := by decide +kernel
theorem dX3_keepTried_15 : decode cX3_keepTried 15 = .ok (.putfield 94, 3) := by decide +kernel
theorem dX3_keepTried_18 : decode cX3_keepTried 18 = .ok (.aload_n 0, 1) := by decide +kernel
theorem dX3_keepTried_19 : decode cX3_keepTried 19 = .ok (.getfield 18, 3) := by decide +kernel
theorem dX3_keepTried_22 : decode cX3_keepTried 22 = .ok (.iconst 0, 1) := by decide +kernel
theorem dX3_keepTried_23 : decode cX3_keepTried 23 = .ok (.aload_n 0, 1) := by decide +kernel
theorem dX3_keepTried_24 : decode cX3_keepTried 24 = .ok (.getfield 21, 3) := by decide +kernel
theorem dX3_keepTried_27 : decode cX3_keepTried 27 = .ok (.iconst 0, 1) := by decide +kernel
theorem dX3_keepTried_28 : decode cX3_keepTried 28 = .ok (.iconst 5, 1) := by decide +kernel
theorem dX3_keepTried_29 : decode cX3_keepTried 29 = .ok (.invokestatic 97, 3) := by decide +kernel
theorem dX3_keepTried_32 : decode cX3_keepTried 32 = .ok (.return_, 1) := by decide +kernel
theorem dX4_init_0 : decode cX4_init 0 = .ok (.aload_n 0, 1) := by decide +kernel
theorem dX4_init_1 : decode cX4_init 1 = .ok (.invokespecial 3, 3) := by decide +kernel
theorem dX4_init_4 : decode cX4_init 4 = .ok (.aload_n 0, 1) := by decide +kernel
theorem dX4_init_5 : decode cX4_init 5 = .ok (.iconst 4, 1) := by decide +kernel
theorem dX4_init_6 : decode cX4_init 6 = .ok (.newarray .int, 2) := by decide +kernel
theorem dX4_init_8 : decode cX4_init 8 = .ok (.putfield 9, 3) := by decide +kernel
theorem dX4_init_11 : decode cX4_init 11 = .ok (.return_, 1) := by decide +kernel
theorem dX4_firstFault_0 : decode cX4_firstFault 0 = .ok (.aload_n 2, 1) := by decide +kernel
theorem dX4_firstFault_1 : decode cX4_firstFault 1 = .ok (.invokevirtual 15, 3) := by decide +kernel
theorem dX4_firstFault_4 : decode cX4_firstFault 4 = .ok (.aload_n 0, 1) := by decide +kernel
theorem dX4_firstFault_5 : decode cX4_firstFault 5 = .ok (.iconst 0, 1) := by decide +kernel
theorem dX4_firstFault_6 : decode cX4_firstFault 6 = .ok (.putfield 20, 3) := by decide +kernel
theorem dX4_firstFault_9 : decode cX4_firstFault 9 = .ok (.iconst 0, 1) := by decide +kernel
theorem dX4_firstFault_10 : decode cX4_firstFault 10 = .ok (.istore_n 3, 1) := by decide +kernel
theorem dX4_firstFault_11 : decode cX4_firstFault 11 = .ok (.iload_n 3, 1) := by decide +kernel
theorem dX4_firstFault_12 : decode cX4_firstFault 12 = .ok (.sipush 200, 3) := by decide +kernel
theorem dX4_firstFault_15 : decode cX4_firstFault 15 = .ok (.if_icmp .ge 38, 3) := by decide +kernel
theorem dX4_firstFault_18 : decode cX4_firstFault 18 = .ok (.aload_n 0, 1) := by decide +kernel
theorem dX4_firstFault_19 : decode cX4_firstFault 19 = .ok (.getfield 20, 3) := by decide +kernel
theorem dX4_firstFault_22 : decode cX4_firstFault 22 = .ok (.aload_n 1, 1) := by decide +kernel
theorem dX4_firstFault_23 : decode cX4_firstFault 23 = .ok (.getfield 24, 3) := by decide +kernel
theorem dX4_firstFault_26 : decode cX4_firstFault 26 = .ok (.if_icmp .ge 27, 3) := by decide +kernel
theorem dX4_firstFault_29 : decode cX4_firstFault 29 = .ok (.aload_n 0, 1) := by decide +kernel
theorem dX4_firstFault_30 : decode cX4_firstFault 30 = .ok (.getfield 20, 3) := by decide +kernel
theorem dX4_firstFault_33 : decode cX4_firstFault 33 = .ok (.istore 4, 2) := by decide +kernel
theorem dX4_firstFault_35 : decode cX4_firstFault 35 = .ok (.aload_n 0, 1) := by decide +kernel
theorem dX4_firstFault_36 : decode cX4_firstFault 36 = .ok (.aload_n 1, 1) := by decide +kernel
theorem dX4_firstFault_37 : decode cX4_firstFault 37 = .ok (.aload_n 2, 1) := by decide +kernel
theorem dX4_firstFault_38 : decode cX4_firstFault 38 = .ok (.invokevirtual 29, 3) := by decide +kernel
theorem dX4_firstFault_41 : decode cX4_firstFault 41 = .ok (.ifCond .ne 6, 3) := by decide +kernel
theorem dX4_firstFault_44 : decode cX4_firstFault 44 = .ok (.iload 4, 2) := by decide +kernel
theorem dX4_firstFault_46 : decode cX4_firstFault 46 = .ok (.ireturn, 1) := by decide +kernel
theorem dX4_firstFault_47 : decode cX4_firstFault 47 = .ok (.iinc 3 1, 3) := by decide +kernel
theorem dX4_firstFault_50 : decode cX4_firstFault 50 = .ok (.goto (-39), 3) := by decide +kernel
theorem dX4_firstFault_53 : decode cX4_firstFault 53 = .ok (.bipush (-4), 2) := by decide +kernel
theorem dX4_firstFault_55 : decode cX4_firstFault 55 = .ok (.ireturn, 1) := by decide +kernel
theorem dX4_takesItem_0 : decode cX4_takesItem 0 = .ok (.aload_n 0, 1) := by decide +kernel
theorem dX4_takesItem_1 : decode cX4_takesItem 1 = .ok (.aload_n 1, 1) := by decide +kernel
theorem dX4_takesItem_2 : decode cX4_takesItem 2 = .ok (.ldc 33, 2) := by decide +kernel
theorem dX4_takesItem_4 : decode cX4_takesItem 4 = .ok (.invokevirtual 35, 3) := by decide +kernel
theorem dX4_takesItem_7 : decode cX4_takesItem 7 = .ok (.ifCond .eq 37, 3) := by decide +kernel
theorem dX4_takesItem_10 : decode cX4_takesItem 10 = .ok (.aload_n 0, 1) := by decide +kernel
theorem dX4_takesItem_11 : decode cX4_takesItem 11 = .ok (.aload_n 1, 1) := by decide +kernel
theorem dX4_takesItem_12 : decode cX4_takesItem 12 = .ok (.iconst 2, 1) := by decide +kernel
theorem dX4_takesItem_13 : decode cX4_takesItem 13 = .ok (.invokevirtual 39, 3) := by decide +kernel
theorem dX4_takesItem_16 : decode cX4_takesItem 16 = .ok (.ifCond .eq 26, 3) := by decide +kernel
theorem dX4_takesItem_19 : decode cX4_takesItem 19 = .ok (.aload_n 2, 1) := by decide +kernel
theorem dX4_takesItem_20 : decode cX4_takesItem 20 = .ok (.aload_n 0, 1) := by decide +kernel
theorem dX4_takesItem_21 : decode cX4_takesItem 21 = .ok (.getfield 9, 3) := by decide +kernel
theorem dX4_takesItem_24 : decode cX4_takesItem 24 = .ok (.iconst 0, 1) := by decide +kernel
theorem dX4_takesItem_25 : decode cX4_takesItem 25 = .ok (.iaload, 1) := by decide +kernel
theorem dX4_takesItem_26 : decode cX4_takesItem 26 = .ok (.aload_n 0, 1) := by decide +kernel
theorem dX4_takesItem_27 : decode cX4_takesItem 27 = .ok (.getfield 9, 3) := by decide +kernel
theorem dX4_takesItem_30 : decode cX4_takesItem 30 = .ok (.iconst 1, 1) := by decide +kernel
theorem dX4_takesItem_31 : decode cX4_takesItem 31 = .ok (.iaload, 1) := by decide +kernel
theorem dX4_takesItem_32 : decode cX4_takesItem 32 = .ok (.invokevirtual 43, 3) := by decide +kernel
theorem dX4_takesItem_35 : decode cX4_takesItem 35 = .ok (.ifCond .eq 7, 3) := by decide +kernel
theorem dX4_takesItem_38 : decode cX4_takesItem 38 = .ok (.iconst 1, 1) := by decide +kernel
theorem dX4_takesItem_39 : decode cX4_takesItem 39 = .ok (.goto 4, 3) := by decide +kernel
theorem dX4_takesItem_42 : decode cX4_takesItem 42 = .ok (.iconst 0, 1) := by decide +kernel
theorem dX4_takesItem_43 : decode cX4_takesItem 43 = .ok (.ireturn, 1) := by decide +kernel
theorem dX4_takesItem_44 : decode cX4_takesItem 44 = .ok (.aload_n 0, 1) := by decide +kernel
theorem dX4_takesItem_45 : decode cX4_takesItem 45 = .ok (.aload_n 1, 1) := by decide +kernel
theorem dX4_takesItem_46 : decode cX4_takesItem 46 = .ok (.ldc 47, 2) := by decide +kernel
theorem dX4_takesItem_48 : decode cX4_takesItem 48 = .ok (.invokevirtual 35, 3) := by decide +kernel
theorem dX4_takesItem_51 : decode cX4_takesItem 51 = .ok (.ifCond .eq 49, 3) := by decide +kernel
theorem dX4_takesItem_54 : decode cX4_takesItem 54 = .ok (.aload_n 0, 1) := by decide +kernel
theorem dX4_takesItem_55 : decode cX4_takesItem 55 = .ok (.aload_n 1, 1) := by decide +kernel
theorem dX4_takesItem_56 : decode cX4_takesItem 56 = .ok (.iconst 4, 1) := by decide +kernel
theorem dX4_takesItem_57 : decode cX4_takesItem 57 = .ok (.invokevirtual 39, 3) := by decide +kernel
theorem dX4_takesItem_60 : decode cX4_takesItem 60 = .ok (.ifCond .eq 38, 3) := by decide +kernel
theorem dX4_takesItem_63 : decode cX4_takesItem 63 = .ok (.aload_n 2, 1) := by decide +kernel
theorem dX4_takesItem_64 : decode cX4_takesItem 64 = .ok (.aload_n 0, 1) := by decide +kernel
theorem dX4_takesItem_65 : decode cX4_takesItem 65 = .ok (.getfield 9, 3) := by decide +kernel
theorem dX4_takesItem_68 : decode cX4_takesItem 68 = .ok (.iconst 0, 1) := by decide +kernel
theorem dX4_takesItem_69 : decode cX4_takesItem 69 = .ok (.iaload, 1) := by decide +kernel
theorem dX4_takesItem_70 : decode cX4_takesItem 70 = .ok (.aload_n 0, 1) := by decide +kernel
theorem dX4_takesItem_71 : decode cX4_takesItem 71 = .ok (.getfield 9, 3) := by decide +kernel
theorem dX4_takesItem_74 : decode cX4_takesItem 74 = .ok (.iconst 1, 1) := by decide +kernel
theorem dX4_takesItem_75 : decode cX4_takesItem 75 = .ok (.iaload, 1) := by decide +kernel
theorem dX4_takesItem_76 : decode cX4_takesItem 76 = .ok (.aload_n 0, 1) := by decide +kernel
theorem dX4_takesItem_77 : decode cX4_takesItem 77 = .ok (.getfield 9, 3) := by decide +kernel
theorem dX4_takesItem_80 : decode cX4_takesItem 80 = .ok (.iconst 2, 1) := by decide +kernel
theorem dX4_takesItem_81 : decode cX4_takesItem 81 = .ok (.iaload, 1) := by decide +kernel
theorem dX4_takesItem_82 : decode cX4_takesItem 82 = .ok (.aload_n 0, 1) := by decide +kernel
theorem dX4_takesItem_83 : decode cX4_takesItem 83 = .ok (.getfield 9, 3) := by decide +kernel
theorem dX4_takesItem_86 : decode cX4_takesItem 86 = .ok (.iconst 3, 1) := by decide +kernel
theorem dX4_takesItem_87 : decode cX4_takesItem 87 = .ok (.iaload, 1) := by decide +kernel
theorem dX4_takesItem_88 : decode cX4_takesItem 88 = .ok (.invokevirtual 49, 3) := by decide +kernel
theorem dX4_takesItem_91 : decode cX4_takesItem 91 = .ok (.ifCond .eq 7, 3) := by decide +kernel
theorem dX4_takesItem_94 : decode cX4_takesItem 94 = .ok (.iconst 1, 1) := by decide +kernel
theorem dX4_takesItem_95 : decode cX4_takesItem 95 = .ok (.goto 4, 3) := by decide +kernel
theorem dX4_takesItem_98 : decode cX4_takesItem 98 = .ok (.iconst 0, 1) := by decide +kernel
theorem dX4_takesItem_99 : decode cX4_takesItem 99 = .ok (.ireturn, 1) := by decide +kernel
theorem dX4_takesItem_100 : decode cX4_takesItem 100 = .ok (.aload_n 0, 1) := by decide +kernel
theorem dX4_takesItem_101 : decode cX4_takesItem 101 = .ok (.aload_n 1, 1) := by decide +kernel
theorem dX4_takesItem_102 : decode cX4_takesItem 102 = .ok (.ldc 53, 2) := by decide +kernel
theorem dX4_takesItem_104 : decode cX4_takesItem 104 = .ok (.invokevirtual 35, 3) := by decide +kernel
theorem dX4_takesItem_107 : decode cX4_takesItem 107 = .ok (.ifCond .eq 49, 3) := by decide +kernel
theorem dX4_takesItem_110 : decode cX4_takesItem 110 = .ok (.aload_n 0, 1) := by decide +kernel
theorem dX4_takesItem_111 : decode cX4_takesItem 111 = .ok (.aload_n 1, 1) := by decide +kernel
theorem dX4_takesItem_112 : decode cX4_takesItem 112 = .ok (.iconst 4, 1) := by decide +kernel
theorem dX4_takesItem_113 : decode cX4_takesItem 113 = .ok (.invokevirtual 39, 3) := by decide +kernel
theorem dX4_takesItem_116 : decode cX4_takesItem 116 = .ok (.ifCond .eq 38, 3) := by decide +kernel
theorem dX4_takesItem_119 : decode cX4_takesItem 119 = .ok (.aload_n 2, 1) := by decide +kernel
theorem dX4_takesItem_120 : decode cX4_takesItem 120 = .ok (.aload_n 0, 1) := by decide +kernel
theorem dX4_takesItem_121 : decode cX4_takesItem 121 = .ok (.getfield 9, 3) := by decide +kernel
theorem dX4_takesItem_124 : decode cX4_takesItem 124 = .ok (.iconst 0, 1) := by decide +kernel
theorem dX4_takesItem_125 : decode cX4_takesItem 125 = .ok (.iaload, 1) := by decide +kernel
theorem dX4_takesItem_126 : decode cX4_takesItem 126 = .ok (.aload_n 0, 1) := by decide +kernel
theorem dX4_takesItem_127 : decode cX4_takesItem 127 = .ok (.getfield 9, 3) := by decide +kernel
theorem dX4_takesItem_130 : decode cX4_takesItem 130 = .ok (.iconst 1, 1) := by decide +kernel
theorem dX4_takesItem_131 : decode cX4_takesItem 131 = .ok (.iaload, 1) := by decide +kernel
theorem dX4_takesItem_132 : decode cX4_takesItem 132 = .ok (.aload_n 0, 1) := by decide +kernel
theorem dX4_takesItem_133 : decode cX4_takesItem 133 = .ok (.getfield 9, 3) := by decide +kernel
theorem dX4_takesItem_136 : decode cX4_takesItem 136 = .ok (.iconst 2, 1) := by decide +kernel
theorem dX4_takesItem_137 : decode cX4_takesItem 137 = .ok (.iaload, 1) := by decide +kernel
theorem dX4_takesItem_138 : decode cX4_takesItem 138 = .ok (.aload_n 0, 1) := by decide +kernel
theorem dX4_takesItem_139 : decode cX4_takesItem 139 = .ok (.getfield 9, 3) := by decide +kernel
theorem dX4_takesItem_142 : decode cX4_takesItem 142 = .ok (.iconst 3, 1) := by decide +kernel
theorem dX4_takesItem_143 : decode cX4_takesItem 143 = .ok (.iaload, 1) := by decide +kernel
theorem dX4_takesItem_144 : decode cX4_takesItem 144 = .ok (.invokevirtual 55, 3) := by decide +kernel
theorem dX4_takesItem_147 : decode cX4_takesItem 147 = .ok (.ifCond .eq 7, 3) := by decide +kernel
theorem dX4_takesItem_150 : decode cX4_takesItem 150 = .ok (.iconst 1, 1) := by decide +kernel
theorem dX4_takesItem_151 : decode cX4_takesItem 151 = .ok (.goto 4, 3) := by decide +kernel
theorem dX4_takesItem_154 : decode cX4_takesItem 154 = .ok (.iconst 0, 1) := by decide +kernel
theorem dX4_takesItem_155 : decode cX4_takesItem 155 = .ok (.ireturn, 1) := by decide +kernel
theorem dX4_takesItem_156 : decode cX4_takesItem 156 = .ok (.aload_n 0, 1) := by decide +kernel
theorem dX4_takesItem_157 : decode cX4_takesItem 157 = .ok (.aload_n 1, 1) := by decide +kernel
theorem dX4_takesItem_158 : decode cX4_takesItem 158 = .ok (.ldc 58, 2) := by decide +kernel
theorem dX4_takesItem_160 : decode cX4_takesItem 160 = .ok (.invokevirtual 35, 3) := by decide +kernel
theorem dX4_takesItem_163 : decode cX4_takesItem 163 = .ok (.ifCond .eq 31, 3) := by decide +kernel
theorem dX4_takesItem_166 : decode cX4_takesItem 166 = .ok (.aload_n 0, 1) := by decide +kernel
theorem dX4_takesItem_167 : decode cX4_takesItem 167 = .ok (.aload_n 1, 1) := by decide +kernel
theorem dX4_takesItem_168 : decode cX4_takesItem 168 = .ok (.iconst 1, 1) := by decide +kernel
theorem dX4_takesItem_169 : decode cX4_takesItem 169 = .ok (.invokevirtual 39, 3) := by decide +kernel
theorem dX4_takesItem_172 : decode cX4_takesItem 172 = .ok (.ifCond .eq 20, 3) := by decide +kernel
theorem dX4_takesItem_175 : decode cX4_takesItem 175 = .ok (.aload_n 2, 1) := by decide +kernel
theorem dX4_takesItem_176 : decode cX4_takesItem 176 = .ok (.aload_n 0, 1) := by decide +kernel
theorem dX4_takesItem_177 : decode cX4_takesItem 177 = .ok (.getfield 9, 3) := by decide +kernel
theorem dX4_takesItem_180 : decode cX4_takesItem 180 = .ok (.iconst 0, 1) := by decide +kernel
theorem dX4_takesItem_181 : decode cX4_takesItem 181 = .ok (.iaload, 1) := by decide +kernel
theorem dX4_takesItem_182 : decode cX4_takesItem 182 = .ok (.invokevirtual 60, 3) := by decide +kernel
theorem dX4_takesItem_185 : decode cX4_takesItem 185 = .ok (.ifCond .eq 7, 3) := by decide +kernel
theorem dX4_takesItem_188 : decode cX4_takesItem 188 = .ok (.iconst 1, 1) := by decide +kernel
theorem dX4_takesItem_189 : decode cX4_takesItem 189 = .ok (.goto 4, 3) := by decide +kernel
theorem dX4_takesItem_192 : decode cX4_takesItem 192 = .ok (.iconst 0, 1) := by decide +kernel
theorem dX4_takesItem_193 : decode cX4_takesItem 193 = .ok (.ireturn, 1) := by decide +kernel
theorem dX4_takesItem_194 : decode cX4_takesItem 194 = .ok (.iconst 0, 1) := by decide +kernel
theorem dX4_takesItem_195 : decode cX4_takesItem 195 = .ok (.ireturn, 1) := by decide +kernel
theorem dX4_takesWord_0 : decode cX4_takesWord 0 = .ok (.iconst 0, 1) := by decide +kernel
theorem dX4_takesWord_1 : decode cX4_takesWord 1 = .ok (.istore_n 3, 1) := by decide +kernel
theorem dX4_takesWord_2 : decode cX4_takesWord 2 = .ok (.iload_n 3, 1) := by decide +kernel
theorem dX4_takesWord_3 : decode cX4_takesWord 3 = .ok (.aload_n 2, 1) := by decide +kernel
theorem dX4_takesWord_4 : decode cX4_takesWord 4 = .ok (.invokevirtual 64, 3) := by decide +kernel
theorem dX4_takesWord_7 : decode cX4_takesWord 7 = .ok (.if_icmp .ge 29, 3) := by decide +kernel
theorem dX4_takesWord_10 : decode cX4_takesWord 10 = .ok (.aload_n 1, 1) := by decide +kernel
theorem dX4_takesWord_11 : decode cX4_takesWord 11 = .ok (.aload_n 0, 1) := by decide +kernel
theorem dX4_takesWord_12 : decode cX4_takesWord 12 = .ok (.getfield 20, 3) := by decide +kernel
theorem dX4_takesWord_15 : decode cX4_takesWord 15 = .ok (.iload_n 3, 1) := by decide +kernel
theorem dX4_takesWord_16 : decode cX4_takesWord 16 = .ok (.iadd, 1) := by decide +kernel
theorem dX4_takesWord_17 : decode cX4_takesWord 17 = .ok (.invokevirtual 69, 3) := by decide +kernel
theorem dX4_takesWord_20 : decode cX4_takesWord 20 = .ok (.aload_n 2, 1) := by decide +kernel
theorem dX4_takesWord_21 : decode cX4_takesWord 21 = .ok (.iload_n 3, 1) := by decide +kernel
theorem dX4_takesWord_22 : decode cX4_takesWord 22 = .ok (.invokevirtual 73, 3) := by decide +kernel
theorem dX4_takesWord_25 : decode cX4_takesWord 25 = .ok (.if_icmp .eq 5, 3) := by decide +kernel
theorem dX4_takesWord_28 : decode cX4_takesWord 28 = .ok (.iconst 0, 1) := by decide +kernel
theorem dX4_takesWord_29 : decode cX4_takesWord 29 = .ok (.ireturn, 1) := by decide +kernel
theorem dX4_takesWord_30 : decode cX4_takesWord 30 = .ok (.iinc 3 1, 3) := by decide +kernel
theorem dX4_takesWord_33 : decode cX4_takesWord 33 = .ok (.goto (-31), 3) := by decide +kernel
theorem dX4_takesWord_36 : decode cX4_takesWord 36 = .ok (.aload_n 0, 1) := by decide +kernel
theorem dX4_takesWord_37 : decode cX4_takesWord 37 = .ok (.dup, 1) := by decide +kernel
theorem dX4_takesWord_38 : decode cX4_takesWord 38 = .ok (.getfield 20, 3) := by decide +kernel
theorem dX4_takesWord_41 : decode cX4_takesWord 41 = .ok (.aload_n 2, 1) := by decide +kernel
theorem dX4_takesWord_42 : decode cX4_takesWord 42 = .ok (.invokevirtual 64, 3) := by decide +kernel
theorem dX4_takesWord_45 : decode cX4_takesWord 45 = .ok (.iadd, 1) := by decide +kernel
theorem dX4_takesWord_46 : decode cX4_takesWord 46 = .ok (.putfield 20, 3) := by decide +kernel
theorem dX4_takesWord_49 : decode cX4_takesWord 49 = .ok (.iconst 1, 1) := by decide +kernel
theorem dX4_takesWord_50 : decode cX4_takesWord 50 = .ok (.ireturn, 1) := by decide +kernel
theorem dX4_takesNumbers_0 : decode cX4_takesNumbers 0 = .ok (.iconst 0, 1) := by decide +kernel
theorem dX4_takesNumbers_1 : decode cX4_takesNumbers 1 = .ok (.istore_n 3, 1) := by decide +kernel
theorem dX4_takesNumbers_2 : decode cX4_takesNumbers 2 = .ok (.iload_n 3, 1) := by decide +kernel
theorem dX4_takesNumbers_3 : decode cX4_takesNumbers 3 = .ok (.iload_n 2, 1) := by decide +kernel
theorem dX4_takesNumbers_4 : decode cX4_takesNumbers 4 = .ok (.if_icmp .ge 78, 3) := by decide +kernel
theorem dX4_takesNumbers_7 : decode cX4_takesNumbers 7 = .ok (.iload_n 3, 1) := by decide +kernel
theorem dX4_takesNumbers_8 : decode cX4_takesNumbers 8 = .ok (.iconst 4, 1) := by decide +kernel
theorem dX4_takesNumbers_9 : decode cX4_takesNumbers 9 = .ok (.if_icmp .ge 73, 3) := by decide +kernel
theorem dX4_takesNumbers_12 : decode cX4_takesNumbers 12 = .ok (.aload_n 1, 1) := by decide +kernel
theorem dX4_takesNumbers_13 : decode cX4_takesNumbers 13 = .ok (.aload_n 0, 1) := by decide +kernel
theorem dX4_takesNumbers_14 : decode cX4_takesNumbers 14 = .ok (.getfield 20, 3) := by decide +kernel
theorem dX4_takesNumbers_17 : decode cX4_takesNumbers 17 = .ok (.invokevirtual 69, 3) := by decide +kernel
theorem dX4_takesNumbers_20 : decode cX4_takesNumbers 20 = .ok (.invokestatic 76, 3) := by decide +kernel
theorem dX4_takesNumbers_23 : decode cX4_takesNumbers 23 = .ok (.ifCond .ne 5, 3) := by decide +kernel
theorem dX4_takesNumbers_26 : decode cX4_takesNumbers 26 = .ok (.iconst 0, 1) := by decide +kernel
theorem dX4_takesNumbers_27 : decode cX4_takesNumbers 27 = .ok (.ireturn, 1) := by decide +kernel
theorem dX4_takesNumbers_28 : decode cX4_takesNumbers 28 = .ok (.aload_n 0, 1) := by decide +kernel
theorem dX4_takesNumbers_29 : decode cX4_takesNumbers 29 = .ok (.getfield 9, 3) := by decide +kernel
theorem dX4_takesNumbers_32 : decode cX4_takesNumbers 32 = .ok (.iload_n 3, 1) := by decide +kernel
theorem dX4_takesNumbers_33 : decode cX4_takesNumbers 33 = .ok (.aload_n 0, 1) := by decide +kernel
theorem dX4_takesNumbers_34 : decode cX4_takesNumbers 34 = .ok (.aload_n 1, 1) := by decide +kernel
theorem dX4_takesNumbers_35 : decode cX4_takesNumbers 35 = .ok (.invokevirtual 80, 3) := by decide +kernel
theorem dX4_takesNumbers_38 : decode cX4_takesNumbers 38 = .ok (.iastore, 1) := by decide +kernel
theorem dX4_takesNumbers_39 : decode cX4_takesNumbers 39 = .ok (.aload_n 1, 1) := by decide +kernel
theorem dX4_takesNumbers_40 : decode cX4_takesNumbers 40 = .ok (.aload_n 0, 1) := by decide +kernel
theorem dX4_takesNumbers_41 : decode cX4_takesNumbers 41 = .ok (.getfield 20, 3) := by decide +kernel
theorem dX4_takesNumbers_44 : decode cX4_takesNumbers 44 = .ok (.invokevirtual 69, 3) := by decide +kernel
theorem dX4_takesNumbers_47 : decode cX4_takesNumbers 47 = .ok (.iload_n 3, 1) := by decide +kernel
theorem dX4_takesNumbers_48 : decode cX4_takesNumbers 48 = .ok (.iload_n 2, 1) := by decide +kernel
theorem dX4_takesNumbers_49 : decode cX4_takesNumbers 49 = .ok (.iconst 1, 1) := by decide +kernel
theorem dX4_takesNumbers_50 : decode cX4_takesNumbers 50 = .ok (.isub, 1) := by decide +kernel
theorem dX4_takesNumbers_51 : decode cX4_takesNumbers 51 = .ok (.if_icmp .ne 8, 3) := by decide +kernel
theorem dX4_takesNumbers_54 : decode cX4_takesNumbers 54 = .ok (.bipush 59, 2) := by decide +kernel
theorem dX4_takesNumbers_56 : decode cX4_takesNumbers 56 = .ok (.goto 5, 3) := by decide +kernel
theorem dX4_takesNumbers_59 : decode cX4_takesNumbers 59 = .ok (.bipush 44, 2) := by decide +kernel
theorem dX4_takesNumbers_61 : decode cX4_takesNumbers 61 = .ok (.if_icmp .eq 5, 3) := by decide +kernel
theorem dX4_takesNumbers_64 : decode cX4_takesNumbers 64 = .ok (.iconst 0, 1) := by decide +kernel
theorem dX4_takesNumbers_65 : decode cX4_takesNumbers 65 = .ok (.ireturn, 1) := by decide +kernel
theorem dX4_takesNumbers_66 : decode cX4_takesNumbers 66 = .ok (.aload_n 0, 1) := by decide +kernel
theorem dX4_takesNumbers_67 : decode cX4_takesNumbers 67 = .ok (.dup, 1) := by decide +kernel
theorem dX4_takesNumbers_68 : decode cX4_takesNumbers 68 = .ok (.getfield 20, 3) := by decide +kernel
theorem dX4_takesNumbers_71 : decode cX4_takesNumbers 71 = .ok (.iconst 1, 1) := by decide +kernel
theorem dX4_takesNumbers_72 : decode cX4_takesNumbers 72 = .ok (.iadd, 1) := by decide +kernel
theorem dX4_takesNumbers_73 : decode cX4_takesNumbers 73 = .ok (.putfield 20, 3) := by decide +kernel
theorem dX4_takesNumbers_76 : decode cX4_takesNumbers 76 = .ok (.iinc 3 1, 3) := by decide +kernel
theorem dX4_takesNumbers_79 : decode cX4_takesNumbers 79 = .ok (.goto (-77), 3) := by decide +kernel
theorem dX4_takesNumbers_82 : decode cX4_takesNumbers 82 = .ok (.iconst 1, 1) := by decide +kernel
theorem dX4_takesNumbers_83 : decode cX4_takesNumbers 83 = .ok (.ireturn, 1) := by decide +kernel
theorem dX4_takeNumber_0 : decode cX4_takeNumber 0 = .ok (.aload_n 1, 1) := by decide +kernel
theorem dX4_takeNumber_1 : decode cX4_takeNumber 1 = .ok (.aload_n 0, 1) := by decide +kernel
theorem dX4_takeNumber_2 : decode cX4_takeNumber 2 = .ok (.getfield 20, 3) := by decide +kernel
theorem dX4_takeNumber_5 : decode cX4_takeNumber 5 = .ok (.invokevirtual 69, 3) := by decide +kernel
theorem dX4_takeNumber_8 : decode cX4_takeNumber 8 = .ok (.bipush 48, 2) := by decide +kernel
theorem dX4_takeNumber_10 : decode cX4_takeNumber 10 = .ok (.isub, 1) := by decide +kernel
theorem dX4_takeNumber_11 : decode cX4_takeNumber 11 = .ok (.istore_n 2, 1) := by decide +kernel
theorem dX4_takeNumber_12 : decode cX4_takeNumber 12 = .ok (.aload_n 0, 1) := by decide +kernel
theorem dX4_takeNumber_13 : decode cX4_takeNumber 13 = .ok (.dup, 1) := by decide +kernel
theorem dX4_takeNumber_14 : decode cX4_takeNumber 14 = .ok (.getfield 20, 3) := by decide +kernel
theorem dX4_takeNumber_17 : decode cX4_takeNumber 17 = .ok (.iconst 1, 1) := by decide +kernel
theorem dX4_takeNumber_18 : decode cX4_takeNumber 18 = .ok (.iadd, 1) := by decide +kernel
theorem dX4_takeNumber_19 : decode cX4_takeNumber 19 = .ok (.putfield 20, 3) := by decide +kernel
theorem dX4_takeNumber_22 : decode cX4_takeNumber 22 = .ok (.aload_n 1, 1) := by decide +kernel
theorem dX4_takeNumber_23 : decode cX4_takeNumber 23 = .ok (.aload_n 0, 1) := by decide +kernel
theorem dX4_takeNumber_24 : decode cX4_takeNumber 24 = .ok (.getfield 20, 3) := by decide +kernel
theorem dX4_takeNumber_27 : decode cX4_takeNumber 27 = .ok (.invokevirtual 69, 3) := by decide +kernel
theorem dX4_takeNumber_30 : decode cX4_takeNumber 30 = .ok (.invokestatic 76, 3) := by decide +kernel
theorem dX4_takeNumber_33 : decode cX4_takeNumber 33 = .ok (.ifCond .eq 30, 3) := by decide +kernel
theorem dX4_takeNumber_36 : decode cX4_takeNumber 36 = .ok (.iload_n 2, 1) := by decide +kernel
theorem dX4_takeNumber_37 : decode cX4_takeNumber 37 = .ok (.bipush 10, 2) := by decide +kernel
theorem dX4_takeNumber_39 : decode cX4_takeNumber 39 = .ok (.imul, 1) := by decide +kernel
theorem dX4_takeNumber_40 : decode cX4_takeNumber 40 = .ok (.aload_n 1, 1) := by decide +kernel
theorem dX4_takeNumber_41 : decode cX4_takeNumber 41 = .ok (.aload_n 0, 1) := by decide +kernel
theorem dX4_takeNumber_42 : decode cX4_takeNumber 42 = .ok (.getfield 20, 3) := by decide +kernel
theorem dX4_takeNumber_45 : decode cX4_takeNumber 45 = .ok (.invokevirtual 69, 3) := by decide +kernel
theorem dX4_takeNumber_48 : decode cX4_takeNumber 48 = .ok (.iadd, 1) := by decide +kernel
theorem dX4_takeNumber_49 : decode cX4_takeNumber 49 = .ok (.bipush 48, 2) := by decide +kernel
theorem dX4_takeNumber_51 : decode cX4_takeNumber 51 = .ok (.isub, 1) := by decide +kernel
theorem dX4_takeNumber_52 : decode cX4_takeNumber 52 = .ok (.istore_n 2, 1) := by decide +kernel
theorem dX4_takeNumber_53 : decode cX4_takeNumber 53 = .ok (.aload_n 0, 1) := by decide +kernel
theorem dX4_takeNumber_54 : decode cX4_takeNumber 54 = .ok (.dup, 1) := by decide +kernel
theorem dX4_takeNumber_55 : decode cX4_takeNumber 55 = .ok (.getfield 20, 3) := by decide +kernel
theorem dX4_takeNumber_58 : decode cX4_takeNumber 58 = .ok (.iconst 1, 1) := by decide +kernel
theorem dX4_takeNumber_59 : decode cX4_takeNumber 59 = .ok (.iadd, 1) := by decide +kernel
theorem dX4_takeNumber_60 : decode cX4_takeNumber 60 = .ok (.putfield 20, 3) := by decide +kernel
theorem dX4_takeNumber_63 : decode cX4_takeNumber 63 = .ok (.iload_n 2, 1) := by decide +kernel
theorem dX4_takeNumber_64 : decode cX4_takeNumber 64 = .ok (.ireturn, 1) := by decide +kernel
theorem dX4_isFigure_0 : decode cX4_isFigure 0 = .ok (.iload_n 0, 1) := by decide +kernel
theorem dX4_isFigure_1 : decode cX4_isFigure 1 = .ok (.bipush 48, 2) := by decide +kernel
theorem dX4_isFigure_3 : decode cX4_isFigure 3 = .ok (.if_icmp .lt 13, 3) := by decide +kernel
theorem dX4_isFigure_6 : decode cX4_isFigure 6 = .ok (.iload_n 0, 1) := by decide +kernel
theorem dX4_isFigure_7 : decode cX4_isFigure 7 = .ok (.bipush 57, 2) := by decide +kernel
theorem dX4_isFigure_9 : decode cX4_isFigure 9 = .ok (.if_icmp .gt 7, 3) := by decide +kernel
theorem dX4_isFigure_12 : decode cX4_isFigure 12 = .ok (.iconst 1, 1) := by decide +kernel
theorem dX4_isFigure_13 : decode cX4_isFigure 13 = .ok (.goto 4, 3) := by decide +kernel
theorem dX4_isFigure_16 : decode cX4_isFigure 16 = .ok (.iconst 0, 1) := by decide +kernel
theorem dX4_isFigure_17 : decode cX4_isFigure 17 = .ok (.ireturn, 1) := by decide +kernel
theorem dX5_init_0 : decode cX5_init 0 = .ok (.aload_n 0, 1) := by decide +kernel
theorem dX5_init_1 : decode cX5_init 1 = .ok (.invokespecial 3, 3) := by decide +kernel
theorem dX5_init_4 : decode cX5_init 4 = .ok (.aload_n 0, 1) := by decide +kernel
theorem dX5_init_5 : decode cX5_init 5 = .ok (.bipush 12, 2) := by decide +kernel
theorem dX5_init_7 : decode cX5_init 7 = .ok (.newarray .int, 2) := by decide +kernel
theorem dX5_init_9 : decode cX5_init 9 = .ok (.putfield 9, 3) := by decide +kernel
theorem dX5_init_12 : decode cX5_init 12 = .ok (.aload_n 0, 1) := by decide +kernel
