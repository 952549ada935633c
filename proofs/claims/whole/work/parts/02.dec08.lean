theorem dX9_cell_23 : decode cX9_cell 23 = .ok (.iload_n 3, 1) := by decide +kernel
theorem dX9_cell_24 : decode cX9_cell 24 = .ok (.ifCond .ne 17, 3) := by decide +kernel
theorem dX9_cell_27 : decode cX9_cell 27 = .ok (.aload_n 0, 1) := by decide +kernel
theorem dX9_cell_28 : decode cX9_cell 28 = .ok (.getfield 19, 3) := by decide +kernel
theorem dX9_cell_31 : decode cX9_cell 31 = .ok (.bipush 12, 2) := by decide +kernel
theorem dX9_cell_33 : decode cX9_cell 33 = .ok (.iload_n 2, 1) := by decide +kernel
theorem dX9_cell_34 : decode cX9_cell 34 = .ok (.imul, 1) := by decide +kernel
theorem dX9_cell_35 : decode cX9_cell 35 = .ok (.iload_n 1, 1) := by decide +kernel
theorem dX9_cell_36 : decode cX9_cell 36 = .ok (.iadd, 1) := by decide +kernel
theorem dX9_cell_37 : decode cX9_cell 37 = .ok (.iaload, 1) := by decide +kernel
theorem dX9_cell_38 : decode cX9_cell 38 = .ok (.goto 23, 3) := by decide +kernel
theorem dX9_cell_41 : decode cX9_cell 41 = .ok (.iload_n 3, 1) := by decide +kernel
theorem dX9_cell_42 : decode cX9_cell 42 = .ok (.iconst 1, 1) := by decide +kernel
theorem dX9_cell_43 : decode cX9_cell 43 = .ok (.if_icmp .ne 12, 3) := by decide +kernel
theorem dX9_cell_46 : decode cX9_cell 46 = .ok (.aload_n 0, 1) := by decide +kernel
theorem dX9_cell_47 : decode cX9_cell 47 = .ok (.iload_n 1, 1) := by decide +kernel
theorem dX9_cell_48 : decode cX9_cell 48 = .ok (.iload_n 2, 1) := by decide +kernel
theorem dX9_cell_49 : decode cX9_cell 49 = .ok (.invokevirtual 124, 3) := by decide +kernel
theorem dX9_cell_52 : decode cX9_cell 52 = .ok (.goto 9, 3) := by decide +kernel
theorem dX9_cell_55 : decode cX9_cell 55 = .ok (.aload_n 0, 1) := by decide +kernel
theorem dX9_cell_56 : decode cX9_cell 56 = .ok (.iload_n 1, 1) := by decide +kernel
theorem dX9_cell_57 : decode cX9_cell 57 = .ok (.iload_n 2, 1) := by decide +kernel
theorem dX9_cell_58 : decode cX9_cell 58 = .ok (.invokevirtual 127, 3) := by decide +kernel
theorem dX9_cell_61 : decode cX9_cell 61 = .ok (.ireturn, 1) := by decide +kernel
theorem dX9_column_0 : decode cX9_column 0 = .ok (.iload_n 1, 1) := by decide +kernel
theorem dX9_column_1 : decode cX9_column 1 = .ok (.i2l, 1) := by decide +kernel
theorem dX9_column_2 : decode cX9_column 2 = .ok (.lconst 0, 1) := by decide +kernel
theorem dX9_column_3 : decode cX9_column 3 = .ok (.aload_n 0, 1) := by decide +kernel
theorem dX9_column_4 : decode cX9_column 4 = .ok (.getfield 13, 3) := by decide +kernel
theorem dX9_column_7 : decode cX9_column 7 = .ok (.iconst 4, 1) := by decide +kernel
theorem dX9_column_8 : decode cX9_column 8 = .ok (.iaload, 1) := by decide +kernel
theorem dX9_column_9 : decode cX9_column 9 = .ok (.iconst 1, 1) := by decide +kernel
theorem dX9_column_10 : decode cX9_column 10 = .ok (.isub, 1) := by decide +kernel
theorem dX9_column_11 : decode cX9_column 11 = .ok (.i2l, 1) := by decide +kernel
theorem dX9_column_12 : decode cX9_column 12 = .ok (.invokestatic 58, 3) := by decide +kernel
theorem dX9_column_15 : decode cX9_column 15 = .ok (.ifCond .eq 16, 3) := by decide +kernel
theorem dX9_column_18 : decode cX9_column 18 = .ok (.aload_n 0, 1) := by decide +kernel
theorem dX9_column_19 : decode cX9_column 19 = .ok (.getfield 19, 3) := by decide +kernel
theorem dX9_column_22 : decode cX9_column 22 = .ok (.sipush 151, 3) := by decide +kernel
theorem dX9_column_25 : decode cX9_column 25 = .ok (.iload_n 1, 1) := by decide +kernel
theorem dX9_column_26 : decode cX9_column 26 = .ok (.iadd, 1) := by decide +kernel
theorem dX9_column_27 : decode cX9_column 27 = .ok (.iaload, 1) := by decide +kernel
theorem dX9_column_28 : decode cX9_column 28 = .ok (.goto 4, 3) := by decide +kernel
theorem dX9_column_31 : decode cX9_column 31 = .ok (.iconst (-1), 1) := by decide +kernel
theorem dX9_column_32 : decode cX9_column 32 = .ok (.ireturn, 1) := by decide +kernel
theorem dX9_round_0 : decode cX9_round 0 = .ok (.aload_n 0, 1) := by decide +kernel
theorem dX9_round_1 : decode cX9_round 1 = .ok (.getfield 13, 3) := by decide +kernel
theorem dX9_round_4 : decode cX9_round 4 = .ok (.iconst 2, 1) := by decide +kernel
theorem dX9_round_5 : decode cX9_round 5 = .ok (.iaload, 1) := by decide +kernel
theorem dX9_round_6 : decode cX9_round 6 = .ok (.istore_n 2, 1) := by decide +kernel
theorem dX9_round_7 : decode cX9_round 7 = .ok (.bipush 100, 2) := by decide +kernel
theorem dX9_round_9 : decode cX9_round 9 = .ok (.istore_n 3, 1) := by decide +kernel
theorem dX9_round_10 : decode cX9_round 10 = .ok (.iconst 0, 1) := by decide +kernel
theorem dX9_round_11 : decode cX9_round 11 = .ok (.istore 4, 2) := by decide +kernel
theorem dX9_round_13 : decode cX9_round 13 = .ok (.iload 4, 2) := by decide +kernel
theorem dX9_round_15 : decode cX9_round 15 = .ok (.iload_n 2, 1) := by decide +kernel
theorem dX9_round_16 : decode cX9_round 16 = .ok (.if_icmp .ge 120, 3) := by decide +kernel
theorem dX9_round_19 : decode cX9_round 19 = .ok (.iconst 0, 1) := by decide +kernel
theorem dX9_round_20 : decode cX9_round 20 = .ok (.istore 5, 2) := by decide +kernel
theorem dX9_round_22 : decode cX9_round 22 = .ok (.iconst 0, 1) := by decide +kernel
theorem dX9_round_23 : decode cX9_round 23 = .ok (.istore 6, 2) := by decide +kernel
theorem dX9_round_25 : decode cX9_round 25 = .ok (.iload 6, 2) := by decide +kernel
theorem dX9_round_27 : decode cX9_round 27 = .ok (.iload_n 2, 1) := by decide +kernel
theorem dX9_round_28 : decode cX9_round 28 = .ok (.if_icmp .ge 63, 3) := by decide +kernel
theorem dX9_round_31 : decode cX9_round 31 = .ok (.iload 6, 2) := by decide +kernel
theorem dX9_round_33 : decode cX9_round 33 = .ok (.aload_n 0, 1) := by decide +kernel
theorem dX9_round_34 : decode cX9_round 34 = .ok (.getfield 19, 3) := by decide +kernel
theorem dX9_round_37 : decode cX9_round 37 = .ok (.sipush 150, 3) := by decide +kernel
theorem dX9_round_40 : decode cX9_round 40 = .ok (.iaload, 1) := by decide +kernel
theorem dX9_round_41 : decode cX9_round 41 = .ok (.isub, 1) := by decide +kernel
theorem dX9_round_42 : decode cX9_round 42 = .ok (.iload_n 2, 1) := by decide +kernel
theorem dX9_round_43 : decode cX9_round 43 = .ok (.iadd, 1) := by decide +kernel
theorem dX9_round_44 : decode cX9_round 44 = .ok (.iload_n 2, 1) := by decide +kernel
theorem dX9_round_45 : decode cX9_round 45 = .ok (.irem, 1) := by decide +kernel
theorem dX9_round_46 : decode cX9_round 46 = .ok (.istore 7, 2) := by decide +kernel
theorem dX9_round_48 : decode cX9_round 48 = .ok (.iload_n 1, 1) := by decide +kernel
theorem dX9_round_49 : decode cX9_round 49 = .ok (.iload 6, 2) := by decide +kernel
theorem dX9_round_51 : decode cX9_round 51 = .ok (.ishr, 1) := by decide +kernel
theorem dX9_round_52 : decode cX9_round 52 = .ok (.iconst 1, 1) := by decide +kernel
theorem dX9_round_53 : decode cX9_round 53 = .ok (.iand, 1) := by decide +kernel
theorem dX9_round_54 : decode cX9_round 54 = .ok (.iconst 1, 1) := by decide +kernel
theorem dX9_round_55 : decode cX9_round 55 = .ok (.if_icmp .ne 26, 3) := by decide +kernel
theorem dX9_round_58 : decode cX9_round 58 = .ok (.iload 7, 2) := by decide +kernel
theorem dX9_round_60 : decode cX9_round 60 = .ok (.iload 4, 2) := by decide +kernel
theorem dX9_round_62 : decode cX9_round 62 = .ok (.if_icmp .le 19, 3) := by decide +kernel
theorem dX9_round_65 : decode cX9_round 65 = .ok (.iload_n 2, 1) := by decide +kernel
theorem dX9_round_66 : decode cX9_round 66 = .ok (.iload 7, 2) := by decide +kernel
theorem dX9_round_68 : decode cX9_round 68 = .ok (.isub, 1) := by decide +kernel
theorem dX9_round_69 : decode cX9_round 69 = .ok (.iload 5, 2) := by decide +kernel
theorem dX9_round_71 : decode cX9_round 71 = .ok (.if_icmp .le 10, 3) := by decide +kernel
theorem dX9_round_74 : decode cX9_round 74 = .ok (.iload_n 2, 1) := by decide +kernel
theorem dX9_round_75 : decode cX9_round 75 = .ok (.iload 7, 2) := by decide +kernel
theorem dX9_round_77 : decode cX9_round 77 = .ok (.isub, 1) := by decide +kernel
theorem dX9_round_78 : decode cX9_round 78 = .ok (.goto 5, 3) := by decide +kernel
theorem dX9_round_81 : decode cX9_round 81 = .ok (.iload 5, 2) := by decide +kernel
theorem dX9_round_83 : decode cX9_round 83 = .ok (.istore 5, 2) := by decide +kernel
theorem dX9_round_85 : decode cX9_round 85 = .ok (.iinc 6 1, 3) := by decide +kernel
theorem dX9_round_88 : decode cX9_round 88 = .ok (.goto (-63), 3) := by decide +kernel
theorem dX9_round_91 : decode cX9_round 91 = .ok (.iload 4, 2) := by decide +kernel
theorem dX9_round_93 : decode cX9_round 93 = .ok (.iload 5, 2) := by decide +kernel
theorem dX9_round_95 : decode cX9_round 95 = .ok (.if_icmp .ge 13, 3) := by decide +kernel
theorem dX9_round_98 : decode cX9_round 98 = .ok (.iconst 2, 1) := by decide +kernel
theorem dX9_round_99 : decode cX9_round 99 = .ok (.iload 4, 2) := by decide +kernel
theorem dX9_round_101 : decode cX9_round 101 = .ok (.imul, 1) := by decide +kernel
theorem dX9_round_102 : decode cX9_round 102 = .ok (.iload 5, 2) := by decide +kernel
theorem dX9_round_104 : decode cX9_round 104 = .ok (.iadd, 1) := by decide +kernel
theorem dX9_round_105 : decode cX9_round 105 = .ok (.goto 10, 3) := by decide +kernel
theorem dX9_round_108 : decode cX9_round 108 = .ok (.iload 4, 2) := by decide +kernel
theorem dX9_round_110 : decode cX9_round 110 = .ok (.iconst 2, 1) := by decide +kernel
theorem dX9_round_111 : decode cX9_round 111 = .ok (.iload 5, 2) := by decide +kernel
theorem dX9_round_113 : decode cX9_round 113 = .ok (.imul, 1) := by decide +kernel
theorem dX9_round_114 : decode cX9_round 114 = .ok (.iadd, 1) := by decide +kernel
theorem dX9_round_115 : decode cX9_round 115 = .ok (.istore 6, 2) := by decide +kernel
theorem dX9_round_117 : decode cX9_round 117 = .ok (.iload 6, 2) := by decide +kernel
theorem dX9_round_119 : decode cX9_round 119 = .ok (.iload_n 3, 1) := by decide +kernel
theorem dX9_round_120 : decode cX9_round 120 = .ok (.if_icmp .ge 8, 3) := by decide +kernel
theorem dX9_round_123 : decode cX9_round 123 = .ok (.iload 6, 2) := by decide +kernel
theorem dX9_round_125 : decode cX9_round 125 = .ok (.goto 4, 3) := by decide +kernel
theorem dX9_round_128 : decode cX9_round 128 = .ok (.iload_n 3, 1) := by decide +kernel
theorem dX9_round_129 : decode cX9_round 129 = .ok (.istore_n 3, 1) := by decide +kernel
theorem dX9_round_130 : decode cX9_round 130 = .ok (.iinc 4 1, 3) := by decide +kernel
theorem dX9_round_133 : decode cX9_round 133 = .ok (.goto (-120), 3) := by decide +kernel
theorem dX9_round_136 : decode cX9_round 136 = .ok (.iload_n 3, 1) := by decide +kernel
theorem dX9_round_137 : decode cX9_round 137 = .ok (.ireturn, 1) := by decide +kernel
theorem dX9_plans_0 : decode cX9_plans 0 = .ok (.aload_n 0, 1) := by decide +kernel
theorem dX9_plans_1 : decode cX9_plans 1 = .ok (.getfield 13, 3) := by decide +kernel
theorem dX9_plans_4 : decode cX9_plans 4 = .ok (.iconst 2, 1) := by decide +kernel
theorem dX9_plans_5 : decode cX9_plans 5 = .ok (.iaload, 1) := by decide +kernel
theorem dX9_plans_6 : decode cX9_plans 6 = .ok (.istore_n 1, 1) := by decide +kernel
theorem dX9_plans_7 : decode cX9_plans 7 = .ok (.iconst 0, 1) := by decide +kernel
theorem dX9_plans_8 : decode cX9_plans 8 = .ok (.istore_n 2, 1) := by decide +kernel
theorem dX9_plans_9 : decode cX9_plans 9 = .ok (.iload_n 2, 1) := by decide +kernel
theorem dX9_plans_10 : decode cX9_plans 10 = .ok (.iconst 1, 1) := by decide +kernel
theorem dX9_plans_11 : decode cX9_plans 11 = .ok (.iload_n 1, 1) := by decide +kernel
theorem dX9_plans_12 : decode cX9_plans 12 = .ok (.ishl, 1) := by decide +kernel
theorem dX9_plans_13 : decode cX9_plans 13 = .ok (.if_icmp .ge 20, 3) := by decide +kernel
theorem dX9_plans_16 : decode cX9_plans 16 = .ok (.aload_n 0, 1) := by decide +kernel
theorem dX9_plans_17 : decode cX9_plans 17 = .ok (.getfield 28, 3) := by decide +kernel
theorem dX9_plans_20 : decode cX9_plans 20 = .ok (.iload_n 2, 1) := by decide +kernel
theorem dX9_plans_21 : decode cX9_plans 21 = .ok (.aload_n 0, 1) := by decide +kernel
theorem dX9_plans_22 : decode cX9_plans 22 = .ok (.iload_n 2, 1) := by decide +kernel
theorem dX9_plans_23 : decode cX9_plans 23 = .ok (.invokevirtual 182, 3) := by decide +kernel
theorem dX9_plans_26 : decode cX9_plans 26 = .ok (.iastore, 1) := by decide +kernel
theorem dX9_plans_27 : decode cX9_plans 27 = .ok (.iinc 2 1, 3) := by decide +kernel
theorem dX9_plans_30 : decode cX9_plans 30 = .ok (.goto (-21), 3) := by decide +kernel
theorem dX9_plans_33 : decode cX9_plans 33 = .ok (.iconst 1, 1) := by decide +kernel
theorem dX9_plans_34 : decode cX9_plans 34 = .ok (.istore_n 2, 1) := by decide +kernel
theorem dX9_plans_35 : decode cX9_plans 35 = .ok (.iconst 0, 1) := by decide +kernel
theorem dX9_plans_36 : decode cX9_plans 36 = .ok (.istore_n 3, 1) := by decide +kernel
theorem dX9_plans_37 : decode cX9_plans 37 = .ok (.iload_n 3, 1) := by decide +kernel
theorem dX9_plans_38 : decode cX9_plans 38 = .ok (.aload_n 0, 1) := by decide +kernel
theorem dX9_plans_39 : decode cX9_plans 39 = .ok (.getfield 13, 3) := by decide +kernel
theorem dX9_plans_42 : decode cX9_plans 42 = .ok (.iconst 3, 1) := by decide +kernel
theorem dX9_plans_43 : decode cX9_plans 43 = .ok (.iaload, 1) := by decide +kernel
theorem dX9_plans_44 : decode cX9_plans 44 = .ok (.if_icmp .ge 27, 3) := by decide +kernel
theorem dX9_plans_47 : decode cX9_plans 47 = .ok (.iload_n 2, 1) := by decide +kernel
theorem dX9_plans_48 : decode cX9_plans 48 = .ok (.aload_n 0, 1) := by decide +kernel
theorem dX9_plans_49 : decode cX9_plans 49 = .ok (.iload_n 3, 1) := by decide +kernel
theorem dX9_plans_50 : decode cX9_plans 50 = .ok (.invokevirtual 165, 3) := by decide +kernel
theorem dX9_plans_53 : decode cX9_plans 53 = .ok (.ifCond .le 9, 3) := by decide +kernel
theorem dX9_plans_56 : decode cX9_plans 56 = .ok (.iconst 2, 1) := by decide +kernel
theorem dX9_plans_57 : decode cX9_plans 57 = .ok (.iload_n 1, 1) := by decide +kernel
theorem dX9_plans_58 : decode cX9_plans 58 = .ok (.imul, 1) := by decide +kernel
theorem dX9_plans_59 : decode cX9_plans 59 = .ok (.goto 4, 3) := by decide +kernel
theorem dX9_plans_62 : decode cX9_plans 62 = .ok (.iconst 1, 1) := by decide +kernel
theorem dX9_plans_63 : decode cX9_plans 63 = .ok (.imul, 1) := by decide +kernel
theorem dX9_plans_64 : decode cX9_plans 64 = .ok (.istore_n 2, 1) := by decide +kernel
theorem dX9_plans_65 : decode cX9_plans 65 = .ok (.iinc 3 1, 3) := by decide +kernel
theorem dX9_plans_68 : decode cX9_plans 68 = .ok (.goto (-31), 3) := by decide +kernel
theorem dX9_plans_71 : decode cX9_plans 71 = .ok (.iconst 0, 1) := by decide +kernel
theorem dX9_plans_72 : decode cX9_plans 72 = .ok (.istore_n 3, 1) := by decide +kernel
theorem dX9_plans_73 : decode cX9_plans 73 = .ok (.iconst 0, 1) := by decide +kernel
theorem dX9_plans_74 : decode cX9_plans 74 = .ok (.istore 4, 2) := by decide +kernel
theorem dX9_plans_76 : decode cX9_plans 76 = .ok (.iload 4, 2) := by decide +kernel
theorem dX9_plans_78 : decode cX9_plans 78 = .ok (.iload_n 2, 1) := by decide +kernel
theorem dX9_plans_79 : decode cX9_plans 79 = .ok (.if_icmp .ge 309, 3) := by decide +kernel
theorem dX9_plans_82 : decode cX9_plans 82 = .ok (.iload 4, 2) := by decide +kernel
theorem dX9_plans_84 : decode cX9_plans 84 = .ok (.istore 5, 2) := by decide +kernel
theorem dX9_plans_86 : decode cX9_plans 86 = .ok (.iconst 0, 1) := by decide +kernel
theorem dX9_plans_87 : decode cX9_plans 87 = .ok (.istore 6, 2) := by decide +kernel
theorem dX9_plans_89 : decode cX9_plans 89 = .ok (.iconst 0, 1) := by decide +kernel
theorem dX9_plans_90 : decode cX9_plans 90 = .ok (.istore 7, 2) := by decide +kernel
theorem dX9_plans_92 : decode cX9_plans 92 = .ok (.iconst 1, 1) := by decide +kernel
theorem dX9_plans_93 : decode cX9_plans 93 = .ok (.istore 8, 2) := by decide +kernel
theorem dX9_plans_95 : decode cX9_plans 95 = .ok (.aload_n 0, 1) := by decide +kernel
theorem dX9_plans_96 : decode cX9_plans 96 = .ok (.getfield 13, 3) := by decide +kernel
theorem dX9_plans_99 : decode cX9_plans 99 = .ok (.iconst 3, 1) := by decide +kernel
theorem dX9_plans_100 : decode cX9_plans 100 = .ok (.iaload, 1) := by decide +kernel
theorem dX9_plans_101 : decode cX9_plans 101 = .ok (.iconst 1, 1) := by decide +kernel
theorem dX9_plans_102 : decode cX9_plans 102 = .ok (.isub, 1) := by decide +kernel
theorem dX9_plans_103 : decode cX9_plans 103 = .ok (.istore 9, 2) := by decide +kernel
theorem dX9_plans_105 : decode cX9_plans 105 = .ok (.iload 9, 2) := by decide +kernel
theorem dX9_plans_107 : decode cX9_plans 107 = .ok (.ifCond .lt 147, 3) := by decide +kernel
theorem dX9_plans_110 : decode cX9_plans 110 = .ok (.aload_n 0, 1) := by decide +kernel
theorem dX9_plans_111 : decode cX9_plans 111 = .ok (.getfield 34, 3) := by decide +kernel
theorem dX9_plans_114 : decode cX9_plans 114 = .ok (.iload 9, 2) := by decide +kernel
theorem dX9_plans_116 : decode cX9_plans 116 = .ok (.iaload, 1) := by decide +kernel
theorem dX9_plans_117 : decode cX9_plans 117 = .ok (.iconst 1, 1) := by decide +kernel
theorem dX9_plans_118 : decode cX9_plans 118 = .ok (.if_icmp .ne 12, 3) := by decide +kernel
theorem dX9_plans_121 : decode cX9_plans 121 = .ok (.iload 5, 2) := by decide +kernel
theorem dX9_plans_123 : decode cX9_plans 123 = .ok (.iconst 2, 1) := by decide +kernel
theorem dX9_plans_124 : decode cX9_plans 124 = .ok (.iload_n 1, 1) := by decide +kernel
theorem dX9_plans_125 : decode cX9_plans 125 = .ok (.imul, 1) := by decide +kernel
theorem dX9_plans_126 : decode cX9_plans 126 = .ok (.irem, 1) := by decide +kernel
theorem dX9_plans_127 : decode cX9_plans 127 = .ok (.goto 4, 3) := by decide +kernel
theorem dX9_plans_130 : decode cX9_plans 130 = .ok (.iconst 0, 1) := by decide +kernel
theorem dX9_plans_131 : decode cX9_plans 131 = .ok (.istore 10, 2) := by decide +kernel
theorem dX9_plans_133 : decode cX9_plans 133 = .ok (.aload_n 0, 1) := by decide +kernel
theorem dX9_plans_134 : decode cX9_plans 134 = .ok (.getfield 34, 3) := by decide +kernel
theorem dX9_plans_137 : decode cX9_plans 137 = .ok (.iload 9, 2) := by decide +kernel
theorem dX9_plans_139 : decode cX9_plans 139 = .ok (.iaload, 1) := by decide +kernel
theorem dX9_plans_140 : decode cX9_plans 140 = .ok (.iconst 1, 1) := by decide +kernel
theorem dX9_plans_141 : decode cX9_plans 141 = .ok (.if_icmp .ne 19, 3) := by decide +kernel
theorem dX9_plans_144 : decode cX9_plans 144 = .ok (.aload_n 0, 1) := by decide +kernel
theorem dX9_plans_145 : decode cX9_plans 145 = .ok (.getfield 37, 3) := by decide +kernel
theorem dX9_plans_148 : decode cX9_plans 148 = .ok (.bipush 12, 2) := by decide +kernel
theorem dX9_plans_150 : decode cX9_plans 150 = .ok (.iload 9, 2) := by decide +kernel
theorem dX9_plans_152 : decode cX9_plans 152 = .ok (.imul, 1) := by decide +kernel
theorem dX9_plans_153 : decode cX9_plans 153 = .ok (.iload 10, 2) := by decide +kernel
theorem dX9_plans_155 : decode cX9_plans 155 = .ok (.iadd, 1) := by decide +kernel
theorem dX9_plans_156 : decode cX9_plans 156 = .ok (.iaload, 1) := by decide +kernel
theorem dX9_plans_157 : decode cX9_plans 157 = .ok (.goto 4, 3) := by decide +kernel
theorem dX9_plans_160 : decode cX9_plans 160 = .ok (.iconst 0, 1) := by decide +kernel
theorem dX9_plans_161 : decode cX9_plans 161 = .ok (.istore 11, 2) := by decide +kernel
theorem dX9_plans_163 : decode cX9_plans 163 = .ok (.aload_n 0, 1) := by decide +kernel
theorem dX9_plans_164 : decode cX9_plans 164 = .ok (.getfield 34, 3) := by decide +kernel
theorem dX9_plans_167 : decode cX9_plans 167 = .ok (.iload 9, 2) := by decide +kernel
theorem dX9_plans_169 : decode cX9_plans 169 = .ok (.iaload, 1) := by decide +kernel
theorem dX9_plans_170 : decode cX9_plans 170 = .ok (.iconst 1, 1) := by decide +kernel
theorem dX9_plans_171 : decode cX9_plans 171 = .ok (.if_icmp .ne 12, 3) := by decide +kernel
theorem dX9_plans_174 : decode cX9_plans 174 = .ok (.iload 5, 2) := by decide +kernel
theorem dX9_plans_176 : decode cX9_plans 176 = .ok (.iconst 2, 1) := by decide +kernel
theorem dX9_plans_177 : decode cX9_plans 177 = .ok (.iload_n 1, 1) := by decide +kernel
theorem dX9_plans_178 : decode cX9_plans 178 = .ok (.imul, 1) := by decide +kernel
theorem dX9_plans_179 : decode cX9_plans 179 = .ok (.idiv, 1) := by decide +kernel
theorem dX9_plans_180 : decode cX9_plans 180 = .ok (.goto 5, 3) := by decide +kernel
theorem dX9_plans_183 : decode cX9_plans 183 = .ok (.iload 5, 2) := by decide +kernel
theorem dX9_plans_185 : decode cX9_plans 185 = .ok (.istore 5, 2) := by decide +kernel
theorem dX9_plans_187 : decode cX9_plans 187 = .ok (.iload 6, 2) := by decide +kernel
theorem dX9_plans_189 : decode cX9_plans 189 = .ok (.aload_n 0, 1) := by decide +kernel
theorem dX9_plans_190 : decode cX9_plans 190 = .ok (.getfield 34, 3) := by decide +kernel
theorem dX9_plans_193 : decode cX9_plans 193 = .ok (.iload 9, 2) := by decide +kernel
theorem dX9_plans_195 : decode cX9_plans 195 = .ok (.iaload, 1) := by decide +kernel
theorem dX9_plans_196 : decode cX9_plans 196 = .ok (.iconst 1, 1) := by decide +kernel
theorem dX9_plans_197 : decode cX9_plans 197 = .ok (.if_icmp .ne 12, 3) := by decide +kernel
theorem dX9_plans_200 : decode cX9_plans 200 = .ok (.iconst 1, 1) := by decide +kernel
theorem dX9_plans_201 : decode cX9_plans 201 = .ok (.iload 10, 2) := by decide +kernel
theorem dX9_plans_203 : decode cX9_plans 203 = .ok (.iconst 2, 1) := by decide +kernel
theorem dX9_plans_204 : decode cX9_plans 204 = .ok (.idiv, 1) := by decide +kernel
theorem dX9_plans_205 : decode cX9_plans 205 = .ok (.ishl, 1) := by decide +kernel
theorem dX9_plans_206 : decode cX9_plans 206 = .ok (.goto 4, 3) := by decide +kernel
theorem dX9_plans_209 : decode cX9_plans 209 = .ok (.iconst 0, 1) := by decide +kernel
theorem dX9_plans_210 : decode cX9_plans 210 = .ok (.ior, 1) := by decide +kernel
theorem dX9_plans_211 : decode cX9_plans 211 = .ok (.istore 6, 2) := by decide +kernel
theorem dX9_plans_213 : decode cX9_plans 213 = .ok (.iload 8, 2) := by decide +kernel
theorem dX9_plans_215 : decode cX9_plans 215 = .ok (.ifCond .eq 14, 3) := by decide +kernel
theorem dX9_plans_218 : decode cX9_plans 218 = .ok (.iload 11, 2) := by decide +kernel
theorem dX9_plans_220 : decode cX9_plans 220 = .ok (.bipush (-4), 2) := by decide +kernel
theorem dX9_plans_222 : decode cX9_plans 222 = .ok (.if_icmp .eq 7, 3) := by decide +kernel
theorem dX9_plans_225 : decode cX9_plans 225 = .ok (.iconst 1, 1) := by decide +kernel
theorem dX9_plans_226 : decode cX9_plans 226 = .ok (.goto 4, 3) := by decide +kernel
theorem dX9_plans_229 : decode cX9_plans 229 = .ok (.iconst 0, 1) := by decide +kernel
theorem dX9_plans_230 : decode cX9_plans 230 = .ok (.istore 8, 2) := by decide +kernel
theorem dX9_plans_232 : decode cX9_plans 232 = .ok (.iload 7, 2) := by decide +kernel
theorem dX9_plans_234 : decode cX9_plans 234 = .ok (.iload 11, 2) := by decide +kernel
theorem dX9_plans_236 : decode cX9_plans 236 = .ok (.iadd, 1) := by decide +kernel
theorem dX9_plans_237 : decode cX9_plans 237 = .ok (.istore 7, 2) := by decide +kernel
theorem dX9_plans_239 : decode cX9_plans 239 = .ok (.aload_n 0, 1) := by decide +kernel
theorem dX9_plans_240 : decode cX9_plans 240 = .ok (.getfield 40, 3) := by decide +kernel
theorem dX9_plans_243 : decode cX9_plans 243 = .ok (.iload 9, 2) := by decide +kernel
theorem dX9_plans_245 : decode cX9_plans 245 = .ok (.iload 10, 2) := by decide +kernel
theorem dX9_plans_247 : decode cX9_plans 247 = .ok (.iastore, 1) := by decide +kernel
theorem dX9_plans_248 : decode cX9_plans 248 = .ok (.iinc 9 (-1), 3) := by decide +kernel
theorem dX9_plans_251 : decode cX9_plans 251 = .ok (.goto (-146), 3) := by decide +kernel
theorem dX9_plans_254 : decode cX9_plans 254 = .ok (.iload 7, 2) := by decide +kernel
theorem dX9_plans_256 : decode cX9_plans 256 = .ok (.aload_n 0, 1) := by decide +kernel
theorem dX9_plans_257 : decode cX9_plans 257 = .ok (.getfield 28, 3) := by decide +kernel
theorem dX9_plans_260 : decode cX9_plans 260 = .ok (.iload 6, 2) := by decide +kernel
theorem dX9_plans_262 : decode cX9_plans 262 = .ok (.iaload, 1) := by decide +kernel
theorem dX9_plans_263 : decode cX9_plans 263 = .ok (.iadd, 1) := by decide +kernel
theorem dX9_plans_264 : decode cX9_plans 264 = .ok (.istore 9, 2) := by decide +kernel
theorem dX9_plans_266 : decode cX9_plans 266 = .ok (.iload 8, 2) := by decide +kernel
theorem dX9_plans_268 : decode cX9_plans 268 = .ok (.ifCond .eq 53, 3) := by decide +kernel
theorem dX9_plans_271 : decode cX9_plans 271 = .ok (.iload_n 3, 1) := by decide +kernel
theorem dX9_plans_272 : decode cX9_plans 272 = .ok (.ifCond .eq 45, 3) := by decide +kernel
theorem dX9_plans_275 : decode cX9_plans 275 = .ok (.iload 9, 2) := by decide +kernel
theorem dX9_plans_277 : decode cX9_plans 277 = .ok (.aload_n 0, 1) := by decide +kernel
theorem dX9_plans_278 : decode cX9_plans 278 = .ok (.getfield 185, 3) := by decide +kernel
theorem dX9_plans_281 : decode cX9_plans 281 = .ok (.aload_n 0, 1) := by decide +kernel
theorem dX9_plans_282 : decode cX9_plans 282 = .ok (.getfield 188, 3) := by decide +kernel
theorem dX9_plans_285 : decode cX9_plans 285 = .ok (.iadd, 1) := by decide +kernel
theorem dX9_plans_286 : decode cX9_plans 286 = .ok (.if_icmp .lt 31, 3) := by decide +kernel
theorem dX9_plans_289 : decode cX9_plans 289 = .ok (.iload 9, 2) := by decide +kernel
theorem dX9_plans_291 : decode cX9_plans 291 = .ok (.aload_n 0, 1) := by decide +kernel
theorem dX9_plans_292 : decode cX9_plans 292 = .ok (.getfield 185, 3) := by decide +kernel
theorem dX9_plans_295 : decode cX9_plans 295 = .ok (.aload_n 0, 1) := by decide +kernel
theorem dX9_plans_296 : decode cX9_plans 296 = .ok (.getfield 188, 3) := by decide +kernel
theorem dX9_plans_299 : decode cX9_plans 299 = .ok (.iadd, 1) := by decide +kernel
theorem dX9_plans_300 : decode cX9_plans 300 = .ok (.if_icmp .ne 21, 3) := by decide +kernel
theorem dX9_plans_303 : decode cX9_plans 303 = .ok (.aload_n 0, 1) := by decide +kernel
theorem dX9_plans_304 : decode cX9_plans 304 = .ok (.getfield 28, 3) := by decide +kernel
theorem dX9_plans_307 : decode cX9_plans 307 = .ok (.iload 6, 2) := by decide +kernel
theorem dX9_plans_309 : decode cX9_plans 309 = .ok (.iaload, 1) := by decide +kernel
theorem dX9_plans_310 : decode cX9_plans 310 = .ok (.aload_n 0, 1) := by decide +kernel
theorem dX9_plans_311 : decode cX9_plans 311 = .ok (.getfield 188, 3) := by decide +kernel
theorem dX9_plans_314 : decode cX9_plans 314 = .ok (.if_icmp .ge 7, 3) := by decide +kernel
theorem dX9_plans_317 : decode cX9_plans 317 = .ok (.iconst 1, 1) := by decide +kernel
theorem dX9_plans_318 : decode cX9_plans 318 = .ok (.goto 4, 3) := by decide +kernel
theorem dX9_plans_321 : decode cX9_plans 321 = .ok (.iconst 0, 1) := by decide +kernel
theorem dX9_plans_322 : decode cX9_plans 322 = .ok (.istore 10, 2) := by decide +kernel
theorem dX9_plans_324 : decode cX9_plans 324 = .ok (.iload 10, 2) := by decide +kernel
theorem dX9_plans_326 : decode cX9_plans 326 = .ok (.ifCond .eq 56, 3) := by decide +kernel
theorem dX9_plans_329 : decode cX9_plans 329 = .ok (.iconst 1, 1) := by decide +kernel
theorem dX9_plans_330 : decode cX9_plans 330 = .ok (.istore_n 3, 1) := by decide +kernel
theorem dX9_plans_331 : decode cX9_plans 331 = .ok (.aload_n 0, 1) := by decide +kernel
theorem dX9_plans_332 : decode cX9_plans 332 = .ok (.iload 7, 2) := by decide +kernel
theorem dX9_plans_334 : decode cX9_plans 334 = .ok (.putfield 185, 3) := by decide +kernel
theorem dX9_plans_337 : decode cX9_plans 337 = .ok (.aload_n 0, 1) := by decide +kernel
theorem dX9_plans_338 : decode cX9_plans 338 = .ok (.aload_n 0, 1) := by decide +kernel
theorem dX9_plans_339 : decode cX9_plans 339 = .ok (.getfield 28, 3) := by decide +kernel
theorem dX9_plans_342 : decode cX9_plans 342 = .ok (.iload 6, 2) := by decide +kernel
theorem dX9_plans_344 : decode cX9_plans 344 = .ok (.iaload, 1) := by decide +kernel
theorem dX9_plans_345 : decode cX9_plans 345 = .ok (.putfield 188, 3) := by decide +kernel
theorem dX9_plans_348 : decode cX9_plans 348 = .ok (.iconst 0, 1) := by decide +kernel
theorem dX9_plans_349 : decode cX9_plans 349 = .ok (.istore 11, 2) := by decide +kernel
theorem dX9_plans_351 : decode cX9_plans 351 = .ok (.iload 11, 2) := by decide +kernel
theorem dX9_plans_353 : decode cX9_plans 353 = .ok (.aload_n 0, 1) := by decide +kernel
theorem dX9_plans_354 : decode cX9_plans 354 = .ok (.getfield 13, 3) := by decide +kernel
theorem dX9_plans_357 : decode cX9_plans 357 = .ok (.iconst 3, 1) := by decide +kernel
theorem dX9_plans_358 : decode cX9_plans 358 = .ok (.iaload, 1) := by decide +kernel
theorem dX9_plans_359 : decode cX9_plans 359 = .ok (.if_icmp .ge 23, 3) := by decide +kernel
theorem dX9_plans_362 : decode cX9_plans 362 = .ok (.aload_n 0, 1) := by decide +kernel
theorem dX9_plans_363 : decode cX9_plans 363 = .ok (.getfield 31, 3) := by decide +kernel
theorem dX9_plans_366 : decode cX9_plans 366 = .ok (.iload 11, 2) := by decide +kernel
theorem dX9_plans_368 : decode cX9_plans 368 = .ok (.aload_n 0, 1) := by decide +kernel
theorem dX9_plans_369 : decode cX9_plans 369 = .ok (.getfield 40, 3) := by decide +kernel
theorem dX9_plans_372 : decode cX9_plans 372 = .ok (.iload 11, 2) := by decide +kernel
theorem dX9_plans_374 : decode cX9_plans 374 = .ok (.iaload, 1) := by decide +kernel
theorem dX9_plans_375 : decode cX9_plans 375 = .ok (.iastore, 1) := by decide +kernel
theorem dX9_plans_376 : decode cX9_plans 376 = .ok (.iinc 11 1, 3) := by decide +kernel
theorem dX9_plans_379 : decode cX9_plans 379 = .ok (.goto (-28), 3) := by decide +kernel
theorem dX9_plans_382 : decode cX9_plans 382 = .ok (.iinc 4 1, 3) := by decide +kernel
theorem dX9_plans_385 : decode cX9_plans 385 = .ok (.goto (-309), 3) := by decide +kernel
theorem dX9_plans_388 : decode cX9_plans 388 = .ok (.iload_n 3, 1) := by decide +kernel
theorem dX9_plans_389 : decode cX9_plans 389 = .ok (.ireturn, 1) := by decide +kernel
theorem dX9_looks_0 : decode cX9_looks 0 = .ok (.iconst 0, 1) := by decide +kernel
theorem dX9_looks_1 : decode cX9_looks 1 = .ok (.istore_n 1, 1) := by decide +kernel
theorem dX9_looks_2 : decode cX9_looks 2 = .ok (.iload_n 1, 1) := by decide +kernel
theorem dX9_looks_3 : decode cX9_looks 3 = .ok (.aload_n 0, 1) := by decide +kernel
theorem dX9_looks_4 : decode cX9_looks 4 = .ok (.getfield 13, 3) := by decide +kernel
theorem dX9_looks_7 : decode cX9_looks 7 = .ok (.iconst 3, 1) := by decide +kernel
theorem dX9_looks_8 : decode cX9_looks 8 = .ok (.iaload, 1) := by decide +kernel
theorem dX9_looks_9 : decode cX9_looks 9 = .ok (.if_icmp .ge 70, 3) := by decide +kernel
theorem dX9_looks_12 : decode cX9_looks 12 = .ok (.aload_n 0, 1) := by decide +kernel
theorem dX9_looks_13 : decode cX9_looks 13 = .ok (.getfield 34, 3) := by decide +kernel
theorem dX9_looks_16 : decode cX9_looks 16 = .ok (.iload_n 1, 1) := by decide +kernel
theorem dX9_looks_17 : decode cX9_looks 17 = .ok (.aload_n 0, 1) := by decide +kernel
theorem dX9_looks_18 : decode cX9_looks 18 = .ok (.iload_n 1, 1) := by decide +kernel
theorem dX9_looks_19 : decode cX9_looks 19 = .ok (.invokevirtual 165, 3) := by decide +kernel
theorem dX9_looks_22 : decode cX9_looks 22 = .ok (.ifCond .le 7, 3) := by decide +kernel
theorem dX9_looks_25 : decode cX9_looks 25 = .ok (.iconst 1, 1) := by decide +kernel
theorem dX9_looks_26 : decode cX9_looks 26 = .ok (.goto 4, 3) := by decide +kernel
theorem dX9_looks_29 : decode cX9_looks 29 = .ok (.iconst 0, 1) := by decide +kernel
theorem dX9_looks_30 : decode cX9_looks 30 = .ok (.iastore, 1) := by decide +kernel
theorem dX9_looks_31 : decode cX9_looks 31 = .ok (.iconst 0, 1) := by decide +kernel
theorem dX9_looks_32 : decode cX9_looks 32 = .ok (.istore_n 2, 1) := by decide +kernel
theorem dX9_looks_33 : decode cX9_looks 33 = .ok (.iload_n 2, 1) := by decide +kernel
theorem dX9_looks_34 : decode cX9_looks 34 = .ok (.iconst 2, 1) := by decide +kernel
theorem dX9_looks_35 : decode cX9_looks 35 = .ok (.aload_n 0, 1) := by decide +kernel
theorem dX9_looks_36 : decode cX9_looks 36 = .ok (.getfield 13, 3) := by decide +kernel
theorem dX9_looks_39 : decode cX9_looks 39 = .ok (.iconst 2, 1) := by decide +kernel
theorem dX9_looks_40 : decode cX9_looks 40 = .ok (.iaload, 1) := by decide +kernel
theorem dX9_looks_41 : decode cX9_looks 41 = .ok (.imul, 1) := by decide +kernel
theorem dX9_looks_42 : decode cX9_looks 42 = .ok (.if_icmp .ge 31, 3) := by decide +kernel
theorem dX9_looks_45 : decode cX9_looks 45 = .ok (.aload_n 0, 1) := by decide +kernel
theorem dX9_looks_46 : decode cX9_looks 46 = .ok (.getfield 37, 3) := by decide +kernel
theorem dX9_looks_49 : decode cX9_looks 49 = .ok (.bipush 12, 2) := by decide +kernel
theorem dX9_looks_51 : decode cX9_looks 51 = .ok (.iload_n 1, 1) := by decide +kernel
theorem dX9_looks_52 : decode cX9_looks 52 = .ok (.imul, 1) := by decide +kernel
theorem dX9_looks_53 : decode cX9_looks 53 = .ok (.iload_n 2, 1) := by decide +kernel
theorem dX9_looks_54 : decode cX9_looks 54 = .ok (.iadd, 1) := by decide +kernel
theorem dX9_looks_55 : decode cX9_looks 55 = .ok (.aload_n 0, 1) := by decide +kernel
theorem dX9_looks_56 : decode cX9_looks 56 = .ok (.iload_n 1, 1) := by decide +kernel
theorem dX9_looks_57 : decode cX9_looks 57 = .ok (.iload_n 2, 1) := by decide +kernel
theorem dX9_looks_58 : decode cX9_looks 58 = .ok (.iconst 2, 1) := by decide +kernel
theorem dX9_looks_59 : decode cX9_looks 59 = .ok (.idiv, 1) := by decide +kernel
theorem dX9_looks_60 : decode cX9_looks 60 = .ok (.iload_n 2, 1) := by decide +kernel
theorem dX9_looks_61 : decode cX9_looks 61 = .ok (.iconst 2, 1) := by decide +kernel
theorem dX9_looks_62 : decode cX9_looks 62 = .ok (.irem, 1) := by decide +kernel
theorem dX9_looks_63 : decode cX9_looks 63 = .ok (.invokevirtual 161, 3) := by decide +kernel
theorem dX9_looks_66 : decode cX9_looks 66 = .ok (.iastore, 1) := by decide +kernel
theorem dX9_looks_67 : decode cX9_looks 67 = .ok (.iinc 2 1, 3) := by decide +kernel
theorem dX9_looks_70 : decode cX9_looks 70 = .ok (.goto (-37), 3) := by decide +kernel
theorem dX9_looks_73 : decode cX9_looks 73 = .ok (.iinc 1 1, 3) := by decide +kernel
theorem dX9_looks_76 : decode cX9_looks 76 = .ok (.goto (-74), 3) := by decide +kernel
theorem dX9_looks_79 : decode cX9_looks 79 = .ok (.return_, 1) := by decide +kernel
theorem dX9_plan_0 : decode cX9_plan 0 = .ok (.iload_n 1, 1) := by decide +kernel
theorem dX9_plan_1 : decode cX9_plan 1 = .ok (.i2l, 1) := by decide +kernel
theorem dX9_plan_2 : decode cX9_plan 2 = .ok (.ldc2_w 191, 3) := by decide +kernel
theorem dX9_plan_5 : decode cX9_plan 5 = .ok (.aload_n 0, 1) := by decide +kernel
theorem dX9_plan_6 : decode cX9_plan 6 = .ok (.getfield 13, 3) := by decide +kernel
theorem dX9_plan_9 : decode cX9_plan 9 = .ok (.iconst 3, 1) := by decide +kernel
theorem dX9_plan_10 : decode cX9_plan 10 = .ok (.iaload, 1) := by decide +kernel
theorem dX9_plan_11 : decode cX9_plan 11 = .ok (.iconst 1, 1) := by decide +kernel
theorem dX9_plan_12 : decode cX9_plan 12 = .ok (.isub, 1) := by decide +kernel
theorem dX9_plan_13 : decode cX9_plan 13 = .ok (.i2l, 1) := by decide +kernel
theorem dX9_plan_14 : decode cX9_plan 14 = .ok (.invokestatic 58, 3) := by decide +kernel
theorem dX9_plan_17 : decode cX9_plan 17 = .ok (.ifCond .ne 5, 3) := by decide +kernel
theorem dX9_plan_20 : decode cX9_plan 20 = .ok (.iconst (-1), 1) := by decide +kernel
theorem dX9_plan_21 : decode cX9_plan 21 = .ok (.ireturn, 1) := by decide +kernel
theorem dX9_plan_22 : decode cX9_plan 22 = .ok (.aload_n 0, 1) := by decide +kernel
theorem dX9_plan_23 : decode cX9_plan 23 = .ok (.invokevirtual 193, 3) := by decide +kernel
theorem dX9_plan_26 : decode cX9_plan 26 = .ok (.aload_n 0, 1) := by decide +kernel
theorem dX9_plan_27 : decode cX9_plan 27 = .ok (.invokevirtual 196, 3) := by decide +kernel
theorem dX9_plan_30 : decode cX9_plan 30 = .ok (.ifCond .ne 6, 3) := by decide +kernel
theorem dX9_plan_33 : decode cX9_plan 33 = .ok (.bipush (-4), 2) := by decide +kernel
theorem dX9_plan_35 : decode cX9_plan 35 = .ok (.ireturn, 1) := by decide +kernel
theorem dX9_plan_36 : decode cX9_plan 36 = .ok (.iload_n 1, 1) := by decide +kernel
theorem dX9_plan_37 : decode cX9_plan 37 = .ok (.iconst (-1), 1) := by decide +kernel
theorem dX9_plan_38 : decode cX9_plan 38 = .ok (.if_icmp .ne 10, 3) := by decide +kernel
theorem dX9_plan_41 : decode cX9_plan 41 = .ok (.aload_n 0, 1) := by decide +kernel
theorem dX9_plan_42 : decode cX9_plan 42 = .ok (.getfield 185, 3) := by decide +kernel
theorem dX9_plan_45 : decode cX9_plan 45 = .ok (.goto 37, 3) := by decide +kernel
theorem dX9_plan_48 : decode cX9_plan 48 = .ok (.iload_n 1, 1) := by decide +kernel
theorem dX9_plan_49 : decode cX9_plan 49 = .ok (.bipush (-2), 2) := by decide +kernel
theorem dX9_plan_51 : decode cX9_plan 51 = .ok (.if_icmp .ne 10, 3) := by decide +kernel
theorem dX9_plan_54 : decode cX9_plan 54 = .ok (.aload_n 0, 1) := by decide +kernel
theorem dX9_plan_55 : decode cX9_plan 55 = .ok (.getfield 188, 3) := by decide +kernel
theorem dX9_plan_58 : decode cX9_plan 58 = .ok (.goto 24, 3) := by decide +kernel
theorem dX9_plan_61 : decode cX9_plan 61 = .ok (.aload_n 0, 1) := by decide +kernel
theorem dX9_plan_62 : decode cX9_plan 62 = .ok (.getfield 34, 3) := by decide +kernel
theorem dX9_plan_65 : decode cX9_plan 65 = .ok (.iload_n 1, 1) := by decide +kernel
theorem dX9_plan_66 : decode cX9_plan 66 = .ok (.iaload, 1) := by decide +kernel
theorem dX9_plan_67 : decode cX9_plan 67 = .ok (.iconst 1, 1) := by decide +kernel
theorem dX9_plan_68 : decode cX9_plan 68 = .ok (.if_icmp .ne 12, 3) := by decide +kernel
theorem dX9_plan_71 : decode cX9_plan 71 = .ok (.aload_n 0, 1) := by decide +kernel
theorem dX9_plan_72 : decode cX9_plan 72 = .ok (.getfield 31, 3) := by decide +kernel
theorem dX9_plan_75 : decode cX9_plan 75 = .ok (.iload_n 1, 1) := by decide +kernel
theorem dX9_plan_76 : decode cX9_plan 76 = .ok (.iaload, 1) := by decide +kernel
theorem dX9_plan_77 : decode cX9_plan 77 = .ok (.goto 5, 3) := by decide +kernel
theorem dX9_plan_80 : decode cX9_plan 80 = .ok (.bipush (-4), 2) := by decide +kernel
theorem dX9_plan_82 : decode cX9_plan 82 = .ok (.ireturn, 1) := by decide +kernel
theorem dX9_drawn_0 : decode cX9_drawn 0 = .ok (.iload_n 1, 1) := by decide +kernel
theorem dX9_drawn_1 : decode cX9_drawn 1 = .ok (.ifCond .ge 5, 3) := by decide +kernel
theorem dX9_drawn_4 : decode cX9_drawn 4 = .ok (.iconst (-1), 1) := by decide +kernel
theorem dX9_drawn_5 : decode cX9_drawn 5 = .ok (.ireturn, 1) := by decide +kernel
theorem dX9_drawn_6 : decode cX9_drawn 6 = .ok (.aload_n 0, 1) := by decide +kernel
theorem dX9_drawn_7 : decode cX9_drawn 7 = .ok (.getfield 13, 3) := by decide +kernel
theorem dX9_drawn_10 : decode cX9_drawn 10 = .ok (.iconst 0, 1) := by decide +kernel
theorem dX9_drawn_11 : decode cX9_drawn 11 = .ok (.iaload, 1) := by decide +kernel
theorem dX9_drawn_12 : decode cX9_drawn 12 = .ok (.iconst 1, 1) := by decide +kernel
theorem dX9_drawn_13 : decode cX9_drawn 13 = .ok (.iadd, 1) := by decide +kernel
theorem dX9_drawn_14 : decode cX9_drawn 14 = .ok (.istore_n 2, 1) := by decide +kernel
theorem dX9_drawn_15 : decode cX9_drawn 15 = .ok (.iload_n 1, 1) := by decide +kernel
theorem dX9_drawn_16 : decode cX9_drawn 16 = .ok (.iload_n 2, 1) := by decide +kernel
theorem dX9_drawn_17 : decode cX9_drawn 17 = .ok (.irem, 1) := by decide +kernel
theorem dX9_drawn_18 : decode cX9_drawn 18 = .ok (.istore_n 3, 1) := by decide +kernel
theorem dX9_drawn_19 : decode cX9_drawn 19 = .ok (.iload_n 1, 1) := by decide +kernel
theorem dX9_drawn_20 : decode cX9_drawn 20 = .ok (.iload_n 2, 1) := by decide +kernel
theorem dX9_drawn_21 : decode cX9_drawn 21 = .ok (.idiv, 1) := by decide +kernel
theorem dX9_drawn_22 : decode cX9_drawn 22 = .ok (.istore 4, 2) := by decide +kernel
theorem dX9_drawn_24 : decode cX9_drawn 24 = .ok (.iload 4, 2) := by decide +kernel
theorem dX9_drawn_26 : decode cX9_drawn 26 = .ok (.aload_n 0, 1) := by decide +kernel
theorem dX9_drawn_27 : decode cX9_drawn 27 = .ok (.getfield 13, 3) := by decide +kernel
theorem dX9_drawn_30 : decode cX9_drawn 30 = .ok (.iconst 1, 1) := by decide +kernel
theorem dX9_drawn_31 : decode cX9_drawn 31 = .ok (.iaload, 1) := by decide +kernel
theorem dX9_drawn_32 : decode cX9_drawn 32 = .ok (.if_icmp .lt 6, 3) := by decide +kernel
theorem dX9_drawn_35 : decode cX9_drawn 35 = .ok (.bipush (-4), 2) := by decide +kernel
theorem dX9_drawn_37 : decode cX9_drawn 37 = .ok (.ireturn, 1) := by decide +kernel
theorem dX9_drawn_38 : decode cX9_drawn 38 = .ok (.iload_n 3, 1) := by decide +kernel
theorem dX9_drawn_39 : decode cX9_drawn 39 = .ok (.aload_n 0, 1) := by decide +kernel
theorem dX9_drawn_40 : decode cX9_drawn 40 = .ok (.getfield 13, 3) := by decide +kernel
theorem dX9_drawn_43 : decode cX9_drawn 43 = .ok (.iconst 0, 1) := by decide +kernel
theorem dX9_drawn_44 : decode cX9_drawn 44 = .ok (.iaload, 1) := by decide +kernel
theorem dX9_drawn_45 : decode cX9_drawn 45 = .ok (.if_icmp .ne 8, 3) := by decide +kernel
theorem dX9_drawn_48 : decode cX9_drawn 48 = .ok (.bipush 47, 2) := by decide +kernel
theorem dX9_drawn_50 : decode cX9_drawn 50 = .ok (.goto 60, 3) := by decide +kernel
theorem dX9_drawn_53 : decode cX9_drawn 53 = .ok (.aload_n 0, 1) := by decide +kernel
theorem dX9_drawn_54 : decode cX9_drawn 54 = .ok (.iload_n 3, 1) := by decide +kernel
theorem dX9_drawn_55 : decode cX9_drawn 55 = .ok (.iload 4, 2) := by decide +kernel
theorem dX9_drawn_57 : decode cX9_drawn 57 = .ok (.invokevirtual 127, 3) := by decide +kernel
theorem dX9_drawn_60 : decode cX9_drawn 60 = .ok (.bipush (-4), 2) := by decide +kernel
theorem dX9_drawn_62 : decode cX9_drawn 62 = .ok (.if_icmp .eq 8, 3) := by decide +kernel
theorem dX9_drawn_65 : decode cX9_drawn 65 = .ok (.bipush 99, 2) := by decide +kernel
theorem dX9_drawn_67 : decode cX9_drawn 67 = .ok (.goto 43, 3) := by decide +kernel
theorem dX9_drawn_70 : decode cX9_drawn 70 = .ok (.aload_n 0, 1) := by decide +kernel
theorem dX9_drawn_71 : decode cX9_drawn 71 = .ok (.getfield 19, 3) := by decide +kernel
theorem dX9_drawn_74 : decode cX9_drawn 74 = .ok (.bipush 12, 2) := by decide +kernel
theorem dX9_drawn_76 : decode cX9_drawn 76 = .ok (.iload 4, 2) := by decide +kernel
theorem dX9_drawn_78 : decode cX9_drawn 78 = .ok (.imul, 1) := by decide +kernel
theorem dX9_drawn_79 : decode cX9_drawn 79 = .ok (.iload_n 3, 1) := by decide +kernel
theorem dX9_drawn_80 : decode cX9_drawn 80 = .ok (.iadd, 1) := by decide +kernel
theorem dX9_drawn_81 : decode cX9_drawn 81 = .ok (.iaload, 1) := by decide +kernel
theorem dX9_drawn_82 : decode cX9_drawn 82 = .ok (.iconst 1, 1) := by decide +kernel
theorem dX9_drawn_83 : decode cX9_drawn 83 = .ok (.if_icmp .ne 8, 3) := by decide +kernel
theorem dX9_drawn_86 : decode cX9_drawn 86 = .ok (.bipush 111, 2) := by decide +kernel
theorem dX9_drawn_88 : decode cX9_drawn 88 = .ok (.goto 22, 3) := by decide +kernel
theorem dX9_drawn_91 : decode cX9_drawn 91 = .ok (.aload_n 0, 1) := by decide +kernel
theorem dX9_drawn_92 : decode cX9_drawn 92 = .ok (.iload_n 3, 1) := by decide +kernel
theorem dX9_drawn_93 : decode cX9_drawn 93 = .ok (.iload 4, 2) := by decide +kernel
theorem dX9_drawn_95 : decode cX9_drawn 95 = .ok (.invokevirtual 124, 3) := by decide +kernel
theorem dX9_drawn_98 : decode cX9_drawn 98 = .ok (.bipush (-4), 2) := by decide +kernel
theorem dX9_drawn_100 : decode cX9_drawn 100 = .ok (.if_icmp .eq 8, 3) := by decide +kernel
theorem dX9_drawn_103 : decode cX9_drawn 103 = .ok (.bipush 35, 2) := by decide +kernel
theorem dX9_drawn_105 : decode cX9_drawn 105 = .ok (.goto 5, 3) := by decide +kernel
theorem dX9_drawn_108 : decode cX9_drawn 108 = .ok (.bipush 46, 2) := by decide +kernel
theorem dX9_drawn_110 : decode cX9_drawn 110 = .ok (.ireturn, 1) := by decide +kernel
theorem dX9_count_0 : decode cX9_count 0 = .ok (.iconst 0, 1) := by decide +kernel
theorem dX9_count_1 : decode cX9_count 1 = .ok (.istore_n 2, 1) := by decide +kernel
theorem dX9_count_2 : decode cX9_count 2 = .ok (.iconst 0, 1) := by decide +kernel
theorem dX9_count_3 : decode cX9_count 3 = .ok (.istore_n 3, 1) := by decide +kernel
theorem dX9_count_4 : decode cX9_count 4 = .ok (.iload_n 3, 1) := by decide +kernel
theorem dX9_count_5 : decode cX9_count 5 = .ok (.sipush 144, 3) := by decide +kernel
theorem dX9_count_8 : decode cX9_count 8 = .ok (.if_icmp .ge 18, 3) := by decide +kernel
theorem dX9_count_11 : decode cX9_count 11 = .ok (.iload_n 2, 1) := by decide +kernel
theorem dX9_count_12 : decode cX9_count 12 = .ok (.aload_n 0, 1) := by decide +kernel
theorem dX9_count_13 : decode cX9_count 13 = .ok (.getfield 19, 3) := by decide +kernel
theorem dX9_count_16 : decode cX9_count 16 = .ok (.iload_n 3, 1) := by decide +kernel
theorem dX9_count_17 : decode cX9_count 17 = .ok (.iaload, 1) := by decide +kernel
theorem dX9_count_18 : decode cX9_count 18 = .ok (.iadd, 1) := by decide +kernel
theorem dX9_count_19 : decode cX9_count 19 = .ok (.istore_n 2, 1) := by decide +kernel
theorem dX9_count_20 : decode cX9_count 20 = .ok (.iinc 3 1, 3) := by decide +kernel
theorem dX9_count_23 : decode cX9_count 23 = .ok (.goto (-19), 3) := by decide +kernel
theorem dX9_count_26 : decode cX9_count 26 = .ok (.iconst 0, 1) := by decide +kernel
theorem dX9_count_27 : decode cX9_count 27 = .ok (.istore_n 3, 1) := by decide +kernel
theorem dX9_count_28 : decode cX9_count 28 = .ok (.iconst 0, 1) := by decide +kernel
theorem dX9_count_29 : decode cX9_count 29 = .ok (.istore 4, 2) := by decide +kernel
theorem dX9_count_31 : decode cX9_count 31 = .ok (.iload 4, 2) := by decide +kernel
theorem dX9_count_33 : decode cX9_count 33 = .ok (.aload_n 0, 1) := by decide +kernel
theorem dX9_count_34 : decode cX9_count 34 = .ok (.getfield 13, 3) := by decide +kernel
theorem dX9_count_37 : decode cX9_count 37 = .ok (.iconst 3, 1) := by decide +kernel
theorem dX9_count_38 : decode cX9_count 38 = .ok (.iaload, 1) := by decide +kernel
theorem dX9_count_39 : decode cX9_count 39 = .ok (.if_icmp .ge 26, 3) := by decide +kernel
theorem dX9_count_42 : decode cX9_count 42 = .ok (.iload_n 3, 1) := by decide +kernel
theorem dX9_count_43 : decode cX9_count 43 = .ok (.aload_n 0, 1) := by decide +kernel
theorem dX9_count_44 : decode cX9_count 44 = .ok (.iload 4, 2) := by decide +kernel
theorem dX9_count_46 : decode cX9_count 46 = .ok (.invokevirtual 165, 3) := by decide +kernel
theorem dX9_count_49 : decode cX9_count 49 = .ok (.ifCond .ne 7, 3) := by decide +kernel
theorem dX9_count_52 : decode cX9_count 52 = .ok (.iconst 1, 1) := by decide +kernel
theorem dX9_count_53 : decode cX9_count 53 = .ok (.goto 4, 3) := by decide +kernel
theorem dX9_count_56 : decode cX9_count 56 = .ok (.iconst 0, 1) := by decide +kernel
theorem dX9_count_57 : decode cX9_count 57 = .ok (.iadd, 1) := by decide +kernel
theorem dX9_count_58 : decode cX9_count 58 = .ok (.istore_n 3, 1) := by decide +kernel
theorem dX9_count_59 : decode cX9_count 59 = .ok (.iinc 4 1, 3) := by decide +kernel
theorem dX9_count_62 : decode cX9_count 62 = .ok (.goto (-31), 3) := by decide +kernel
theorem dX9_count_65 : decode cX9_count 65 = .ok (.iload_n 1, 1) := by decide +kernel
theorem dX9_count_66 : decode cX9_count 66 = .ok (.tableswitch 109 0 12 #[66, 66, 66, 66, 66, 73, 73, 73, 86, 88, 90, 99, 104], 66) := by decide +kernel
theorem dX9_count_132 : decode cX9_count 132 = .ok (.aload_n 0, 1) := by decide +kernel
theorem dX9_count_133 : decode cX9_count 133 = .ok (.getfield 13, 3) := by decide +kernel
theorem dX9_count_136 : decode cX9_count 136 = .ok (.iload_n 1, 1) := by decide +kernel
theorem dX9_count_137 : decode cX9_count 137 = .ok (.iaload, 1) := by decide +kernel
theorem dX9_count_138 : decode cX9_count 138 = .ok (.ireturn, 1) := by decide +kernel
theorem dX9_count_139 : decode cX9_count 139 = .ok (.aload_n 0, 1) := by decide +kernel
theorem dX9_count_140 : decode cX9_count 140 = .ok (.getfield 19, 3) := by decide +kernel
theorem dX9_count_143 : decode cX9_count 143 = .ok (.sipush 153, 3) := by decide +kernel
theorem dX9_count_146 : decode cX9_count 146 = .ok (.iload_n 1, 1) := by decide +kernel
theorem dX9_count_147 : decode cX9_count 147 = .ok (.iadd, 1) := by decide +kernel
theorem dX9_count_148 : decode cX9_count 148 = .ok (.iconst 5, 1) := by decide +kernel
theorem dX9_count_149 : decode cX9_count 149 = .ok (.isub, 1) := by decide +kernel
theorem dX9_count_150 : decode cX9_count 150 = .ok (.iaload, 1) := by decide +kernel
theorem dX9_count_151 : decode cX9_count 151 = .ok (.ireturn, 1) := by decide +kernel
theorem dX9_count_152 : decode cX9_count 152 = .ok (.iload_n 2, 1) := by decide +kernel
theorem dX9_count_153 : decode cX9_count 153 = .ok (.ireturn, 1) := by decide +kernel
theorem dX9_count_154 : decode cX9_count 154 = .ok (.iload_n 3, 1) := by decide +kernel
theorem dX9_count_155 : decode cX9_count 155 = .ok (.ireturn, 1) := by decide +kernel
theorem dX9_count_156 : decode cX9_count 156 = .ok (.aload_n 0, 1) := by decide +kernel
theorem dX9_count_157 : decode cX9_count 157 = .ok (.getfield 19, 3) := by decide +kernel
theorem dX9_count_160 : decode cX9_count 160 = .ok (.sipush 150, 3) := by decide +kernel
theorem dX9_count_163 : decode cX9_count 163 = .ok (.iaload, 1) := by decide +kernel
theorem dX9_count_164 : decode cX9_count 164 = .ok (.ireturn, 1) := by decide +kernel
theorem dX9_count_165 : decode cX9_count 165 = .ok (.aload_n 0, 1) := by decide +kernel
theorem dX9_count_166 : decode cX9_count 166 = .ok (.getfield 50, 3) := by decide +kernel
theorem dX9_count_169 : decode cX9_count 169 = .ok (.ireturn, 1) := by decide +kernel
theorem dX9_count_170 : decode cX9_count 170 = .ok (.aload_n 0, 1) := by decide +kernel
theorem dX9_count_171 : decode cX9_count 171 = .ok (.getfield 62, 3) := by decide +kernel
theorem dX9_count_174 : decode cX9_count 174 = .ok (.ireturn, 1) := by decide +kernel
theorem dX9_count_175 : decode cX9_count 175 = .ok (.iconst (-1), 1) := by decide +kernel
theorem dX9_count_176 : decode cX9_count 176 = .ok (.ireturn, 1) := by decide +kernel
theorem dJ6_bitCount_0f7a4_0 : decode cJ6_bitCount_0f7a4 0 = .ok (.iload_n 0, 1) := by decide +kernel
theorem dJ6_bitCount_0f7a4_1 : decode cJ6_bitCount_0f7a4 1 = .ok (.iload_n 0, 1) := by decide +kernel
theorem dJ6_bitCount_0f7a4_2 : decode cJ6_bitCount_0f7a4 2 = .ok (.iconst 1, 1) := by decide +kernel
theorem dJ6_bitCount_0f7a4_3 : decode cJ6_bitCount_0f7a4 3 = .ok (.iushr, 1) := by decide +kernel
theorem dJ6_bitCount_0f7a4_4 : decode cJ6_bitCount_0f7a4 4 = .ok (.ldc_w 265, 3) := by decide +kernel
theorem dJ6_bitCount_0f7a4_7 : decode cJ6_bitCount_0f7a4 7 = .ok (.iand, 1) := by decide +kernel
theorem dJ6_bitCount_0f7a4_8 : decode cJ6_bitCount_0f7a4 8 = .ok (.isub, 1) := by decide +kernel
theorem dJ6_bitCount_0f7a4_9 : decode cJ6_bitCount_0f7a4 9 = .ok (.istore_n 0, 1) := by decide +kernel
theorem dJ6_bitCount_0f7a4_10 : decode cJ6_bitCount_0f7a4 10 = .ok (.iload_n 0, 1) := by decide +kernel
theorem dJ6_bitCount_0f7a4_11 : decode cJ6_bitCount_0f7a4 11 = .ok (.ldc_w 266, 3) := by decide +kernel
theorem dJ6_bitCount_0f7a4_14 : decode cJ6_bitCount_0f7a4 14 = .ok (.iand, 1) := by decide +kernel
theorem dJ6_bitCount_0f7a4_15 : decode cJ6_bitCount_0f7a4 15 = .ok (.iload_n 0, 1) := by decide +kernel
theorem dJ6_bitCount_0f7a4_16 : decode cJ6_bitCount_0f7a4 16 = .ok (.iconst 2, 1) := by decide +kernel
theorem dJ6_bitCount_0f7a4_17 : decode cJ6_bitCount_0f7a4 17 = .ok (.iushr, 1) := by decide +kernel
theorem dJ6_bitCount_0f7a4_18 : decode cJ6_bitCount_0f7a4 18 = .ok (.ldc_w 266, 3) := by decide +kernel
theorem dJ6_bitCount_0f7a4_21 : decode cJ6_bitCount_0f7a4 21 = .ok (.iand, 1) := by decide +kernel
theorem dJ6_bitCount_0f7a4_22 : decode cJ6_bitCount_0f7a4 22 = .ok (.iadd, 1) := by decide +kernel
theorem dJ6_bitCount_0f7a4_23 : decode cJ6_bitCount_0f7a4 23 = .ok (.istore_n 0, 1) := by decide +kernel
theorem dJ6_bitCount_0f7a4_24 : decode cJ6_bitCount_0f7a4 24 = .ok (.iload_n 0, 1) := by decide +kernel
theorem dJ6_bitCount_0f7a4_25 : decode cJ6_bitCount_0f7a4 25 = .ok (.iload_n 0, 1) := by decide +kernel
theorem dJ6_bitCount_0f7a4_26 : decode cJ6_bitCount_0f7a4 26 = .ok (.iconst 4, 1) := by decide +kernel
theorem dJ6_bitCount_0f7a4_27 : decode cJ6_bitCount_0f7a4 27 = .ok (.iushr, 1) := by decide +kernel
