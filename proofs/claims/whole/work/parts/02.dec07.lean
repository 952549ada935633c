theorem dX9_parts_4 : decode cX9_parts 4 = .ok (.isub, 1) := by decide +kernel
theorem dX9_parts_5 : decode cX9_parts 5 = .ok (.iload_n 1, 1) := by decide +kernel
theorem dX9_parts_6 : decode cX9_parts 6 = .ok (.idiv, 1) := by decide +kernel
theorem dX9_parts_7 : decode cX9_parts 7 = .ok (.ireturn, 1) := by decide +kernel
theorem dX9_nibbles_0 : decode cX9_nibbles 0 = .ok (.aload_n 0, 1) := by decide +kernel
theorem dX9_nibbles_1 : decode cX9_nibbles 1 = .ok (.iload_n 2, 1) := by decide +kernel
theorem dX9_nibbles_2 : decode cX9_nibbles 2 = .ok (.iload_n 3, 1) := by decide +kernel
theorem dX9_nibbles_3 : decode cX9_nibbles 3 = .ok (.invokevirtual 114, 3) := by decide +kernel
theorem dX9_nibbles_6 : decode cX9_nibbles 6 = .ok (.istore 4, 2) := by decide +kernel
theorem dX9_nibbles_8 : decode cX9_nibbles 8 = .ok (.aload_n 0, 1) := by decide +kernel
theorem dX9_nibbles_9 : decode cX9_nibbles 9 = .ok (.iload_n 2, 1) := by decide +kernel
theorem dX9_nibbles_10 : decode cX9_nibbles 10 = .ok (.iload_n 3, 1) := by decide +kernel
theorem dX9_nibbles_11 : decode cX9_nibbles 11 = .ok (.invokevirtual 118, 3) := by decide +kernel
theorem dX9_nibbles_14 : decode cX9_nibbles 14 = .ok (.istore 5, 2) := by decide +kernel
theorem dX9_nibbles_16 : decode cX9_nibbles 16 = .ok (.bipush 29, 2) := by decide +kernel
theorem dX9_nibbles_18 : decode cX9_nibbles 18 = .ok (.iconst 4, 1) := by decide +kernel
theorem dX9_nibbles_19 : decode cX9_nibbles 19 = .ok (.iload_n 1, 1) := by decide +kernel
theorem dX9_nibbles_20 : decode cX9_nibbles 20 = .ok (.imul, 1) := by decide +kernel
theorem dX9_nibbles_21 : decode cX9_nibbles 21 = .ok (.iadd, 1) := by decide +kernel
theorem dX9_nibbles_22 : decode cX9_nibbles 22 = .ok (.istore 6, 2) := by decide +kernel
theorem dX9_nibbles_24 : decode cX9_nibbles 24 = .ok (.iload_n 3, 1) := by decide +kernel
theorem dX9_nibbles_25 : decode cX9_nibbles 25 = .ok (.ifCond .eq 19, 3) := by decide +kernel
theorem dX9_nibbles_28 : decode cX9_nibbles 28 = .ok (.aload_n 0, 1) := by decide +kernel
theorem dX9_nibbles_29 : decode cX9_nibbles 29 = .ok (.getfield 13, 3) := by decide +kernel
theorem dX9_nibbles_32 : decode cX9_nibbles 32 = .ok (.iconst 5, 1) := by decide +kernel
theorem dX9_nibbles_33 : decode cX9_nibbles 33 = .ok (.iconst 4, 1) := by decide +kernel
theorem dX9_nibbles_34 : decode cX9_nibbles 34 = .ok (.iload_n 2, 1) := by decide +kernel
theorem dX9_nibbles_35 : decode cX9_nibbles 35 = .ok (.imul, 1) := by decide +kernel
theorem dX9_nibbles_36 : decode cX9_nibbles 36 = .ok (.iadd, 1) := by decide +kernel
theorem dX9_nibbles_37 : decode cX9_nibbles 37 = .ok (.iconst 2, 1) := by decide +kernel
theorem dX9_nibbles_38 : decode cX9_nibbles 38 = .ok (.iadd, 1) := by decide +kernel
theorem dX9_nibbles_39 : decode cX9_nibbles 39 = .ok (.iaload, 1) := by decide +kernel
theorem dX9_nibbles_40 : decode cX9_nibbles 40 = .ok (.iconst 1, 1) := by decide +kernel
theorem dX9_nibbles_41 : decode cX9_nibbles 41 = .ok (.if_icmp .ne 35, 3) := by decide +kernel
theorem dX9_nibbles_44 : decode cX9_nibbles 44 = .ok (.iload 4, 2) := by decide +kernel
theorem dX9_nibbles_46 : decode cX9_nibbles 46 = .ok (.aload_n 0, 1) := by decide +kernel
theorem dX9_nibbles_47 : decode cX9_nibbles 47 = .ok (.getfield 13, 3) := by decide +kernel
theorem dX9_nibbles_50 : decode cX9_nibbles 50 = .ok (.iload 6, 2) := by decide +kernel
theorem dX9_nibbles_52 : decode cX9_nibbles 52 = .ok (.iconst 2, 1) := by decide +kernel
theorem dX9_nibbles_53 : decode cX9_nibbles 53 = .ok (.iadd, 1) := by decide +kernel
theorem dX9_nibbles_54 : decode cX9_nibbles 54 = .ok (.iaload, 1) := by decide +kernel
theorem dX9_nibbles_55 : decode cX9_nibbles 55 = .ok (.if_icmp .gt 21, 3) := by decide +kernel
theorem dX9_nibbles_58 : decode cX9_nibbles 58 = .ok (.iload 5, 2) := by decide +kernel
theorem dX9_nibbles_60 : decode cX9_nibbles 60 = .ok (.aload_n 0, 1) := by decide +kernel
theorem dX9_nibbles_61 : decode cX9_nibbles 61 = .ok (.getfield 13, 3) := by decide +kernel
theorem dX9_nibbles_64 : decode cX9_nibbles 64 = .ok (.iload 6, 2) := by decide +kernel
theorem dX9_nibbles_66 : decode cX9_nibbles 66 = .ok (.iconst 3, 1) := by decide +kernel
theorem dX9_nibbles_67 : decode cX9_nibbles 67 = .ok (.iadd, 1) := by decide +kernel
theorem dX9_nibbles_68 : decode cX9_nibbles 68 = .ok (.iaload, 1) := by decide +kernel
theorem dX9_nibbles_69 : decode cX9_nibbles 69 = .ok (.if_icmp .gt 7, 3) := by decide +kernel
theorem dX9_nibbles_72 : decode cX9_nibbles 72 = .ok (.iconst 1, 1) := by decide +kernel
theorem dX9_nibbles_73 : decode cX9_nibbles 73 = .ok (.goto 4, 3) := by decide +kernel
theorem dX9_nibbles_76 : decode cX9_nibbles 76 = .ok (.iconst 0, 1) := by decide +kernel
theorem dX9_nibbles_77 : decode cX9_nibbles 77 = .ok (.istore 7, 2) := by decide +kernel
theorem dX9_nibbles_79 : decode cX9_nibbles 79 = .ok (.iload 7, 2) := by decide +kernel
theorem dX9_nibbles_81 : decode cX9_nibbles 81 = .ok (.ifCond .eq 35, 3) := by decide +kernel
theorem dX9_nibbles_84 : decode cX9_nibbles 84 = .ok (.aload_n 0, 1) := by decide +kernel
theorem dX9_nibbles_85 : decode cX9_nibbles 85 = .ok (.getfield 13, 3) := by decide +kernel
theorem dX9_nibbles_88 : decode cX9_nibbles 88 = .ok (.iload 6, 2) := by decide +kernel
theorem dX9_nibbles_90 : decode cX9_nibbles 90 = .ok (.iconst 2, 1) := by decide +kernel
theorem dX9_nibbles_91 : decode cX9_nibbles 91 = .ok (.iadd, 1) := by decide +kernel
theorem dX9_nibbles_92 : decode cX9_nibbles 92 = .ok (.iaload, 1) := by decide +kernel
theorem dX9_nibbles_93 : decode cX9_nibbles 93 = .ok (.iload 4, 2) := by decide +kernel
theorem dX9_nibbles_95 : decode cX9_nibbles 95 = .ok (.invokestatic 155, 3) := by decide +kernel
theorem dX9_nibbles_98 : decode cX9_nibbles 98 = .ok (.aload_n 0, 1) := by decide +kernel
theorem dX9_nibbles_99 : decode cX9_nibbles 99 = .ok (.getfield 13, 3) := by decide +kernel
theorem dX9_nibbles_102 : decode cX9_nibbles 102 = .ok (.iload 6, 2) := by decide +kernel
theorem dX9_nibbles_104 : decode cX9_nibbles 104 = .ok (.iconst 3, 1) := by decide +kernel
theorem dX9_nibbles_105 : decode cX9_nibbles 105 = .ok (.iadd, 1) := by decide +kernel
theorem dX9_nibbles_106 : decode cX9_nibbles 106 = .ok (.iaload, 1) := by decide +kernel
theorem dX9_nibbles_107 : decode cX9_nibbles 107 = .ok (.iload 5, 2) := by decide +kernel
theorem dX9_nibbles_109 : decode cX9_nibbles 109 = .ok (.invokestatic 155, 3) := by decide +kernel
theorem dX9_nibbles_112 : decode cX9_nibbles 112 = .ok (.imul, 1) := by decide +kernel
theorem dX9_nibbles_113 : decode cX9_nibbles 113 = .ok (.goto 5, 3) := by decide +kernel
theorem dX9_nibbles_116 : decode cX9_nibbles 116 = .ok (.bipush (-4), 2) := by decide +kernel
theorem dX9_nibbles_118 : decode cX9_nibbles 118 = .ok (.ireturn, 1) := by decide +kernel
theorem dX9_isCut_0 : decode cX9_isCut 0 = .ok (.aload_n 0, 1) := by decide +kernel
theorem dX9_isCut_1 : decode cX9_isCut 1 = .ok (.iload_n 1, 1) := by decide +kernel
theorem dX9_isCut_2 : decode cX9_isCut 2 = .ok (.iload 4, 2) := by decide +kernel
theorem dX9_isCut_4 : decode cX9_isCut 4 = .ok (.invokevirtual 114, 3) := by decide +kernel
theorem dX9_isCut_7 : decode cX9_isCut 7 = .ok (.istore 5, 2) := by decide +kernel
theorem dX9_isCut_9 : decode cX9_isCut 9 = .ok (.iconst 1, 1) := by decide +kernel
theorem dX9_isCut_10 : decode cX9_isCut 10 = .ok (.istore 6, 2) := by decide +kernel
theorem dX9_isCut_12 : decode cX9_isCut 12 = .ok (.iconst 0, 1) := by decide +kernel
theorem dX9_isCut_13 : decode cX9_isCut 13 = .ok (.istore 7, 2) := by decide +kernel
theorem dX9_isCut_15 : decode cX9_isCut 15 = .ok (.iload 7, 2) := by decide +kernel
theorem dX9_isCut_17 : decode cX9_isCut 17 = .ok (.iload 5, 2) := by decide +kernel
theorem dX9_isCut_19 : decode cX9_isCut 19 = .ok (.aload_n 0, 1) := by decide +kernel
theorem dX9_isCut_20 : decode cX9_isCut 20 = .ok (.iload_n 1, 1) := by decide +kernel
theorem dX9_isCut_21 : decode cX9_isCut 21 = .ok (.iload 4, 2) := by decide +kernel
theorem dX9_isCut_23 : decode cX9_isCut 23 = .ok (.invokevirtual 118, 3) := by decide +kernel
theorem dX9_isCut_26 : decode cX9_isCut 26 = .ok (.imul, 1) := by decide +kernel
theorem dX9_isCut_27 : decode cX9_isCut 27 = .ok (.if_icmp .ge 48, 3) := by decide +kernel
theorem dX9_isCut_30 : decode cX9_isCut 30 = .ok (.iload 6, 2) := by decide +kernel
theorem dX9_isCut_32 : decode cX9_isCut 32 = .ok (.ifCond .eq 34, 3) := by decide +kernel
theorem dX9_isCut_35 : decode cX9_isCut 35 = .ok (.aload_n 0, 1) := by decide +kernel
theorem dX9_isCut_36 : decode cX9_isCut 36 = .ok (.getfield 19, 3) := by decide +kernel
theorem dX9_isCut_39 : decode cX9_isCut 39 = .ok (.bipush 12, 2) := by decide +kernel
theorem dX9_isCut_41 : decode cX9_isCut 41 = .ok (.iload_n 3, 1) := by decide +kernel
theorem dX9_isCut_42 : decode cX9_isCut 42 = .ok (.iload 7, 2) := by decide +kernel
theorem dX9_isCut_44 : decode cX9_isCut 44 = .ok (.iload 5, 2) := by decide +kernel
theorem dX9_isCut_46 : decode cX9_isCut 46 = .ok (.idiv, 1) := by decide +kernel
theorem dX9_isCut_47 : decode cX9_isCut 47 = .ok (.iadd, 1) := by decide +kernel
theorem dX9_isCut_48 : decode cX9_isCut 48 = .ok (.imul, 1) := by decide +kernel
theorem dX9_isCut_49 : decode cX9_isCut 49 = .ok (.iload_n 2, 1) := by decide +kernel
theorem dX9_isCut_50 : decode cX9_isCut 50 = .ok (.iadd, 1) := by decide +kernel
theorem dX9_isCut_51 : decode cX9_isCut 51 = .ok (.iload 7, 2) := by decide +kernel
theorem dX9_isCut_53 : decode cX9_isCut 53 = .ok (.iload 5, 2) := by decide +kernel
theorem dX9_isCut_55 : decode cX9_isCut 55 = .ok (.irem, 1) := by decide +kernel
theorem dX9_isCut_56 : decode cX9_isCut 56 = .ok (.iadd, 1) := by decide +kernel
theorem dX9_isCut_57 : decode cX9_isCut 57 = .ok (.iaload, 1) := by decide +kernel
theorem dX9_isCut_58 : decode cX9_isCut 58 = .ok (.iconst 1, 1) := by decide +kernel
theorem dX9_isCut_59 : decode cX9_isCut 59 = .ok (.if_icmp .ne 7, 3) := by decide +kernel
theorem dX9_isCut_62 : decode cX9_isCut 62 = .ok (.iconst 1, 1) := by decide +kernel
theorem dX9_isCut_63 : decode cX9_isCut 63 = .ok (.goto 4, 3) := by decide +kernel
theorem dX9_isCut_66 : decode cX9_isCut 66 = .ok (.iconst 0, 1) := by decide +kernel
theorem dX9_isCut_67 : decode cX9_isCut 67 = .ok (.istore 6, 2) := by decide +kernel
theorem dX9_isCut_69 : decode cX9_isCut 69 = .ok (.iinc 7 1, 3) := by decide +kernel
theorem dX9_isCut_72 : decode cX9_isCut 72 = .ok (.goto (-57), 3) := by decide +kernel
theorem dX9_isCut_75 : decode cX9_isCut 75 = .ok (.iload 6, 2) := by decide +kernel
theorem dX9_isCut_77 : decode cX9_isCut 77 = .ok (.ireturn, 1) := by decide +kernel
theorem dX9_nibble_0 : decode cX9_nibble 0 = .ok (.aload_n 0, 1) := by decide +kernel
theorem dX9_nibble_1 : decode cX9_nibble 1 = .ok (.iload_n 1, 1) := by decide +kernel
theorem dX9_nibble_2 : decode cX9_nibble 2 = .ok (.invokevirtual 158, 3) := by decide +kernel
theorem dX9_nibble_5 : decode cX9_nibble 5 = .ok (.ifCond .eq 21, 3) := by decide +kernel
theorem dX9_nibble_8 : decode cX9_nibble 8 = .ok (.aload_n 0, 1) := by decide +kernel
theorem dX9_nibble_9 : decode cX9_nibble 9 = .ok (.iload_n 2, 1) := by decide +kernel
theorem dX9_nibble_10 : decode cX9_nibble 10 = .ok (.invokevirtual 134, 3) := by decide +kernel
theorem dX9_nibble_13 : decode cX9_nibble 13 = .ok (.ifCond .eq 13, 3) := by decide +kernel
theorem dX9_nibble_16 : decode cX9_nibble 16 = .ok (.iload_n 3, 1) := by decide +kernel
theorem dX9_nibble_17 : decode cX9_nibble 17 = .ok (.i2l, 1) := by decide +kernel
theorem dX9_nibble_18 : decode cX9_nibble 18 = .ok (.lconst 0, 1) := by decide +kernel
theorem dX9_nibble_19 : decode cX9_nibble 19 = .ok (.lconst 1, 1) := by decide +kernel
theorem dX9_nibble_20 : decode cX9_nibble 20 = .ok (.invokestatic 58, 3) := by decide +kernel
theorem dX9_nibble_23 : decode cX9_nibble 23 = .ok (.ifCond .ne 5, 3) := by decide +kernel
theorem dX9_nibble_26 : decode cX9_nibble 26 = .ok (.iconst (-1), 1) := by decide +kernel
theorem dX9_nibble_27 : decode cX9_nibble 27 = .ok (.ireturn, 1) := by decide +kernel
theorem dX9_nibble_28 : decode cX9_nibble 28 = .ok (.aload_n 0, 1) := by decide +kernel
theorem dX9_nibble_29 : decode cX9_nibble 29 = .ok (.iload_n 1, 1) := by decide +kernel
theorem dX9_nibble_30 : decode cX9_nibble 30 = .ok (.iload_n 2, 1) := by decide +kernel
theorem dX9_nibble_31 : decode cX9_nibble 31 = .ok (.iload_n 3, 1) := by decide +kernel
theorem dX9_nibble_32 : decode cX9_nibble 32 = .ok (.invokevirtual 161, 3) := by decide +kernel
theorem dX9_nibble_35 : decode cX9_nibble 35 = .ok (.istore 4, 2) := by decide +kernel
theorem dX9_nibble_37 : decode cX9_nibble 37 = .ok (.aload_n 0, 1) := by decide +kernel
theorem dX9_nibble_38 : decode cX9_nibble 38 = .ok (.iload_n 1, 1) := by decide +kernel
theorem dX9_nibble_39 : decode cX9_nibble 39 = .ok (.invokevirtual 165, 3) := by decide +kernel
theorem dX9_nibble_42 : decode cX9_nibble 42 = .ok (.ifCond .eq 10, 3) := by decide +kernel
theorem dX9_nibble_45 : decode cX9_nibble 45 = .ok (.iload 4, 2) := by decide +kernel
theorem dX9_nibble_47 : decode cX9_nibble 47 = .ok (.bipush (-4), 2) := by decide +kernel
theorem dX9_nibble_49 : decode cX9_nibble 49 = .ok (.if_icmp .ne 6, 3) := by decide +kernel
theorem dX9_nibble_52 : decode cX9_nibble 52 = .ok (.bipush (-2), 2) := by decide +kernel
theorem dX9_nibble_54 : decode cX9_nibble 54 = .ok (.ireturn, 1) := by decide +kernel
theorem dX9_nibble_55 : decode cX9_nibble 55 = .ok (.bipush 29, 2) := by decide +kernel
theorem dX9_nibble_57 : decode cX9_nibble 57 = .ok (.iconst 4, 1) := by decide +kernel
theorem dX9_nibble_58 : decode cX9_nibble 58 = .ok (.iload_n 1, 1) := by decide +kernel
theorem dX9_nibble_59 : decode cX9_nibble 59 = .ok (.imul, 1) := by decide +kernel
theorem dX9_nibble_60 : decode cX9_nibble 60 = .ok (.iadd, 1) := by decide +kernel
theorem dX9_nibble_61 : decode cX9_nibble 61 = .ok (.istore 5, 2) := by decide +kernel
theorem dX9_nibble_63 : decode cX9_nibble 63 = .ok (.aload_n 0, 1) := by decide +kernel
theorem dX9_nibble_64 : decode cX9_nibble 64 = .ok (.iload_n 2, 1) := by decide +kernel
theorem dX9_nibble_65 : decode cX9_nibble 65 = .ok (.iload_n 3, 1) := by decide +kernel
theorem dX9_nibble_66 : decode cX9_nibble 66 = .ok (.invokevirtual 114, 3) := by decide +kernel
theorem dX9_nibble_69 : decode cX9_nibble 69 = .ok (.istore 6, 2) := by decide +kernel
theorem dX9_nibble_71 : decode cX9_nibble 71 = .ok (.aload_n 0, 1) := by decide +kernel
theorem dX9_nibble_72 : decode cX9_nibble 72 = .ok (.iload_n 2, 1) := by decide +kernel
theorem dX9_nibble_73 : decode cX9_nibble 73 = .ok (.iload_n 3, 1) := by decide +kernel
theorem dX9_nibble_74 : decode cX9_nibble 74 = .ok (.invokevirtual 118, 3) := by decide +kernel
theorem dX9_nibble_77 : decode cX9_nibble 77 = .ok (.istore 7, 2) := by decide +kernel
theorem dX9_nibble_79 : decode cX9_nibble 79 = .ok (.aload_n 0, 1) := by decide +kernel
theorem dX9_nibble_80 : decode cX9_nibble 80 = .ok (.getfield 13, 3) := by decide +kernel
theorem dX9_nibble_83 : decode cX9_nibble 83 = .ok (.iload 5, 2) := by decide +kernel
theorem dX9_nibble_85 : decode cX9_nibble 85 = .ok (.iconst 2, 1) := by decide +kernel
theorem dX9_nibble_86 : decode cX9_nibble 86 = .ok (.iadd, 1) := by decide +kernel
theorem dX9_nibble_87 : decode cX9_nibble 87 = .ok (.iaload, 1) := by decide +kernel
theorem dX9_nibble_88 : decode cX9_nibble 88 = .ok (.iload 6, 2) := by decide +kernel
theorem dX9_nibble_90 : decode cX9_nibble 90 = .ok (.invokestatic 155, 3) := by decide +kernel
theorem dX9_nibble_93 : decode cX9_nibble 93 = .ok (.istore 8, 2) := by decide +kernel
theorem dX9_nibble_95 : decode cX9_nibble 95 = .ok (.iconst 0, 1) := by decide +kernel
theorem dX9_nibble_96 : decode cX9_nibble 96 = .ok (.istore 9, 2) := by decide +kernel
theorem dX9_nibble_98 : decode cX9_nibble 98 = .ok (.iload 9, 2) := by decide +kernel
theorem dX9_nibble_100 : decode cX9_nibble 100 = .ok (.sipush 156, 3) := by decide +kernel
theorem dX9_nibble_103 : decode cX9_nibble 103 = .ok (.if_icmp .ge 23, 3) := by decide +kernel
theorem dX9_nibble_106 : decode cX9_nibble 106 = .ok (.aload_n 0, 1) := by decide +kernel
theorem dX9_nibble_107 : decode cX9_nibble 107 = .ok (.getfield 25, 3) := by decide +kernel
theorem dX9_nibble_110 : decode cX9_nibble 110 = .ok (.iload 9, 2) := by decide +kernel
theorem dX9_nibble_112 : decode cX9_nibble 112 = .ok (.aload_n 0, 1) := by decide +kernel
theorem dX9_nibble_113 : decode cX9_nibble 113 = .ok (.getfield 19, 3) := by decide +kernel
theorem dX9_nibble_116 : decode cX9_nibble 116 = .ok (.iload 9, 2) := by decide +kernel
theorem dX9_nibble_118 : decode cX9_nibble 118 = .ok (.iaload, 1) := by decide +kernel
theorem dX9_nibble_119 : decode cX9_nibble 119 = .ok (.iastore, 1) := by decide +kernel
theorem dX9_nibble_120 : decode cX9_nibble 120 = .ok (.iinc 9 1, 3) := by decide +kernel
theorem dX9_nibble_123 : decode cX9_nibble 123 = .ok (.goto (-25), 3) := by decide +kernel
theorem dX9_nibble_126 : decode cX9_nibble 126 = .ok (.iconst 0, 1) := by decide +kernel
theorem dX9_nibble_127 : decode cX9_nibble 127 = .ok (.istore 9, 2) := by decide +kernel
theorem dX9_nibble_129 : decode cX9_nibble 129 = .ok (.iconst 0, 1) := by decide +kernel
theorem dX9_nibble_130 : decode cX9_nibble 130 = .ok (.istore 10, 2) := by decide +kernel
theorem dX9_nibble_132 : decode cX9_nibble 132 = .ok (.iconst 0, 1) := by decide +kernel
theorem dX9_nibble_133 : decode cX9_nibble 133 = .ok (.istore 11, 2) := by decide +kernel
theorem dX9_nibble_135 : decode cX9_nibble 135 = .ok (.iload 11, 2) := by decide +kernel
theorem dX9_nibble_137 : decode cX9_nibble 137 = .ok (.iload 4, 2) := by decide +kernel
theorem dX9_nibble_139 : decode cX9_nibble 139 = .ok (.if_icmp .ge 229, 3) := by decide +kernel
theorem dX9_nibble_142 : decode cX9_nibble 142 = .ok (.iload 10, 2) := by decide +kernel
theorem dX9_nibble_144 : decode cX9_nibble 144 = .ok (.ifCond .ne 224, 3) := by decide +kernel
theorem dX9_nibble_147 : decode cX9_nibble 147 = .ok (.aload_n 0, 1) := by decide +kernel
theorem dX9_nibble_148 : decode cX9_nibble 148 = .ok (.getfield 13, 3) := by decide +kernel
theorem dX9_nibble_151 : decode cX9_nibble 151 = .ok (.iload 5, 2) := by decide +kernel
theorem dX9_nibble_153 : decode cX9_nibble 153 = .ok (.iaload, 1) := by decide +kernel
theorem dX9_nibble_154 : decode cX9_nibble 154 = .ok (.iload 6, 2) := by decide +kernel
theorem dX9_nibble_156 : decode cX9_nibble 156 = .ok (.iload 11, 2) := by decide +kernel
theorem dX9_nibble_158 : decode cX9_nibble 158 = .ok (.iload 8, 2) := by decide +kernel
theorem dX9_nibble_160 : decode cX9_nibble 160 = .ok (.irem, 1) := by decide +kernel
theorem dX9_nibble_161 : decode cX9_nibble 161 = .ok (.imul, 1) := by decide +kernel
theorem dX9_nibble_162 : decode cX9_nibble 162 = .ok (.iadd, 1) := by decide +kernel
theorem dX9_nibble_163 : decode cX9_nibble 163 = .ok (.istore 12, 2) := by decide +kernel
theorem dX9_nibble_165 : decode cX9_nibble 165 = .ok (.aload_n 0, 1) := by decide +kernel
theorem dX9_nibble_166 : decode cX9_nibble 166 = .ok (.getfield 13, 3) := by decide +kernel
theorem dX9_nibble_169 : decode cX9_nibble 169 = .ok (.iload 5, 2) := by decide +kernel
theorem dX9_nibble_171 : decode cX9_nibble 171 = .ok (.iconst 1, 1) := by decide +kernel
theorem dX9_nibble_172 : decode cX9_nibble 172 = .ok (.iadd, 1) := by decide +kernel
theorem dX9_nibble_173 : decode cX9_nibble 173 = .ok (.iaload, 1) := by decide +kernel
theorem dX9_nibble_174 : decode cX9_nibble 174 = .ok (.iload 7, 2) := by decide +kernel
theorem dX9_nibble_176 : decode cX9_nibble 176 = .ok (.iload 11, 2) := by decide +kernel
theorem dX9_nibble_178 : decode cX9_nibble 178 = .ok (.iload 8, 2) := by decide +kernel
theorem dX9_nibble_180 : decode cX9_nibble 180 = .ok (.idiv, 1) := by decide +kernel
theorem dX9_nibble_181 : decode cX9_nibble 181 = .ok (.imul, 1) := by decide +kernel
theorem dX9_nibble_182 : decode cX9_nibble 182 = .ok (.iadd, 1) := by decide +kernel
theorem dX9_nibble_183 : decode cX9_nibble 183 = .ok (.istore 13, 2) := by decide +kernel
theorem dX9_nibble_185 : decode cX9_nibble 185 = .ok (.iload 12, 2) := by decide +kernel
theorem dX9_nibble_187 : decode cX9_nibble 187 = .ok (.iload 6, 2) := by decide +kernel
theorem dX9_nibble_189 : decode cX9_nibble 189 = .ok (.iadd, 1) := by decide +kernel
theorem dX9_nibble_190 : decode cX9_nibble 190 = .ok (.aload_n 0, 1) := by decide +kernel
theorem dX9_nibble_191 : decode cX9_nibble 191 = .ok (.getfield 13, 3) := by decide +kernel
theorem dX9_nibble_194 : decode cX9_nibble 194 = .ok (.iload 5, 2) := by decide +kernel
theorem dX9_nibble_196 : decode cX9_nibble 196 = .ok (.iaload, 1) := by decide +kernel
theorem dX9_nibble_197 : decode cX9_nibble 197 = .ok (.aload_n 0, 1) := by decide +kernel
theorem dX9_nibble_198 : decode cX9_nibble 198 = .ok (.getfield 13, 3) := by decide +kernel
theorem dX9_nibble_201 : decode cX9_nibble 201 = .ok (.iload 5, 2) := by decide +kernel
theorem dX9_nibble_203 : decode cX9_nibble 203 = .ok (.iconst 2, 1) := by decide +kernel
theorem dX9_nibble_204 : decode cX9_nibble 204 = .ok (.iadd, 1) := by decide +kernel
theorem dX9_nibble_205 : decode cX9_nibble 205 = .ok (.iaload, 1) := by decide +kernel
theorem dX9_nibble_206 : decode cX9_nibble 206 = .ok (.iadd, 1) := by decide +kernel
theorem dX9_nibble_207 : decode cX9_nibble 207 = .ok (.if_icmp .le 26, 3) := by decide +kernel
theorem dX9_nibble_210 : decode cX9_nibble 210 = .ok (.aload_n 0, 1) := by decide +kernel
theorem dX9_nibble_211 : decode cX9_nibble 211 = .ok (.getfield 13, 3) := by decide +kernel
theorem dX9_nibble_214 : decode cX9_nibble 214 = .ok (.iload 5, 2) := by decide +kernel
theorem dX9_nibble_216 : decode cX9_nibble 216 = .ok (.iaload, 1) := by decide +kernel
theorem dX9_nibble_217 : decode cX9_nibble 217 = .ok (.aload_n 0, 1) := by decide +kernel
theorem dX9_nibble_218 : decode cX9_nibble 218 = .ok (.getfield 13, 3) := by decide +kernel
theorem dX9_nibble_221 : decode cX9_nibble 221 = .ok (.iload 5, 2) := by decide +kernel
theorem dX9_nibble_223 : decode cX9_nibble 223 = .ok (.iconst 2, 1) := by decide +kernel
theorem dX9_nibble_224 : decode cX9_nibble 224 = .ok (.iadd, 1) := by decide +kernel
theorem dX9_nibble_225 : decode cX9_nibble 225 = .ok (.iaload, 1) := by decide +kernel
theorem dX9_nibble_226 : decode cX9_nibble 226 = .ok (.iadd, 1) := by decide +kernel
theorem dX9_nibble_227 : decode cX9_nibble 227 = .ok (.iload 6, 2) := by decide +kernel
theorem dX9_nibble_229 : decode cX9_nibble 229 = .ok (.isub, 1) := by decide +kernel
theorem dX9_nibble_230 : decode cX9_nibble 230 = .ok (.goto 5, 3) := by decide +kernel
theorem dX9_nibble_233 : decode cX9_nibble 233 = .ok (.iload 12, 2) := by decide +kernel
theorem dX9_nibble_235 : decode cX9_nibble 235 = .ok (.istore 12, 2) := by decide +kernel
theorem dX9_nibble_237 : decode cX9_nibble 237 = .ok (.iload 13, 2) := by decide +kernel
theorem dX9_nibble_239 : decode cX9_nibble 239 = .ok (.iload 7, 2) := by decide +kernel
theorem dX9_nibble_241 : decode cX9_nibble 241 = .ok (.iadd, 1) := by decide +kernel
theorem dX9_nibble_242 : decode cX9_nibble 242 = .ok (.aload_n 0, 1) := by decide +kernel
theorem dX9_nibble_243 : decode cX9_nibble 243 = .ok (.getfield 13, 3) := by decide +kernel
theorem dX9_nibble_246 : decode cX9_nibble 246 = .ok (.iload 5, 2) := by decide +kernel
theorem dX9_nibble_248 : decode cX9_nibble 248 = .ok (.iconst 1, 1) := by decide +kernel
theorem dX9_nibble_249 : decode cX9_nibble 249 = .ok (.iadd, 1) := by decide +kernel
theorem dX9_nibble_250 : decode cX9_nibble 250 = .ok (.iaload, 1) := by decide +kernel
theorem dX9_nibble_251 : decode cX9_nibble 251 = .ok (.aload_n 0, 1) := by decide +kernel
theorem dX9_nibble_252 : decode cX9_nibble 252 = .ok (.getfield 13, 3) := by decide +kernel
theorem dX9_nibble_255 : decode cX9_nibble 255 = .ok (.iload 5, 2) := by decide +kernel
theorem dX9_nibble_257 : decode cX9_nibble 257 = .ok (.iconst 3, 1) := by decide +kernel
theorem dX9_nibble_258 : decode cX9_nibble 258 = .ok (.iadd, 1) := by decide +kernel
theorem dX9_nibble_259 : decode cX9_nibble 259 = .ok (.iaload, 1) := by decide +kernel
theorem dX9_nibble_260 : decode cX9_nibble 260 = .ok (.iadd, 1) := by decide +kernel
theorem dX9_nibble_261 : decode cX9_nibble 261 = .ok (.if_icmp .le 28, 3) := by decide +kernel
theorem dX9_nibble_264 : decode cX9_nibble 264 = .ok (.aload_n 0, 1) := by decide +kernel
theorem dX9_nibble_265 : decode cX9_nibble 265 = .ok (.getfield 13, 3) := by decide +kernel
theorem dX9_nibble_268 : decode cX9_nibble 268 = .ok (.iload 5, 2) := by decide +kernel
theorem dX9_nibble_270 : decode cX9_nibble 270 = .ok (.iconst 1, 1) := by decide +kernel
theorem dX9_nibble_271 : decode cX9_nibble 271 = .ok (.iadd, 1) := by decide +kernel
theorem dX9_nibble_272 : decode cX9_nibble 272 = .ok (.iaload, 1) := by decide +kernel
theorem dX9_nibble_273 : decode cX9_nibble 273 = .ok (.aload_n 0, 1) := by decide +kernel
theorem dX9_nibble_274 : decode cX9_nibble 274 = .ok (.getfield 13, 3) := by decide +kernel
theorem dX9_nibble_277 : decode cX9_nibble 277 = .ok (.iload 5, 2) := by decide +kernel
theorem dX9_nibble_279 : decode cX9_nibble 279 = .ok (.iconst 3, 1) := by decide +kernel
theorem dX9_nibble_280 : decode cX9_nibble 280 = .ok (.iadd, 1) := by decide +kernel
theorem dX9_nibble_281 : decode cX9_nibble 281 = .ok (.iaload, 1) := by decide +kernel
theorem dX9_nibble_282 : decode cX9_nibble 282 = .ok (.iadd, 1) := by decide +kernel
theorem dX9_nibble_283 : decode cX9_nibble 283 = .ok (.iload 7, 2) := by decide +kernel
theorem dX9_nibble_285 : decode cX9_nibble 285 = .ok (.isub, 1) := by decide +kernel
theorem dX9_nibble_286 : decode cX9_nibble 286 = .ok (.goto 5, 3) := by decide +kernel
theorem dX9_nibble_289 : decode cX9_nibble 289 = .ok (.iload 13, 2) := by decide +kernel
theorem dX9_nibble_291 : decode cX9_nibble 291 = .ok (.istore 13, 2) := by decide +kernel
theorem dX9_nibble_293 : decode cX9_nibble 293 = .ok (.aload_n 0, 1) := by decide +kernel
theorem dX9_nibble_294 : decode cX9_nibble 294 = .ok (.iload_n 2, 1) := by decide +kernel
theorem dX9_nibble_295 : decode cX9_nibble 295 = .ok (.iload 12, 2) := by decide +kernel
theorem dX9_nibble_297 : decode cX9_nibble 297 = .ok (.iload 13, 2) := by decide +kernel
theorem dX9_nibble_299 : decode cX9_nibble 299 = .ok (.iload_n 3, 1) := by decide +kernel
theorem dX9_nibble_300 : decode cX9_nibble 300 = .ok (.invokevirtual 168, 3) := by decide +kernel
theorem dX9_nibble_303 : decode cX9_nibble 303 = .ok (.ifCond .ne 59, 3) := by decide +kernel
theorem dX9_nibble_306 : decode cX9_nibble 306 = .ok (.aload_n 0, 1) := by decide +kernel
theorem dX9_nibble_307 : decode cX9_nibble 307 = .ok (.iload_n 2, 1) := by decide +kernel
theorem dX9_nibble_308 : decode cX9_nibble 308 = .ok (.iload 12, 2) := by decide +kernel
theorem dX9_nibble_310 : decode cX9_nibble 310 = .ok (.iload 13, 2) := by decide +kernel
theorem dX9_nibble_312 : decode cX9_nibble 312 = .ok (.iload_n 3, 1) := by decide +kernel
theorem dX9_nibble_313 : decode cX9_nibble 313 = .ok (.invokevirtual 139, 3) := by decide +kernel
theorem dX9_nibble_316 : decode cX9_nibble 316 = .ok (.ifCond .le 7, 3) := by decide +kernel
theorem dX9_nibble_319 : decode cX9_nibble 319 = .ok (.iconst 1, 1) := by decide +kernel
theorem dX9_nibble_320 : decode cX9_nibble 320 = .ok (.goto 4, 3) := by decide +kernel
theorem dX9_nibble_323 : decode cX9_nibble 323 = .ok (.iconst 0, 1) := by decide +kernel
theorem dX9_nibble_324 : decode cX9_nibble 324 = .ok (.istore 10, 2) := by decide +kernel
theorem dX9_nibble_326 : decode cX9_nibble 326 = .ok (.iload 10, 2) := by decide +kernel
theorem dX9_nibble_328 : decode cX9_nibble 328 = .ok (.ifCond .eq 7, 3) := by decide +kernel
theorem dX9_nibble_331 : decode cX9_nibble 331 = .ok (.iconst 0, 1) := by decide +kernel
theorem dX9_nibble_332 : decode cX9_nibble 332 = .ok (.goto 13, 3) := by decide +kernel
theorem dX9_nibble_335 : decode cX9_nibble 335 = .ok (.aload_n 0, 1) := by decide +kernel
theorem dX9_nibble_336 : decode cX9_nibble 336 = .ok (.iload_n 2, 1) := by decide +kernel
theorem dX9_nibble_337 : decode cX9_nibble 337 = .ok (.iload 12, 2) := by decide +kernel
theorem dX9_nibble_339 : decode cX9_nibble 339 = .ok (.iload 13, 2) := by decide +kernel
theorem dX9_nibble_341 : decode cX9_nibble 341 = .ok (.iload_n 3, 1) := by decide +kernel
theorem dX9_nibble_342 : decode cX9_nibble 342 = .ok (.invokevirtual 152, 3) := by decide +kernel
theorem dX9_nibble_345 : decode cX9_nibble 345 = .ok (.istore 14, 2) := by decide +kernel
theorem dX9_nibble_347 : decode cX9_nibble 347 = .ok (.iload 9, 2) := by decide +kernel
theorem dX9_nibble_349 : decode cX9_nibble 349 = .ok (.iload 14, 2) := by decide +kernel
theorem dX9_nibble_351 : decode cX9_nibble 351 = .ok (.ifCond .le 7, 3) := by decide +kernel
theorem dX9_nibble_354 : decode cX9_nibble 354 = .ok (.iconst 1, 1) := by decide +kernel
theorem dX9_nibble_355 : decode cX9_nibble 355 = .ok (.goto 4, 3) := by decide +kernel
theorem dX9_nibble_358 : decode cX9_nibble 358 = .ok (.iconst 0, 1) := by decide +kernel
theorem dX9_nibble_359 : decode cX9_nibble 359 = .ok (.iadd, 1) := by decide +kernel
theorem dX9_nibble_360 : decode cX9_nibble 360 = .ok (.istore 9, 2) := by decide +kernel
theorem dX9_nibble_362 : decode cX9_nibble 362 = .ok (.iinc 11 1, 3) := by decide +kernel
theorem dX9_nibble_365 : decode cX9_nibble 365 = .ok (.goto (-230), 3) := by decide +kernel
theorem dX9_nibble_368 : decode cX9_nibble 368 = .ok (.aload_n 0, 1) := by decide +kernel
theorem dX9_nibble_369 : decode cX9_nibble 369 = .ok (.invokevirtual 171, 3) := by decide +kernel
theorem dX9_nibble_372 : decode cX9_nibble 372 = .ok (.iload 10, 2) := by decide +kernel
theorem dX9_nibble_374 : decode cX9_nibble 374 = .ok (.ifCond .eq 6, 3) := by decide +kernel
theorem dX9_nibble_377 : decode cX9_nibble 377 = .ok (.bipush (-2), 2) := by decide +kernel
theorem dX9_nibble_379 : decode cX9_nibble 379 = .ok (.ireturn, 1) := by decide +kernel
theorem dX9_nibble_380 : decode cX9_nibble 380 = .ok (.aload_n 0, 1) := by decide +kernel
theorem dX9_nibble_381 : decode cX9_nibble 381 = .ok (.invokevirtual 149, 3) := by decide +kernel
theorem dX9_nibble_384 : decode cX9_nibble 384 = .ok (.aload_n 0, 1) := by decide +kernel
theorem dX9_nibble_385 : decode cX9_nibble 385 = .ok (.invokevirtual 171, 3) := by decide +kernel
theorem dX9_nibble_388 : decode cX9_nibble 388 = .ok (.iload 9, 2) := by decide +kernel
theorem dX9_nibble_390 : decode cX9_nibble 390 = .ok (.ireturn, 1) := by decide +kernel
theorem dX9_swaps_0 : decode cX9_swaps 0 = .ok (.iconst 0, 1) := by decide +kernel
theorem dX9_swaps_1 : decode cX9_swaps 1 = .ok (.istore_n 1, 1) := by decide +kernel
theorem dX9_swaps_2 : decode cX9_swaps 2 = .ok (.iload_n 1, 1) := by decide +kernel
theorem dX9_swaps_3 : decode cX9_swaps 3 = .ok (.sipush 156, 3) := by decide +kernel
theorem dX9_swaps_6 : decode cX9_swaps 6 = .ok (.if_icmp .ge 35, 3) := by decide +kernel
theorem dX9_swaps_9 : decode cX9_swaps 9 = .ok (.aload_n 0, 1) := by decide +kernel
theorem dX9_swaps_10 : decode cX9_swaps 10 = .ok (.getfield 19, 3) := by decide +kernel
theorem dX9_swaps_13 : decode cX9_swaps 13 = .ok (.iload_n 1, 1) := by decide +kernel
theorem dX9_swaps_14 : decode cX9_swaps 14 = .ok (.iaload, 1) := by decide +kernel
theorem dX9_swaps_15 : decode cX9_swaps 15 = .ok (.istore_n 2, 1) := by decide +kernel
theorem dX9_swaps_16 : decode cX9_swaps 16 = .ok (.aload_n 0, 1) := by decide +kernel
theorem dX9_swaps_17 : decode cX9_swaps 17 = .ok (.getfield 19, 3) := by decide +kernel
theorem dX9_swaps_20 : decode cX9_swaps 20 = .ok (.iload_n 1, 1) := by decide +kernel
theorem dX9_swaps_21 : decode cX9_swaps 21 = .ok (.aload_n 0, 1) := by decide +kernel
theorem dX9_swaps_22 : decode cX9_swaps 22 = .ok (.getfield 25, 3) := by decide +kernel
theorem dX9_swaps_25 : decode cX9_swaps 25 = .ok (.iload_n 1, 1) := by decide +kernel
theorem dX9_swaps_26 : decode cX9_swaps 26 = .ok (.iaload, 1) := by decide +kernel
theorem dX9_swaps_27 : decode cX9_swaps 27 = .ok (.iastore, 1) := by decide +kernel
theorem dX9_swaps_28 : decode cX9_swaps 28 = .ok (.aload_n 0, 1) := by decide +kernel
theorem dX9_swaps_29 : decode cX9_swaps 29 = .ok (.getfield 25, 3) := by decide +kernel
theorem dX9_swaps_32 : decode cX9_swaps 32 = .ok (.iload_n 1, 1) := by decide +kernel
theorem dX9_swaps_33 : decode cX9_swaps 33 = .ok (.iload_n 2, 1) := by decide +kernel
theorem dX9_swaps_34 : decode cX9_swaps 34 = .ok (.iastore, 1) := by decide +kernel
theorem dX9_swaps_35 : decode cX9_swaps 35 = .ok (.iinc 1 1, 3) := by decide +kernel
theorem dX9_swaps_38 : decode cX9_swaps 38 = .ok (.goto (-36), 3) := by decide +kernel
theorem dX9_swaps_41 : decode cX9_swaps 41 = .ok (.return_, 1) := by decide +kernel
theorem dX9_clamp_0 : decode cX9_clamp 0 = .ok (.iload_n 1, 1) := by decide +kernel
theorem dX9_clamp_1 : decode cX9_clamp 1 = .ok (.i2l, 1) := by decide +kernel
theorem dX9_clamp_2 : decode cX9_clamp 2 = .ok (.lconst 0, 1) := by decide +kernel
theorem dX9_clamp_3 : decode cX9_clamp 3 = .ok (.aload_n 0, 1) := by decide +kernel
theorem dX9_clamp_4 : decode cX9_clamp 4 = .ok (.getfield 13, 3) := by decide +kernel
theorem dX9_clamp_7 : decode cX9_clamp 7 = .ok (.iconst 4, 1) := by decide +kernel
theorem dX9_clamp_8 : decode cX9_clamp 8 = .ok (.iaload, 1) := by decide +kernel
theorem dX9_clamp_9 : decode cX9_clamp 9 = .ok (.iconst 1, 1) := by decide +kernel
theorem dX9_clamp_10 : decode cX9_clamp 10 = .ok (.isub, 1) := by decide +kernel
theorem dX9_clamp_11 : decode cX9_clamp 11 = .ok (.i2l, 1) := by decide +kernel
theorem dX9_clamp_12 : decode cX9_clamp 12 = .ok (.invokestatic 58, 3) := by decide +kernel
theorem dX9_clamp_15 : decode cX9_clamp 15 = .ok (.ifCond .eq 21, 3) := by decide +kernel
theorem dX9_clamp_18 : decode cX9_clamp 18 = .ok (.iload_n 2, 1) := by decide +kernel
theorem dX9_clamp_19 : decode cX9_clamp 19 = .ok (.i2l, 1) := by decide +kernel
theorem dX9_clamp_20 : decode cX9_clamp 20 = .ok (.lconst 0, 1) := by decide +kernel
theorem dX9_clamp_21 : decode cX9_clamp 21 = .ok (.aload_n 0, 1) := by decide +kernel
theorem dX9_clamp_22 : decode cX9_clamp 22 = .ok (.getfield 13, 3) := by decide +kernel
theorem dX9_clamp_25 : decode cX9_clamp 25 = .ok (.iconst 0, 1) := by decide +kernel
theorem dX9_clamp_26 : decode cX9_clamp 26 = .ok (.iaload, 1) := by decide +kernel
theorem dX9_clamp_27 : decode cX9_clamp 27 = .ok (.iconst 2, 1) := by decide +kernel
theorem dX9_clamp_28 : decode cX9_clamp 28 = .ok (.isub, 1) := by decide +kernel
theorem dX9_clamp_29 : decode cX9_clamp 29 = .ok (.i2l, 1) := by decide +kernel
theorem dX9_clamp_30 : decode cX9_clamp 30 = .ok (.invokestatic 58, 3) := by decide +kernel
theorem dX9_clamp_33 : decode cX9_clamp 33 = .ok (.ifCond .ne 5, 3) := by decide +kernel
theorem dX9_clamp_36 : decode cX9_clamp 36 = .ok (.iconst (-1), 1) := by decide +kernel
theorem dX9_clamp_37 : decode cX9_clamp 37 = .ok (.ireturn, 1) := by decide +kernel
theorem dX9_clamp_38 : decode cX9_clamp 38 = .ok (.aload_n 0, 1) := by decide +kernel
theorem dX9_clamp_39 : decode cX9_clamp 39 = .ok (.getfield 19, 3) := by decide +kernel
theorem dX9_clamp_42 : decode cX9_clamp 42 = .ok (.sipush 151, 3) := by decide +kernel
theorem dX9_clamp_45 : decode cX9_clamp 45 = .ok (.iload_n 1, 1) := by decide +kernel
theorem dX9_clamp_46 : decode cX9_clamp 46 = .ok (.iadd, 1) := by decide +kernel
theorem dX9_clamp_47 : decode cX9_clamp 47 = .ok (.iaload, 1) := by decide +kernel
theorem dX9_clamp_48 : decode cX9_clamp 48 = .ok (.istore_n 3, 1) := by decide +kernel
theorem dX9_clamp_49 : decode cX9_clamp 49 = .ok (.aload_n 0, 1) := by decide +kernel
theorem dX9_clamp_50 : decode cX9_clamp 50 = .ok (.getfield 19, 3) := by decide +kernel
theorem dX9_clamp_53 : decode cX9_clamp 53 = .ok (.sipush 152, 3) := by decide +kernel
theorem dX9_clamp_56 : decode cX9_clamp 56 = .ok (.iload_n 1, 1) := by decide +kernel
theorem dX9_clamp_57 : decode cX9_clamp 57 = .ok (.isub, 1) := by decide +kernel
theorem dX9_clamp_58 : decode cX9_clamp 58 = .ok (.iaload, 1) := by decide +kernel
theorem dX9_clamp_59 : decode cX9_clamp 59 = .ok (.istore 4, 2) := by decide +kernel
theorem dX9_clamp_61 : decode cX9_clamp 61 = .ok (.iload_n 3, 1) := by decide +kernel
theorem dX9_clamp_62 : decode cX9_clamp 62 = .ok (.iload_n 2, 1) := by decide +kernel
theorem dX9_clamp_63 : decode cX9_clamp 63 = .ok (.if_icmp .eq 28, 3) := by decide +kernel
theorem dX9_clamp_66 : decode cX9_clamp 66 = .ok (.aload_n 0, 1) := by decide +kernel
theorem dX9_clamp_67 : decode cX9_clamp 67 = .ok (.getfield 13, 3) := by decide +kernel
theorem dX9_clamp_70 : decode cX9_clamp 70 = .ok (.iconst 4, 1) := by decide +kernel
theorem dX9_clamp_71 : decode cX9_clamp 71 = .ok (.iaload, 1) := by decide +kernel
theorem dX9_clamp_72 : decode cX9_clamp 72 = .ok (.iconst 2, 1) := by decide +kernel
theorem dX9_clamp_73 : decode cX9_clamp 73 = .ok (.if_icmp .ne 21, 3) := by decide +kernel
theorem dX9_clamp_76 : decode cX9_clamp 76 = .ok (.iload_n 2, 1) := by decide +kernel
theorem dX9_clamp_77 : decode cX9_clamp 77 = .ok (.iload 4, 2) := by decide +kernel
theorem dX9_clamp_79 : decode cX9_clamp 79 = .ok (.isub, 1) := by decide +kernel
theorem dX9_clamp_80 : decode cX9_clamp 80 = .ok (.i2l, 1) := by decide +kernel
theorem dX9_clamp_81 : decode cX9_clamp 81 = .ok (.ldc2_w 174, 3) := by decide +kernel
theorem dX9_clamp_84 : decode cX9_clamp 84 = .ok (.lconst 1, 1) := by decide +kernel
theorem dX9_clamp_85 : decode cX9_clamp 85 = .ok (.invokestatic 58, 3) := by decide +kernel
theorem dX9_clamp_88 : decode cX9_clamp 88 = .ok (.ifCond .eq 6, 3) := by decide +kernel
theorem dX9_clamp_91 : decode cX9_clamp 91 = .ok (.bipush (-2), 2) := by decide +kernel
theorem dX9_clamp_93 : decode cX9_clamp 93 = .ok (.ireturn, 1) := by decide +kernel
theorem dX9_clamp_94 : decode cX9_clamp 94 = .ok (.aload_n 0, 1) := by decide +kernel
theorem dX9_clamp_95 : decode cX9_clamp 95 = .ok (.invokevirtual 149, 3) := by decide +kernel
theorem dX9_clamp_98 : decode cX9_clamp 98 = .ok (.aload_n 0, 1) := by decide +kernel
theorem dX9_clamp_99 : decode cX9_clamp 99 = .ok (.getfield 19, 3) := by decide +kernel
theorem dX9_clamp_102 : decode cX9_clamp 102 = .ok (.sipush 151, 3) := by decide +kernel
theorem dX9_clamp_105 : decode cX9_clamp 105 = .ok (.iload_n 1, 1) := by decide +kernel
theorem dX9_clamp_106 : decode cX9_clamp 106 = .ok (.iadd, 1) := by decide +kernel
theorem dX9_clamp_107 : decode cX9_clamp 107 = .ok (.iload_n 2, 1) := by decide +kernel
theorem dX9_clamp_108 : decode cX9_clamp 108 = .ok (.iastore, 1) := by decide +kernel
theorem dX9_clamp_109 : decode cX9_clamp 109 = .ok (.aload_n 0, 1) := by decide +kernel
theorem dX9_clamp_110 : decode cX9_clamp 110 = .ok (.getfield 19, 3) := by decide +kernel
theorem dX9_clamp_113 : decode cX9_clamp 113 = .ok (.sipush 155, 3) := by decide +kernel
theorem dX9_clamp_116 : decode cX9_clamp 116 = .ok (.dup2, 1) := by decide +kernel
theorem dX9_clamp_117 : decode cX9_clamp 117 = .ok (.iaload, 1) := by decide +kernel
theorem dX9_clamp_118 : decode cX9_clamp 118 = .ok (.iconst 1, 1) := by decide +kernel
theorem dX9_clamp_119 : decode cX9_clamp 119 = .ok (.iadd, 1) := by decide +kernel
theorem dX9_clamp_120 : decode cX9_clamp 120 = .ok (.iastore, 1) := by decide +kernel
theorem dX9_clamp_121 : decode cX9_clamp 121 = .ok (.iload_n 3, 1) := by decide +kernel
theorem dX9_clamp_122 : decode cX9_clamp 122 = .ok (.ireturn, 1) := by decide +kernel
theorem dX9_sharpen_0 : decode cX9_sharpen 0 = .ok (.aload_n 0, 1) := by decide +kernel
theorem dX9_sharpen_1 : decode cX9_sharpen 1 = .ok (.iload_n 1, 1) := by decide +kernel
theorem dX9_sharpen_2 : decode cX9_sharpen 2 = .ok (.invokevirtual 134, 3) := by decide +kernel
theorem dX9_sharpen_5 : decode cX9_sharpen 5 = .ok (.ifCond .ne 5, 3) := by decide +kernel
theorem dX9_sharpen_8 : decode cX9_sharpen 8 = .ok (.iconst (-1), 1) := by decide +kernel
theorem dX9_sharpen_9 : decode cX9_sharpen 9 = .ok (.ireturn, 1) := by decide +kernel
theorem dX9_sharpen_10 : decode cX9_sharpen 10 = .ok (.aload_n 0, 1) := by decide +kernel
theorem dX9_sharpen_11 : decode cX9_sharpen 11 = .ok (.getfield 19, 3) := by decide +kernel
theorem dX9_sharpen_14 : decode cX9_sharpen 14 = .ok (.sipush 144, 3) := by decide +kernel
theorem dX9_sharpen_17 : decode cX9_sharpen 17 = .ok (.iload_n 1, 1) := by decide +kernel
theorem dX9_sharpen_18 : decode cX9_sharpen 18 = .ok (.iadd, 1) := by decide +kernel
theorem dX9_sharpen_19 : decode cX9_sharpen 19 = .ok (.iaload, 1) := by decide +kernel
theorem dX9_sharpen_20 : decode cX9_sharpen 20 = .ok (.istore_n 2, 1) := by decide +kernel
theorem dX9_sharpen_21 : decode cX9_sharpen 21 = .ok (.iload_n 2, 1) := by decide +kernel
theorem dX9_sharpen_22 : decode cX9_sharpen 22 = .ok (.ifCond .ne 6, 3) := by decide +kernel
theorem dX9_sharpen_25 : decode cX9_sharpen 25 = .ok (.bipush (-2), 2) := by decide +kernel
theorem dX9_sharpen_27 : decode cX9_sharpen 27 = .ok (.ireturn, 1) := by decide +kernel
theorem dX9_sharpen_28 : decode cX9_sharpen 28 = .ok (.aload_n 0, 1) := by decide +kernel
theorem dX9_sharpen_29 : decode cX9_sharpen 29 = .ok (.invokevirtual 149, 3) := by decide +kernel
theorem dX9_sharpen_32 : decode cX9_sharpen 32 = .ok (.aload_n 0, 1) := by decide +kernel
theorem dX9_sharpen_33 : decode cX9_sharpen 33 = .ok (.getfield 19, 3) := by decide +kernel
theorem dX9_sharpen_36 : decode cX9_sharpen 36 = .ok (.sipush 144, 3) := by decide +kernel
theorem dX9_sharpen_39 : decode cX9_sharpen 39 = .ok (.iload_n 1, 1) := by decide +kernel
theorem dX9_sharpen_40 : decode cX9_sharpen 40 = .ok (.iadd, 1) := by decide +kernel
theorem dX9_sharpen_41 : decode cX9_sharpen 41 = .ok (.iconst 0, 1) := by decide +kernel
theorem dX9_sharpen_42 : decode cX9_sharpen 42 = .ok (.iastore, 1) := by decide +kernel
theorem dX9_sharpen_43 : decode cX9_sharpen 43 = .ok (.iload_n 2, 1) := by decide +kernel
theorem dX9_sharpen_44 : decode cX9_sharpen 44 = .ok (.ireturn, 1) := by decide +kernel
theorem dX9_station_0 : decode cX9_station 0 = .ok (.aload_n 0, 1) := by decide +kernel
theorem dX9_station_1 : decode cX9_station 1 = .ok (.iload_n 1, 1) := by decide +kernel
theorem dX9_station_2 : decode cX9_station 2 = .ok (.invokevirtual 134, 3) := by decide +kernel
theorem dX9_station_5 : decode cX9_station 5 = .ok (.ifCond .eq 15, 3) := by decide +kernel
theorem dX9_station_8 : decode cX9_station 8 = .ok (.iload_n 2, 1) := by decide +kernel
theorem dX9_station_9 : decode cX9_station 9 = .ok (.i2l, 1) := by decide +kernel
theorem dX9_station_10 : decode cX9_station 10 = .ok (.lconst 0, 1) := by decide +kernel
theorem dX9_station_11 : decode cX9_station 11 = .ok (.ldc2_w 176, 3) := by decide +kernel
theorem dX9_station_14 : decode cX9_station 14 = .ok (.invokestatic 58, 3) := by decide +kernel
theorem dX9_station_17 : decode cX9_station 17 = .ok (.ifCond .ne 5, 3) := by decide +kernel
theorem dX9_station_20 : decode cX9_station 20 = .ok (.iconst (-1), 1) := by decide +kernel
theorem dX9_station_21 : decode cX9_station 21 = .ok (.ireturn, 1) := by decide +kernel
theorem dX9_station_22 : decode cX9_station 22 = .ok (.iload_n 2, 1) := by decide +kernel
theorem dX9_station_23 : decode cX9_station 23 = .ok (.tableswitch 75 0 5 #[37, 37, 37, 37, 50, 61], 37) := by decide +kernel
theorem dX9_station_60 : decode cX9_station 60 = .ok (.aload_n 0, 1) := by decide +kernel
theorem dX9_station_61 : decode cX9_station 61 = .ok (.getfield 13, 3) := by decide +kernel
theorem dX9_station_64 : decode cX9_station 64 = .ok (.iconst 5, 1) := by decide +kernel
theorem dX9_station_65 : decode cX9_station 65 = .ok (.iconst 4, 1) := by decide +kernel
theorem dX9_station_66 : decode cX9_station 66 = .ok (.iload_n 1, 1) := by decide +kernel
theorem dX9_station_67 : decode cX9_station 67 = .ok (.imul, 1) := by decide +kernel
theorem dX9_station_68 : decode cX9_station 68 = .ok (.iadd, 1) := by decide +kernel
theorem dX9_station_69 : decode cX9_station 69 = .ok (.iload_n 2, 1) := by decide +kernel
theorem dX9_station_70 : decode cX9_station 70 = .ok (.iadd, 1) := by decide +kernel
theorem dX9_station_71 : decode cX9_station 71 = .ok (.iaload, 1) := by decide +kernel
theorem dX9_station_72 : decode cX9_station 72 = .ok (.ireturn, 1) := by decide +kernel
theorem dX9_station_73 : decode cX9_station 73 = .ok (.aload_n 0, 1) := by decide +kernel
theorem dX9_station_74 : decode cX9_station 74 = .ok (.getfield 19, 3) := by decide +kernel
theorem dX9_station_77 : decode cX9_station 77 = .ok (.sipush 144, 3) := by decide +kernel
theorem dX9_station_80 : decode cX9_station 80 = .ok (.iload_n 1, 1) := by decide +kernel
theorem dX9_station_81 : decode cX9_station 81 = .ok (.iadd, 1) := by decide +kernel
theorem dX9_station_82 : decode cX9_station 82 = .ok (.iaload, 1) := by decide +kernel
theorem dX9_station_83 : decode cX9_station 83 = .ok (.ireturn, 1) := by decide +kernel
theorem dX9_station_84 : decode cX9_station 84 = .ok (.aload_n 0, 1) := by decide +kernel
theorem dX9_station_85 : decode cX9_station 85 = .ok (.iload_n 1, 1) := by decide +kernel
theorem dX9_station_86 : decode cX9_station 86 = .ok (.invokevirtual 130, 3) := by decide +kernel
theorem dX9_station_89 : decode cX9_station 89 = .ok (.ifCond .eq 7, 3) := by decide +kernel
theorem dX9_station_92 : decode cX9_station 92 = .ok (.iconst 1, 1) := by decide +kernel
theorem dX9_station_93 : decode cX9_station 93 = .ok (.goto 4, 3) := by decide +kernel
theorem dX9_station_96 : decode cX9_station 96 = .ok (.iconst 0, 1) := by decide +kernel
theorem dX9_station_97 : decode cX9_station 97 = .ok (.ireturn, 1) := by decide +kernel
theorem dX9_station_98 : decode cX9_station 98 = .ok (.aload_n 0, 1) := by decide +kernel
theorem dX9_station_99 : decode cX9_station 99 = .ok (.aload_n 0, 1) := by decide +kernel
theorem dX9_station_100 : decode cX9_station 100 = .ok (.getfield 19, 3) := by decide +kernel
theorem dX9_station_103 : decode cX9_station 103 = .ok (.sipush 150, 3) := by decide +kernel
theorem dX9_station_106 : decode cX9_station 106 = .ok (.iaload, 1) := by decide +kernel
theorem dX9_station_107 : decode cX9_station 107 = .ok (.iload_n 1, 1) := by decide +kernel
theorem dX9_station_108 : decode cX9_station 108 = .ok (.invokevirtual 143, 3) := by decide +kernel
theorem dX9_station_111 : decode cX9_station 111 = .ok (.ireturn, 1) := by decide +kernel
theorem dX9_hole_0 : decode cX9_hole 0 = .ok (.aload_n 0, 1) := by decide +kernel
theorem dX9_hole_1 : decode cX9_hole 1 = .ok (.iload_n 1, 1) := by decide +kernel
theorem dX9_hole_2 : decode cX9_hole 2 = .ok (.invokevirtual 158, 3) := by decide +kernel
theorem dX9_hole_5 : decode cX9_hole 5 = .ok (.ifCond .eq 15, 3) := by decide +kernel
theorem dX9_hole_8 : decode cX9_hole 8 = .ok (.iload_n 2, 1) := by decide +kernel
theorem dX9_hole_9 : decode cX9_hole 9 = .ok (.i2l, 1) := by decide +kernel
theorem dX9_hole_10 : decode cX9_hole 10 = .ok (.lconst 0, 1) := by decide +kernel
theorem dX9_hole_11 : decode cX9_hole 11 = .ok (.ldc2_w 178, 3) := by decide +kernel
theorem dX9_hole_14 : decode cX9_hole 14 = .ok (.invokestatic 58, 3) := by decide +kernel
theorem dX9_hole_17 : decode cX9_hole 17 = .ok (.ifCond .ne 5, 3) := by decide +kernel
theorem dX9_hole_20 : decode cX9_hole 20 = .ok (.iconst (-1), 1) := by decide +kernel
theorem dX9_hole_21 : decode cX9_hole 21 = .ok (.ireturn, 1) := by decide +kernel
theorem dX9_hole_22 : decode cX9_hole 22 = .ok (.iload_n 2, 1) := by decide +kernel
theorem dX9_hole_23 : decode cX9_hole 23 = .ok (.iconst 4, 1) := by decide +kernel
theorem dX9_hole_24 : decode cX9_hole 24 = .ok (.if_icmp .ge 19, 3) := by decide +kernel
theorem dX9_hole_27 : decode cX9_hole 27 = .ok (.aload_n 0, 1) := by decide +kernel
theorem dX9_hole_28 : decode cX9_hole 28 = .ok (.getfield 13, 3) := by decide +kernel
theorem dX9_hole_31 : decode cX9_hole 31 = .ok (.bipush 29, 2) := by decide +kernel
theorem dX9_hole_33 : decode cX9_hole 33 = .ok (.iconst 4, 1) := by decide +kernel
theorem dX9_hole_34 : decode cX9_hole 34 = .ok (.iload_n 1, 1) := by decide +kernel
theorem dX9_hole_35 : decode cX9_hole 35 = .ok (.imul, 1) := by decide +kernel
theorem dX9_hole_36 : decode cX9_hole 36 = .ok (.iadd, 1) := by decide +kernel
theorem dX9_hole_37 : decode cX9_hole 37 = .ok (.iload_n 2, 1) := by decide +kernel
theorem dX9_hole_38 : decode cX9_hole 38 = .ok (.iadd, 1) := by decide +kernel
theorem dX9_hole_39 : decode cX9_hole 39 = .ok (.iaload, 1) := by decide +kernel
theorem dX9_hole_40 : decode cX9_hole 40 = .ok (.goto 29, 3) := by decide +kernel
theorem dX9_hole_43 : decode cX9_hole 43 = .ok (.iload_n 2, 1) := by decide +kernel
theorem dX9_hole_44 : decode cX9_hole 44 = .ok (.iconst 4, 1) := by decide +kernel
theorem dX9_hole_45 : decode cX9_hole 45 = .ok (.if_icmp .ne 11, 3) := by decide +kernel
theorem dX9_hole_48 : decode cX9_hole 48 = .ok (.aload_n 0, 1) := by decide +kernel
theorem dX9_hole_49 : decode cX9_hole 49 = .ok (.iload_n 1, 1) := by decide +kernel
theorem dX9_hole_50 : decode cX9_hole 50 = .ok (.invokevirtual 165, 3) := by decide +kernel
theorem dX9_hole_53 : decode cX9_hole 53 = .ok (.goto 16, 3) := by decide +kernel
theorem dX9_hole_56 : decode cX9_hole 56 = .ok (.aload_n 0, 1) := by decide +kernel
theorem dX9_hole_57 : decode cX9_hole 57 = .ok (.iload_n 1, 1) := by decide +kernel
theorem dX9_hole_58 : decode cX9_hole 58 = .ok (.invokevirtual 165, 3) := by decide +kernel
theorem dX9_hole_61 : decode cX9_hole 61 = .ok (.ifCond .ne 7, 3) := by decide +kernel
theorem dX9_hole_64 : decode cX9_hole 64 = .ok (.iconst 1, 1) := by decide +kernel
theorem dX9_hole_65 : decode cX9_hole 65 = .ok (.goto 4, 3) := by decide +kernel
theorem dX9_hole_68 : decode cX9_hole 68 = .ok (.iconst 0, 1) := by decide +kernel
theorem dX9_hole_69 : decode cX9_hole 69 = .ok (.ireturn, 1) := by decide +kernel
theorem dX9_hits_0 : decode cX9_hits 0 = .ok (.aload_n 0, 1) := by decide +kernel
theorem dX9_hits_1 : decode cX9_hits 1 = .ok (.iload_n 1, 1) := by decide +kernel
theorem dX9_hits_2 : decode cX9_hits 2 = .ok (.invokevirtual 158, 3) := by decide +kernel
theorem dX9_hits_5 : decode cX9_hits 5 = .ok (.ifCond .eq 31, 3) := by decide +kernel
theorem dX9_hits_8 : decode cX9_hits 8 = .ok (.aload_n 0, 1) := by decide +kernel
theorem dX9_hits_9 : decode cX9_hits 9 = .ok (.iload_n 2, 1) := by decide +kernel
theorem dX9_hits_10 : decode cX9_hits 10 = .ok (.invokevirtual 134, 3) := by decide +kernel
theorem dX9_hits_13 : decode cX9_hits 13 = .ok (.ifCond .eq 23, 3) := by decide +kernel
theorem dX9_hits_16 : decode cX9_hits 16 = .ok (.iload_n 3, 1) := by decide +kernel
theorem dX9_hits_17 : decode cX9_hits 17 = .ok (.i2l, 1) := by decide +kernel
theorem dX9_hits_18 : decode cX9_hits 18 = .ok (.lconst 0, 1) := by decide +kernel
theorem dX9_hits_19 : decode cX9_hits 19 = .ok (.lconst 1, 1) := by decide +kernel
theorem dX9_hits_20 : decode cX9_hits 20 = .ok (.invokestatic 58, 3) := by decide +kernel
theorem dX9_hits_23 : decode cX9_hits 23 = .ok (.ifCond .eq 13, 3) := by decide +kernel
theorem dX9_hits_26 : decode cX9_hits 26 = .ok (.aload_n 0, 1) := by decide +kernel
theorem dX9_hits_27 : decode cX9_hits 27 = .ok (.iload_n 1, 1) := by decide +kernel
theorem dX9_hits_28 : decode cX9_hits 28 = .ok (.iload_n 2, 1) := by decide +kernel
theorem dX9_hits_29 : decode cX9_hits 29 = .ok (.iload_n 3, 1) := by decide +kernel
theorem dX9_hits_30 : decode cX9_hits 30 = .ok (.invokevirtual 161, 3) := by decide +kernel
theorem dX9_hits_33 : decode cX9_hits 33 = .ok (.goto 4, 3) := by decide +kernel
theorem dX9_hits_36 : decode cX9_hits 36 = .ok (.iconst (-1), 1) := by decide +kernel
theorem dX9_hits_37 : decode cX9_hits 37 = .ok (.ireturn, 1) := by decide +kernel
theorem dX9_cell_0 : decode cX9_cell 0 = .ok (.aload_n 0, 1) := by decide +kernel
theorem dX9_cell_1 : decode cX9_cell 1 = .ok (.iload_n 1, 1) := by decide +kernel
theorem dX9_cell_2 : decode cX9_cell 2 = .ok (.iload_n 2, 1) := by decide +kernel
theorem dX9_cell_3 : decode cX9_cell 3 = .ok (.invokevirtual 121, 3) := by decide +kernel
theorem dX9_cell_6 : decode cX9_cell 6 = .ok (.ifCond .eq 15, 3) := by decide +kernel
theorem dX9_cell_9 : decode cX9_cell 9 = .ok (.iload_n 3, 1) := by decide +kernel
theorem dX9_cell_10 : decode cX9_cell 10 = .ok (.i2l, 1) := by decide +kernel
theorem dX9_cell_11 : decode cX9_cell 11 = .ok (.lconst 0, 1) := by decide +kernel
theorem dX9_cell_12 : decode cX9_cell 12 = .ok (.ldc2_w 180, 3) := by decide +kernel
theorem dX9_cell_15 : decode cX9_cell 15 = .ok (.invokestatic 58, 3) := by decide +kernel
theorem dX9_cell_18 : decode cX9_cell 18 = .ok (.ifCond .ne 5, 3) := by decide +kernel
theorem dX9_cell_21 : decode cX9_cell 21 = .ok (.iconst (-1), 1) := by decide +kernel
theorem dX9_cell_22 : decode cX9_cell 22 = .ok (.ireturn, 1) := by decide +kernel
