theorem dX9_takesBack_1 : decode cX9_takesBack 1 = .ok (.dup, 1) := by decide +kernel
theorem dX9_takesBack_2 : decode cX9_takesBack 2 = .ok (.getfield 50, 3) := by decide +kernel
theorem dX9_takesBack_5 : decode cX9_takesBack 5 = .ok (.iconst 1, 1) := by decide +kernel
theorem dX9_takesBack_6 : decode cX9_takesBack 6 = .ok (.isub, 1) := by decide +kernel
theorem dX9_takesBack_7 : decode cX9_takesBack 7 = .ok (.putfield 50, 3) := by decide +kernel
theorem dX9_takesBack_10 : decode cX9_takesBack 10 = .ok (.iconst 0, 1) := by decide +kernel
theorem dX9_takesBack_11 : decode cX9_takesBack 11 = .ok (.istore_n 1, 1) := by decide +kernel
theorem dX9_takesBack_12 : decode cX9_takesBack 12 = .ok (.iload_n 1, 1) := by decide +kernel
theorem dX9_takesBack_13 : decode cX9_takesBack 13 = .ok (.sipush 156, 3) := by decide +kernel
theorem dX9_takesBack_16 : decode cX9_takesBack 16 = .ok (.if_icmp .ge 30, 3) := by decide +kernel
theorem dX9_takesBack_19 : decode cX9_takesBack 19 = .ok (.aload_n 0, 1) := by decide +kernel
theorem dX9_takesBack_20 : decode cX9_takesBack 20 = .ok (.getfield 19, 3) := by decide +kernel
theorem dX9_takesBack_23 : decode cX9_takesBack 23 = .ok (.iload_n 1, 1) := by decide +kernel
theorem dX9_takesBack_24 : decode cX9_takesBack 24 = .ok (.aload_n 0, 1) := by decide +kernel
theorem dX9_takesBack_25 : decode cX9_takesBack 25 = .ok (.getfield 22, 3) := by decide +kernel
theorem dX9_takesBack_28 : decode cX9_takesBack 28 = .ok (.sipush 156, 3) := by decide +kernel
theorem dX9_takesBack_31 : decode cX9_takesBack 31 = .ok (.aload_n 0, 1) := by decide +kernel
theorem dX9_takesBack_32 : decode cX9_takesBack 32 = .ok (.getfield 50, 3) := by decide +kernel
theorem dX9_takesBack_35 : decode cX9_takesBack 35 = .ok (.imul, 1) := by decide +kernel
theorem dX9_takesBack_36 : decode cX9_takesBack 36 = .ok (.iload_n 1, 1) := by decide +kernel
theorem dX9_takesBack_37 : decode cX9_takesBack 37 = .ok (.iadd, 1) := by decide +kernel
theorem dX9_takesBack_38 : decode cX9_takesBack 38 = .ok (.iaload, 1) := by decide +kernel
theorem dX9_takesBack_39 : decode cX9_takesBack 39 = .ok (.iastore, 1) := by decide +kernel
theorem dX9_takesBack_40 : decode cX9_takesBack 40 = .ok (.iinc 1 1, 3) := by decide +kernel
theorem dX9_takesBack_43 : decode cX9_takesBack 43 = .ok (.goto (-31), 3) := by decide +kernel
theorem dX9_takesBack_46 : decode cX9_takesBack 46 = .ok (.return_, 1) := by decide +kernel
theorem dX9_undo_0 : decode cX9_undo 0 = .ok (.aload_n 0, 1) := by decide +kernel
theorem dX9_undo_1 : decode cX9_undo 1 = .ok (.getfield 50, 3) := by decide +kernel
theorem dX9_undo_4 : decode cX9_undo 4 = .ok (.ifCond .ne 6, 3) := by decide +kernel
theorem dX9_undo_7 : decode cX9_undo 7 = .ok (.bipush (-2), 2) := by decide +kernel
theorem dX9_undo_9 : decode cX9_undo 9 = .ok (.ireturn, 1) := by decide +kernel
theorem dX9_undo_10 : decode cX9_undo 10 = .ok (.aload_n 0, 1) := by decide +kernel
theorem dX9_undo_11 : decode cX9_undo 11 = .ok (.invokevirtual 111, 3) := by decide +kernel
theorem dX9_undo_14 : decode cX9_undo 14 = .ok (.aload_n 0, 1) := by decide +kernel
theorem dX9_undo_15 : decode cX9_undo 15 = .ok (.getfield 50, 3) := by decide +kernel
theorem dX9_undo_18 : decode cX9_undo 18 = .ok (.ireturn, 1) := by decide +kernel
theorem dX9_isCell_0 : decode cX9_isCell 0 = .ok (.iload_n 1, 1) := by decide +kernel
theorem dX9_isCell_1 : decode cX9_isCell 1 = .ok (.i2l, 1) := by decide +kernel
theorem dX9_isCell_2 : decode cX9_isCell 2 = .ok (.lconst 0, 1) := by decide +kernel
theorem dX9_isCell_3 : decode cX9_isCell 3 = .ok (.aload_n 0, 1) := by decide +kernel
theorem dX9_isCell_4 : decode cX9_isCell 4 = .ok (.getfield 13, 3) := by decide +kernel
theorem dX9_isCell_7 : decode cX9_isCell 7 = .ok (.iconst 0, 1) := by decide +kernel
theorem dX9_isCell_8 : decode cX9_isCell 8 = .ok (.iaload, 1) := by decide +kernel
theorem dX9_isCell_9 : decode cX9_isCell 9 = .ok (.iconst 1, 1) := by decide +kernel
theorem dX9_isCell_10 : decode cX9_isCell 10 = .ok (.isub, 1) := by decide +kernel
theorem dX9_isCell_11 : decode cX9_isCell 11 = .ok (.i2l, 1) := by decide +kernel
theorem dX9_isCell_12 : decode cX9_isCell 12 = .ok (.invokestatic 58, 3) := by decide +kernel
theorem dX9_isCell_15 : decode cX9_isCell 15 = .ok (.ifCond .eq 25, 3) := by decide +kernel
theorem dX9_isCell_18 : decode cX9_isCell 18 = .ok (.iload_n 2, 1) := by decide +kernel
theorem dX9_isCell_19 : decode cX9_isCell 19 = .ok (.i2l, 1) := by decide +kernel
theorem dX9_isCell_20 : decode cX9_isCell 20 = .ok (.lconst 0, 1) := by decide +kernel
theorem dX9_isCell_21 : decode cX9_isCell 21 = .ok (.aload_n 0, 1) := by decide +kernel
theorem dX9_isCell_22 : decode cX9_isCell 22 = .ok (.getfield 13, 3) := by decide +kernel
theorem dX9_isCell_25 : decode cX9_isCell 25 = .ok (.iconst 1, 1) := by decide +kernel
theorem dX9_isCell_26 : decode cX9_isCell 26 = .ok (.iaload, 1) := by decide +kernel
theorem dX9_isCell_27 : decode cX9_isCell 27 = .ok (.iconst 1, 1) := by decide +kernel
theorem dX9_isCell_28 : decode cX9_isCell 28 = .ok (.isub, 1) := by decide +kernel
theorem dX9_isCell_29 : decode cX9_isCell 29 = .ok (.i2l, 1) := by decide +kernel
theorem dX9_isCell_30 : decode cX9_isCell 30 = .ok (.invokestatic 58, 3) := by decide +kernel
theorem dX9_isCell_33 : decode cX9_isCell 33 = .ok (.ifCond .eq 7, 3) := by decide +kernel
theorem dX9_isCell_36 : decode cX9_isCell 36 = .ok (.iconst 1, 1) := by decide +kernel
theorem dX9_isCell_37 : decode cX9_isCell 37 = .ok (.goto 4, 3) := by decide +kernel
theorem dX9_isCell_40 : decode cX9_isCell 40 = .ok (.iconst 0, 1) := by decide +kernel
theorem dX9_isCell_41 : decode cX9_isCell 41 = .ok (.ireturn, 1) := by decide +kernel
theorem dX9_isStation_0 : decode cX9_isStation 0 = .ok (.iload_n 1, 1) := by decide +kernel
theorem dX9_isStation_1 : decode cX9_isStation 1 = .ok (.i2l, 1) := by decide +kernel
theorem dX9_isStation_2 : decode cX9_isStation 2 = .ok (.lconst 0, 1) := by decide +kernel
theorem dX9_isStation_3 : decode cX9_isStation 3 = .ok (.aload_n 0, 1) := by decide +kernel
theorem dX9_isStation_4 : decode cX9_isStation 4 = .ok (.getfield 13, 3) := by decide +kernel
theorem dX9_isStation_7 : decode cX9_isStation 7 = .ok (.iconst 2, 1) := by decide +kernel
theorem dX9_isStation_8 : decode cX9_isStation 8 = .ok (.iaload, 1) := by decide +kernel
theorem dX9_isStation_9 : decode cX9_isStation 9 = .ok (.iconst 1, 1) := by decide +kernel
theorem dX9_isStation_10 : decode cX9_isStation 10 = .ok (.isub, 1) := by decide +kernel
theorem dX9_isStation_11 : decode cX9_isStation 11 = .ok (.i2l, 1) := by decide +kernel
theorem dX9_isStation_12 : decode cX9_isStation 12 = .ok (.invokestatic 58, 3) := by decide +kernel
theorem dX9_isStation_15 : decode cX9_isStation 15 = .ok (.ireturn, 1) := by decide +kernel
theorem dX9_isHole_0 : decode cX9_isHole 0 = .ok (.iload_n 1, 1) := by decide +kernel
theorem dX9_isHole_1 : decode cX9_isHole 1 = .ok (.i2l, 1) := by decide +kernel
theorem dX9_isHole_2 : decode cX9_isHole 2 = .ok (.lconst 0, 1) := by decide +kernel
theorem dX9_isHole_3 : decode cX9_isHole 3 = .ok (.aload_n 0, 1) := by decide +kernel
theorem dX9_isHole_4 : decode cX9_isHole 4 = .ok (.getfield 13, 3) := by decide +kernel
theorem dX9_isHole_7 : decode cX9_isHole 7 = .ok (.iconst 3, 1) := by decide +kernel
theorem dX9_isHole_8 : decode cX9_isHole 8 = .ok (.iaload, 1) := by decide +kernel
theorem dX9_isHole_9 : decode cX9_isHole 9 = .ok (.iconst 1, 1) := by decide +kernel
theorem dX9_isHole_10 : decode cX9_isHole 10 = .ok (.isub, 1) := by decide +kernel
theorem dX9_isHole_11 : decode cX9_isHole 11 = .ok (.i2l, 1) := by decide +kernel
theorem dX9_isHole_12 : decode cX9_isHole 12 = .ok (.invokestatic 58, 3) := by decide +kernel
theorem dX9_isHole_15 : decode cX9_isHole 15 = .ok (.ireturn, 1) := by decide +kernel
theorem dX9_holeAt_0 : decode cX9_holeAt 0 = .ok (.iconst 0, 1) := by decide +kernel
theorem dX9_holeAt_1 : decode cX9_holeAt 1 = .ok (.istore_n 3, 1) := by decide +kernel
theorem dX9_holeAt_2 : decode cX9_holeAt 2 = .ok (.iload_n 3, 1) := by decide +kernel
theorem dX9_holeAt_3 : decode cX9_holeAt 3 = .ok (.aload_n 0, 1) := by decide +kernel
theorem dX9_holeAt_4 : decode cX9_holeAt 4 = .ok (.getfield 13, 3) := by decide +kernel
theorem dX9_holeAt_7 : decode cX9_holeAt 7 = .ok (.iconst 3, 1) := by decide +kernel
theorem dX9_holeAt_8 : decode cX9_holeAt 8 = .ok (.iaload, 1) := by decide +kernel
theorem dX9_holeAt_9 : decode cX9_holeAt 9 = .ok (.if_icmp .ge 95, 3) := by decide +kernel
theorem dX9_holeAt_12 : decode cX9_holeAt 12 = .ok (.bipush 29, 2) := by decide +kernel
theorem dX9_holeAt_14 : decode cX9_holeAt 14 = .ok (.iconst 4, 1) := by decide +kernel
theorem dX9_holeAt_15 : decode cX9_holeAt 15 = .ok (.iload_n 3, 1) := by decide +kernel
theorem dX9_holeAt_16 : decode cX9_holeAt 16 = .ok (.imul, 1) := by decide +kernel
theorem dX9_holeAt_17 : decode cX9_holeAt 17 = .ok (.iadd, 1) := by decide +kernel
theorem dX9_holeAt_18 : decode cX9_holeAt 18 = .ok (.istore 4, 2) := by decide +kernel
theorem dX9_holeAt_20 : decode cX9_holeAt 20 = .ok (.iload_n 1, 1) := by decide +kernel
theorem dX9_holeAt_21 : decode cX9_holeAt 21 = .ok (.i2l, 1) := by decide +kernel
theorem dX9_holeAt_22 : decode cX9_holeAt 22 = .ok (.aload_n 0, 1) := by decide +kernel
theorem dX9_holeAt_23 : decode cX9_holeAt 23 = .ok (.getfield 13, 3) := by decide +kernel
theorem dX9_holeAt_26 : decode cX9_holeAt 26 = .ok (.iload 4, 2) := by decide +kernel
theorem dX9_holeAt_28 : decode cX9_holeAt 28 = .ok (.iaload, 1) := by decide +kernel
theorem dX9_holeAt_29 : decode cX9_holeAt 29 = .ok (.i2l, 1) := by decide +kernel
theorem dX9_holeAt_30 : decode cX9_holeAt 30 = .ok (.aload_n 0, 1) := by decide +kernel
theorem dX9_holeAt_31 : decode cX9_holeAt 31 = .ok (.getfield 13, 3) := by decide +kernel
theorem dX9_holeAt_34 : decode cX9_holeAt 34 = .ok (.iload 4, 2) := by decide +kernel
theorem dX9_holeAt_36 : decode cX9_holeAt 36 = .ok (.iaload, 1) := by decide +kernel
theorem dX9_holeAt_37 : decode cX9_holeAt 37 = .ok (.aload_n 0, 1) := by decide +kernel
theorem dX9_holeAt_38 : decode cX9_holeAt 38 = .ok (.getfield 13, 3) := by decide +kernel
theorem dX9_holeAt_41 : decode cX9_holeAt 41 = .ok (.iload 4, 2) := by decide +kernel
theorem dX9_holeAt_43 : decode cX9_holeAt 43 = .ok (.iconst 2, 1) := by decide +kernel
theorem dX9_holeAt_44 : decode cX9_holeAt 44 = .ok (.iadd, 1) := by decide +kernel
theorem dX9_holeAt_45 : decode cX9_holeAt 45 = .ok (.iaload, 1) := by decide +kernel
theorem dX9_holeAt_46 : decode cX9_holeAt 46 = .ok (.iadd, 1) := by decide +kernel
theorem dX9_holeAt_47 : decode cX9_holeAt 47 = .ok (.iconst 1, 1) := by decide +kernel
theorem dX9_holeAt_48 : decode cX9_holeAt 48 = .ok (.isub, 1) := by decide +kernel
theorem dX9_holeAt_49 : decode cX9_holeAt 49 = .ok (.i2l, 1) := by decide +kernel
theorem dX9_holeAt_50 : decode cX9_holeAt 50 = .ok (.invokestatic 58, 3) := by decide +kernel
theorem dX9_holeAt_53 : decode cX9_holeAt 53 = .ok (.ifCond .eq 45, 3) := by decide +kernel
theorem dX9_holeAt_56 : decode cX9_holeAt 56 = .ok (.iload_n 2, 1) := by decide +kernel
theorem dX9_holeAt_57 : decode cX9_holeAt 57 = .ok (.i2l, 1) := by decide +kernel
theorem dX9_holeAt_58 : decode cX9_holeAt 58 = .ok (.aload_n 0, 1) := by decide +kernel
theorem dX9_holeAt_59 : decode cX9_holeAt 59 = .ok (.getfield 13, 3) := by decide +kernel
theorem dX9_holeAt_62 : decode cX9_holeAt 62 = .ok (.iload 4, 2) := by decide +kernel
theorem dX9_holeAt_64 : decode cX9_holeAt 64 = .ok (.iconst 1, 1) := by decide +kernel
theorem dX9_holeAt_65 : decode cX9_holeAt 65 = .ok (.iadd, 1) := by decide +kernel
theorem dX9_holeAt_66 : decode cX9_holeAt 66 = .ok (.iaload, 1) := by decide +kernel
theorem dX9_holeAt_67 : decode cX9_holeAt 67 = .ok (.i2l, 1) := by decide +kernel
theorem dX9_holeAt_68 : decode cX9_holeAt 68 = .ok (.aload_n 0, 1) := by decide +kernel
theorem dX9_holeAt_69 : decode cX9_holeAt 69 = .ok (.getfield 13, 3) := by decide +kernel
theorem dX9_holeAt_72 : decode cX9_holeAt 72 = .ok (.iload 4, 2) := by decide +kernel
theorem dX9_holeAt_74 : decode cX9_holeAt 74 = .ok (.iconst 1, 1) := by decide +kernel
theorem dX9_holeAt_75 : decode cX9_holeAt 75 = .ok (.iadd, 1) := by decide +kernel
theorem dX9_holeAt_76 : decode cX9_holeAt 76 = .ok (.iaload, 1) := by decide +kernel
theorem dX9_holeAt_77 : decode cX9_holeAt 77 = .ok (.aload_n 0, 1) := by decide +kernel
theorem dX9_holeAt_78 : decode cX9_holeAt 78 = .ok (.getfield 13, 3) := by decide +kernel
theorem dX9_holeAt_81 : decode cX9_holeAt 81 = .ok (.iload 4, 2) := by decide +kernel
theorem dX9_holeAt_83 : decode cX9_holeAt 83 = .ok (.iconst 3, 1) := by decide +kernel
theorem dX9_holeAt_84 : decode cX9_holeAt 84 = .ok (.iadd, 1) := by decide +kernel
theorem dX9_holeAt_85 : decode cX9_holeAt 85 = .ok (.iaload, 1) := by decide +kernel
theorem dX9_holeAt_86 : decode cX9_holeAt 86 = .ok (.iadd, 1) := by decide +kernel
theorem dX9_holeAt_87 : decode cX9_holeAt 87 = .ok (.iconst 1, 1) := by decide +kernel
theorem dX9_holeAt_88 : decode cX9_holeAt 88 = .ok (.isub, 1) := by decide +kernel
theorem dX9_holeAt_89 : decode cX9_holeAt 89 = .ok (.i2l, 1) := by decide +kernel
theorem dX9_holeAt_90 : decode cX9_holeAt 90 = .ok (.invokestatic 58, 3) := by decide +kernel
theorem dX9_holeAt_93 : decode cX9_holeAt 93 = .ok (.ifCond .eq 5, 3) := by decide +kernel
theorem dX9_holeAt_96 : decode cX9_holeAt 96 = .ok (.iload_n 3, 1) := by decide +kernel
theorem dX9_holeAt_97 : decode cX9_holeAt 97 = .ok (.ireturn, 1) := by decide +kernel
theorem dX9_holeAt_98 : decode cX9_holeAt 98 = .ok (.iinc 3 1, 3) := by decide +kernel
theorem dX9_holeAt_101 : decode cX9_holeAt 101 = .ok (.goto (-99), 3) := by decide +kernel
theorem dX9_holeAt_104 : decode cX9_holeAt 104 = .ok (.bipush (-4), 2) := by decide +kernel
theorem dX9_holeAt_106 : decode cX9_holeAt 106 = .ok (.ireturn, 1) := by decide +kernel
theorem dX9_clampAt_0 : decode cX9_clampAt 0 = .ok (.iconst 0, 1) := by decide +kernel
theorem dX9_clampAt_1 : decode cX9_clampAt 1 = .ok (.istore_n 3, 1) := by decide +kernel
theorem dX9_clampAt_2 : decode cX9_clampAt 2 = .ok (.iload_n 3, 1) := by decide +kernel
theorem dX9_clampAt_3 : decode cX9_clampAt 3 = .ok (.aload_n 0, 1) := by decide +kernel
theorem dX9_clampAt_4 : decode cX9_clampAt 4 = .ok (.getfield 13, 3) := by decide +kernel
theorem dX9_clampAt_7 : decode cX9_clampAt 7 = .ok (.iconst 4, 1) := by decide +kernel
theorem dX9_clampAt_8 : decode cX9_clampAt 8 = .ok (.iaload, 1) := by decide +kernel
theorem dX9_clampAt_9 : decode cX9_clampAt 9 = .ok (.if_icmp .ge 55, 3) := by decide +kernel
theorem dX9_clampAt_12 : decode cX9_clampAt 12 = .ok (.iload_n 2, 1) := by decide +kernel
theorem dX9_clampAt_13 : decode cX9_clampAt 13 = .ok (.aload_n 0, 1) := by decide +kernel
theorem dX9_clampAt_14 : decode cX9_clampAt 14 = .ok (.getfield 13, 3) := by decide +kernel
theorem dX9_clampAt_17 : decode cX9_clampAt 17 = .ok (.iconst 1, 1) := by decide +kernel
theorem dX9_clampAt_18 : decode cX9_clampAt 18 = .ok (.iaload, 1) := by decide +kernel
theorem dX9_clampAt_19 : decode cX9_clampAt 19 = .ok (.iconst 1, 1) := by decide +kernel
theorem dX9_clampAt_20 : decode cX9_clampAt 20 = .ok (.isub, 1) := by decide +kernel
theorem dX9_clampAt_21 : decode cX9_clampAt 21 = .ok (.if_icmp .ne 37, 3) := by decide +kernel
theorem dX9_clampAt_24 : decode cX9_clampAt 24 = .ok (.iload_n 1, 1) := by decide +kernel
theorem dX9_clampAt_25 : decode cX9_clampAt 25 = .ok (.i2l, 1) := by decide +kernel
theorem dX9_clampAt_26 : decode cX9_clampAt 26 = .ok (.aload_n 0, 1) := by decide +kernel
theorem dX9_clampAt_27 : decode cX9_clampAt 27 = .ok (.getfield 19, 3) := by decide +kernel
theorem dX9_clampAt_30 : decode cX9_clampAt 30 = .ok (.sipush 151, 3) := by decide +kernel
theorem dX9_clampAt_33 : decode cX9_clampAt 33 = .ok (.iload_n 3, 1) := by decide +kernel
theorem dX9_clampAt_34 : decode cX9_clampAt 34 = .ok (.iadd, 1) := by decide +kernel
theorem dX9_clampAt_35 : decode cX9_clampAt 35 = .ok (.iaload, 1) := by decide +kernel
theorem dX9_clampAt_36 : decode cX9_clampAt 36 = .ok (.i2l, 1) := by decide +kernel
theorem dX9_clampAt_37 : decode cX9_clampAt 37 = .ok (.aload_n 0, 1) := by decide +kernel
theorem dX9_clampAt_38 : decode cX9_clampAt 38 = .ok (.getfield 19, 3) := by decide +kernel
theorem dX9_clampAt_41 : decode cX9_clampAt 41 = .ok (.sipush 151, 3) := by decide +kernel
theorem dX9_clampAt_44 : decode cX9_clampAt 44 = .ok (.iload_n 3, 1) := by decide +kernel
theorem dX9_clampAt_45 : decode cX9_clampAt 45 = .ok (.iadd, 1) := by decide +kernel
theorem dX9_clampAt_46 : decode cX9_clampAt 46 = .ok (.iaload, 1) := by decide +kernel
theorem dX9_clampAt_47 : decode cX9_clampAt 47 = .ok (.iconst 1, 1) := by decide +kernel
theorem dX9_clampAt_48 : decode cX9_clampAt 48 = .ok (.iadd, 1) := by decide +kernel
theorem dX9_clampAt_49 : decode cX9_clampAt 49 = .ok (.i2l, 1) := by decide +kernel
theorem dX9_clampAt_50 : decode cX9_clampAt 50 = .ok (.invokestatic 58, 3) := by decide +kernel
theorem dX9_clampAt_53 : decode cX9_clampAt 53 = .ok (.ifCond .eq 5, 3) := by decide +kernel
theorem dX9_clampAt_56 : decode cX9_clampAt 56 = .ok (.iload_n 3, 1) := by decide +kernel
theorem dX9_clampAt_57 : decode cX9_clampAt 57 = .ok (.ireturn, 1) := by decide +kernel
theorem dX9_clampAt_58 : decode cX9_clampAt 58 = .ok (.iinc 3 1, 3) := by decide +kernel
theorem dX9_clampAt_61 : decode cX9_clampAt 61 = .ok (.goto (-59), 3) := by decide +kernel
theorem dX9_clampAt_64 : decode cX9_clampAt 64 = .ok (.bipush (-4), 2) := by decide +kernel
theorem dX9_clampAt_66 : decode cX9_clampAt 66 = .ok (.ireturn, 1) := by decide +kernel
theorem dX9_wide_0 : decode cX9_wide 0 = .ok (.aload_n 0, 1) := by decide +kernel
theorem dX9_wide_1 : decode cX9_wide 1 = .ok (.getfield 13, 3) := by decide +kernel
theorem dX9_wide_4 : decode cX9_wide 4 = .ok (.iconst 5, 1) := by decide +kernel
theorem dX9_wide_5 : decode cX9_wide 5 = .ok (.iconst 4, 1) := by decide +kernel
theorem dX9_wide_6 : decode cX9_wide 6 = .ok (.iload_n 1, 1) := by decide +kernel
theorem dX9_wide_7 : decode cX9_wide 7 = .ok (.imul, 1) := by decide +kernel
theorem dX9_wide_8 : decode cX9_wide 8 = .ok (.iadd, 1) := by decide +kernel
theorem dX9_wide_9 : decode cX9_wide 9 = .ok (.iload_n 2, 1) := by decide +kernel
theorem dX9_wide_10 : decode cX9_wide 10 = .ok (.iconst 1, 1) := by decide +kernel
theorem dX9_wide_11 : decode cX9_wide 11 = .ok (.if_icmp .ne 7, 3) := by decide +kernel
theorem dX9_wide_14 : decode cX9_wide 14 = .ok (.iconst 1, 1) := by decide +kernel
theorem dX9_wide_15 : decode cX9_wide 15 = .ok (.goto 4, 3) := by decide +kernel
theorem dX9_wide_18 : decode cX9_wide 18 = .ok (.iconst 0, 1) := by decide +kernel
theorem dX9_wide_19 : decode cX9_wide 19 = .ok (.iadd, 1) := by decide +kernel
theorem dX9_wide_20 : decode cX9_wide 20 = .ok (.iaload, 1) := by decide +kernel
theorem dX9_wide_21 : decode cX9_wide 21 = .ok (.ireturn, 1) := by decide +kernel
theorem dX9_high_0 : decode cX9_high 0 = .ok (.aload_n 0, 1) := by decide +kernel
theorem dX9_high_1 : decode cX9_high 1 = .ok (.getfield 13, 3) := by decide +kernel
theorem dX9_high_4 : decode cX9_high 4 = .ok (.iconst 5, 1) := by decide +kernel
theorem dX9_high_5 : decode cX9_high 5 = .ok (.iconst 4, 1) := by decide +kernel
theorem dX9_high_6 : decode cX9_high 6 = .ok (.iload_n 1, 1) := by decide +kernel
theorem dX9_high_7 : decode cX9_high 7 = .ok (.imul, 1) := by decide +kernel
theorem dX9_high_8 : decode cX9_high 8 = .ok (.iadd, 1) := by decide +kernel
theorem dX9_high_9 : decode cX9_high 9 = .ok (.iload_n 2, 1) := by decide +kernel
theorem dX9_high_10 : decode cX9_high 10 = .ok (.iconst 1, 1) := by decide +kernel
theorem dX9_high_11 : decode cX9_high 11 = .ok (.if_icmp .ne 7, 3) := by decide +kernel
theorem dX9_high_14 : decode cX9_high 14 = .ok (.iconst 0, 1) := by decide +kernel
theorem dX9_high_15 : decode cX9_high 15 = .ok (.goto 4, 3) := by decide +kernel
theorem dX9_high_18 : decode cX9_high 18 = .ok (.iconst 1, 1) := by decide +kernel
theorem dX9_high_19 : decode cX9_high 19 = .ok (.iadd, 1) := by decide +kernel
theorem dX9_high_20 : decode cX9_high 20 = .ok (.iaload, 1) := by decide +kernel
theorem dX9_high_21 : decode cX9_high 21 = .ok (.ireturn, 1) := by decide +kernel
theorem dX9_isDull_0 : decode cX9_isDull 0 = .ok (.aload_n 0, 1) := by decide +kernel
theorem dX9_isDull_1 : decode cX9_isDull 1 = .ok (.getfield 19, 3) := by decide +kernel
theorem dX9_isDull_4 : decode cX9_isDull 4 = .ok (.sipush 144, 3) := by decide +kernel
theorem dX9_isDull_7 : decode cX9_isDull 7 = .ok (.iload_n 1, 1) := by decide +kernel
theorem dX9_isDull_8 : decode cX9_isDull 8 = .ok (.iadd, 1) := by decide +kernel
theorem dX9_isDull_9 : decode cX9_isDull 9 = .ok (.iaload, 1) := by decide +kernel
theorem dX9_isDull_10 : decode cX9_isDull 10 = .ok (.aload_n 0, 1) := by decide +kernel
theorem dX9_isDull_11 : decode cX9_isDull 11 = .ok (.getfield 13, 3) := by decide +kernel
theorem dX9_isDull_14 : decode cX9_isDull 14 = .ok (.iconst 5, 1) := by decide +kernel
theorem dX9_isDull_15 : decode cX9_isDull 15 = .ok (.iconst 4, 1) := by decide +kernel
theorem dX9_isDull_16 : decode cX9_isDull 16 = .ok (.iload_n 1, 1) := by decide +kernel
theorem dX9_isDull_17 : decode cX9_isDull 17 = .ok (.imul, 1) := by decide +kernel
theorem dX9_isDull_18 : decode cX9_isDull 18 = .ok (.iadd, 1) := by decide +kernel
theorem dX9_isDull_19 : decode cX9_isDull 19 = .ok (.iconst 3, 1) := by decide +kernel
theorem dX9_isDull_20 : decode cX9_isDull 20 = .ok (.iadd, 1) := by decide +kernel
theorem dX9_isDull_21 : decode cX9_isDull 21 = .ok (.iaload, 1) := by decide +kernel
theorem dX9_isDull_22 : decode cX9_isDull 22 = .ok (.if_icmp .lt 7, 3) := by decide +kernel
theorem dX9_isDull_25 : decode cX9_isDull 25 = .ok (.iconst 1, 1) := by decide +kernel
theorem dX9_isDull_26 : decode cX9_isDull 26 = .ok (.goto 4, 3) := by decide +kernel
theorem dX9_isDull_29 : decode cX9_isDull 29 = .ok (.iconst 0, 1) := by decide +kernel
theorem dX9_isDull_30 : decode cX9_isDull 30 = .ok (.ireturn, 1) := by decide +kernel
theorem dX9_ring_0 : decode cX9_ring 0 = .ok (.iload_n 1, 1) := by decide +kernel
theorem dX9_ring_1 : decode cX9_ring 1 = .ok (.iload_n 2, 1) := by decide +kernel
theorem dX9_ring_2 : decode cX9_ring 2 = .ok (.if_icmp .le 9, 3) := by decide +kernel
theorem dX9_ring_5 : decode cX9_ring 5 = .ok (.iload_n 1, 1) := by decide +kernel
theorem dX9_ring_6 : decode cX9_ring 6 = .ok (.iload_n 2, 1) := by decide +kernel
theorem dX9_ring_7 : decode cX9_ring 7 = .ok (.isub, 1) := by decide +kernel
theorem dX9_ring_8 : decode cX9_ring 8 = .ok (.goto 6, 3) := by decide +kernel
theorem dX9_ring_11 : decode cX9_ring 11 = .ok (.iload_n 2, 1) := by decide +kernel
theorem dX9_ring_12 : decode cX9_ring 12 = .ok (.iload_n 1, 1) := by decide +kernel
theorem dX9_ring_13 : decode cX9_ring 13 = .ok (.isub, 1) := by decide +kernel
theorem dX9_ring_14 : decode cX9_ring 14 = .ok (.istore_n 3, 1) := by decide +kernel
theorem dX9_ring_15 : decode cX9_ring 15 = .ok (.iconst 2, 1) := by decide +kernel
theorem dX9_ring_16 : decode cX9_ring 16 = .ok (.iload_n 3, 1) := by decide +kernel
theorem dX9_ring_17 : decode cX9_ring 17 = .ok (.imul, 1) := by decide +kernel
theorem dX9_ring_18 : decode cX9_ring 18 = .ok (.aload_n 0, 1) := by decide +kernel
theorem dX9_ring_19 : decode cX9_ring 19 = .ok (.getfield 13, 3) := by decide +kernel
theorem dX9_ring_22 : decode cX9_ring 22 = .ok (.iconst 2, 1) := by decide +kernel
theorem dX9_ring_23 : decode cX9_ring 23 = .ok (.iaload, 1) := by decide +kernel
theorem dX9_ring_24 : decode cX9_ring 24 = .ok (.if_icmp .le 14, 3) := by decide +kernel
theorem dX9_ring_27 : decode cX9_ring 27 = .ok (.aload_n 0, 1) := by decide +kernel
theorem dX9_ring_28 : decode cX9_ring 28 = .ok (.getfield 13, 3) := by decide +kernel
theorem dX9_ring_31 : decode cX9_ring 31 = .ok (.iconst 2, 1) := by decide +kernel
theorem dX9_ring_32 : decode cX9_ring 32 = .ok (.iaload, 1) := by decide +kernel
theorem dX9_ring_33 : decode cX9_ring 33 = .ok (.iload_n 3, 1) := by decide +kernel
theorem dX9_ring_34 : decode cX9_ring 34 = .ok (.isub, 1) := by decide +kernel
theorem dX9_ring_35 : decode cX9_ring 35 = .ok (.goto 4, 3) := by decide +kernel
theorem dX9_ring_38 : decode cX9_ring 38 = .ok (.iload_n 3, 1) := by decide +kernel
theorem dX9_ring_39 : decode cX9_ring 39 = .ok (.ireturn, 1) := by decide +kernel
theorem dX9_whyNot_0 : decode cX9_whyNot 0 = .ok (.aload_n 0, 1) := by decide +kernel
theorem dX9_whyNot_1 : decode cX9_whyNot 1 = .ok (.iload_n 1, 1) := by decide +kernel
theorem dX9_whyNot_2 : decode cX9_whyNot 2 = .ok (.iload 4, 2) := by decide +kernel
theorem dX9_whyNot_4 : decode cX9_whyNot 4 = .ok (.invokevirtual 114, 3) := by decide +kernel
theorem dX9_whyNot_7 : decode cX9_whyNot 7 = .ok (.istore 5, 2) := by decide +kernel
theorem dX9_whyNot_9 : decode cX9_whyNot 9 = .ok (.aload_n 0, 1) := by decide +kernel
theorem dX9_whyNot_10 : decode cX9_whyNot 10 = .ok (.iload_n 1, 1) := by decide +kernel
theorem dX9_whyNot_11 : decode cX9_whyNot 11 = .ok (.iload 4, 2) := by decide +kernel
theorem dX9_whyNot_13 : decode cX9_whyNot 13 = .ok (.invokevirtual 118, 3) := by decide +kernel
theorem dX9_whyNot_16 : decode cX9_whyNot 16 = .ok (.istore 6, 2) := by decide +kernel
theorem dX9_whyNot_18 : decode cX9_whyNot 18 = .ok (.iload 4, 2) := by decide +kernel
theorem dX9_whyNot_20 : decode cX9_whyNot 20 = .ok (.iconst 1, 1) := by decide +kernel
theorem dX9_whyNot_21 : decode cX9_whyNot 21 = .ok (.if_icmp .ne 20, 3) := by decide +kernel
theorem dX9_whyNot_24 : decode cX9_whyNot 24 = .ok (.aload_n 0, 1) := by decide +kernel
theorem dX9_whyNot_25 : decode cX9_whyNot 25 = .ok (.getfield 13, 3) := by decide +kernel
theorem dX9_whyNot_28 : decode cX9_whyNot 28 = .ok (.iconst 5, 1) := by decide +kernel
theorem dX9_whyNot_29 : decode cX9_whyNot 29 = .ok (.iconst 4, 1) := by decide +kernel
theorem dX9_whyNot_30 : decode cX9_whyNot 30 = .ok (.iload_n 1, 1) := by decide +kernel
theorem dX9_whyNot_31 : decode cX9_whyNot 31 = .ok (.imul, 1) := by decide +kernel
theorem dX9_whyNot_32 : decode cX9_whyNot 32 = .ok (.iadd, 1) := by decide +kernel
theorem dX9_whyNot_33 : decode cX9_whyNot 33 = .ok (.iconst 2, 1) := by decide +kernel
theorem dX9_whyNot_34 : decode cX9_whyNot 34 = .ok (.iadd, 1) := by decide +kernel
theorem dX9_whyNot_35 : decode cX9_whyNot 35 = .ok (.iaload, 1) := by decide +kernel
theorem dX9_whyNot_36 : decode cX9_whyNot 36 = .ok (.ifCond .ne 5, 3) := by decide +kernel
theorem dX9_whyNot_39 : decode cX9_whyNot 39 = .ok (.iconst 1, 1) := by decide +kernel
theorem dX9_whyNot_40 : decode cX9_whyNot 40 = .ok (.ireturn, 1) := by decide +kernel
theorem dX9_whyNot_41 : decode cX9_whyNot 41 = .ok (.aload_n 0, 1) := by decide +kernel
theorem dX9_whyNot_42 : decode cX9_whyNot 42 = .ok (.iload_n 2, 1) := by decide +kernel
theorem dX9_whyNot_43 : decode cX9_whyNot 43 = .ok (.iload_n 3, 1) := by decide +kernel
theorem dX9_whyNot_44 : decode cX9_whyNot 44 = .ok (.invokevirtual 121, 3) := by decide +kernel
theorem dX9_whyNot_47 : decode cX9_whyNot 47 = .ok (.ifCond .eq 22, 3) := by decide +kernel
theorem dX9_whyNot_50 : decode cX9_whyNot 50 = .ok (.aload_n 0, 1) := by decide +kernel
theorem dX9_whyNot_51 : decode cX9_whyNot 51 = .ok (.iload_n 2, 1) := by decide +kernel
theorem dX9_whyNot_52 : decode cX9_whyNot 52 = .ok (.iload 5, 2) := by decide +kernel
theorem dX9_whyNot_54 : decode cX9_whyNot 54 = .ok (.iadd, 1) := by decide +kernel
theorem dX9_whyNot_55 : decode cX9_whyNot 55 = .ok (.iconst 1, 1) := by decide +kernel
theorem dX9_whyNot_56 : decode cX9_whyNot 56 = .ok (.isub, 1) := by decide +kernel
theorem dX9_whyNot_57 : decode cX9_whyNot 57 = .ok (.iload_n 3, 1) := by decide +kernel
theorem dX9_whyNot_58 : decode cX9_whyNot 58 = .ok (.iload 6, 2) := by decide +kernel
theorem dX9_whyNot_60 : decode cX9_whyNot 60 = .ok (.iadd, 1) := by decide +kernel
theorem dX9_whyNot_61 : decode cX9_whyNot 61 = .ok (.iconst 1, 1) := by decide +kernel
theorem dX9_whyNot_62 : decode cX9_whyNot 62 = .ok (.isub, 1) := by decide +kernel
theorem dX9_whyNot_63 : decode cX9_whyNot 63 = .ok (.invokevirtual 121, 3) := by decide +kernel
theorem dX9_whyNot_66 : decode cX9_whyNot 66 = .ok (.ifCond .ne 5, 3) := by decide +kernel
theorem dX9_whyNot_69 : decode cX9_whyNot 69 = .ok (.iconst 2, 1) := by decide +kernel
theorem dX9_whyNot_70 : decode cX9_whyNot 70 = .ok (.ireturn, 1) := by decide +kernel
theorem dX9_whyNot_71 : decode cX9_whyNot 71 = .ok (.iconst 0, 1) := by decide +kernel
theorem dX9_whyNot_72 : decode cX9_whyNot 72 = .ok (.istore 7, 2) := by decide +kernel
theorem dX9_whyNot_74 : decode cX9_whyNot 74 = .ok (.iconst 0, 1) := by decide +kernel
theorem dX9_whyNot_75 : decode cX9_whyNot 75 = .ok (.istore 8, 2) := by decide +kernel
theorem dX9_whyNot_77 : decode cX9_whyNot 77 = .ok (.iconst 1, 1) := by decide +kernel
theorem dX9_whyNot_78 : decode cX9_whyNot 78 = .ok (.istore 9, 2) := by decide +kernel
theorem dX9_whyNot_80 : decode cX9_whyNot 80 = .ok (.iconst 0, 1) := by decide +kernel
theorem dX9_whyNot_81 : decode cX9_whyNot 81 = .ok (.istore 10, 2) := by decide +kernel
theorem dX9_whyNot_83 : decode cX9_whyNot 83 = .ok (.iload 10, 2) := by decide +kernel
theorem dX9_whyNot_85 : decode cX9_whyNot 85 = .ok (.iload 5, 2) := by decide +kernel
theorem dX9_whyNot_87 : decode cX9_whyNot 87 = .ok (.iload 6, 2) := by decide +kernel
theorem dX9_whyNot_89 : decode cX9_whyNot 89 = .ok (.imul, 1) := by decide +kernel
theorem dX9_whyNot_90 : decode cX9_whyNot 90 = .ok (.if_icmp .ge 121, 3) := by decide +kernel
theorem dX9_whyNot_93 : decode cX9_whyNot 93 = .ok (.iload_n 2, 1) := by decide +kernel
theorem dX9_whyNot_94 : decode cX9_whyNot 94 = .ok (.iload 10, 2) := by decide +kernel
theorem dX9_whyNot_96 : decode cX9_whyNot 96 = .ok (.iload 5, 2) := by decide +kernel
theorem dX9_whyNot_98 : decode cX9_whyNot 98 = .ok (.irem, 1) := by decide +kernel
theorem dX9_whyNot_99 : decode cX9_whyNot 99 = .ok (.iadd, 1) := by decide +kernel
theorem dX9_whyNot_100 : decode cX9_whyNot 100 = .ok (.istore 11, 2) := by decide +kernel
theorem dX9_whyNot_102 : decode cX9_whyNot 102 = .ok (.iload_n 3, 1) := by decide +kernel
theorem dX9_whyNot_103 : decode cX9_whyNot 103 = .ok (.iload 10, 2) := by decide +kernel
theorem dX9_whyNot_105 : decode cX9_whyNot 105 = .ok (.iload 5, 2) := by decide +kernel
theorem dX9_whyNot_107 : decode cX9_whyNot 107 = .ok (.idiv, 1) := by decide +kernel
theorem dX9_whyNot_108 : decode cX9_whyNot 108 = .ok (.iadd, 1) := by decide +kernel
theorem dX9_whyNot_109 : decode cX9_whyNot 109 = .ok (.istore 12, 2) := by decide +kernel
theorem dX9_whyNot_111 : decode cX9_whyNot 111 = .ok (.aload_n 0, 1) := by decide +kernel
theorem dX9_whyNot_112 : decode cX9_whyNot 112 = .ok (.iload 11, 2) := by decide +kernel
theorem dX9_whyNot_114 : decode cX9_whyNot 114 = .ok (.iload 12, 2) := by decide +kernel
theorem dX9_whyNot_116 : decode cX9_whyNot 116 = .ok (.invokevirtual 124, 3) := by decide +kernel
theorem dX9_whyNot_119 : decode cX9_whyNot 119 = .ok (.istore 13, 2) := by decide +kernel
theorem dX9_whyNot_121 : decode cX9_whyNot 121 = .ok (.iload 7, 2) := by decide +kernel
theorem dX9_whyNot_123 : decode cX9_whyNot 123 = .ok (.ifCond .ne 21, 3) := by decide +kernel
theorem dX9_whyNot_126 : decode cX9_whyNot 126 = .ok (.iload 13, 2) := by decide +kernel
theorem dX9_whyNot_128 : decode cX9_whyNot 128 = .ok (.bipush (-4), 2) := by decide +kernel
theorem dX9_whyNot_130 : decode cX9_whyNot 130 = .ok (.if_icmp .eq 14, 3) := by decide +kernel
theorem dX9_whyNot_133 : decode cX9_whyNot 133 = .ok (.iload 13, 2) := by decide +kernel
theorem dX9_whyNot_135 : decode cX9_whyNot 135 = .ok (.aload_n 0, 1) := by decide +kernel
theorem dX9_whyNot_136 : decode cX9_whyNot 136 = .ok (.iload_n 2, 1) := by decide +kernel
theorem dX9_whyNot_137 : decode cX9_whyNot 137 = .ok (.iload_n 3, 1) := by decide +kernel
theorem dX9_whyNot_138 : decode cX9_whyNot 138 = .ok (.invokevirtual 124, 3) := by decide +kernel
theorem dX9_whyNot_141 : decode cX9_whyNot 141 = .ok (.if_icmp .eq 7, 3) := by decide +kernel
theorem dX9_whyNot_144 : decode cX9_whyNot 144 = .ok (.iconst 1, 1) := by decide +kernel
theorem dX9_whyNot_145 : decode cX9_whyNot 145 = .ok (.goto 4, 3) := by decide +kernel
theorem dX9_whyNot_148 : decode cX9_whyNot 148 = .ok (.iconst 0, 1) := by decide +kernel
theorem dX9_whyNot_149 : decode cX9_whyNot 149 = .ok (.istore 7, 2) := by decide +kernel
theorem dX9_whyNot_151 : decode cX9_whyNot 151 = .ok (.iload 8, 2) := by decide +kernel
theorem dX9_whyNot_153 : decode cX9_whyNot 153 = .ok (.ifCond .ne 16, 3) := by decide +kernel
theorem dX9_whyNot_156 : decode cX9_whyNot 156 = .ok (.aload_n 0, 1) := by decide +kernel
theorem dX9_whyNot_157 : decode cX9_whyNot 157 = .ok (.iload 11, 2) := by decide +kernel
theorem dX9_whyNot_159 : decode cX9_whyNot 159 = .ok (.iload 12, 2) := by decide +kernel
theorem dX9_whyNot_161 : decode cX9_whyNot 161 = .ok (.invokevirtual 127, 3) := by decide +kernel
theorem dX9_whyNot_164 : decode cX9_whyNot 164 = .ok (.bipush (-4), 2) := by decide +kernel
theorem dX9_whyNot_166 : decode cX9_whyNot 166 = .ok (.if_icmp .eq 7, 3) := by decide +kernel
theorem dX9_whyNot_169 : decode cX9_whyNot 169 = .ok (.iconst 1, 1) := by decide +kernel
theorem dX9_whyNot_170 : decode cX9_whyNot 170 = .ok (.goto 4, 3) := by decide +kernel
theorem dX9_whyNot_173 : decode cX9_whyNot 173 = .ok (.iconst 0, 1) := by decide +kernel
theorem dX9_whyNot_174 : decode cX9_whyNot 174 = .ok (.istore 8, 2) := by decide +kernel
theorem dX9_whyNot_176 : decode cX9_whyNot 176 = .ok (.iload 9, 2) := by decide +kernel
theorem dX9_whyNot_178 : decode cX9_whyNot 178 = .ok (.ifCond .eq 24, 3) := by decide +kernel
theorem dX9_whyNot_181 : decode cX9_whyNot 181 = .ok (.aload_n 0, 1) := by decide +kernel
theorem dX9_whyNot_182 : decode cX9_whyNot 182 = .ok (.getfield 19, 3) := by decide +kernel
theorem dX9_whyNot_185 : decode cX9_whyNot 185 = .ok (.bipush 12, 2) := by decide +kernel
theorem dX9_whyNot_187 : decode cX9_whyNot 187 = .ok (.iload 12, 2) := by decide +kernel
theorem dX9_whyNot_189 : decode cX9_whyNot 189 = .ok (.imul, 1) := by decide +kernel
theorem dX9_whyNot_190 : decode cX9_whyNot 190 = .ok (.iload 11, 2) := by decide +kernel
theorem dX9_whyNot_192 : decode cX9_whyNot 192 = .ok (.iadd, 1) := by decide +kernel
theorem dX9_whyNot_193 : decode cX9_whyNot 193 = .ok (.iaload, 1) := by decide +kernel
theorem dX9_whyNot_194 : decode cX9_whyNot 194 = .ok (.iconst 1, 1) := by decide +kernel
theorem dX9_whyNot_195 : decode cX9_whyNot 195 = .ok (.if_icmp .ne 7, 3) := by decide +kernel
theorem dX9_whyNot_198 : decode cX9_whyNot 198 = .ok (.iconst 1, 1) := by decide +kernel
theorem dX9_whyNot_199 : decode cX9_whyNot 199 = .ok (.goto 4, 3) := by decide +kernel
theorem dX9_whyNot_202 : decode cX9_whyNot 202 = .ok (.iconst 0, 1) := by decide +kernel
theorem dX9_whyNot_203 : decode cX9_whyNot 203 = .ok (.istore 9, 2) := by decide +kernel
theorem dX9_whyNot_205 : decode cX9_whyNot 205 = .ok (.iinc 10 1, 3) := by decide +kernel
theorem dX9_whyNot_208 : decode cX9_whyNot 208 = .ok (.goto (-125), 3) := by decide +kernel
theorem dX9_whyNot_211 : decode cX9_whyNot 211 = .ok (.iload 7, 2) := by decide +kernel
theorem dX9_whyNot_213 : decode cX9_whyNot 213 = .ok (.ifCond .eq 7, 3) := by decide +kernel
theorem dX9_whyNot_216 : decode cX9_whyNot 216 = .ok (.iconst 3, 1) := by decide +kernel
theorem dX9_whyNot_217 : decode cX9_whyNot 217 = .ok (.goto 35, 3) := by decide +kernel
theorem dX9_whyNot_220 : decode cX9_whyNot 220 = .ok (.iload 8, 2) := by decide +kernel
theorem dX9_whyNot_222 : decode cX9_whyNot 222 = .ok (.ifCond .eq 7, 3) := by decide +kernel
theorem dX9_whyNot_225 : decode cX9_whyNot 225 = .ok (.iconst 4, 1) := by decide +kernel
theorem dX9_whyNot_226 : decode cX9_whyNot 226 = .ok (.goto 26, 3) := by decide +kernel
theorem dX9_whyNot_229 : decode cX9_whyNot 229 = .ok (.iload 9, 2) := by decide +kernel
theorem dX9_whyNot_231 : decode cX9_whyNot 231 = .ok (.ifCond .eq 7, 3) := by decide +kernel
theorem dX9_whyNot_234 : decode cX9_whyNot 234 = .ok (.iconst 5, 1) := by decide +kernel
theorem dX9_whyNot_235 : decode cX9_whyNot 235 = .ok (.goto 17, 3) := by decide +kernel
theorem dX9_whyNot_238 : decode cX9_whyNot 238 = .ok (.aload_n 0, 1) := by decide +kernel
theorem dX9_whyNot_239 : decode cX9_whyNot 239 = .ok (.iload_n 1, 1) := by decide +kernel
theorem dX9_whyNot_240 : decode cX9_whyNot 240 = .ok (.invokevirtual 130, 3) := by decide +kernel
theorem dX9_whyNot_243 : decode cX9_whyNot 243 = .ok (.ifCond .eq 8, 3) := by decide +kernel
theorem dX9_whyNot_246 : decode cX9_whyNot 246 = .ok (.bipush 6, 2) := by decide +kernel
theorem dX9_whyNot_248 : decode cX9_whyNot 248 = .ok (.goto 4, 3) := by decide +kernel
theorem dX9_whyNot_251 : decode cX9_whyNot 251 = .ok (.iconst 0, 1) := by decide +kernel
theorem dX9_whyNot_252 : decode cX9_whyNot 252 = .ok (.ireturn, 1) := by decide +kernel
theorem dX9_why_0 : decode cX9_why 0 = .ok (.aload_n 0, 1) := by decide +kernel
theorem dX9_why_1 : decode cX9_why 1 = .ok (.iload_n 1, 1) := by decide +kernel
theorem dX9_why_2 : decode cX9_why 2 = .ok (.invokevirtual 134, 3) := by decide +kernel
theorem dX9_why_5 : decode cX9_why 5 = .ok (.ifCond .eq 50, 3) := by decide +kernel
theorem dX9_why_8 : decode cX9_why 8 = .ok (.iload_n 2, 1) := by decide +kernel
theorem dX9_why_9 : decode cX9_why 9 = .ok (.i2l, 1) := by decide +kernel
theorem dX9_why_10 : decode cX9_why 10 = .ok (.lconst 0, 1) := by decide +kernel
theorem dX9_why_11 : decode cX9_why 11 = .ok (.ldc2_w 137, 3) := by decide +kernel
theorem dX9_why_14 : decode cX9_why 14 = .ok (.invokestatic 58, 3) := by decide +kernel
theorem dX9_why_17 : decode cX9_why 17 = .ok (.ifCond .eq 38, 3) := by decide +kernel
theorem dX9_why_20 : decode cX9_why 20 = .ok (.iload_n 3, 1) := by decide +kernel
theorem dX9_why_21 : decode cX9_why 21 = .ok (.i2l, 1) := by decide +kernel
theorem dX9_why_22 : decode cX9_why 22 = .ok (.lconst 0, 1) := by decide +kernel
theorem dX9_why_23 : decode cX9_why 23 = .ok (.ldc2_w 137, 3) := by decide +kernel
theorem dX9_why_26 : decode cX9_why 26 = .ok (.invokestatic 58, 3) := by decide +kernel
theorem dX9_why_29 : decode cX9_why 29 = .ok (.ifCond .eq 26, 3) := by decide +kernel
theorem dX9_why_32 : decode cX9_why 32 = .ok (.iload 4, 2) := by decide +kernel
theorem dX9_why_34 : decode cX9_why 34 = .ok (.i2l, 1) := by decide +kernel
theorem dX9_why_35 : decode cX9_why 35 = .ok (.lconst 0, 1) := by decide +kernel
theorem dX9_why_36 : decode cX9_why 36 = .ok (.lconst 1, 1) := by decide +kernel
theorem dX9_why_37 : decode cX9_why 37 = .ok (.invokestatic 58, 3) := by decide +kernel
theorem dX9_why_40 : decode cX9_why 40 = .ok (.ifCond .eq 15, 3) := by decide +kernel
theorem dX9_why_43 : decode cX9_why 43 = .ok (.aload_n 0, 1) := by decide +kernel
theorem dX9_why_44 : decode cX9_why 44 = .ok (.iload_n 1, 1) := by decide +kernel
theorem dX9_why_45 : decode cX9_why 45 = .ok (.iload_n 2, 1) := by decide +kernel
theorem dX9_why_46 : decode cX9_why 46 = .ok (.iload_n 3, 1) := by decide +kernel
theorem dX9_why_47 : decode cX9_why 47 = .ok (.iload 4, 2) := by decide +kernel
theorem dX9_why_49 : decode cX9_why 49 = .ok (.invokevirtual 139, 3) := by decide +kernel
theorem dX9_why_52 : decode cX9_why 52 = .ok (.goto 4, 3) := by decide +kernel
theorem dX9_why_55 : decode cX9_why 55 = .ok (.iconst (-1), 1) := by decide +kernel
theorem dX9_why_56 : decode cX9_why 56 = .ok (.ireturn, 1) := by decide +kernel
theorem dX9_strikes_0 : decode cX9_strikes 0 = .ok (.aload_n 0, 1) := by decide +kernel
theorem dX9_strikes_1 : decode cX9_strikes 1 = .ok (.iload_n 1, 1) := by decide +kernel
theorem dX9_strikes_2 : decode cX9_strikes 2 = .ok (.iload 4, 2) := by decide +kernel
theorem dX9_strikes_4 : decode cX9_strikes 4 = .ok (.invokevirtual 114, 3) := by decide +kernel
theorem dX9_strikes_7 : decode cX9_strikes 7 = .ok (.istore 5, 2) := by decide +kernel
theorem dX9_strikes_9 : decode cX9_strikes 9 = .ok (.iconst 0, 1) := by decide +kernel
theorem dX9_strikes_10 : decode cX9_strikes 10 = .ok (.istore 6, 2) := by decide +kernel
theorem dX9_strikes_12 : decode cX9_strikes 12 = .ok (.iconst 0, 1) := by decide +kernel
theorem dX9_strikes_13 : decode cX9_strikes 13 = .ok (.istore 7, 2) := by decide +kernel
theorem dX9_strikes_15 : decode cX9_strikes 15 = .ok (.iload 7, 2) := by decide +kernel
theorem dX9_strikes_17 : decode cX9_strikes 17 = .ok (.iload 5, 2) := by decide +kernel
theorem dX9_strikes_19 : decode cX9_strikes 19 = .ok (.aload_n 0, 1) := by decide +kernel
theorem dX9_strikes_20 : decode cX9_strikes 20 = .ok (.iload_n 1, 1) := by decide +kernel
theorem dX9_strikes_21 : decode cX9_strikes 21 = .ok (.iload 4, 2) := by decide +kernel
theorem dX9_strikes_23 : decode cX9_strikes 23 = .ok (.invokevirtual 118, 3) := by decide +kernel
theorem dX9_strikes_26 : decode cX9_strikes 26 = .ok (.imul, 1) := by decide +kernel
theorem dX9_strikes_27 : decode cX9_strikes 27 = .ok (.if_icmp .ge 51, 3) := by decide +kernel
theorem dX9_strikes_30 : decode cX9_strikes 30 = .ok (.bipush 12, 2) := by decide +kernel
theorem dX9_strikes_32 : decode cX9_strikes 32 = .ok (.iload_n 3, 1) := by decide +kernel
theorem dX9_strikes_33 : decode cX9_strikes 33 = .ok (.iload 7, 2) := by decide +kernel
theorem dX9_strikes_35 : decode cX9_strikes 35 = .ok (.iload 5, 2) := by decide +kernel
theorem dX9_strikes_37 : decode cX9_strikes 37 = .ok (.idiv, 1) := by decide +kernel
theorem dX9_strikes_38 : decode cX9_strikes 38 = .ok (.iadd, 1) := by decide +kernel
theorem dX9_strikes_39 : decode cX9_strikes 39 = .ok (.imul, 1) := by decide +kernel
theorem dX9_strikes_40 : decode cX9_strikes 40 = .ok (.iload_n 2, 1) := by decide +kernel
theorem dX9_strikes_41 : decode cX9_strikes 41 = .ok (.iadd, 1) := by decide +kernel
theorem dX9_strikes_42 : decode cX9_strikes 42 = .ok (.iload 7, 2) := by decide +kernel
theorem dX9_strikes_44 : decode cX9_strikes 44 = .ok (.iload 5, 2) := by decide +kernel
theorem dX9_strikes_46 : decode cX9_strikes 46 = .ok (.irem, 1) := by decide +kernel
theorem dX9_strikes_47 : decode cX9_strikes 47 = .ok (.iadd, 1) := by decide +kernel
theorem dX9_strikes_48 : decode cX9_strikes 48 = .ok (.istore 8, 2) := by decide +kernel
theorem dX9_strikes_50 : decode cX9_strikes 50 = .ok (.iload 6, 2) := by decide +kernel
theorem dX9_strikes_52 : decode cX9_strikes 52 = .ok (.iconst 1, 1) := by decide +kernel
theorem dX9_strikes_53 : decode cX9_strikes 53 = .ok (.aload_n 0, 1) := by decide +kernel
theorem dX9_strikes_54 : decode cX9_strikes 54 = .ok (.getfield 19, 3) := by decide +kernel
theorem dX9_strikes_57 : decode cX9_strikes 57 = .ok (.iload 8, 2) := by decide +kernel
theorem dX9_strikes_59 : decode cX9_strikes 59 = .ok (.iaload, 1) := by decide +kernel
theorem dX9_strikes_60 : decode cX9_strikes 60 = .ok (.isub, 1) := by decide +kernel
theorem dX9_strikes_61 : decode cX9_strikes 61 = .ok (.iadd, 1) := by decide +kernel
theorem dX9_strikes_62 : decode cX9_strikes 62 = .ok (.istore 6, 2) := by decide +kernel
theorem dX9_strikes_64 : decode cX9_strikes 64 = .ok (.aload_n 0, 1) := by decide +kernel
theorem dX9_strikes_65 : decode cX9_strikes 65 = .ok (.getfield 19, 3) := by decide +kernel
theorem dX9_strikes_68 : decode cX9_strikes 68 = .ok (.iload 8, 2) := by decide +kernel
theorem dX9_strikes_70 : decode cX9_strikes 70 = .ok (.iconst 1, 1) := by decide +kernel
theorem dX9_strikes_71 : decode cX9_strikes 71 = .ok (.iastore, 1) := by decide +kernel
theorem dX9_strikes_72 : decode cX9_strikes 72 = .ok (.iinc 7 1, 3) := by decide +kernel
theorem dX9_strikes_75 : decode cX9_strikes 75 = .ok (.goto (-60), 3) := by decide +kernel
theorem dX9_strikes_78 : decode cX9_strikes 78 = .ok (.aload_n 0, 1) := by decide +kernel
theorem dX9_strikes_79 : decode cX9_strikes 79 = .ok (.getfield 19, 3) := by decide +kernel
theorem dX9_strikes_82 : decode cX9_strikes 82 = .ok (.sipush 144, 3) := by decide +kernel
theorem dX9_strikes_85 : decode cX9_strikes 85 = .ok (.iload_n 1, 1) := by decide +kernel
theorem dX9_strikes_86 : decode cX9_strikes 86 = .ok (.iadd, 1) := by decide +kernel
theorem dX9_strikes_87 : decode cX9_strikes 87 = .ok (.dup2, 1) := by decide +kernel
theorem dX9_strikes_88 : decode cX9_strikes 88 = .ok (.iaload, 1) := by decide +kernel
theorem dX9_strikes_89 : decode cX9_strikes 89 = .ok (.iconst 1, 1) := by decide +kernel
theorem dX9_strikes_90 : decode cX9_strikes 90 = .ok (.iadd, 1) := by decide +kernel
theorem dX9_strikes_91 : decode cX9_strikes 91 = .ok (.iastore, 1) := by decide +kernel
theorem dX9_strikes_92 : decode cX9_strikes 92 = .ok (.aload_n 0, 1) := by decide +kernel
theorem dX9_strikes_93 : decode cX9_strikes 93 = .ok (.getfield 19, 3) := by decide +kernel
theorem dX9_strikes_96 : decode cX9_strikes 96 = .ok (.sipush 153, 3) := by decide +kernel
theorem dX9_strikes_99 : decode cX9_strikes 99 = .ok (.dup2, 1) := by decide +kernel
theorem dX9_strikes_100 : decode cX9_strikes 100 = .ok (.iaload, 1) := by decide +kernel
theorem dX9_strikes_101 : decode cX9_strikes 101 = .ok (.iconst 1, 1) := by decide +kernel
theorem dX9_strikes_102 : decode cX9_strikes 102 = .ok (.iadd, 1) := by decide +kernel
theorem dX9_strikes_103 : decode cX9_strikes 103 = .ok (.iastore, 1) := by decide +kernel
theorem dX9_strikes_104 : decode cX9_strikes 104 = .ok (.aload_n 0, 1) := by decide +kernel
theorem dX9_strikes_105 : decode cX9_strikes 105 = .ok (.getfield 19, 3) := by decide +kernel
theorem dX9_strikes_108 : decode cX9_strikes 108 = .ok (.sipush 154, 3) := by decide +kernel
theorem dX9_strikes_111 : decode cX9_strikes 111 = .ok (.dup2, 1) := by decide +kernel
theorem dX9_strikes_112 : decode cX9_strikes 112 = .ok (.iaload, 1) := by decide +kernel
theorem dX9_strikes_113 : decode cX9_strikes 113 = .ok (.aload_n 0, 1) := by decide +kernel
theorem dX9_strikes_114 : decode cX9_strikes 114 = .ok (.aload_n 0, 1) := by decide +kernel
theorem dX9_strikes_115 : decode cX9_strikes 115 = .ok (.getfield 19, 3) := by decide +kernel
theorem dX9_strikes_118 : decode cX9_strikes 118 = .ok (.sipush 150, 3) := by decide +kernel
theorem dX9_strikes_121 : decode cX9_strikes 121 = .ok (.iaload, 1) := by decide +kernel
theorem dX9_strikes_122 : decode cX9_strikes 122 = .ok (.iload_n 1, 1) := by decide +kernel
theorem dX9_strikes_123 : decode cX9_strikes 123 = .ok (.invokevirtual 143, 3) := by decide +kernel
theorem dX9_strikes_126 : decode cX9_strikes 126 = .ok (.iadd, 1) := by decide +kernel
theorem dX9_strikes_127 : decode cX9_strikes 127 = .ok (.iastore, 1) := by decide +kernel
theorem dX9_strikes_128 : decode cX9_strikes 128 = .ok (.aload_n 0, 1) := by decide +kernel
theorem dX9_strikes_129 : decode cX9_strikes 129 = .ok (.getfield 19, 3) := by decide +kernel
theorem dX9_strikes_132 : decode cX9_strikes 132 = .ok (.sipush 150, 3) := by decide +kernel
theorem dX9_strikes_135 : decode cX9_strikes 135 = .ok (.iload_n 1, 1) := by decide +kernel
theorem dX9_strikes_136 : decode cX9_strikes 136 = .ok (.iastore, 1) := by decide +kernel
theorem dX9_strikes_137 : decode cX9_strikes 137 = .ok (.iload 6, 2) := by decide +kernel
theorem dX9_strikes_139 : decode cX9_strikes 139 = .ok (.ireturn, 1) := by decide +kernel
theorem dX9_hit_0 : decode cX9_hit 0 = .ok (.aload_n 0, 1) := by decide +kernel
theorem dX9_hit_1 : decode cX9_hit 1 = .ok (.iload_n 1, 1) := by decide +kernel
theorem dX9_hit_2 : decode cX9_hit 2 = .ok (.iload_n 2, 1) := by decide +kernel
theorem dX9_hit_3 : decode cX9_hit 3 = .ok (.iload_n 3, 1) := by decide +kernel
theorem dX9_hit_4 : decode cX9_hit 4 = .ok (.iload 4, 2) := by decide +kernel
theorem dX9_hit_6 : decode cX9_hit 6 = .ok (.invokevirtual 146, 3) := by decide +kernel
theorem dX9_hit_9 : decode cX9_hit 9 = .ok (.istore 5, 2) := by decide +kernel
theorem dX9_hit_11 : decode cX9_hit 11 = .ok (.iload 5, 2) := by decide +kernel
theorem dX9_hit_13 : decode cX9_hit 13 = .ok (.ifCond .eq 16, 3) := by decide +kernel
theorem dX9_hit_16 : decode cX9_hit 16 = .ok (.iload 5, 2) := by decide +kernel
theorem dX9_hit_18 : decode cX9_hit 18 = .ok (.iconst (-1), 1) := by decide +kernel
theorem dX9_hit_19 : decode cX9_hit 19 = .ok (.if_icmp .ne 7, 3) := by decide +kernel
theorem dX9_hit_22 : decode cX9_hit 22 = .ok (.iconst (-1), 1) := by decide +kernel
theorem dX9_hit_23 : decode cX9_hit 23 = .ok (.goto 5, 3) := by decide +kernel
theorem dX9_hit_26 : decode cX9_hit 26 = .ok (.bipush (-2), 2) := by decide +kernel
theorem dX9_hit_28 : decode cX9_hit 28 = .ok (.ireturn, 1) := by decide +kernel
theorem dX9_hit_29 : decode cX9_hit 29 = .ok (.aload_n 0, 1) := by decide +kernel
theorem dX9_hit_30 : decode cX9_hit 30 = .ok (.invokevirtual 149, 3) := by decide +kernel
theorem dX9_hit_33 : decode cX9_hit 33 = .ok (.aload_n 0, 1) := by decide +kernel
theorem dX9_hit_34 : decode cX9_hit 34 = .ok (.iload_n 1, 1) := by decide +kernel
theorem dX9_hit_35 : decode cX9_hit 35 = .ok (.iload_n 2, 1) := by decide +kernel
theorem dX9_hit_36 : decode cX9_hit 36 = .ok (.iload_n 3, 1) := by decide +kernel
theorem dX9_hit_37 : decode cX9_hit 37 = .ok (.iload 4, 2) := by decide +kernel
theorem dX9_hit_39 : decode cX9_hit 39 = .ok (.invokevirtual 152, 3) := by decide +kernel
theorem dX9_hit_42 : decode cX9_hit 42 = .ok (.ireturn, 1) := by decide +kernel
theorem dX9_open_0 : decode cX9_open 0 = .ok (.iconst 0, 1) := by decide +kernel
theorem dX9_open_1 : decode cX9_open 1 = .ok (.istore_n 2, 1) := by decide +kernel
theorem dX9_open_2 : decode cX9_open 2 = .ok (.iconst 0, 1) := by decide +kernel
theorem dX9_open_3 : decode cX9_open 3 = .ok (.istore_n 3, 1) := by decide +kernel
theorem dX9_open_4 : decode cX9_open 4 = .ok (.iload_n 3, 1) := by decide +kernel
theorem dX9_open_5 : decode cX9_open 5 = .ok (.sipush 144, 3) := by decide +kernel
theorem dX9_open_8 : decode cX9_open 8 = .ok (.if_icmp .ge 40, 3) := by decide +kernel
theorem dX9_open_11 : decode cX9_open 11 = .ok (.iload_n 2, 1) := by decide +kernel
theorem dX9_open_12 : decode cX9_open 12 = .ok (.aload_n 0, 1) := by decide +kernel
theorem dX9_open_13 : decode cX9_open 13 = .ok (.iload_n 3, 1) := by decide +kernel
theorem dX9_open_14 : decode cX9_open 14 = .ok (.bipush 12, 2) := by decide +kernel
theorem dX9_open_16 : decode cX9_open 16 = .ok (.irem, 1) := by decide +kernel
theorem dX9_open_17 : decode cX9_open 17 = .ok (.iload_n 3, 1) := by decide +kernel
theorem dX9_open_18 : decode cX9_open 18 = .ok (.bipush 12, 2) := by decide +kernel
theorem dX9_open_20 : decode cX9_open 20 = .ok (.idiv, 1) := by decide +kernel
theorem dX9_open_21 : decode cX9_open 21 = .ok (.invokevirtual 124, 3) := by decide +kernel
theorem dX9_open_24 : decode cX9_open 24 = .ok (.iload_n 1, 1) := by decide +kernel
theorem dX9_open_25 : decode cX9_open 25 = .ok (.if_icmp .ne 14, 3) := by decide +kernel
theorem dX9_open_28 : decode cX9_open 28 = .ok (.iconst 1, 1) := by decide +kernel
theorem dX9_open_29 : decode cX9_open 29 = .ok (.aload_n 0, 1) := by decide +kernel
theorem dX9_open_30 : decode cX9_open 30 = .ok (.getfield 19, 3) := by decide +kernel
theorem dX9_open_33 : decode cX9_open 33 = .ok (.iload_n 3, 1) := by decide +kernel
theorem dX9_open_34 : decode cX9_open 34 = .ok (.iaload, 1) := by decide +kernel
theorem dX9_open_35 : decode cX9_open 35 = .ok (.isub, 1) := by decide +kernel
theorem dX9_open_36 : decode cX9_open 36 = .ok (.goto 4, 3) := by decide +kernel
theorem dX9_open_39 : decode cX9_open 39 = .ok (.iconst 0, 1) := by decide +kernel
theorem dX9_open_40 : decode cX9_open 40 = .ok (.iadd, 1) := by decide +kernel
theorem dX9_open_41 : decode cX9_open 41 = .ok (.istore_n 2, 1) := by decide +kernel
theorem dX9_open_42 : decode cX9_open 42 = .ok (.iinc 3 1, 3) := by decide +kernel
theorem dX9_open_45 : decode cX9_open 45 = .ok (.goto (-41), 3) := by decide +kernel
theorem dX9_open_48 : decode cX9_open 48 = .ok (.iload_n 2, 1) := by decide +kernel
theorem dX9_open_49 : decode cX9_open 49 = .ok (.ireturn, 1) := by decide +kernel
theorem dX9_parts_0 : decode cX9_parts 0 = .ok (.iload_n 0, 1) := by decide +kernel
theorem dX9_parts_1 : decode cX9_parts 1 = .ok (.iload_n 1, 1) := by decide +kernel
theorem dX9_parts_2 : decode cX9_parts 2 = .ok (.iadd, 1) := by decide +kernel
theorem dX9_parts_3 : decode cX9_parts 3 = .ok (.iconst 1, 1) := by decide +kernel
