theorem dX8_hit_3 : decode cX8_hit 3 = .ok (.iload_n 3, 1) := by decide +kernel
theorem dX8_hit_4 : decode cX8_hit 4 = .ok (.iload 4, 2) := by decide +kernel
theorem dX8_hit_6 : decode cX8_hit 6 = .ok (.invokevirtual 97, 3) := by decide +kernel
theorem dX8_hit_9 : decode cX8_hit 9 = .ok (.ifCond .ne 5, 3) := by decide +kernel
theorem dX8_hit_12 : decode cX8_hit 12 = .ok (.iconst (-1), 1) := by decide +kernel
theorem dX8_hit_13 : decode cX8_hit 13 = .ok (.ireturn, 1) := by decide +kernel
theorem dX8_hit_14 : decode cX8_hit 14 = .ok (.aload_n 0, 1) := by decide +kernel
theorem dX8_hit_15 : decode cX8_hit 15 = .ok (.getfield 57, 3) := by decide +kernel
theorem dX8_hit_18 : decode cX8_hit 18 = .ok (.getfield 101, 3) := by decide +kernel
theorem dX8_hit_21 : decode cX8_hit 21 = .ok (.iload_n 1, 1) := by decide +kernel
theorem dX8_hit_22 : decode cX8_hit 22 = .ok (.aaload, 1) := by decide +kernel
theorem dX8_hit_23 : decode cX8_hit 23 = .ok (.aload_n 0, 1) := by decide +kernel
theorem dX8_hit_24 : decode cX8_hit 24 = .ok (.getfield 50, 3) := by decide +kernel
theorem dX8_hit_27 : decode cX8_hit 27 = .ok (.iload_n 2, 1) := by decide +kernel
theorem dX8_hit_28 : decode cX8_hit 28 = .ok (.iload_n 3, 1) := by decide +kernel
theorem dX8_hit_29 : decode cX8_hit 29 = .ok (.iload 4, 2) := by decide +kernel
theorem dX8_hit_31 : decode cX8_hit 31 = .ok (.iconst 1, 1) := by decide +kernel
theorem dX8_hit_32 : decode cX8_hit 32 = .ok (.if_icmp .ne 7, 3) := by decide +kernel
theorem dX8_hit_35 : decode cX8_hit 35 = .ok (.iconst 1, 1) := by decide +kernel
theorem dX8_hit_36 : decode cX8_hit 36 = .ok (.goto 4, 3) := by decide +kernel
theorem dX8_hit_39 : decode cX8_hit 39 = .ok (.iconst 0, 1) := by decide +kernel
theorem dX8_hit_40 : decode cX8_hit 40 = .ok (.invokevirtual 105, 3) := by decide +kernel
theorem dX8_hit_43 : decode cX8_hit 43 = .ok (.aload_n 0, 1) := by decide +kernel
theorem dX8_hit_44 : decode cX8_hit 44 = .ok (.getfield 26, 3) := by decide +kernel
theorem dX8_hit_47 : decode cX8_hit 47 = .ok (.aload_n 0, 1) := by decide +kernel
theorem dX8_hit_48 : decode cX8_hit 48 = .ok (.getfield 57, 3) := by decide +kernel
theorem dX8_hit_51 : decode cX8_hit 51 = .ok (.iload_n 1, 1) := by decide +kernel
theorem dX8_hit_52 : decode cX8_hit 52 = .ok (.iload 4, 2) := by decide +kernel
theorem dX8_hit_54 : decode cX8_hit 54 = .ok (.iconst 1, 1) := by decide +kernel
theorem dX8_hit_55 : decode cX8_hit 55 = .ok (.if_icmp .ne 7, 3) := by decide +kernel
theorem dX8_hit_58 : decode cX8_hit 58 = .ok (.iconst 1, 1) := by decide +kernel
theorem dX8_hit_59 : decode cX8_hit 59 = .ok (.goto 4, 3) := by decide +kernel
theorem dX8_hit_62 : decode cX8_hit 62 = .ok (.iconst 0, 1) := by decide +kernel
theorem dX8_hit_63 : decode cX8_hit 63 = .ok (.aload_n 0, 1) := by decide +kernel
theorem dX8_hit_64 : decode cX8_hit 64 = .ok (.getfield 50, 3) := by decide +kernel
theorem dX8_hit_67 : decode cX8_hit 67 = .ok (.invokevirtual 111, 3) := by decide +kernel
theorem dX8_hit_70 : decode cX8_hit 70 = .ok (.ifCond .eq 6, 3) := by decide +kernel
theorem dX8_hit_73 : decode cX8_hit 73 = .ok (.bipush (-2), 2) := by decide +kernel
theorem dX8_hit_75 : decode cX8_hit 75 = .ok (.ireturn, 1) := by decide +kernel
theorem dX8_hit_76 : decode cX8_hit 76 = .ok (.aload_n 0, 1) := by decide +kernel
theorem dX8_hit_77 : decode cX8_hit 77 = .ok (.getfield 36, 3) := by decide +kernel
theorem dX8_hit_80 : decode cX8_hit 80 = .ok (.aload_n 0, 1) := by decide +kernel
theorem dX8_hit_81 : decode cX8_hit 81 = .ok (.getfield 26, 3) := by decide +kernel
theorem dX8_hit_84 : decode cX8_hit 84 = .ok (.invokevirtual 115, 3) := by decide +kernel
theorem dX8_hit_87 : decode cX8_hit 87 = .ok (.aload_n 0, 1) := by decide +kernel
theorem dX8_hit_88 : decode cX8_hit 88 = .ok (.getfield 26, 3) := by decide +kernel
theorem dX8_hit_91 : decode cX8_hit 91 = .ok (.aload_n 0, 1) := by decide +kernel
theorem dX8_hit_92 : decode cX8_hit 92 = .ok (.getfield 57, 3) := by decide +kernel
theorem dX8_hit_95 : decode cX8_hit 95 = .ok (.iload_n 1, 1) := by decide +kernel
theorem dX8_hit_96 : decode cX8_hit 96 = .ok (.aload_n 0, 1) := by decide +kernel
theorem dX8_hit_97 : decode cX8_hit 97 = .ok (.getfield 50, 3) := by decide +kernel
theorem dX8_hit_100 : decode cX8_hit 100 = .ok (.invokevirtual 119, 3) := by decide +kernel
theorem dX8_hit_103 : decode cX8_hit 103 = .ok (.ireturn, 1) := by decide +kernel
theorem dX8_why_0 : decode cX8_why 0 = .ok (.aload_n 0, 1) := by decide +kernel
theorem dX8_why_1 : decode cX8_why 1 = .ok (.iload_n 1, 1) := by decide +kernel
theorem dX8_why_2 : decode cX8_why 2 = .ok (.iload_n 2, 1) := by decide +kernel
theorem dX8_why_3 : decode cX8_why 3 = .ok (.iload_n 3, 1) := by decide +kernel
theorem dX8_why_4 : decode cX8_why 4 = .ok (.iload 4, 2) := by decide +kernel
theorem dX8_why_6 : decode cX8_why 6 = .ok (.invokevirtual 97, 3) := by decide +kernel
theorem dX8_why_9 : decode cX8_why 9 = .ok (.ifCond .ne 5, 3) := by decide +kernel
theorem dX8_why_12 : decode cX8_why 12 = .ok (.iconst (-1), 1) := by decide +kernel
theorem dX8_why_13 : decode cX8_why 13 = .ok (.ireturn, 1) := by decide +kernel
theorem dX8_why_14 : decode cX8_why 14 = .ok (.aload_n 0, 1) := by decide +kernel
theorem dX8_why_15 : decode cX8_why 15 = .ok (.getfield 57, 3) := by decide +kernel
theorem dX8_why_18 : decode cX8_why 18 = .ok (.getfield 101, 3) := by decide +kernel
theorem dX8_why_21 : decode cX8_why 21 = .ok (.iload_n 1, 1) := by decide +kernel
theorem dX8_why_22 : decode cX8_why 22 = .ok (.aaload, 1) := by decide +kernel
theorem dX8_why_23 : decode cX8_why 23 = .ok (.aload_n 0, 1) := by decide +kernel
theorem dX8_why_24 : decode cX8_why 24 = .ok (.getfield 50, 3) := by decide +kernel
theorem dX8_why_27 : decode cX8_why 27 = .ok (.iload_n 2, 1) := by decide +kernel
theorem dX8_why_28 : decode cX8_why 28 = .ok (.iload_n 3, 1) := by decide +kernel
theorem dX8_why_29 : decode cX8_why 29 = .ok (.iload 4, 2) := by decide +kernel
theorem dX8_why_31 : decode cX8_why 31 = .ok (.iconst 1, 1) := by decide +kernel
theorem dX8_why_32 : decode cX8_why 32 = .ok (.if_icmp .ne 7, 3) := by decide +kernel
theorem dX8_why_35 : decode cX8_why 35 = .ok (.iconst 1, 1) := by decide +kernel
theorem dX8_why_36 : decode cX8_why 36 = .ok (.goto 4, 3) := by decide +kernel
theorem dX8_why_39 : decode cX8_why 39 = .ok (.iconst 0, 1) := by decide +kernel
theorem dX8_why_40 : decode cX8_why 40 = .ok (.invokevirtual 105, 3) := by decide +kernel
theorem dX8_why_43 : decode cX8_why 43 = .ok (.aload_n 0, 1) := by decide +kernel
theorem dX8_why_44 : decode cX8_why 44 = .ok (.getfield 26, 3) := by decide +kernel
theorem dX8_why_47 : decode cX8_why 47 = .ok (.aload_n 0, 1) := by decide +kernel
theorem dX8_why_48 : decode cX8_why 48 = .ok (.getfield 57, 3) := by decide +kernel
theorem dX8_why_51 : decode cX8_why 51 = .ok (.iload_n 1, 1) := by decide +kernel
theorem dX8_why_52 : decode cX8_why 52 = .ok (.iload 4, 2) := by decide +kernel
theorem dX8_why_54 : decode cX8_why 54 = .ok (.iconst 1, 1) := by decide +kernel
theorem dX8_why_55 : decode cX8_why 55 = .ok (.if_icmp .ne 7, 3) := by decide +kernel
theorem dX8_why_58 : decode cX8_why 58 = .ok (.iconst 1, 1) := by decide +kernel
theorem dX8_why_59 : decode cX8_why 59 = .ok (.goto 4, 3) := by decide +kernel
theorem dX8_why_62 : decode cX8_why 62 = .ok (.iconst 0, 1) := by decide +kernel
theorem dX8_why_63 : decode cX8_why 63 = .ok (.aload_n 0, 1) := by decide +kernel
theorem dX8_why_64 : decode cX8_why 64 = .ok (.getfield 50, 3) := by decide +kernel
theorem dX8_why_67 : decode cX8_why 67 = .ok (.invokevirtual 111, 3) := by decide +kernel
theorem dX8_why_70 : decode cX8_why 70 = .ok (.ireturn, 1) := by decide +kernel
theorem dX8_nibble_0 : decode cX8_nibble 0 = .ok (.aload_n 0, 1) := by decide +kernel
theorem dX8_nibble_1 : decode cX8_nibble 1 = .ok (.iload_n 1, 1) := by decide +kernel
theorem dX8_nibble_2 : decode cX8_nibble 2 = .ok (.invokevirtual 123, 3) := by decide +kernel
theorem dX8_nibble_5 : decode cX8_nibble 5 = .ok (.ifCond .eq 18, 3) := by decide +kernel
theorem dX8_nibble_8 : decode cX8_nibble 8 = .ok (.aload_n 0, 1) := by decide +kernel
theorem dX8_nibble_9 : decode cX8_nibble 9 = .ok (.iload_n 2, 1) := by decide +kernel
theorem dX8_nibble_10 : decode cX8_nibble 10 = .ok (.invokevirtual 127, 3) := by decide +kernel
theorem dX8_nibble_13 : decode cX8_nibble 13 = .ok (.ifCond .eq 10, 3) := by decide +kernel
theorem dX8_nibble_16 : decode cX8_nibble 16 = .ok (.iload_n 3, 1) := by decide +kernel
theorem dX8_nibble_17 : decode cX8_nibble 17 = .ok (.invokestatic 130, 3) := by decide +kernel
theorem dX8_nibble_20 : decode cX8_nibble 20 = .ok (.ifCond .ne 5, 3) := by decide +kernel
theorem dX8_nibble_23 : decode cX8_nibble 23 = .ok (.iconst (-1), 1) := by decide +kernel
theorem dX8_nibble_24 : decode cX8_nibble 24 = .ok (.ireturn, 1) := by decide +kernel
theorem dX8_nibble_25 : decode cX8_nibble 25 = .ok (.aload_n 0, 1) := by decide +kernel
theorem dX8_nibble_26 : decode cX8_nibble 26 = .ok (.getfield 26, 3) := by decide +kernel
theorem dX8_nibble_29 : decode cX8_nibble 29 = .ok (.aload_n 0, 1) := by decide +kernel
theorem dX8_nibble_30 : decode cX8_nibble 30 = .ok (.getfield 57, 3) := by decide +kernel
theorem dX8_nibble_33 : decode cX8_nibble 33 = .ok (.getfield 133, 3) := by decide +kernel
theorem dX8_nibble_36 : decode cX8_nibble 36 = .ok (.iload_n 1, 1) := by decide +kernel
theorem dX8_nibble_37 : decode cX8_nibble 37 = .ok (.aaload, 1) := by decide +kernel
theorem dX8_nibble_38 : decode cX8_nibble 38 = .ok (.invokevirtual 137, 3) := by decide +kernel
theorem dX8_nibble_41 : decode cX8_nibble 41 = .ok (.ifCond .eq 6, 3) := by decide +kernel
theorem dX8_nibble_44 : decode cX8_nibble 44 = .ok (.bipush (-2), 2) := by decide +kernel
theorem dX8_nibble_46 : decode cX8_nibble 46 = .ok (.ireturn, 1) := by decide +kernel
theorem dX8_nibble_47 : decode cX8_nibble 47 = .ok (.aload_n 0, 1) := by decide +kernel
theorem dX8_nibble_48 : decode cX8_nibble 48 = .ok (.getfield 30, 3) := by decide +kernel
theorem dX8_nibble_51 : decode cX8_nibble 51 = .ok (.aload_n 0, 1) := by decide +kernel
theorem dX8_nibble_52 : decode cX8_nibble 52 = .ok (.getfield 26, 3) := by decide +kernel
theorem dX8_nibble_55 : decode cX8_nibble 55 = .ok (.invokevirtual 141, 3) := by decide +kernel
theorem dX8_nibble_58 : decode cX8_nibble 58 = .ok (.aload_n 0, 1) := by decide +kernel
theorem dX8_nibble_59 : decode cX8_nibble 59 = .ok (.aload_n 0, 1) := by decide +kernel
theorem dX8_nibble_60 : decode cX8_nibble 60 = .ok (.getfield 57, 3) := by decide +kernel
theorem dX8_nibble_63 : decode cX8_nibble 63 = .ok (.getfield 133, 3) := by decide +kernel
theorem dX8_nibble_66 : decode cX8_nibble 66 = .ok (.iload_n 1, 1) := by decide +kernel
theorem dX8_nibble_67 : decode cX8_nibble 67 = .ok (.aaload, 1) := by decide +kernel
theorem dX8_nibble_68 : decode cX8_nibble 68 = .ok (.iload_n 2, 1) := by decide +kernel
theorem dX8_nibble_69 : decode cX8_nibble 69 = .ok (.iload_n 3, 1) := by decide +kernel
theorem dX8_nibble_70 : decode cX8_nibble 70 = .ok (.iconst 1, 1) := by decide +kernel
theorem dX8_nibble_71 : decode cX8_nibble 71 = .ok (.if_icmp .ne 7, 3) := by decide +kernel
theorem dX8_nibble_74 : decode cX8_nibble 74 = .ok (.iconst 1, 1) := by decide +kernel
theorem dX8_nibble_75 : decode cX8_nibble 75 = .ok (.goto 4, 3) := by decide +kernel
theorem dX8_nibble_78 : decode cX8_nibble 78 = .ok (.iconst 0, 1) := by decide +kernel
theorem dX8_nibble_79 : decode cX8_nibble 79 = .ok (.invokevirtual 144, 3) := by decide +kernel
theorem dX8_nibble_82 : decode cX8_nibble 82 = .ok (.istore 4, 2) := by decide +kernel
theorem dX8_nibble_84 : decode cX8_nibble 84 = .ok (.iload 4, 2) := by decide +kernel
theorem dX8_nibble_86 : decode cX8_nibble 86 = .ok (.ifCond .ne 6, 3) := by decide +kernel
theorem dX8_nibble_89 : decode cX8_nibble 89 = .ok (.bipush (-2), 2) := by decide +kernel
theorem dX8_nibble_91 : decode cX8_nibble 91 = .ok (.ireturn, 1) := by decide +kernel
theorem dX8_nibble_92 : decode cX8_nibble 92 = .ok (.aload_n 0, 1) := by decide +kernel
theorem dX8_nibble_93 : decode cX8_nibble 93 = .ok (.getfield 36, 3) := by decide +kernel
theorem dX8_nibble_96 : decode cX8_nibble 96 = .ok (.aload_n 0, 1) := by decide +kernel
theorem dX8_nibble_97 : decode cX8_nibble 97 = .ok (.getfield 26, 3) := by decide +kernel
theorem dX8_nibble_100 : decode cX8_nibble 100 = .ok (.invokevirtual 115, 3) := by decide +kernel
theorem dX8_nibble_103 : decode cX8_nibble 103 = .ok (.aload_n 0, 1) := by decide +kernel
theorem dX8_nibble_104 : decode cX8_nibble 104 = .ok (.getfield 26, 3) := by decide +kernel
theorem dX8_nibble_107 : decode cX8_nibble 107 = .ok (.aload_n 0, 1) := by decide +kernel
theorem dX8_nibble_108 : decode cX8_nibble 108 = .ok (.getfield 30, 3) := by decide +kernel
theorem dX8_nibble_111 : decode cX8_nibble 111 = .ok (.invokevirtual 141, 3) := by decide +kernel
theorem dX8_nibble_114 : decode cX8_nibble 114 = .ok (.iload 4, 2) := by decide +kernel
theorem dX8_nibble_116 : decode cX8_nibble 116 = .ok (.ireturn, 1) := by decide +kernel
theorem dX8_clamp_0 : decode cX8_clamp 0 = .ok (.aload_n 0, 1) := by decide +kernel
theorem dX8_clamp_1 : decode cX8_clamp 1 = .ok (.iload_n 1, 1) := by decide +kernel
theorem dX8_clamp_2 : decode cX8_clamp 2 = .ok (.invokevirtual 148, 3) := by decide +kernel
theorem dX8_clamp_5 : decode cX8_clamp 5 = .ok (.ifCond .eq 14, 3) := by decide +kernel
theorem dX8_clamp_8 : decode cX8_clamp 8 = .ok (.aload_n 0, 1) := by decide +kernel
theorem dX8_clamp_9 : decode cX8_clamp 9 = .ok (.getfield 57, 3) := by decide +kernel
theorem dX8_clamp_12 : decode cX8_clamp 12 = .ok (.iload_n 2, 1) := by decide +kernel
theorem dX8_clamp_13 : decode cX8_clamp 13 = .ok (.invokevirtual 151, 3) := by decide +kernel
theorem dX8_clamp_16 : decode cX8_clamp 16 = .ok (.ifCond .ne 5, 3) := by decide +kernel
theorem dX8_clamp_19 : decode cX8_clamp 19 = .ok (.iconst (-1), 1) := by decide +kernel
theorem dX8_clamp_20 : decode cX8_clamp 20 = .ok (.ireturn, 1) := by decide +kernel
theorem dX8_clamp_21 : decode cX8_clamp 21 = .ok (.aload_n 0, 1) := by decide +kernel
theorem dX8_clamp_22 : decode cX8_clamp 22 = .ok (.getfield 26, 3) := by decide +kernel
theorem dX8_clamp_25 : decode cX8_clamp 25 = .ok (.getfield 154, 3) := by decide +kernel
theorem dX8_clamp_28 : decode cX8_clamp 28 = .ok (.iload_n 1, 1) := by decide +kernel
theorem dX8_clamp_29 : decode cX8_clamp 29 = .ok (.iaload, 1) := by decide +kernel
theorem dX8_clamp_30 : decode cX8_clamp 30 = .ok (.istore_n 3, 1) := by decide +kernel
theorem dX8_clamp_31 : decode cX8_clamp 31 = .ok (.iload_n 2, 1) := by decide +kernel
theorem dX8_clamp_32 : decode cX8_clamp 32 = .ok (.iload_n 3, 1) := by decide +kernel
theorem dX8_clamp_33 : decode cX8_clamp 33 = .ok (.if_icmp .eq 19, 3) := by decide +kernel
theorem dX8_clamp_36 : decode cX8_clamp 36 = .ok (.aload_n 0, 1) := by decide +kernel
theorem dX8_clamp_37 : decode cX8_clamp 37 = .ok (.getfield 26, 3) := by decide +kernel
theorem dX8_clamp_40 : decode cX8_clamp 40 = .ok (.aload_n 0, 1) := by decide +kernel
theorem dX8_clamp_41 : decode cX8_clamp 41 = .ok (.getfield 57, 3) := by decide +kernel
theorem dX8_clamp_44 : decode cX8_clamp 44 = .ok (.iload_n 1, 1) := by decide +kernel
theorem dX8_clamp_45 : decode cX8_clamp 45 = .ok (.iload_n 2, 1) := by decide +kernel
theorem dX8_clamp_46 : decode cX8_clamp 46 = .ok (.invokevirtual 158, 3) := by decide +kernel
theorem dX8_clamp_49 : decode cX8_clamp 49 = .ok (.ifCond .eq 6, 3) := by decide +kernel
theorem dX8_clamp_52 : decode cX8_clamp 52 = .ok (.bipush (-2), 2) := by decide +kernel
theorem dX8_clamp_54 : decode cX8_clamp 54 = .ok (.ireturn, 1) := by decide +kernel
theorem dX8_clamp_55 : decode cX8_clamp 55 = .ok (.aload_n 0, 1) := by decide +kernel
theorem dX8_clamp_56 : decode cX8_clamp 56 = .ok (.getfield 36, 3) := by decide +kernel
theorem dX8_clamp_59 : decode cX8_clamp 59 = .ok (.aload_n 0, 1) := by decide +kernel
theorem dX8_clamp_60 : decode cX8_clamp 60 = .ok (.getfield 26, 3) := by decide +kernel
theorem dX8_clamp_63 : decode cX8_clamp 63 = .ok (.invokevirtual 115, 3) := by decide +kernel
theorem dX8_clamp_66 : decode cX8_clamp 66 = .ok (.aload_n 0, 1) := by decide +kernel
theorem dX8_clamp_67 : decode cX8_clamp 67 = .ok (.getfield 26, 3) := by decide +kernel
theorem dX8_clamp_70 : decode cX8_clamp 70 = .ok (.getfield 154, 3) := by decide +kernel
theorem dX8_clamp_73 : decode cX8_clamp 73 = .ok (.iload_n 1, 1) := by decide +kernel
theorem dX8_clamp_74 : decode cX8_clamp 74 = .ok (.iload_n 2, 1) := by decide +kernel
theorem dX8_clamp_75 : decode cX8_clamp 75 = .ok (.iastore, 1) := by decide +kernel
theorem dX8_clamp_76 : decode cX8_clamp 76 = .ok (.aload_n 0, 1) := by decide +kernel
theorem dX8_clamp_77 : decode cX8_clamp 77 = .ok (.getfield 26, 3) := by decide +kernel
theorem dX8_clamp_80 : decode cX8_clamp 80 = .ok (.dup, 1) := by decide +kernel
theorem dX8_clamp_81 : decode cX8_clamp 81 = .ok (.getfield 162, 3) := by decide +kernel
theorem dX8_clamp_84 : decode cX8_clamp 84 = .ok (.iconst 1, 1) := by decide +kernel
theorem dX8_clamp_85 : decode cX8_clamp 85 = .ok (.iadd, 1) := by decide +kernel
theorem dX8_clamp_86 : decode cX8_clamp 86 = .ok (.putfield 162, 3) := by decide +kernel
theorem dX8_clamp_89 : decode cX8_clamp 89 = .ok (.iload_n 3, 1) := by decide +kernel
theorem dX8_clamp_90 : decode cX8_clamp 90 = .ok (.ireturn, 1) := by decide +kernel
theorem dX8_sharpen_0 : decode cX8_sharpen 0 = .ok (.aload_n 0, 1) := by decide +kernel
theorem dX8_sharpen_1 : decode cX8_sharpen 1 = .ok (.iload_n 1, 1) := by decide +kernel
theorem dX8_sharpen_2 : decode cX8_sharpen 2 = .ok (.invokevirtual 127, 3) := by decide +kernel
theorem dX8_sharpen_5 : decode cX8_sharpen 5 = .ok (.ifCond .ne 5, 3) := by decide +kernel
theorem dX8_sharpen_8 : decode cX8_sharpen 8 = .ok (.iconst (-1), 1) := by decide +kernel
theorem dX8_sharpen_9 : decode cX8_sharpen 9 = .ok (.ireturn, 1) := by decide +kernel
theorem dX8_sharpen_10 : decode cX8_sharpen 10 = .ok (.aload_n 0, 1) := by decide +kernel
theorem dX8_sharpen_11 : decode cX8_sharpen 11 = .ok (.getfield 26, 3) := by decide +kernel
theorem dX8_sharpen_14 : decode cX8_sharpen 14 = .ok (.getfield 165, 3) := by decide +kernel
theorem dX8_sharpen_17 : decode cX8_sharpen 17 = .ok (.iload_n 1, 1) := by decide +kernel
theorem dX8_sharpen_18 : decode cX8_sharpen 18 = .ok (.iaload, 1) := by decide +kernel
theorem dX8_sharpen_19 : decode cX8_sharpen 19 = .ok (.istore_n 2, 1) := by decide +kernel
theorem dX8_sharpen_20 : decode cX8_sharpen 20 = .ok (.iload_n 2, 1) := by decide +kernel
theorem dX8_sharpen_21 : decode cX8_sharpen 21 = .ok (.ifCond .ne 6, 3) := by decide +kernel
theorem dX8_sharpen_24 : decode cX8_sharpen 24 = .ok (.bipush (-2), 2) := by decide +kernel
theorem dX8_sharpen_26 : decode cX8_sharpen 26 = .ok (.ireturn, 1) := by decide +kernel
theorem dX8_sharpen_27 : decode cX8_sharpen 27 = .ok (.aload_n 0, 1) := by decide +kernel
theorem dX8_sharpen_28 : decode cX8_sharpen 28 = .ok (.getfield 36, 3) := by decide +kernel
theorem dX8_sharpen_31 : decode cX8_sharpen 31 = .ok (.aload_n 0, 1) := by decide +kernel
theorem dX8_sharpen_32 : decode cX8_sharpen 32 = .ok (.getfield 26, 3) := by decide +kernel
theorem dX8_sharpen_35 : decode cX8_sharpen 35 = .ok (.invokevirtual 115, 3) := by decide +kernel
theorem dX8_sharpen_38 : decode cX8_sharpen 38 = .ok (.aload_n 0, 1) := by decide +kernel
theorem dX8_sharpen_39 : decode cX8_sharpen 39 = .ok (.getfield 26, 3) := by decide +kernel
theorem dX8_sharpen_42 : decode cX8_sharpen 42 = .ok (.getfield 165, 3) := by decide +kernel
theorem dX8_sharpen_45 : decode cX8_sharpen 45 = .ok (.iload_n 1, 1) := by decide +kernel
theorem dX8_sharpen_46 : decode cX8_sharpen 46 = .ok (.iconst 0, 1) := by decide +kernel
theorem dX8_sharpen_47 : decode cX8_sharpen 47 = .ok (.iastore, 1) := by decide +kernel
theorem dX8_sharpen_48 : decode cX8_sharpen 48 = .ok (.iload_n 2, 1) := by decide +kernel
theorem dX8_sharpen_49 : decode cX8_sharpen 49 = .ok (.ireturn, 1) := by decide +kernel
theorem dX8_undo_0 : decode cX8_undo 0 = .ok (.aload_n 0, 1) := by decide +kernel
theorem dX8_undo_1 : decode cX8_undo 1 = .ok (.getfield 36, 3) := by decide +kernel
theorem dX8_undo_4 : decode cX8_undo 4 = .ok (.aload_n 0, 1) := by decide +kernel
theorem dX8_undo_5 : decode cX8_undo 5 = .ok (.getfield 26, 3) := by decide +kernel
theorem dX8_undo_8 : decode cX8_undo 8 = .ok (.invokevirtual 168, 3) := by decide +kernel
theorem dX8_undo_11 : decode cX8_undo 11 = .ok (.ifCond .eq 13, 3) := by decide +kernel
theorem dX8_undo_14 : decode cX8_undo 14 = .ok (.aload_n 0, 1) := by decide +kernel
theorem dX8_undo_15 : decode cX8_undo 15 = .ok (.getfield 36, 3) := by decide +kernel
theorem dX8_undo_18 : decode cX8_undo 18 = .ok (.getfield 172, 3) := by decide +kernel
theorem dX8_undo_21 : decode cX8_undo 21 = .ok (.goto 5, 3) := by decide +kernel
theorem dX8_undo_24 : decode cX8_undo 24 = .ok (.bipush (-2), 2) := by decide +kernel
theorem dX8_undo_26 : decode cX8_undo 26 = .ok (.ireturn, 1) := by decide +kernel
theorem dX8_station_0 : decode cX8_station 0 = .ok (.aload_n 0, 1) := by decide +kernel
theorem dX8_station_1 : decode cX8_station 1 = .ok (.iload_n 1, 1) := by decide +kernel
theorem dX8_station_2 : decode cX8_station 2 = .ok (.invokevirtual 127, 3) := by decide +kernel
theorem dX8_station_5 : decode cX8_station 5 = .ok (.ifCond .ne 5, 3) := by decide +kernel
theorem dX8_station_8 : decode cX8_station 8 = .ok (.iconst (-1), 1) := by decide +kernel
theorem dX8_station_9 : decode cX8_station 9 = .ok (.ireturn, 1) := by decide +kernel
theorem dX8_station_10 : decode cX8_station 10 = .ok (.aload_n 0, 1) := by decide +kernel
theorem dX8_station_11 : decode cX8_station 11 = .ok (.getfield 57, 3) := by decide +kernel
theorem dX8_station_14 : decode cX8_station 14 = .ok (.getfield 101, 3) := by decide +kernel
theorem dX8_station_17 : decode cX8_station 17 = .ok (.iload_n 1, 1) := by decide +kernel
theorem dX8_station_18 : decode cX8_station 18 = .ok (.aaload, 1) := by decide +kernel
theorem dX8_station_19 : decode cX8_station 19 = .ok (.astore_n 3, 1) := by decide +kernel
theorem dX8_station_20 : decode cX8_station 20 = .ok (.iload_n 2, 1) := by decide +kernel
theorem dX8_station_21 : decode cX8_station 21 = .ok (.tableswitch 108 0 6 #[43, 48, 53, 61, 66, 76, 92], 43) := by decide +kernel
theorem dX8_station_64 : decode cX8_station 64 = .ok (.aload_n 3, 1) := by decide +kernel
theorem dX8_station_65 : decode cX8_station 65 = .ok (.getfield 175, 3) := by decide +kernel
theorem dX8_station_68 : decode cX8_station 68 = .ok (.ireturn, 1) := by decide +kernel
theorem dX8_station_69 : decode cX8_station 69 = .ok (.aload_n 3, 1) := by decide +kernel
theorem dX8_station_70 : decode cX8_station 70 = .ok (.getfield 178, 3) := by decide +kernel
theorem dX8_station_73 : decode cX8_station 73 = .ok (.ireturn, 1) := by decide +kernel
theorem dX8_station_74 : decode cX8_station 74 = .ok (.aload_n 3, 1) := by decide +kernel
theorem dX8_station_75 : decode cX8_station 75 = .ok (.getfield 181, 3) := by decide +kernel
theorem dX8_station_78 : decode cX8_station 78 = .ok (.invokestatic 185, 3) := by decide +kernel
theorem dX8_station_81 : decode cX8_station 81 = .ok (.ireturn, 1) := by decide +kernel
theorem dX8_station_82 : decode cX8_station 82 = .ok (.aload_n 3, 1) := by decide +kernel
theorem dX8_station_83 : decode cX8_station 83 = .ok (.getfield 189, 3) := by decide +kernel
theorem dX8_station_86 : decode cX8_station 86 = .ok (.ireturn, 1) := by decide +kernel
theorem dX8_station_87 : decode cX8_station 87 = .ok (.aload_n 0, 1) := by decide +kernel
theorem dX8_station_88 : decode cX8_station 88 = .ok (.getfield 26, 3) := by decide +kernel
theorem dX8_station_91 : decode cX8_station 91 = .ok (.getfield 165, 3) := by decide +kernel
theorem dX8_station_94 : decode cX8_station 94 = .ok (.iload_n 1, 1) := by decide +kernel
theorem dX8_station_95 : decode cX8_station 95 = .ok (.iaload, 1) := by decide +kernel
theorem dX8_station_96 : decode cX8_station 96 = .ok (.ireturn, 1) := by decide +kernel
theorem dX8_station_97 : decode cX8_station 97 = .ok (.aload_n 0, 1) := by decide +kernel
theorem dX8_station_98 : decode cX8_station 98 = .ok (.getfield 26, 3) := by decide +kernel
theorem dX8_station_101 : decode cX8_station 101 = .ok (.aload_n 0, 1) := by decide +kernel
theorem dX8_station_102 : decode cX8_station 102 = .ok (.getfield 57, 3) := by decide +kernel
theorem dX8_station_105 : decode cX8_station 105 = .ok (.iload_n 1, 1) := by decide +kernel
theorem dX8_station_106 : decode cX8_station 106 = .ok (.invokevirtual 192, 3) := by decide +kernel
theorem dX8_station_109 : decode cX8_station 109 = .ok (.invokestatic 185, 3) := by decide +kernel
theorem dX8_station_112 : decode cX8_station 112 = .ok (.ireturn, 1) := by decide +kernel
theorem dX8_station_113 : decode cX8_station 113 = .ok (.aload_n 0, 1) := by decide +kernel
theorem dX8_station_114 : decode cX8_station 114 = .ok (.getfield 57, 3) := by decide +kernel
theorem dX8_station_117 : decode cX8_station 117 = .ok (.aload_n 0, 1) := by decide +kernel
theorem dX8_station_118 : decode cX8_station 118 = .ok (.getfield 26, 3) := by decide +kernel
theorem dX8_station_121 : decode cX8_station 121 = .ok (.getfield 196, 3) := by decide +kernel
theorem dX8_station_124 : decode cX8_station 124 = .ok (.iload_n 1, 1) := by decide +kernel
theorem dX8_station_125 : decode cX8_station 125 = .ok (.invokevirtual 199, 3) := by decide +kernel
theorem dX8_station_128 : decode cX8_station 128 = .ok (.ireturn, 1) := by decide +kernel
theorem dX8_station_129 : decode cX8_station 129 = .ok (.iconst (-1), 1) := by decide +kernel
theorem dX8_station_130 : decode cX8_station 130 = .ok (.ireturn, 1) := by decide +kernel
theorem dX8_hole_0 : decode cX8_hole 0 = .ok (.aload_n 0, 1) := by decide +kernel
theorem dX8_hole_1 : decode cX8_hole 1 = .ok (.iload_n 1, 1) := by decide +kernel
theorem dX8_hole_2 : decode cX8_hole 2 = .ok (.invokevirtual 123, 3) := by decide +kernel
theorem dX8_hole_5 : decode cX8_hole 5 = .ok (.ifCond .ne 5, 3) := by decide +kernel
theorem dX8_hole_8 : decode cX8_hole 8 = .ok (.iconst (-1), 1) := by decide +kernel
theorem dX8_hole_9 : decode cX8_hole 9 = .ok (.ireturn, 1) := by decide +kernel
theorem dX8_hole_10 : decode cX8_hole 10 = .ok (.aload_n 0, 1) := by decide +kernel
theorem dX8_hole_11 : decode cX8_hole 11 = .ok (.getfield 57, 3) := by decide +kernel
theorem dX8_hole_14 : decode cX8_hole 14 = .ok (.getfield 133, 3) := by decide +kernel
theorem dX8_hole_17 : decode cX8_hole 17 = .ok (.iload_n 1, 1) := by decide +kernel
theorem dX8_hole_18 : decode cX8_hole 18 = .ok (.aaload, 1) := by decide +kernel
theorem dX8_hole_19 : decode cX8_hole 19 = .ok (.astore_n 3, 1) := by decide +kernel
theorem dX8_hole_20 : decode cX8_hole 20 = .ok (.iload_n 2, 1) := by decide +kernel
theorem dX8_hole_21 : decode cX8_hole 21 = .ok (.tableswitch 80 0 5 #[39, 44, 49, 54, 59, 68], 39) := by decide +kernel
theorem dX8_hole_60 : decode cX8_hole 60 = .ok (.aload_n 3, 1) := by decide +kernel
theorem dX8_hole_61 : decode cX8_hole 61 = .ok (.getfield 203, 3) := by decide +kernel
theorem dX8_hole_64 : decode cX8_hole 64 = .ok (.ireturn, 1) := by decide +kernel
theorem dX8_hole_65 : decode cX8_hole 65 = .ok (.aload_n 3, 1) := by decide +kernel
theorem dX8_hole_66 : decode cX8_hole 66 = .ok (.getfield 206, 3) := by decide +kernel
theorem dX8_hole_69 : decode cX8_hole 69 = .ok (.ireturn, 1) := by decide +kernel
theorem dX8_hole_70 : decode cX8_hole 70 = .ok (.aload_n 3, 1) := by decide +kernel
theorem dX8_hole_71 : decode cX8_hole 71 = .ok (.getfield 209, 3) := by decide +kernel
theorem dX8_hole_74 : decode cX8_hole 74 = .ok (.ireturn, 1) := by decide +kernel
theorem dX8_hole_75 : decode cX8_hole 75 = .ok (.aload_n 3, 1) := by decide +kernel
theorem dX8_hole_76 : decode cX8_hole 76 = .ok (.getfield 210, 3) := by decide +kernel
theorem dX8_hole_79 : decode cX8_hole 79 = .ok (.ireturn, 1) := by decide +kernel
theorem dX8_hole_80 : decode cX8_hole 80 = .ok (.aload_n 0, 1) := by decide +kernel
theorem dX8_hole_81 : decode cX8_hole 81 = .ok (.getfield 26, 3) := by decide +kernel
theorem dX8_hole_84 : decode cX8_hole 84 = .ok (.aload_n 3, 1) := by decide +kernel
theorem dX8_hole_85 : decode cX8_hole 85 = .ok (.invokevirtual 211, 3) := by decide +kernel
theorem dX8_hole_88 : decode cX8_hole 88 = .ok (.ireturn, 1) := by decide +kernel
theorem dX8_hole_89 : decode cX8_hole 89 = .ok (.aload_n 0, 1) := by decide +kernel
theorem dX8_hole_90 : decode cX8_hole 90 = .ok (.getfield 26, 3) := by decide +kernel
theorem dX8_hole_93 : decode cX8_hole 93 = .ok (.aload_n 3, 1) := by decide +kernel
theorem dX8_hole_94 : decode cX8_hole 94 = .ok (.invokevirtual 137, 3) := by decide +kernel
theorem dX8_hole_97 : decode cX8_hole 97 = .ok (.invokestatic 185, 3) := by decide +kernel
theorem dX8_hole_100 : decode cX8_hole 100 = .ok (.ireturn, 1) := by decide +kernel
theorem dX8_hole_101 : decode cX8_hole 101 = .ok (.iconst (-1), 1) := by decide +kernel
theorem dX8_hole_102 : decode cX8_hole 102 = .ok (.ireturn, 1) := by decide +kernel
theorem dX8_hits_0 : decode cX8_hits 0 = .ok (.aload_n 0, 1) := by decide +kernel
theorem dX8_hits_1 : decode cX8_hits 1 = .ok (.iload_n 1, 1) := by decide +kernel
theorem dX8_hits_2 : decode cX8_hits 2 = .ok (.invokevirtual 123, 3) := by decide +kernel
theorem dX8_hits_5 : decode cX8_hits 5 = .ok (.ifCond .eq 18, 3) := by decide +kernel
theorem dX8_hits_8 : decode cX8_hits 8 = .ok (.aload_n 0, 1) := by decide +kernel
theorem dX8_hits_9 : decode cX8_hits 9 = .ok (.iload_n 2, 1) := by decide +kernel
theorem dX8_hits_10 : decode cX8_hits 10 = .ok (.invokevirtual 127, 3) := by decide +kernel
theorem dX8_hits_13 : decode cX8_hits 13 = .ok (.ifCond .eq 10, 3) := by decide +kernel
theorem dX8_hits_16 : decode cX8_hits 16 = .ok (.iload_n 3, 1) := by decide +kernel
theorem dX8_hits_17 : decode cX8_hits 17 = .ok (.invokestatic 130, 3) := by decide +kernel
theorem dX8_hits_20 : decode cX8_hits 20 = .ok (.ifCond .ne 5, 3) := by decide +kernel
theorem dX8_hits_23 : decode cX8_hits 23 = .ok (.iconst (-1), 1) := by decide +kernel
theorem dX8_hits_24 : decode cX8_hits 24 = .ok (.ireturn, 1) := by decide +kernel
theorem dX8_hits_25 : decode cX8_hits 25 = .ok (.aload_n 0, 1) := by decide +kernel
theorem dX8_hits_26 : decode cX8_hits 26 = .ok (.getfield 57, 3) := by decide +kernel
theorem dX8_hits_29 : decode cX8_hits 29 = .ok (.getfield 101, 3) := by decide +kernel
theorem dX8_hits_32 : decode cX8_hits 32 = .ok (.iload_n 2, 1) := by decide +kernel
theorem dX8_hits_33 : decode cX8_hits 33 = .ok (.aaload, 1) := by decide +kernel
theorem dX8_hits_34 : decode cX8_hits 34 = .ok (.aload_n 0, 1) := by decide +kernel
theorem dX8_hits_35 : decode cX8_hits 35 = .ok (.getfield 57, 3) := by decide +kernel
theorem dX8_hits_38 : decode cX8_hits 38 = .ok (.getfield 133, 3) := by decide +kernel
theorem dX8_hits_41 : decode cX8_hits 41 = .ok (.iload_n 1, 1) := by decide +kernel
theorem dX8_hits_42 : decode cX8_hits 42 = .ok (.aaload, 1) := by decide +kernel
theorem dX8_hits_43 : decode cX8_hits 43 = .ok (.iload_n 3, 1) := by decide +kernel
theorem dX8_hits_44 : decode cX8_hits 44 = .ok (.iconst 1, 1) := by decide +kernel
theorem dX8_hits_45 : decode cX8_hits 45 = .ok (.if_icmp .ne 7, 3) := by decide +kernel
theorem dX8_hits_48 : decode cX8_hits 48 = .ok (.iconst 1, 1) := by decide +kernel
theorem dX8_hits_49 : decode cX8_hits 49 = .ok (.goto 4, 3) := by decide +kernel
theorem dX8_hits_52 : decode cX8_hits 52 = .ok (.iconst 0, 1) := by decide +kernel
theorem dX8_hits_53 : decode cX8_hits 53 = .ok (.invokevirtual 215, 3) := by decide +kernel
theorem dX8_hits_56 : decode cX8_hits 56 = .ok (.istore 4, 2) := by decide +kernel
theorem dX8_hits_58 : decode cX8_hits 58 = .ok (.iload 4, 2) := by decide +kernel
theorem dX8_hits_60 : decode cX8_hits 60 = .ok (.ifCond .ne 8, 3) := by decide +kernel
theorem dX8_hits_63 : decode cX8_hits 63 = .ok (.bipush (-4), 2) := by decide +kernel
theorem dX8_hits_65 : decode cX8_hits 65 = .ok (.goto 5, 3) := by decide +kernel
theorem dX8_hits_68 : decode cX8_hits 68 = .ok (.iload 4, 2) := by decide +kernel
theorem dX8_hits_70 : decode cX8_hits 70 = .ok (.ireturn, 1) := by decide +kernel
theorem dX8_cell_0 : decode cX8_cell 0 = .ok (.aload_n 0, 1) := by decide +kernel
theorem dX8_cell_1 : decode cX8_cell 1 = .ok (.getfield 57, 3) := by decide +kernel
theorem dX8_cell_4 : decode cX8_cell 4 = .ok (.getfield 219, 3) := by decide +kernel
theorem dX8_cell_7 : decode cX8_cell 7 = .ok (.iload_n 1, 1) := by decide +kernel
theorem dX8_cell_8 : decode cX8_cell 8 = .ok (.iload_n 2, 1) := by decide +kernel
theorem dX8_cell_9 : decode cX8_cell 9 = .ok (.invokevirtual 222, 3) := by decide +kernel
theorem dX8_cell_12 : decode cX8_cell 12 = .ok (.ifCond .ne 5, 3) := by decide +kernel
theorem dX8_cell_15 : decode cX8_cell 15 = .ok (.iconst (-1), 1) := by decide +kernel
theorem dX8_cell_16 : decode cX8_cell 16 = .ok (.ireturn, 1) := by decide +kernel
theorem dX8_cell_17 : decode cX8_cell 17 = .ok (.iload_n 3, 1) := by decide +kernel
theorem dX8_cell_18 : decode cX8_cell 18 = .ok (.tableswitch 63 0 2 #[26, 39, 49], 26) := by decide +kernel
theorem dX8_cell_44 : decode cX8_cell 44 = .ok (.aload_n 0, 1) := by decide +kernel
theorem dX8_cell_45 : decode cX8_cell 45 = .ok (.getfield 26, 3) := by decide +kernel
theorem dX8_cell_48 : decode cX8_cell 48 = .ok (.iload_n 1, 1) := by decide +kernel
theorem dX8_cell_49 : decode cX8_cell 49 = .ok (.iload_n 2, 1) := by decide +kernel
theorem dX8_cell_50 : decode cX8_cell 50 = .ok (.invokevirtual 226, 3) := by decide +kernel
theorem dX8_cell_53 : decode cX8_cell 53 = .ok (.invokestatic 185, 3) := by decide +kernel
theorem dX8_cell_56 : decode cX8_cell 56 = .ok (.ireturn, 1) := by decide +kernel
theorem dX8_cell_57 : decode cX8_cell 57 = .ok (.aload_n 0, 1) := by decide +kernel
theorem dX8_cell_58 : decode cX8_cell 58 = .ok (.getfield 57, 3) := by decide +kernel
theorem dX8_cell_61 : decode cX8_cell 61 = .ok (.iload_n 1, 1) := by decide +kernel
theorem dX8_cell_62 : decode cX8_cell 62 = .ok (.iload_n 2, 1) := by decide +kernel
theorem dX8_cell_63 : decode cX8_cell 63 = .ok (.invokevirtual 229, 3) := by decide +kernel
theorem dX8_cell_66 : decode cX8_cell 66 = .ok (.ireturn, 1) := by decide +kernel
theorem dX8_cell_67 : decode cX8_cell 67 = .ok (.aload_n 0, 1) := by decide +kernel
theorem dX8_cell_68 : decode cX8_cell 68 = .ok (.getfield 26, 3) := by decide +kernel
theorem dX8_cell_71 : decode cX8_cell 71 = .ok (.aload_n 0, 1) := by decide +kernel
theorem dX8_cell_72 : decode cX8_cell 72 = .ok (.getfield 57, 3) := by decide +kernel
theorem dX8_cell_75 : decode cX8_cell 75 = .ok (.iload_n 1, 1) := by decide +kernel
theorem dX8_cell_76 : decode cX8_cell 76 = .ok (.iload_n 2, 1) := by decide +kernel
theorem dX8_cell_77 : decode cX8_cell 77 = .ok (.invokevirtual 232, 3) := by decide +kernel
theorem dX8_cell_80 : decode cX8_cell 80 = .ok (.ireturn, 1) := by decide +kernel
theorem dX8_cell_81 : decode cX8_cell 81 = .ok (.iconst (-1), 1) := by decide +kernel
theorem dX8_cell_82 : decode cX8_cell 82 = .ok (.ireturn, 1) := by decide +kernel
theorem dX8_column_0 : decode cX8_column 0 = .ok (.aload_n 0, 1) := by decide +kernel
theorem dX8_column_1 : decode cX8_column 1 = .ok (.iload_n 1, 1) := by decide +kernel
theorem dX8_column_2 : decode cX8_column 2 = .ok (.invokevirtual 148, 3) := by decide +kernel
theorem dX8_column_5 : decode cX8_column 5 = .ok (.ifCond .eq 15, 3) := by decide +kernel
theorem dX8_column_8 : decode cX8_column 8 = .ok (.aload_n 0, 1) := by decide +kernel
theorem dX8_column_9 : decode cX8_column 9 = .ok (.getfield 26, 3) := by decide +kernel
theorem dX8_column_12 : decode cX8_column 12 = .ok (.getfield 154, 3) := by decide +kernel
theorem dX8_column_15 : decode cX8_column 15 = .ok (.iload_n 1, 1) := by decide +kernel
theorem dX8_column_16 : decode cX8_column 16 = .ok (.iaload, 1) := by decide +kernel
theorem dX8_column_17 : decode cX8_column 17 = .ok (.goto 4, 3) := by decide +kernel
theorem dX8_column_20 : decode cX8_column 20 = .ok (.iconst (-1), 1) := by decide +kernel
theorem dX8_column_21 : decode cX8_column 21 = .ok (.ireturn, 1) := by decide +kernel
theorem dX8_plan_0 : decode cX8_plan 0 = .ok (.iload_n 1, 1) := by decide +kernel
theorem dX8_plan_1 : decode cX8_plan 1 = .ok (.iconst (-1), 1) := by decide +kernel
theorem dX8_plan_2 : decode cX8_plan 2 = .ok (.if_icmp .eq 19, 3) := by decide +kernel
theorem dX8_plan_5 : decode cX8_plan 5 = .ok (.iload_n 1, 1) := by decide +kernel
theorem dX8_plan_6 : decode cX8_plan 6 = .ok (.bipush (-2), 2) := by decide +kernel
theorem dX8_plan_8 : decode cX8_plan 8 = .ok (.if_icmp .eq 13, 3) := by decide +kernel
theorem dX8_plan_11 : decode cX8_plan 11 = .ok (.aload_n 0, 1) := by decide +kernel
theorem dX8_plan_12 : decode cX8_plan 12 = .ok (.iload_n 1, 1) := by decide +kernel
theorem dX8_plan_13 : decode cX8_plan 13 = .ok (.invokevirtual 123, 3) := by decide +kernel
theorem dX8_plan_16 : decode cX8_plan 16 = .ok (.ifCond .ne 5, 3) := by decide +kernel
theorem dX8_plan_19 : decode cX8_plan 19 = .ok (.iconst (-1), 1) := by decide +kernel
theorem dX8_plan_20 : decode cX8_plan 20 = .ok (.ireturn, 1) := by decide +kernel
theorem dX8_plan_21 : decode cX8_plan 21 = .ok (.aload_n 0, 1) := by decide +kernel
theorem dX8_plan_22 : decode cX8_plan 22 = .ok (.getfield 43, 3) := by decide +kernel
theorem dX8_plan_25 : decode cX8_plan 25 = .ok (.aload_n 0, 1) := by decide +kernel
theorem dX8_plan_26 : decode cX8_plan 26 = .ok (.getfield 57, 3) := by decide +kernel
theorem dX8_plan_29 : decode cX8_plan 29 = .ok (.aload_n 0, 1) := by decide +kernel
theorem dX8_plan_30 : decode cX8_plan 30 = .ok (.getfield 26, 3) := by decide +kernel
theorem dX8_plan_33 : decode cX8_plan 33 = .ok (.invokevirtual 236, 3) := by decide +kernel
theorem dX8_plan_36 : decode cX8_plan 36 = .ok (.aload_n 0, 1) := by decide +kernel
theorem dX8_plan_37 : decode cX8_plan 37 = .ok (.getfield 43, 3) := by decide +kernel
theorem dX8_plan_40 : decode cX8_plan 40 = .ok (.getfield 240, 3) := by decide +kernel
theorem dX8_plan_43 : decode cX8_plan 43 = .ok (.ifCond .ne 6, 3) := by decide +kernel
theorem dX8_plan_46 : decode cX8_plan 46 = .ok (.bipush (-4), 2) := by decide +kernel
theorem dX8_plan_48 : decode cX8_plan 48 = .ok (.ireturn, 1) := by decide +kernel
theorem dX8_plan_49 : decode cX8_plan 49 = .ok (.iload_n 1, 1) := by decide +kernel
theorem dX8_plan_50 : decode cX8_plan 50 = .ok (.iconst (-1), 1) := by decide +kernel
theorem dX8_plan_51 : decode cX8_plan 51 = .ok (.if_icmp .ne 11, 3) := by decide +kernel
theorem dX8_plan_54 : decode cX8_plan 54 = .ok (.aload_n 0, 1) := by decide +kernel
theorem dX8_plan_55 : decode cX8_plan 55 = .ok (.getfield 43, 3) := by decide +kernel
theorem dX8_plan_58 : decode cX8_plan 58 = .ok (.getfield 243, 3) := by decide +kernel
theorem dX8_plan_61 : decode cX8_plan 61 = .ok (.ireturn, 1) := by decide +kernel
theorem dX8_plan_62 : decode cX8_plan 62 = .ok (.iload_n 1, 1) := by decide +kernel
theorem dX8_plan_63 : decode cX8_plan 63 = .ok (.bipush (-2), 2) := by decide +kernel
theorem dX8_plan_65 : decode cX8_plan 65 = .ok (.if_icmp .ne 11, 3) := by decide +kernel
theorem dX8_plan_68 : decode cX8_plan 68 = .ok (.aload_n 0, 1) := by decide +kernel
theorem dX8_plan_69 : decode cX8_plan 69 = .ok (.getfield 43, 3) := by decide +kernel
theorem dX8_plan_72 : decode cX8_plan 72 = .ok (.getfield 246, 3) := by decide +kernel
theorem dX8_plan_75 : decode cX8_plan 75 = .ok (.ireturn, 1) := by decide +kernel
theorem dX8_plan_76 : decode cX8_plan 76 = .ok (.aload_n 0, 1) := by decide +kernel
theorem dX8_plan_77 : decode cX8_plan 77 = .ok (.getfield 43, 3) := by decide +kernel
theorem dX8_plan_80 : decode cX8_plan 80 = .ok (.getfield 249, 3) := by decide +kernel
theorem dX8_plan_83 : decode cX8_plan 83 = .ok (.iload_n 1, 1) := by decide +kernel
theorem dX8_plan_84 : decode cX8_plan 84 = .ok (.iaload, 1) := by decide +kernel
theorem dX8_plan_85 : decode cX8_plan 85 = .ok (.ireturn, 1) := by decide +kernel
theorem dX8_drawn_0 : decode cX8_drawn 0 = .ok (.iload_n 1, 1) := by decide +kernel
theorem dX8_drawn_1 : decode cX8_drawn 1 = .ok (.ifCond .ge 5, 3) := by decide +kernel
theorem dX8_drawn_4 : decode cX8_drawn 4 = .ok (.iconst (-1), 1) := by decide +kernel
theorem dX8_drawn_5 : decode cX8_drawn 5 = .ok (.ireturn, 1) := by decide +kernel
theorem dX8_drawn_6 : decode cX8_drawn 6 = .ok (.iload_n 1, 1) := by decide +kernel
theorem dX8_drawn_7 : decode cX8_drawn 7 = .ok (.istore_n 2, 1) := by decide +kernel
theorem dX8_drawn_8 : decode cX8_drawn 8 = .ok (.iconst 0, 1) := by decide +kernel
theorem dX8_drawn_9 : decode cX8_drawn 9 = .ok (.istore_n 3, 1) := by decide +kernel
theorem dX8_drawn_10 : decode cX8_drawn 10 = .ok (.iload_n 3, 1) := by decide +kernel
theorem dX8_drawn_11 : decode cX8_drawn 11 = .ok (.aload_n 0, 1) := by decide +kernel
theorem dX8_drawn_12 : decode cX8_drawn 12 = .ok (.getfield 57, 3) := by decide +kernel
theorem dX8_drawn_15 : decode cX8_drawn 15 = .ok (.getfield 219, 3) := by decide +kernel
theorem dX8_drawn_18 : decode cX8_drawn 18 = .ok (.getfield 210, 3) := by decide +kernel
theorem dX8_drawn_21 : decode cX8_drawn 21 = .ok (.if_icmp .ge 62, 3) := by decide +kernel
theorem dX8_drawn_24 : decode cX8_drawn 24 = .ok (.iload_n 2, 1) := by decide +kernel
theorem dX8_drawn_25 : decode cX8_drawn 25 = .ok (.aload_n 0, 1) := by decide +kernel
theorem dX8_drawn_26 : decode cX8_drawn 26 = .ok (.getfield 57, 3) := by decide +kernel
theorem dX8_drawn_29 : decode cX8_drawn 29 = .ok (.getfield 219, 3) := by decide +kernel
theorem dX8_drawn_32 : decode cX8_drawn 32 = .ok (.getfield 209, 3) := by decide +kernel
theorem dX8_drawn_35 : decode cX8_drawn 35 = .ok (.if_icmp .ge 10, 3) := by decide +kernel
theorem dX8_drawn_38 : decode cX8_drawn 38 = .ok (.aload_n 0, 1) := by decide +kernel
theorem dX8_drawn_39 : decode cX8_drawn 39 = .ok (.iload_n 2, 1) := by decide +kernel
theorem dX8_drawn_40 : decode cX8_drawn 40 = .ok (.iload_n 3, 1) := by decide +kernel
theorem dX8_drawn_41 : decode cX8_drawn 41 = .ok (.invokevirtual 252, 3) := by decide +kernel
theorem dX8_drawn_44 : decode cX8_drawn 44 = .ok (.ireturn, 1) := by decide +kernel
theorem dX8_drawn_45 : decode cX8_drawn 45 = .ok (.iload_n 2, 1) := by decide +kernel
theorem dX8_drawn_46 : decode cX8_drawn 46 = .ok (.aload_n 0, 1) := by decide +kernel
theorem dX8_drawn_47 : decode cX8_drawn 47 = .ok (.getfield 57, 3) := by decide +kernel
theorem dX8_drawn_50 : decode cX8_drawn 50 = .ok (.getfield 219, 3) := by decide +kernel
theorem dX8_drawn_53 : decode cX8_drawn 53 = .ok (.getfield 209, 3) := by decide +kernel
theorem dX8_drawn_56 : decode cX8_drawn 56 = .ok (.if_icmp .ne 6, 3) := by decide +kernel
theorem dX8_drawn_59 : decode cX8_drawn 59 = .ok (.bipush 47, 2) := by decide +kernel
theorem dX8_drawn_61 : decode cX8_drawn 61 = .ok (.ireturn, 1) := by decide +kernel
theorem dX8_drawn_62 : decode cX8_drawn 62 = .ok (.iload_n 2, 1) := by decide +kernel
theorem dX8_drawn_63 : decode cX8_drawn 63 = .ok (.aload_n 0, 1) := by decide +kernel
theorem dX8_drawn_64 : decode cX8_drawn 64 = .ok (.getfield 57, 3) := by decide +kernel
theorem dX8_drawn_67 : decode cX8_drawn 67 = .ok (.getfield 219, 3) := by decide +kernel
theorem dX8_drawn_70 : decode cX8_drawn 70 = .ok (.getfield 209, 3) := by decide +kernel
theorem dX8_drawn_73 : decode cX8_drawn 73 = .ok (.iconst 1, 1) := by decide +kernel
theorem dX8_drawn_74 : decode cX8_drawn 74 = .ok (.iadd, 1) := by decide +kernel
theorem dX8_drawn_75 : decode cX8_drawn 75 = .ok (.isub, 1) := by decide +kernel
theorem dX8_drawn_76 : decode cX8_drawn 76 = .ok (.istore_n 2, 1) := by decide +kernel
theorem dX8_drawn_77 : decode cX8_drawn 77 = .ok (.iinc 3 1, 3) := by decide +kernel
theorem dX8_drawn_80 : decode cX8_drawn 80 = .ok (.goto (-70), 3) := by decide +kernel
theorem dX8_drawn_83 : decode cX8_drawn 83 = .ok (.bipush (-4), 2) := by decide +kernel
theorem dX8_drawn_85 : decode cX8_drawn 85 = .ok (.ireturn, 1) := by decide +kernel
theorem dX8_count_0 : decode cX8_count 0 = .ok (.iload_n 1, 1) := by decide +kernel
theorem dX8_count_1 : decode cX8_count 1 = .ok (.tableswitch 181 0 12 #[67, 78, 89, 97, 105, 113, 121, 129, 137, 145, 157, 165, 173], 67) := by decide +kernel
theorem dX8_count_68 : decode cX8_count 68 = .ok (.aload_n 0, 1) := by decide +kernel
theorem dX8_count_69 : decode cX8_count 69 = .ok (.getfield 57, 3) := by decide +kernel
theorem dX8_count_72 : decode cX8_count 72 = .ok (.getfield 219, 3) := by decide +kernel
theorem dX8_count_75 : decode cX8_count 75 = .ok (.getfield 209, 3) := by decide +kernel
theorem dX8_count_78 : decode cX8_count 78 = .ok (.ireturn, 1) := by decide +kernel
theorem dX8_count_79 : decode cX8_count 79 = .ok (.aload_n 0, 1) := by decide +kernel
theorem dX8_count_80 : decode cX8_count 80 = .ok (.getfield 57, 3) := by decide +kernel
theorem dX8_count_83 : decode cX8_count 83 = .ok (.getfield 219, 3) := by decide +kernel
theorem dX8_count_86 : decode cX8_count 86 = .ok (.getfield 210, 3) := by decide +kernel
theorem dX8_count_89 : decode cX8_count 89 = .ok (.ireturn, 1) := by decide +kernel
theorem dX8_count_90 : decode cX8_count 90 = .ok (.aload_n 0, 1) := by decide +kernel
theorem dX8_count_91 : decode cX8_count 91 = .ok (.getfield 57, 3) := by decide +kernel
theorem dX8_count_94 : decode cX8_count 94 = .ok (.getfield 94, 3) := by decide +kernel
theorem dX8_count_97 : decode cX8_count 97 = .ok (.ireturn, 1) := by decide +kernel
theorem dX8_count_98 : decode cX8_count 98 = .ok (.aload_n 0, 1) := by decide +kernel
theorem dX8_count_99 : decode cX8_count 99 = .ok (.getfield 57, 3) := by decide +kernel
theorem dX8_count_102 : decode cX8_count 102 = .ok (.getfield 256, 3) := by decide +kernel
theorem dX8_count_105 : decode cX8_count 105 = .ok (.ireturn, 1) := by decide +kernel
theorem dX8_count_106 : decode cX8_count 106 = .ok (.aload_n 0, 1) := by decide +kernel
theorem dX8_count_107 : decode cX8_count 107 = .ok (.getfield 57, 3) := by decide +kernel
theorem dX8_count_110 : decode cX8_count 110 = .ok (.getfield 259, 3) := by decide +kernel
theorem dX8_count_113 : decode cX8_count 113 = .ok (.ireturn, 1) := by decide +kernel
theorem dX8_count_114 : decode cX8_count 114 = .ok (.aload_n 0, 1) := by decide +kernel
theorem dX8_count_115 : decode cX8_count 115 = .ok (.getfield 26, 3) := by decide +kernel
theorem dX8_count_118 : decode cX8_count 118 = .ok (.getfield 262, 3) := by decide +kernel
theorem dX8_count_121 : decode cX8_count 121 = .ok (.ireturn, 1) := by decide +kernel
theorem dX8_count_122 : decode cX8_count 122 = .ok (.aload_n 0, 1) := by decide +kernel
theorem dX8_count_123 : decode cX8_count 123 = .ok (.getfield 26, 3) := by decide +kernel
theorem dX8_count_126 : decode cX8_count 126 = .ok (.getfield 265, 3) := by decide +kernel
theorem dX8_count_129 : decode cX8_count 129 = .ok (.ireturn, 1) := by decide +kernel
theorem dX8_count_130 : decode cX8_count 130 = .ok (.aload_n 0, 1) := by decide +kernel
theorem dX8_count_131 : decode cX8_count 131 = .ok (.getfield 26, 3) := by decide +kernel
theorem dX8_count_134 : decode cX8_count 134 = .ok (.getfield 162, 3) := by decide +kernel
theorem dX8_count_137 : decode cX8_count 137 = .ok (.ireturn, 1) := by decide +kernel
theorem dX8_count_138 : decode cX8_count 138 = .ok (.aload_n 0, 1) := by decide +kernel
theorem dX8_count_139 : decode cX8_count 139 = .ok (.getfield 26, 3) := by decide +kernel
theorem dX8_count_142 : decode cX8_count 142 = .ok (.invokevirtual 268, 3) := by decide +kernel
theorem dX8_count_145 : decode cX8_count 145 = .ok (.ireturn, 1) := by decide +kernel
theorem dX8_count_146 : decode cX8_count 146 = .ok (.aload_n 0, 1) := by decide +kernel
theorem dX8_count_147 : decode cX8_count 147 = .ok (.getfield 26, 3) := by decide +kernel
theorem dX8_count_150 : decode cX8_count 150 = .ok (.aload_n 0, 1) := by decide +kernel
theorem dX8_count_151 : decode cX8_count 151 = .ok (.getfield 57, 3) := by decide +kernel
theorem dX8_count_154 : decode cX8_count 154 = .ok (.invokevirtual 271, 3) := by decide +kernel
theorem dX8_count_157 : decode cX8_count 157 = .ok (.ireturn, 1) := by decide +kernel
theorem dX8_count_158 : decode cX8_count 158 = .ok (.aload_n 0, 1) := by decide +kernel
theorem dX8_count_159 : decode cX8_count 159 = .ok (.getfield 26, 3) := by decide +kernel
theorem dX8_count_162 : decode cX8_count 162 = .ok (.getfield 196, 3) := by decide +kernel
theorem dX8_count_165 : decode cX8_count 165 = .ok (.ireturn, 1) := by decide +kernel
theorem dX8_count_166 : decode cX8_count 166 = .ok (.aload_n 0, 1) := by decide +kernel
theorem dX8_count_167 : decode cX8_count 167 = .ok (.getfield 36, 3) := by decide +kernel
theorem dX8_count_170 : decode cX8_count 170 = .ok (.getfield 172, 3) := by decide +kernel
theorem dX8_count_173 : decode cX8_count 173 = .ok (.ireturn, 1) := by decide +kernel
theorem dX8_count_174 : decode cX8_count 174 = .ok (.aload_n 0, 1) := by decide +kernel
theorem dX8_count_175 : decode cX8_count 175 = .ok (.getfield 10, 3) := by decide +kernel
theorem dX8_count_178 : decode cX8_count 178 = .ok (.getfield 87, 3) := by decide +kernel
theorem dX8_count_181 : decode cX8_count 181 = .ok (.ireturn, 1) := by decide +kernel
theorem dX8_count_182 : decode cX8_count 182 = .ok (.iconst (-1), 1) := by decide +kernel
theorem dX8_count_183 : decode cX8_count 183 = .ok (.ireturn, 1) := by decide +kernel
theorem dX8_layDraft_0 : decode cX8_layDraft 0 = .ok (.aload_n 0, 1) := by decide +kernel
theorem dX8_layDraft_1 : decode cX8_layDraft 1 = .ok (.getfield 19, 3) := by decide +kernel
theorem dX8_layDraft_4 : decode cX8_layDraft 4 = .ok (.aload_n 0, 1) := by decide +kernel
theorem dX8_layDraft_5 : decode cX8_layDraft 5 = .ok (.getfield 10, 3) := by decide +kernel
theorem dX8_layDraft_8 : decode cX8_layDraft 8 = .ok (.aload_n 0, 1) := by decide +kernel
theorem dX8_layDraft_9 : decode cX8_layDraft 9 = .ok (.getfield 61, 3) := by decide +kernel
theorem dX8_layDraft_12 : decode cX8_layDraft 12 = .ok (.invokevirtual 90, 3) := by decide +kernel
theorem dX8_layDraft_15 : decode cX8_layDraft 15 = .ok (.bipush (-4), 2) := by decide +kernel
theorem dX8_layDraft_17 : decode cX8_layDraft 17 = .ok (.if_icmp .ne 13, 3) := by decide +kernel
theorem dX8_layDraft_20 : decode cX8_layDraft 20 = .ok (.aload_n 0, 1) := by decide +kernel
theorem dX8_layDraft_21 : decode cX8_layDraft 21 = .ok (.getfield 61, 3) := by decide +kernel
theorem dX8_layDraft_24 : decode cX8_layDraft 24 = .ok (.getfield 94, 3) := by decide +kernel
theorem dX8_layDraft_27 : decode cX8_layDraft 27 = .ok (.ifCond .ne 5, 3) := by decide +kernel
theorem dX8_layDraft_30 : decode cX8_layDraft 30 = .ok (.iconst 0, 1) := by decide +kernel
theorem dX8_layDraft_31 : decode cX8_layDraft 31 = .ok (.ireturn, 1) := by decide +kernel
theorem dX8_layDraft_32 : decode cX8_layDraft 32 = .ok (.aload_n 0, 1) := by decide +kernel
theorem dX8_layDraft_33 : decode cX8_layDraft 33 = .ok (.getfield 57, 3) := by decide +kernel
theorem dX8_layDraft_36 : decode cX8_layDraft 36 = .ok (.astore_n 1, 1) := by decide +kernel
theorem dX8_layDraft_37 : decode cX8_layDraft 37 = .ok (.aload_n 0, 1) := by decide +kernel
theorem dX8_layDraft_38 : decode cX8_layDraft 38 = .ok (.aload_n 0, 1) := by decide +kernel
theorem dX8_layDraft_39 : decode cX8_layDraft 39 = .ok (.getfield 61, 3) := by decide +kernel
theorem dX8_layDraft_42 : decode cX8_layDraft 42 = .ok (.putfield 57, 3) := by decide +kernel
theorem dX8_layDraft_45 : decode cX8_layDraft 45 = .ok (.aload_n 0, 1) := by decide +kernel
theorem dX8_layDraft_46 : decode cX8_layDraft 46 = .ok (.aload_n 1, 1) := by decide +kernel
theorem dX8_layDraft_47 : decode cX8_layDraft 47 = .ok (.putfield 61, 3) := by decide +kernel
theorem dX8_layDraft_50 : decode cX8_layDraft 50 = .ok (.aload_n 0, 1) := by decide +kernel
theorem dX8_layDraft_51 : decode cX8_layDraft 51 = .ok (.getfield 26, 3) := by decide +kernel
theorem dX8_layDraft_54 : decode cX8_layDraft 54 = .ok (.aload_n 0, 1) := by decide +kernel
theorem dX8_layDraft_55 : decode cX8_layDraft 55 = .ok (.getfield 57, 3) := by decide +kernel
theorem dX8_layDraft_58 : decode cX8_layDraft 58 = .ok (.invokevirtual 275, 3) := by decide +kernel
theorem dX8_layDraft_61 : decode cX8_layDraft 61 = .ok (.aload_n 0, 1) := by decide +kernel
theorem dX8_layDraft_62 : decode cX8_layDraft 62 = .ok (.getfield 36, 3) := by decide +kernel
