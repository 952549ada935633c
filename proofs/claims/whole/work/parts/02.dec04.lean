theorem dX8_layDraft_65 : decode cX8_layDraft 65 = .ok (.invokevirtual 279, 3) := by decide +kernel
theorem dX8_layDraft_68 : decode cX8_layDraft 68 = .ok (.iconst 1, 1) := by decide +kernel
theorem dX8_layDraft_69 : decode cX8_layDraft 69 = .ok (.ireturn, 1) := by decide +kernel
theorem dX8_punchAll_0 : decode cX8_punchAll 0 = .ok (.aload_n 0, 1) := by decide +kernel
theorem dX8_punchAll_1 : decode cX8_punchAll 1 = .ok (.getfield 57, 3) := by decide +kernel
theorem dX8_punchAll_4 : decode cX8_punchAll 4 = .ok (.getfield 101, 3) := by decide +kernel
theorem dX8_punchAll_7 : decode cX8_punchAll 7 = .ok (.iload_n 2, 1) := by decide +kernel
theorem dX8_punchAll_8 : decode cX8_punchAll 8 = .ok (.aaload, 1) := by decide +kernel
theorem dX8_punchAll_9 : decode cX8_punchAll 9 = .ok (.astore 4, 2) := by decide +kernel
theorem dX8_punchAll_11 : decode cX8_punchAll 11 = .ok (.aload 4, 2) := by decide +kernel
theorem dX8_punchAll_13 : decode cX8_punchAll 13 = .ok (.aload_n 1, 1) := by decide +kernel
theorem dX8_punchAll_14 : decode cX8_punchAll 14 = .ok (.iload_n 3, 1) := by decide +kernel
theorem dX8_punchAll_15 : decode cX8_punchAll 15 = .ok (.invokevirtual 215, 3) := by decide +kernel
theorem dX8_punchAll_18 : decode cX8_punchAll 18 = .ok (.ifCond .ne 5, 3) := by decide +kernel
theorem dX8_punchAll_21 : decode cX8_punchAll 21 = .ok (.iconst 0, 1) := by decide +kernel
theorem dX8_punchAll_22 : decode cX8_punchAll 22 = .ok (.ireturn, 1) := by decide +kernel
theorem dX8_punchAll_23 : decode cX8_punchAll 23 = .ok (.aload_n 1, 1) := by decide +kernel
theorem dX8_punchAll_24 : decode cX8_punchAll 24 = .ok (.getfield 210, 3) := by decide +kernel
theorem dX8_punchAll_27 : decode cX8_punchAll 27 = .ok (.aload 4, 2) := by decide +kernel
theorem dX8_punchAll_29 : decode cX8_punchAll 29 = .ok (.iload_n 3, 1) := by decide +kernel
theorem dX8_punchAll_30 : decode cX8_punchAll 30 = .ok (.invokevirtual 282, 3) := by decide +kernel
theorem dX8_punchAll_33 : decode cX8_punchAll 33 = .ok (.invokestatic 285, 3) := by decide +kernel
theorem dX8_punchAll_36 : decode cX8_punchAll 36 = .ok (.istore 5, 2) := by decide +kernel
theorem dX8_punchAll_38 : decode cX8_punchAll 38 = .ok (.aload_n 1, 1) := by decide +kernel
theorem dX8_punchAll_39 : decode cX8_punchAll 39 = .ok (.getfield 209, 3) := by decide +kernel
theorem dX8_punchAll_42 : decode cX8_punchAll 42 = .ok (.aload 4, 2) := by decide +kernel
theorem dX8_punchAll_44 : decode cX8_punchAll 44 = .ok (.iload_n 3, 1) := by decide +kernel
theorem dX8_punchAll_45 : decode cX8_punchAll 45 = .ok (.invokevirtual 288, 3) := by decide +kernel
theorem dX8_punchAll_48 : decode cX8_punchAll 48 = .ok (.invokestatic 285, 3) := by decide +kernel
theorem dX8_punchAll_51 : decode cX8_punchAll 51 = .ok (.istore 6, 2) := by decide +kernel
theorem dX8_punchAll_53 : decode cX8_punchAll 53 = .ok (.iconst 0, 1) := by decide +kernel
theorem dX8_punchAll_54 : decode cX8_punchAll 54 = .ok (.istore 7, 2) := by decide +kernel
theorem dX8_punchAll_56 : decode cX8_punchAll 56 = .ok (.iconst 0, 1) := by decide +kernel
theorem dX8_punchAll_57 : decode cX8_punchAll 57 = .ok (.istore 8, 2) := by decide +kernel
theorem dX8_punchAll_59 : decode cX8_punchAll 59 = .ok (.iload 8, 2) := by decide +kernel
theorem dX8_punchAll_61 : decode cX8_punchAll 61 = .ok (.iload 5, 2) := by decide +kernel
theorem dX8_punchAll_63 : decode cX8_punchAll 63 = .ok (.if_icmp .ge 170, 3) := by decide +kernel
theorem dX8_punchAll_66 : decode cX8_punchAll 66 = .ok (.iconst 0, 1) := by decide +kernel
theorem dX8_punchAll_67 : decode cX8_punchAll 67 = .ok (.istore 9, 2) := by decide +kernel
theorem dX8_punchAll_69 : decode cX8_punchAll 69 = .ok (.iload 9, 2) := by decide +kernel
theorem dX8_punchAll_71 : decode cX8_punchAll 71 = .ok (.iload 6, 2) := by decide +kernel
theorem dX8_punchAll_73 : decode cX8_punchAll 73 = .ok (.if_icmp .ge 154, 3) := by decide +kernel
theorem dX8_punchAll_76 : decode cX8_punchAll 76 = .ok (.aload 4, 2) := by decide +kernel
theorem dX8_punchAll_78 : decode cX8_punchAll 78 = .ok (.aload_n 0, 1) := by decide +kernel
theorem dX8_punchAll_79 : decode cX8_punchAll 79 = .ok (.getfield 50, 3) := by decide +kernel
theorem dX8_punchAll_82 : decode cX8_punchAll 82 = .ok (.iconst 0, 1) := by decide +kernel
theorem dX8_punchAll_83 : decode cX8_punchAll 83 = .ok (.iconst 0, 1) := by decide +kernel
theorem dX8_punchAll_84 : decode cX8_punchAll 84 = .ok (.iload_n 3, 1) := by decide +kernel
theorem dX8_punchAll_85 : decode cX8_punchAll 85 = .ok (.invokevirtual 105, 3) := by decide +kernel
theorem dX8_punchAll_88 : decode cX8_punchAll 88 = .ok (.aload_n 0, 1) := by decide +kernel
theorem dX8_punchAll_89 : decode cX8_punchAll 89 = .ok (.getfield 50, 3) := by decide +kernel
theorem dX8_punchAll_92 : decode cX8_punchAll 92 = .ok (.aload_n 1, 1) := by decide +kernel
theorem dX8_punchAll_93 : decode cX8_punchAll 93 = .ok (.getfield 203, 3) := by decide +kernel
theorem dX8_punchAll_96 : decode cX8_punchAll 96 = .ok (.iload 9, 2) := by decide +kernel
theorem dX8_punchAll_98 : decode cX8_punchAll 98 = .ok (.aload_n 0, 1) := by decide +kernel
theorem dX8_punchAll_99 : decode cX8_punchAll 99 = .ok (.getfield 50, 3) := by decide +kernel
theorem dX8_punchAll_102 : decode cX8_punchAll 102 = .ok (.getfield 209, 3) := by decide +kernel
theorem dX8_punchAll_105 : decode cX8_punchAll 105 = .ok (.imul, 1) := by decide +kernel
theorem dX8_punchAll_106 : decode cX8_punchAll 106 = .ok (.aload_n 1, 1) := by decide +kernel
theorem dX8_punchAll_107 : decode cX8_punchAll 107 = .ok (.getfield 209, 3) := by decide +kernel
theorem dX8_punchAll_110 : decode cX8_punchAll 110 = .ok (.aload_n 0, 1) := by decide +kernel
theorem dX8_punchAll_111 : decode cX8_punchAll 111 = .ok (.getfield 50, 3) := by decide +kernel
theorem dX8_punchAll_114 : decode cX8_punchAll 114 = .ok (.getfield 209, 3) := by decide +kernel
theorem dX8_punchAll_117 : decode cX8_punchAll 117 = .ok (.isub, 1) := by decide +kernel
theorem dX8_punchAll_118 : decode cX8_punchAll 118 = .ok (.invokestatic 291, 3) := by decide +kernel
theorem dX8_punchAll_121 : decode cX8_punchAll 121 = .ok (.iadd, 1) := by decide +kernel
theorem dX8_punchAll_122 : decode cX8_punchAll 122 = .ok (.putfield 203, 3) := by decide +kernel
theorem dX8_punchAll_125 : decode cX8_punchAll 125 = .ok (.aload_n 0, 1) := by decide +kernel
theorem dX8_punchAll_126 : decode cX8_punchAll 126 = .ok (.getfield 50, 3) := by decide +kernel
theorem dX8_punchAll_129 : decode cX8_punchAll 129 = .ok (.aload_n 1, 1) := by decide +kernel
theorem dX8_punchAll_130 : decode cX8_punchAll 130 = .ok (.getfield 206, 3) := by decide +kernel
theorem dX8_punchAll_133 : decode cX8_punchAll 133 = .ok (.iload 8, 2) := by decide +kernel
theorem dX8_punchAll_135 : decode cX8_punchAll 135 = .ok (.aload_n 0, 1) := by decide +kernel
theorem dX8_punchAll_136 : decode cX8_punchAll 136 = .ok (.getfield 50, 3) := by decide +kernel
theorem dX8_punchAll_139 : decode cX8_punchAll 139 = .ok (.getfield 210, 3) := by decide +kernel
theorem dX8_punchAll_142 : decode cX8_punchAll 142 = .ok (.imul, 1) := by decide +kernel
theorem dX8_punchAll_143 : decode cX8_punchAll 143 = .ok (.aload_n 1, 1) := by decide +kernel
theorem dX8_punchAll_144 : decode cX8_punchAll 144 = .ok (.getfield 210, 3) := by decide +kernel
theorem dX8_punchAll_147 : decode cX8_punchAll 147 = .ok (.aload_n 0, 1) := by decide +kernel
theorem dX8_punchAll_148 : decode cX8_punchAll 148 = .ok (.getfield 50, 3) := by decide +kernel
theorem dX8_punchAll_151 : decode cX8_punchAll 151 = .ok (.getfield 210, 3) := by decide +kernel
theorem dX8_punchAll_154 : decode cX8_punchAll 154 = .ok (.isub, 1) := by decide +kernel
theorem dX8_punchAll_155 : decode cX8_punchAll 155 = .ok (.invokestatic 291, 3) := by decide +kernel
theorem dX8_punchAll_158 : decode cX8_punchAll 158 = .ok (.iadd, 1) := by decide +kernel
theorem dX8_punchAll_159 : decode cX8_punchAll 159 = .ok (.putfield 206, 3) := by decide +kernel
theorem dX8_punchAll_162 : decode cX8_punchAll 162 = .ok (.aload_n 0, 1) := by decide +kernel
theorem dX8_punchAll_163 : decode cX8_punchAll 163 = .ok (.getfield 30, 3) := by decide +kernel
theorem dX8_punchAll_166 : decode cX8_punchAll 166 = .ok (.aload_n 0, 1) := by decide +kernel
theorem dX8_punchAll_167 : decode cX8_punchAll 167 = .ok (.getfield 50, 3) := by decide +kernel
theorem dX8_punchAll_170 : decode cX8_punchAll 170 = .ok (.invokevirtual 137, 3) := by decide +kernel
theorem dX8_punchAll_173 : decode cX8_punchAll 173 = .ok (.ifCond .eq 6, 3) := by decide +kernel
theorem dX8_punchAll_176 : decode cX8_punchAll 176 = .ok (.goto 45, 3) := by decide +kernel
theorem dX8_punchAll_179 : decode cX8_punchAll 179 = .ok (.aload_n 0, 1) := by decide +kernel
theorem dX8_punchAll_180 : decode cX8_punchAll 180 = .ok (.getfield 30, 3) := by decide +kernel
theorem dX8_punchAll_183 : decode cX8_punchAll 183 = .ok (.aload_n 0, 1) := by decide +kernel
theorem dX8_punchAll_184 : decode cX8_punchAll 184 = .ok (.getfield 57, 3) := by decide +kernel
theorem dX8_punchAll_187 : decode cX8_punchAll 187 = .ok (.iload_n 2, 1) := by decide +kernel
theorem dX8_punchAll_188 : decode cX8_punchAll 188 = .ok (.iload_n 3, 1) := by decide +kernel
theorem dX8_punchAll_189 : decode cX8_punchAll 189 = .ok (.aload_n 0, 1) := by decide +kernel
theorem dX8_punchAll_190 : decode cX8_punchAll 190 = .ok (.getfield 50, 3) := by decide +kernel
theorem dX8_punchAll_193 : decode cX8_punchAll 193 = .ok (.invokevirtual 111, 3) := by decide +kernel
theorem dX8_punchAll_196 : decode cX8_punchAll 196 = .ok (.ifCond .eq 5, 3) := by decide +kernel
theorem dX8_punchAll_199 : decode cX8_punchAll 199 = .ok (.iconst 0, 1) := by decide +kernel
theorem dX8_punchAll_200 : decode cX8_punchAll 200 = .ok (.ireturn, 1) := by decide +kernel
theorem dX8_punchAll_201 : decode cX8_punchAll 201 = .ok (.aload_n 0, 1) := by decide +kernel
theorem dX8_punchAll_202 : decode cX8_punchAll 202 = .ok (.getfield 30, 3) := by decide +kernel
theorem dX8_punchAll_205 : decode cX8_punchAll 205 = .ok (.aload_n 0, 1) := by decide +kernel
theorem dX8_punchAll_206 : decode cX8_punchAll 206 = .ok (.getfield 57, 3) := by decide +kernel
theorem dX8_punchAll_209 : decode cX8_punchAll 209 = .ok (.iload_n 2, 1) := by decide +kernel
theorem dX8_punchAll_210 : decode cX8_punchAll 210 = .ok (.aload_n 0, 1) := by decide +kernel
theorem dX8_punchAll_211 : decode cX8_punchAll 211 = .ok (.getfield 50, 3) := by decide +kernel
theorem dX8_punchAll_214 : decode cX8_punchAll 214 = .ok (.invokevirtual 119, 3) := by decide +kernel
theorem dX8_punchAll_217 : decode cX8_punchAll 217 = .ok (.pop, 1) := by decide +kernel
theorem dX8_punchAll_218 : decode cX8_punchAll 218 = .ok (.iinc 7 1, 3) := by decide +kernel
theorem dX8_punchAll_221 : decode cX8_punchAll 221 = .ok (.iinc 9 1, 3) := by decide +kernel
theorem dX8_punchAll_224 : decode cX8_punchAll 224 = .ok (.goto (-155), 3) := by decide +kernel
theorem dX8_punchAll_227 : decode cX8_punchAll 227 = .ok (.iinc 8 1, 3) := by decide +kernel
theorem dX8_punchAll_230 : decode cX8_punchAll 230 = .ok (.goto (-171), 3) := by decide +kernel
theorem dX8_punchAll_233 : decode cX8_punchAll 233 = .ok (.iload 7, 2) := by decide +kernel
theorem dX8_punchAll_235 : decode cX8_punchAll 235 = .ok (.ireturn, 1) := by decide +kernel
theorem dX8_signAt_0 : decode cX8_signAt 0 = .ok (.aload_n 0, 1) := by decide +kernel
theorem dX8_signAt_1 : decode cX8_signAt 1 = .ok (.getfield 26, 3) := by decide +kernel
theorem dX8_signAt_4 : decode cX8_signAt 4 = .ok (.aload_n 0, 1) := by decide +kernel
theorem dX8_signAt_5 : decode cX8_signAt 5 = .ok (.getfield 57, 3) := by decide +kernel
theorem dX8_signAt_8 : decode cX8_signAt 8 = .ok (.iload_n 1, 1) := by decide +kernel
theorem dX8_signAt_9 : decode cX8_signAt 9 = .ok (.iload_n 2, 1) := by decide +kernel
theorem dX8_signAt_10 : decode cX8_signAt 10 = .ok (.invokevirtual 232, 3) := by decide +kernel
theorem dX8_signAt_13 : decode cX8_signAt 13 = .ok (.bipush (-4), 2) := by decide +kernel
theorem dX8_signAt_15 : decode cX8_signAt 15 = .ok (.if_icmp .eq 6, 3) := by decide +kernel
theorem dX8_signAt_18 : decode cX8_signAt 18 = .ok (.bipush 99, 2) := by decide +kernel
theorem dX8_signAt_20 : decode cX8_signAt 20 = .ok (.ireturn, 1) := by decide +kernel
theorem dX8_signAt_21 : decode cX8_signAt 21 = .ok (.aload_n 0, 1) := by decide +kernel
theorem dX8_signAt_22 : decode cX8_signAt 22 = .ok (.getfield 26, 3) := by decide +kernel
theorem dX8_signAt_25 : decode cX8_signAt 25 = .ok (.iload_n 1, 1) := by decide +kernel
theorem dX8_signAt_26 : decode cX8_signAt 26 = .ok (.iload_n 2, 1) := by decide +kernel
theorem dX8_signAt_27 : decode cX8_signAt 27 = .ok (.invokevirtual 226, 3) := by decide +kernel
theorem dX8_signAt_30 : decode cX8_signAt 30 = .ok (.ifCond .eq 6, 3) := by decide +kernel
theorem dX8_signAt_33 : decode cX8_signAt 33 = .ok (.bipush 111, 2) := by decide +kernel
theorem dX8_signAt_35 : decode cX8_signAt 35 = .ok (.ireturn, 1) := by decide +kernel
theorem dX8_signAt_36 : decode cX8_signAt 36 = .ok (.aload_n 0, 1) := by decide +kernel
theorem dX8_signAt_37 : decode cX8_signAt 37 = .ok (.getfield 57, 3) := by decide +kernel
theorem dX8_signAt_40 : decode cX8_signAt 40 = .ok (.iload_n 1, 1) := by decide +kernel
theorem dX8_signAt_41 : decode cX8_signAt 41 = .ok (.iload_n 2, 1) := by decide +kernel
theorem dX8_signAt_42 : decode cX8_signAt 42 = .ok (.invokevirtual 229, 3) := by decide +kernel
theorem dX8_signAt_45 : decode cX8_signAt 45 = .ok (.bipush (-4), 2) := by decide +kernel
theorem dX8_signAt_47 : decode cX8_signAt 47 = .ok (.if_icmp .eq 8, 3) := by decide +kernel
theorem dX8_signAt_50 : decode cX8_signAt 50 = .ok (.bipush 35, 2) := by decide +kernel
theorem dX8_signAt_52 : decode cX8_signAt 52 = .ok (.goto 5, 3) := by decide +kernel
theorem dX8_signAt_55 : decode cX8_signAt 55 = .ok (.bipush 46, 2) := by decide +kernel
theorem dX8_signAt_57 : decode cX8_signAt 57 = .ok (.ireturn, 1) := by decide +kernel
theorem dX8_isHitTold_0 : decode cX8_isHitTold 0 = .ok (.aload_n 0, 1) := by decide +kernel
theorem dX8_isHitTold_1 : decode cX8_isHitTold 1 = .ok (.iload_n 1, 1) := by decide +kernel
theorem dX8_isHitTold_2 : decode cX8_isHitTold 2 = .ok (.invokevirtual 127, 3) := by decide +kernel
theorem dX8_isHitTold_5 : decode cX8_isHitTold 5 = .ok (.ifCond .eq 35, 3) := by decide +kernel
theorem dX8_isHitTold_8 : decode cX8_isHitTold 8 = .ok (.iload_n 2, 1) := by decide +kernel
theorem dX8_isHitTold_9 : decode cX8_isHitTold 9 = .ok (.iconst 0, 1) := by decide +kernel
theorem dX8_isHitTold_10 : decode cX8_isHitTold 10 = .ok (.bipush 99, 2) := by decide +kernel
theorem dX8_isHitTold_12 : decode cX8_isHitTold 12 = .ok (.invokestatic 296, 3) := by decide +kernel
theorem dX8_isHitTold_15 : decode cX8_isHitTold 15 = .ok (.ifCond .eq 25, 3) := by decide +kernel
theorem dX8_isHitTold_18 : decode cX8_isHitTold 18 = .ok (.iload_n 3, 1) := by decide +kernel
theorem dX8_isHitTold_19 : decode cX8_isHitTold 19 = .ok (.iconst 0, 1) := by decide +kernel
theorem dX8_isHitTold_20 : decode cX8_isHitTold 20 = .ok (.bipush 99, 2) := by decide +kernel
theorem dX8_isHitTold_22 : decode cX8_isHitTold 22 = .ok (.invokestatic 296, 3) := by decide +kernel
theorem dX8_isHitTold_25 : decode cX8_isHitTold 25 = .ok (.ifCond .eq 15, 3) := by decide +kernel
theorem dX8_isHitTold_28 : decode cX8_isHitTold 28 = .ok (.iload 4, 2) := by decide +kernel
theorem dX8_isHitTold_30 : decode cX8_isHitTold 30 = .ok (.invokestatic 130, 3) := by decide +kernel
theorem dX8_isHitTold_33 : decode cX8_isHitTold 33 = .ok (.ifCond .eq 7, 3) := by decide +kernel
theorem dX8_isHitTold_36 : decode cX8_isHitTold 36 = .ok (.iconst 1, 1) := by decide +kernel
theorem dX8_isHitTold_37 : decode cX8_isHitTold 37 = .ok (.goto 4, 3) := by decide +kernel
theorem dX8_isHitTold_40 : decode cX8_isHitTold 40 = .ok (.iconst 0, 1) := by decide +kernel
theorem dX8_isHitTold_41 : decode cX8_isHitTold 41 = .ok (.ireturn, 1) := by decide +kernel
theorem dX8_isStation_0 : decode cX8_isStation 0 = .ok (.iload_n 1, 1) := by decide +kernel
theorem dX8_isStation_1 : decode cX8_isStation 1 = .ok (.ifCond .lt 18, 3) := by decide +kernel
theorem dX8_isStation_4 : decode cX8_isStation 4 = .ok (.iload_n 1, 1) := by decide +kernel
theorem dX8_isStation_5 : decode cX8_isStation 5 = .ok (.aload_n 0, 1) := by decide +kernel
theorem dX8_isStation_6 : decode cX8_isStation 6 = .ok (.getfield 57, 3) := by decide +kernel
theorem dX8_isStation_9 : decode cX8_isStation 9 = .ok (.getfield 94, 3) := by decide +kernel
theorem dX8_isStation_12 : decode cX8_isStation 12 = .ok (.if_icmp .ge 7, 3) := by decide +kernel
theorem dX8_isStation_15 : decode cX8_isStation 15 = .ok (.iconst 1, 1) := by decide +kernel
theorem dX8_isStation_16 : decode cX8_isStation 16 = .ok (.goto 4, 3) := by decide +kernel
theorem dX8_isStation_19 : decode cX8_isStation 19 = .ok (.iconst 0, 1) := by decide +kernel
theorem dX8_isStation_20 : decode cX8_isStation 20 = .ok (.ireturn, 1) := by decide +kernel
theorem dX8_isHole_0 : decode cX8_isHole 0 = .ok (.iload_n 1, 1) := by decide +kernel
theorem dX8_isHole_1 : decode cX8_isHole 1 = .ok (.ifCond .lt 18, 3) := by decide +kernel
theorem dX8_isHole_4 : decode cX8_isHole 4 = .ok (.iload_n 1, 1) := by decide +kernel
theorem dX8_isHole_5 : decode cX8_isHole 5 = .ok (.aload_n 0, 1) := by decide +kernel
theorem dX8_isHole_6 : decode cX8_isHole 6 = .ok (.getfield 57, 3) := by decide +kernel
theorem dX8_isHole_9 : decode cX8_isHole 9 = .ok (.getfield 256, 3) := by decide +kernel
theorem dX8_isHole_12 : decode cX8_isHole 12 = .ok (.if_icmp .ge 7, 3) := by decide +kernel
theorem dX8_isHole_15 : decode cX8_isHole 15 = .ok (.iconst 1, 1) := by decide +kernel
theorem dX8_isHole_16 : decode cX8_isHole 16 = .ok (.goto 4, 3) := by decide +kernel
theorem dX8_isHole_19 : decode cX8_isHole 19 = .ok (.iconst 0, 1) := by decide +kernel
theorem dX8_isHole_20 : decode cX8_isHole 20 = .ok (.ireturn, 1) := by decide +kernel
theorem dX8_isClamp_0 : decode cX8_isClamp 0 = .ok (.iload_n 1, 1) := by decide +kernel
theorem dX8_isClamp_1 : decode cX8_isClamp 1 = .ok (.ifCond .lt 18, 3) := by decide +kernel
theorem dX8_isClamp_4 : decode cX8_isClamp 4 = .ok (.iload_n 1, 1) := by decide +kernel
theorem dX8_isClamp_5 : decode cX8_isClamp 5 = .ok (.aload_n 0, 1) := by decide +kernel
theorem dX8_isClamp_6 : decode cX8_isClamp 6 = .ok (.getfield 57, 3) := by decide +kernel
theorem dX8_isClamp_9 : decode cX8_isClamp 9 = .ok (.getfield 259, 3) := by decide +kernel
theorem dX8_isClamp_12 : decode cX8_isClamp 12 = .ok (.if_icmp .ge 7, 3) := by decide +kernel
theorem dX8_isClamp_15 : decode cX8_isClamp 15 = .ok (.iconst 1, 1) := by decide +kernel
theorem dX8_isClamp_16 : decode cX8_isClamp 16 = .ok (.goto 4, 3) := by decide +kernel
theorem dX8_isClamp_19 : decode cX8_isClamp 19 = .ok (.iconst 0, 1) := by decide +kernel
theorem dX8_isClamp_20 : decode cX8_isClamp 20 = .ok (.ireturn, 1) := by decide +kernel
theorem dX8_isFlag_0 : decode cX8_isFlag 0 = .ok (.iload_n 0, 1) := by decide +kernel
theorem dX8_isFlag_1 : decode cX8_isFlag 1 = .ok (.ifCond .eq 8, 3) := by decide +kernel
theorem dX8_isFlag_4 : decode cX8_isFlag 4 = .ok (.iload_n 0, 1) := by decide +kernel
theorem dX8_isFlag_5 : decode cX8_isFlag 5 = .ok (.iconst 1, 1) := by decide +kernel
theorem dX8_isFlag_6 : decode cX8_isFlag 6 = .ok (.if_icmp .ne 7, 3) := by decide +kernel
theorem dX8_isFlag_9 : decode cX8_isFlag 9 = .ok (.iconst 1, 1) := by decide +kernel
theorem dX8_isFlag_10 : decode cX8_isFlag 10 = .ok (.goto 4, 3) := by decide +kernel
theorem dX8_isFlag_13 : decode cX8_isFlag 13 = .ok (.iconst 0, 1) := by decide +kernel
theorem dX8_isFlag_14 : decode cX8_isFlag 14 = .ok (.ireturn, 1) := by decide +kernel
theorem dX8_asFlag_0 : decode cX8_asFlag 0 = .ok (.iload_n 0, 1) := by decide +kernel
theorem dX8_asFlag_1 : decode cX8_asFlag 1 = .ok (.ifCond .eq 7, 3) := by decide +kernel
theorem dX8_asFlag_4 : decode cX8_asFlag 4 = .ok (.iconst 1, 1) := by decide +kernel
theorem dX8_asFlag_5 : decode cX8_asFlag 5 = .ok (.goto 4, 3) := by decide +kernel
theorem dX8_asFlag_8 : decode cX8_asFlag 8 = .ok (.iconst 0, 1) := by decide +kernel
theorem dX8_asFlag_9 : decode cX8_asFlag 9 = .ok (.ireturn, 1) := by decide +kernel
theorem dX8_isWithin_0 : decode cX8_isWithin 0 = .ok (.iload_n 0, 1) := by decide +kernel
theorem dX8_isWithin_1 : decode cX8_isWithin 1 = .ok (.iload_n 1, 1) := by decide +kernel
theorem dX8_isWithin_2 : decode cX8_isWithin 2 = .ok (.if_icmp .lt 12, 3) := by decide +kernel
theorem dX8_isWithin_5 : decode cX8_isWithin 5 = .ok (.iload_n 0, 1) := by decide +kernel
theorem dX8_isWithin_6 : decode cX8_isWithin 6 = .ok (.iload_n 2, 1) := by decide +kernel
theorem dX8_isWithin_7 : decode cX8_isWithin 7 = .ok (.if_icmp .gt 7, 3) := by decide +kernel
theorem dX8_isWithin_10 : decode cX8_isWithin 10 = .ok (.iconst 1, 1) := by decide +kernel
theorem dX8_isWithin_11 : decode cX8_isWithin 11 = .ok (.goto 4, 3) := by decide +kernel
theorem dX8_isWithin_14 : decode cX8_isWithin 14 = .ok (.iconst 0, 1) := by decide +kernel
theorem dX8_isWithin_15 : decode cX8_isWithin 15 = .ok (.ireturn, 1) := by decide +kernel
theorem dX8_stepsOver_0 : decode cX8_stepsOver 0 = .ok (.iload_n 1, 1) := by decide +kernel
theorem dX8_stepsOver_1 : decode cX8_stepsOver 1 = .ok (.iconst 1, 1) := by decide +kernel
theorem dX8_stepsOver_2 : decode cX8_stepsOver 2 = .ok (.if_icmp .ge 7, 3) := by decide +kernel
theorem dX8_stepsOver_5 : decode cX8_stepsOver 5 = .ok (.iconst 0, 1) := by decide +kernel
theorem dX8_stepsOver_6 : decode cX8_stepsOver 6 = .ok (.goto 10, 3) := by decide +kernel
theorem dX8_stepsOver_9 : decode cX8_stepsOver 9 = .ok (.iload_n 0, 1) := by decide +kernel
theorem dX8_stepsOver_10 : decode cX8_stepsOver 10 = .ok (.iload_n 1, 1) := by decide +kernel
theorem dX8_stepsOver_11 : decode cX8_stepsOver 11 = .ok (.iadd, 1) := by decide +kernel
theorem dX8_stepsOver_12 : decode cX8_stepsOver 12 = .ok (.iconst 1, 1) := by decide +kernel
theorem dX8_stepsOver_13 : decode cX8_stepsOver 13 = .ok (.isub, 1) := by decide +kernel
theorem dX8_stepsOver_14 : decode cX8_stepsOver 14 = .ok (.iload_n 1, 1) := by decide +kernel
theorem dX8_stepsOver_15 : decode cX8_stepsOver 15 = .ok (.idiv, 1) := by decide +kernel
theorem dX8_stepsOver_16 : decode cX8_stepsOver 16 = .ok (.ireturn, 1) := by decide +kernel
theorem dX9_init_0 : decode cX9_init 0 = .ok (.aload_n 0, 1) := by decide +kernel
theorem dX9_init_1 : decode cX9_init 1 = .ok (.invokespecial 1, 3) := by decide +kernel
theorem dX9_init_4 : decode cX9_init 4 = .ok (.aload_n 0, 1) := by decide +kernel
theorem dX9_init_5 : decode cX9_init 5 = .ok (.sipush 200, 3) := by decide +kernel
theorem dX9_init_8 : decode cX9_init 8 = .ok (.newarray .int, 2) := by decide +kernel
theorem dX9_init_10 : decode cX9_init 10 = .ok (.putfield 7, 3) := by decide +kernel
theorem dX9_init_13 : decode cX9_init 13 = .ok (.aload_n 0, 1) := by decide +kernel
theorem dX9_init_14 : decode cX9_init 14 = .ok (.bipush 51, 2) := by decide +kernel
theorem dX9_init_16 : decode cX9_init 16 = .ok (.newarray .int, 2) := by decide +kernel
theorem dX9_init_18 : decode cX9_init 18 = .ok (.putfield 13, 3) := by decide +kernel
theorem dX9_init_21 : decode cX9_init 21 = .ok (.aload_n 0, 1) := by decide +kernel
theorem dX9_init_22 : decode cX9_init 22 = .ok (.bipush 51, 2) := by decide +kernel
theorem dX9_init_24 : decode cX9_init 24 = .ok (.newarray .int, 2) := by decide +kernel
theorem dX9_init_26 : decode cX9_init 26 = .ok (.putfield 16, 3) := by decide +kernel
theorem dX9_init_29 : decode cX9_init 29 = .ok (.aload_n 0, 1) := by decide +kernel
theorem dX9_init_30 : decode cX9_init 30 = .ok (.sipush 156, 3) := by decide +kernel
theorem dX9_init_33 : decode cX9_init 33 = .ok (.newarray .int, 2) := by decide +kernel
theorem dX9_init_35 : decode cX9_init 35 = .ok (.putfield 19, 3) := by decide +kernel
theorem dX9_init_38 : decode cX9_init 38 = .ok (.aload_n 0, 1) := by decide +kernel
theorem dX9_init_39 : decode cX9_init 39 = .ok (.sipush 936, 3) := by decide +kernel
theorem dX9_init_42 : decode cX9_init 42 = .ok (.newarray .int, 2) := by decide +kernel
theorem dX9_init_44 : decode cX9_init 44 = .ok (.putfield 22, 3) := by decide +kernel
theorem dX9_init_47 : decode cX9_init 47 = .ok (.aload_n 0, 1) := by decide +kernel
theorem dX9_init_48 : decode cX9_init 48 = .ok (.sipush 156, 3) := by decide +kernel
theorem dX9_init_51 : decode cX9_init 51 = .ok (.newarray .int, 2) := by decide +kernel
theorem dX9_init_53 : decode cX9_init 53 = .ok (.putfield 25, 3) := by decide +kernel
theorem dX9_init_56 : decode cX9_init 56 = .ok (.aload_n 0, 1) := by decide +kernel
theorem dX9_init_57 : decode cX9_init 57 = .ok (.bipush 64, 2) := by decide +kernel
theorem dX9_init_59 : decode cX9_init 59 = .ok (.newarray .int, 2) := by decide +kernel
theorem dX9_init_61 : decode cX9_init 61 = .ok (.putfield 28, 3) := by decide +kernel
theorem dX9_init_64 : decode cX9_init 64 = .ok (.aload_n 0, 1) := by decide +kernel
theorem dX9_init_65 : decode cX9_init 65 = .ok (.iconst 5, 1) := by decide +kernel
theorem dX9_init_66 : decode cX9_init 66 = .ok (.newarray .int, 2) := by decide +kernel
theorem dX9_init_68 : decode cX9_init 68 = .ok (.putfield 31, 3) := by decide +kernel
theorem dX9_init_71 : decode cX9_init 71 = .ok (.aload_n 0, 1) := by decide +kernel
theorem dX9_init_72 : decode cX9_init 72 = .ok (.iconst 5, 1) := by decide +kernel
theorem dX9_init_73 : decode cX9_init 73 = .ok (.newarray .int, 2) := by decide +kernel
theorem dX9_init_75 : decode cX9_init 75 = .ok (.putfield 34, 3) := by decide +kernel
theorem dX9_init_78 : decode cX9_init 78 = .ok (.aload_n 0, 1) := by decide +kernel
theorem dX9_init_79 : decode cX9_init 79 = .ok (.bipush 60, 2) := by decide +kernel
theorem dX9_init_81 : decode cX9_init 81 = .ok (.newarray .int, 2) := by decide +kernel
theorem dX9_init_83 : decode cX9_init 83 = .ok (.putfield 37, 3) := by decide +kernel
theorem dX9_init_86 : decode cX9_init 86 = .ok (.aload_n 0, 1) := by decide +kernel
theorem dX9_init_87 : decode cX9_init 87 = .ok (.iconst 5, 1) := by decide +kernel
theorem dX9_init_88 : decode cX9_init 88 = .ok (.newarray .int, 2) := by decide +kernel
theorem dX9_init_90 : decode cX9_init 90 = .ok (.putfield 40, 3) := by decide +kernel
theorem dX9_init_93 : decode cX9_init 93 = .ok (.aload_n 0, 1) := by decide +kernel
theorem dX9_init_94 : decode cX9_init 94 = .ok (.getfield 13, 3) := by decide +kernel
theorem dX9_init_97 : decode cX9_init 97 = .ok (.iconst 0, 1) := by decide +kernel
theorem dX9_init_98 : decode cX9_init 98 = .ok (.bipush 10, 2) := by decide +kernel
theorem dX9_init_100 : decode cX9_init 100 = .ok (.iastore, 1) := by decide +kernel
theorem dX9_init_101 : decode cX9_init 101 = .ok (.aload_n 0, 1) := by decide +kernel
theorem dX9_init_102 : decode cX9_init 102 = .ok (.getfield 13, 3) := by decide +kernel
theorem dX9_init_105 : decode cX9_init 105 = .ok (.iconst 1, 1) := by decide +kernel
theorem dX9_init_106 : decode cX9_init 106 = .ok (.bipush 8, 2) := by decide +kernel
theorem dX9_init_108 : decode cX9_init 108 = .ok (.iastore, 1) := by decide +kernel
theorem dX9_init_109 : decode cX9_init 109 = .ok (.aload_n 0, 1) := by decide +kernel
theorem dX9_init_110 : decode cX9_init 110 = .ok (.iconst 5, 1) := by decide +kernel
theorem dX9_init_111 : decode cX9_init 111 = .ok (.iconst 2, 1) := by decide +kernel
theorem dX9_init_112 : decode cX9_init 112 = .ok (.iconst 2, 1) := by decide +kernel
theorem dX9_init_113 : decode cX9_init 113 = .ok (.iconst 2, 1) := by decide +kernel
theorem dX9_init_114 : decode cX9_init 114 = .ok (.iconst 0, 1) := by decide +kernel
theorem dX9_init_115 : decode cX9_init 115 = .ok (.bipush 40, 2) := by decide +kernel
theorem dX9_init_117 : decode cX9_init 117 = .ok (.invokevirtual 43, 3) := by decide +kernel
theorem dX9_init_120 : decode cX9_init 120 = .ok (.aload_n 0, 1) := by decide +kernel
theorem dX9_init_121 : decode cX9_init 121 = .ok (.iconst 5, 1) := by decide +kernel
theorem dX9_init_122 : decode cX9_init 122 = .ok (.iconst 2, 1) := by decide +kernel
theorem dX9_init_123 : decode cX9_init 123 = .ok (.iconst 3, 1) := by decide +kernel
theorem dX9_init_124 : decode cX9_init 124 = .ok (.iconst 1, 1) := by decide +kernel
theorem dX9_init_125 : decode cX9_init 125 = .ok (.iconst 1, 1) := by decide +kernel
theorem dX9_init_126 : decode cX9_init 126 = .ok (.bipush 12, 2) := by decide +kernel
theorem dX9_init_128 : decode cX9_init 128 = .ok (.invokevirtual 43, 3) := by decide +kernel
theorem dX9_init_131 : decode cX9_init 131 = .ok (.aload_n 0, 1) := by decide +kernel
theorem dX9_init_132 : decode cX9_init 132 = .ok (.iconst 5, 1) := by decide +kernel
theorem dX9_init_133 : decode cX9_init 133 = .ok (.iconst 2, 1) := by decide +kernel
theorem dX9_init_134 : decode cX9_init 134 = .ok (.iconst 1, 1) := by decide +kernel
theorem dX9_init_135 : decode cX9_init 135 = .ok (.iconst 1, 1) := by decide +kernel
theorem dX9_init_136 : decode cX9_init 136 = .ok (.iconst 0, 1) := by decide +kernel
theorem dX9_init_137 : decode cX9_init 137 = .ok (.bipush 99, 2) := by decide +kernel
theorem dX9_init_139 : decode cX9_init 139 = .ok (.invokevirtual 43, 3) := by decide +kernel
theorem dX9_init_142 : decode cX9_init 142 = .ok (.aload_n 0, 1) := by decide +kernel
theorem dX9_init_143 : decode cX9_init 143 = .ok (.bipush 29, 2) := by decide +kernel
theorem dX9_init_145 : decode cX9_init 145 = .ok (.iconst 3, 1) := by decide +kernel
theorem dX9_init_146 : decode cX9_init 146 = .ok (.iconst 1, 1) := by decide +kernel
theorem dX9_init_147 : decode cX9_init 147 = .ok (.iconst 1, 1) := by decide +kernel
theorem dX9_init_148 : decode cX9_init 148 = .ok (.iconst 4, 1) := by decide +kernel
theorem dX9_init_149 : decode cX9_init 149 = .ok (.iconst 2, 1) := by decide +kernel
theorem dX9_init_150 : decode cX9_init 150 = .ok (.invokevirtual 43, 3) := by decide +kernel
theorem dX9_init_153 : decode cX9_init 153 = .ok (.aload_n 0, 1) := by decide +kernel
theorem dX9_init_154 : decode cX9_init 154 = .ok (.bipush 29, 2) := by decide +kernel
theorem dX9_init_156 : decode cX9_init 156 = .ok (.iconst 3, 1) := by decide +kernel
theorem dX9_init_157 : decode cX9_init 157 = .ok (.bipush 6, 2) := by decide +kernel
theorem dX9_init_159 : decode cX9_init 159 = .ok (.iconst 1, 1) := by decide +kernel
theorem dX9_init_160 : decode cX9_init 160 = .ok (.iconst 3, 1) := by decide +kernel
theorem dX9_init_161 : decode cX9_init 161 = .ok (.iconst 3, 1) := by decide +kernel
theorem dX9_init_162 : decode cX9_init 162 = .ok (.invokevirtual 43, 3) := by decide +kernel
theorem dX9_init_165 : decode cX9_init 165 = .ok (.aload_n 0, 1) := by decide +kernel
theorem dX9_init_166 : decode cX9_init 166 = .ok (.bipush 29, 2) := by decide +kernel
theorem dX9_init_168 : decode cX9_init 168 = .ok (.iconst 3, 1) := by decide +kernel
theorem dX9_init_169 : decode cX9_init 169 = .ok (.iconst 2, 1) := by decide +kernel
theorem dX9_init_170 : decode cX9_init 170 = .ok (.iconst 5, 1) := by decide +kernel
theorem dX9_init_171 : decode cX9_init 171 = .ok (.iconst 1, 1) := by decide +kernel
theorem dX9_init_172 : decode cX9_init 172 = .ok (.iconst 3, 1) := by decide +kernel
theorem dX9_init_173 : decode cX9_init 173 = .ok (.invokevirtual 43, 3) := by decide +kernel
theorem dX9_init_176 : decode cX9_init 176 = .ok (.aload_n 0, 1) := by decide +kernel
theorem dX9_init_177 : decode cX9_init 177 = .ok (.bipush 29, 2) := by decide +kernel
theorem dX9_init_179 : decode cX9_init 179 = .ok (.iconst 3, 1) := by decide +kernel
theorem dX9_init_180 : decode cX9_init 180 = .ok (.bipush 6, 2) := by decide +kernel
theorem dX9_init_182 : decode cX9_init 182 = .ok (.bipush 6, 2) := by decide +kernel
theorem dX9_init_184 : decode cX9_init 184 = .ok (.iconst 3, 1) := by decide +kernel
theorem dX9_init_185 : decode cX9_init 185 = .ok (.iconst 1, 1) := by decide +kernel
theorem dX9_init_186 : decode cX9_init 186 = .ok (.invokevirtual 43, 3) := by decide +kernel
theorem dX9_init_189 : decode cX9_init 189 = .ok (.aload_n 0, 1) := by decide +kernel
theorem dX9_init_190 : decode cX9_init 190 = .ok (.getfield 13, 3) := by decide +kernel
theorem dX9_init_193 : decode cX9_init 193 = .ok (.iconst 4, 1) := by decide +kernel
theorem dX9_init_194 : decode cX9_init 194 = .ok (.iconst 2, 1) := by decide +kernel
theorem dX9_init_195 : decode cX9_init 195 = .ok (.iastore, 1) := by decide +kernel
theorem dX9_init_196 : decode cX9_init 196 = .ok (.aload_n 0, 1) := by decide +kernel
theorem dX9_init_197 : decode cX9_init 197 = .ok (.getfield 13, 3) := by decide +kernel
theorem dX9_init_200 : decode cX9_init 200 = .ok (.bipush 49, 2) := by decide +kernel
theorem dX9_init_202 : decode cX9_init 202 = .ok (.iconst 0, 1) := by decide +kernel
theorem dX9_init_203 : decode cX9_init 203 = .ok (.iastore, 1) := by decide +kernel
theorem dX9_init_204 : decode cX9_init 204 = .ok (.aload_n 0, 1) := by decide +kernel
theorem dX9_init_205 : decode cX9_init 205 = .ok (.getfield 13, 3) := by decide +kernel
theorem dX9_init_208 : decode cX9_init 208 = .ok (.bipush 50, 2) := by decide +kernel
theorem dX9_init_210 : decode cX9_init 210 = .ok (.bipush 7, 2) := by decide +kernel
theorem dX9_init_212 : decode cX9_init 212 = .ok (.iastore, 1) := by decide +kernel
theorem dX9_init_213 : decode cX9_init 213 = .ok (.aload_n 0, 1) := by decide +kernel
theorem dX9_init_214 : decode cX9_init 214 = .ok (.invokevirtual 47, 3) := by decide +kernel
theorem dX9_init_217 : decode cX9_init 217 = .ok (.return_, 1) := by decide +kernel
theorem dX9_adds_0 : decode cX9_adds 0 = .ok (.iload_n 1, 1) := by decide +kernel
theorem dX9_adds_1 : decode cX9_adds 1 = .ok (.iconst 4, 1) := by decide +kernel
theorem dX9_adds_2 : decode cX9_adds 2 = .ok (.aload_n 0, 1) := by decide +kernel
theorem dX9_adds_3 : decode cX9_adds 3 = .ok (.getfield 13, 3) := by decide +kernel
theorem dX9_adds_6 : decode cX9_adds 6 = .ok (.iload_n 2, 1) := by decide +kernel
theorem dX9_adds_7 : decode cX9_adds 7 = .ok (.iaload, 1) := by decide +kernel
theorem dX9_adds_8 : decode cX9_adds 8 = .ok (.imul, 1) := by decide +kernel
theorem dX9_adds_9 : decode cX9_adds 9 = .ok (.iadd, 1) := by decide +kernel
theorem dX9_adds_10 : decode cX9_adds 10 = .ok (.istore 7, 2) := by decide +kernel
theorem dX9_adds_12 : decode cX9_adds 12 = .ok (.aload_n 0, 1) := by decide +kernel
theorem dX9_adds_13 : decode cX9_adds 13 = .ok (.getfield 13, 3) := by decide +kernel
theorem dX9_adds_16 : decode cX9_adds 16 = .ok (.iload 7, 2) := by decide +kernel
theorem dX9_adds_18 : decode cX9_adds 18 = .ok (.iload_n 3, 1) := by decide +kernel
theorem dX9_adds_19 : decode cX9_adds 19 = .ok (.iastore, 1) := by decide +kernel
theorem dX9_adds_20 : decode cX9_adds 20 = .ok (.aload_n 0, 1) := by decide +kernel
theorem dX9_adds_21 : decode cX9_adds 21 = .ok (.getfield 13, 3) := by decide +kernel
theorem dX9_adds_24 : decode cX9_adds 24 = .ok (.iload 7, 2) := by decide +kernel
theorem dX9_adds_26 : decode cX9_adds 26 = .ok (.iconst 1, 1) := by decide +kernel
theorem dX9_adds_27 : decode cX9_adds 27 = .ok (.iadd, 1) := by decide +kernel
theorem dX9_adds_28 : decode cX9_adds 28 = .ok (.iload 4, 2) := by decide +kernel
theorem dX9_adds_30 : decode cX9_adds 30 = .ok (.iastore, 1) := by decide +kernel
theorem dX9_adds_31 : decode cX9_adds 31 = .ok (.aload_n 0, 1) := by decide +kernel
theorem dX9_adds_32 : decode cX9_adds 32 = .ok (.getfield 13, 3) := by decide +kernel
theorem dX9_adds_35 : decode cX9_adds 35 = .ok (.iload 7, 2) := by decide +kernel
theorem dX9_adds_37 : decode cX9_adds 37 = .ok (.iconst 2, 1) := by decide +kernel
theorem dX9_adds_38 : decode cX9_adds 38 = .ok (.iadd, 1) := by decide +kernel
theorem dX9_adds_39 : decode cX9_adds 39 = .ok (.iload 5, 2) := by decide +kernel
theorem dX9_adds_41 : decode cX9_adds 41 = .ok (.iastore, 1) := by decide +kernel
theorem dX9_adds_42 : decode cX9_adds 42 = .ok (.aload_n 0, 1) := by decide +kernel
theorem dX9_adds_43 : decode cX9_adds 43 = .ok (.getfield 13, 3) := by decide +kernel
theorem dX9_adds_46 : decode cX9_adds 46 = .ok (.iload 7, 2) := by decide +kernel
theorem dX9_adds_48 : decode cX9_adds 48 = .ok (.iconst 3, 1) := by decide +kernel
theorem dX9_adds_49 : decode cX9_adds 49 = .ok (.iadd, 1) := by decide +kernel
theorem dX9_adds_50 : decode cX9_adds 50 = .ok (.iload 6, 2) := by decide +kernel
theorem dX9_adds_52 : decode cX9_adds 52 = .ok (.iastore, 1) := by decide +kernel
theorem dX9_adds_53 : decode cX9_adds 53 = .ok (.aload_n 0, 1) := by decide +kernel
theorem dX9_adds_54 : decode cX9_adds 54 = .ok (.getfield 13, 3) := by decide +kernel
theorem dX9_adds_57 : decode cX9_adds 57 = .ok (.iload_n 2, 1) := by decide +kernel
theorem dX9_adds_58 : decode cX9_adds 58 = .ok (.dup2, 1) := by decide +kernel
theorem dX9_adds_59 : decode cX9_adds 59 = .ok (.iaload, 1) := by decide +kernel
theorem dX9_adds_60 : decode cX9_adds 60 = .ok (.iconst 1, 1) := by decide +kernel
theorem dX9_adds_61 : decode cX9_adds 61 = .ok (.iadd, 1) := by decide +kernel
theorem dX9_adds_62 : decode cX9_adds 62 = .ok (.iastore, 1) := by decide +kernel
theorem dX9_adds_63 : decode cX9_adds 63 = .ok (.return_, 1) := by decide +kernel
theorem dX9_anew_0 : decode cX9_anew 0 = .ok (.iconst 0, 1) := by decide +kernel
theorem dX9_anew_1 : decode cX9_anew 1 = .ok (.istore_n 1, 1) := by decide +kernel
theorem dX9_anew_2 : decode cX9_anew 2 = .ok (.iload_n 1, 1) := by decide +kernel
theorem dX9_anew_3 : decode cX9_anew 3 = .ok (.sipush 156, 3) := by decide +kernel
theorem dX9_anew_6 : decode cX9_anew 6 = .ok (.if_icmp .ge 16, 3) := by decide +kernel
theorem dX9_anew_9 : decode cX9_anew 9 = .ok (.aload_n 0, 1) := by decide +kernel
theorem dX9_anew_10 : decode cX9_anew 10 = .ok (.getfield 19, 3) := by decide +kernel
theorem dX9_anew_13 : decode cX9_anew 13 = .ok (.iload_n 1, 1) := by decide +kernel
theorem dX9_anew_14 : decode cX9_anew 14 = .ok (.iconst 0, 1) := by decide +kernel
theorem dX9_anew_15 : decode cX9_anew 15 = .ok (.iastore, 1) := by decide +kernel
theorem dX9_anew_16 : decode cX9_anew 16 = .ok (.iinc 1 1, 3) := by decide +kernel
theorem dX9_anew_19 : decode cX9_anew 19 = .ok (.goto (-17), 3) := by decide +kernel
theorem dX9_anew_22 : decode cX9_anew 22 = .ok (.aload_n 0, 1) := by decide +kernel
theorem dX9_anew_23 : decode cX9_anew 23 = .ok (.getfield 19, 3) := by decide +kernel
theorem dX9_anew_26 : decode cX9_anew 26 = .ok (.sipush 151, 3) := by decide +kernel
theorem dX9_anew_29 : decode cX9_anew 29 = .ok (.aload_n 0, 1) := by decide +kernel
theorem dX9_anew_30 : decode cX9_anew 30 = .ok (.getfield 13, 3) := by decide +kernel
theorem dX9_anew_33 : decode cX9_anew 33 = .ok (.bipush 49, 2) := by decide +kernel
theorem dX9_anew_35 : decode cX9_anew 35 = .ok (.iaload, 1) := by decide +kernel
theorem dX9_anew_36 : decode cX9_anew 36 = .ok (.iastore, 1) := by decide +kernel
theorem dX9_anew_37 : decode cX9_anew 37 = .ok (.aload_n 0, 1) := by decide +kernel
theorem dX9_anew_38 : decode cX9_anew 38 = .ok (.getfield 19, 3) := by decide +kernel
theorem dX9_anew_41 : decode cX9_anew 41 = .ok (.sipush 152, 3) := by decide +kernel
theorem dX9_anew_44 : decode cX9_anew 44 = .ok (.aload_n 0, 1) := by decide +kernel
theorem dX9_anew_45 : decode cX9_anew 45 = .ok (.getfield 13, 3) := by decide +kernel
theorem dX9_anew_48 : decode cX9_anew 48 = .ok (.bipush 50, 2) := by decide +kernel
theorem dX9_anew_50 : decode cX9_anew 50 = .ok (.iaload, 1) := by decide +kernel
theorem dX9_anew_51 : decode cX9_anew 51 = .ok (.iastore, 1) := by decide +kernel
theorem dX9_anew_52 : decode cX9_anew 52 = .ok (.aload_n 0, 1) := by decide +kernel
theorem dX9_anew_53 : decode cX9_anew 53 = .ok (.iconst 0, 1) := by decide +kernel
theorem dX9_anew_54 : decode cX9_anew 54 = .ok (.putfield 50, 3) := by decide +kernel
theorem dX9_anew_57 : decode cX9_anew 57 = .ok (.return_, 1) := by decide +kernel
theorem dX9_in_0 : decode cX9_in 0 = .ok (.lload_n 0, 1) := by decide +kernel
theorem dX9_in_1 : decode cX9_in 1 = .ok (.lload_n 2, 1) := by decide +kernel
theorem dX9_in_2 : decode cX9_in 2 = .ok (.lcmp, 1) := by decide +kernel
theorem dX9_in_3 : decode cX9_in 3 = .ok (.ifCond .lt 14, 3) := by decide +kernel
theorem dX9_in_6 : decode cX9_in 6 = .ok (.lload_n 0, 1) := by decide +kernel
theorem dX9_in_7 : decode cX9_in 7 = .ok (.lload 4, 2) := by decide +kernel
theorem dX9_in_9 : decode cX9_in 9 = .ok (.lcmp, 1) := by decide +kernel
theorem dX9_in_10 : decode cX9_in 10 = .ok (.ifCond .gt 7, 3) := by decide +kernel
theorem dX9_in_13 : decode cX9_in 13 = .ok (.iconst 1, 1) := by decide +kernel
theorem dX9_in_14 : decode cX9_in 14 = .ok (.goto 4, 3) := by decide +kernel
theorem dX9_in_17 : decode cX9_in 17 = .ok (.iconst 0, 1) := by decide +kernel
theorem dX9_in_18 : decode cX9_in 18 = .ok (.ireturn, 1) := by decide +kernel
theorem dX9_write_0 : decode cX9_write 0 = .ok (.iload_n 1, 1) := by decide +kernel
theorem dX9_write_1 : decode cX9_write 1 = .ok (.i2l, 1) := by decide +kernel
theorem dX9_write_2 : decode cX9_write 2 = .ok (.ldc2_w 54, 3) := by decide +kernel
theorem dX9_write_5 : decode cX9_write 5 = .ok (.ldc2_w 56, 3) := by decide +kernel
theorem dX9_write_8 : decode cX9_write 8 = .ok (.invokestatic 58, 3) := by decide +kernel
theorem dX9_write_11 : decode cX9_write 11 = .ok (.ifCond .ne 5, 3) := by decide +kernel
theorem dX9_write_14 : decode cX9_write 14 = .ok (.iconst (-1), 1) := by decide +kernel
theorem dX9_write_15 : decode cX9_write 15 = .ok (.ireturn, 1) := by decide +kernel
theorem dX9_write_16 : decode cX9_write 16 = .ok (.aload_n 0, 1) := by decide +kernel
theorem dX9_write_17 : decode cX9_write 17 = .ok (.getfield 62, 3) := by decide +kernel
theorem dX9_write_20 : decode cX9_write 20 = .ok (.sipush 200, 3) := by decide +kernel
theorem dX9_write_23 : decode cX9_write 23 = .ok (.if_icmp .ne 6, 3) := by decide +kernel
theorem dX9_write_26 : decode cX9_write 26 = .ok (.bipush (-3), 2) := by decide +kernel
theorem dX9_write_28 : decode cX9_write 28 = .ok (.ireturn, 1) := by decide +kernel
theorem dX9_write_29 : decode cX9_write 29 = .ok (.aload_n 0, 1) := by decide +kernel
theorem dX9_write_30 : decode cX9_write 30 = .ok (.getfield 7, 3) := by decide +kernel
theorem dX9_write_33 : decode cX9_write 33 = .ok (.aload_n 0, 1) := by decide +kernel
theorem dX9_write_34 : decode cX9_write 34 = .ok (.getfield 62, 3) := by decide +kernel
theorem dX9_write_37 : decode cX9_write 37 = .ok (.iload_n 1, 1) := by decide +kernel
theorem dX9_write_38 : decode cX9_write 38 = .ok (.iastore, 1) := by decide +kernel
theorem dX9_write_39 : decode cX9_write 39 = .ok (.aload_n 0, 1) := by decide +kernel
theorem dX9_write_40 : decode cX9_write 40 = .ok (.dup, 1) := by decide +kernel
theorem dX9_write_41 : decode cX9_write 41 = .ok (.getfield 62, 3) := by decide +kernel
theorem dX9_write_44 : decode cX9_write 44 = .ok (.iconst 1, 1) := by decide +kernel
theorem dX9_write_45 : decode cX9_write 45 = .ok (.iadd, 1) := by decide +kernel
theorem dX9_write_46 : decode cX9_write 46 = .ok (.putfield 62, 3) := by decide +kernel
theorem dX9_write_49 : decode cX9_write 49 = .ok (.aload_n 0, 1) := by decide +kernel
theorem dX9_write_50 : decode cX9_write 50 = .ok (.getfield 62, 3) := by decide +kernel
theorem dX9_write_53 : decode cX9_write 53 = .ok (.ireturn, 1) := by decide +kernel
theorem dX9_wipe_0 : decode cX9_wipe 0 = .ok (.aload_n 0, 1) := by decide +kernel
theorem dX9_wipe_1 : decode cX9_wipe 1 = .ok (.getfield 62, 3) := by decide +kernel
theorem dX9_wipe_4 : decode cX9_wipe 4 = .ok (.istore_n 1, 1) := by decide +kernel
theorem dX9_wipe_5 : decode cX9_wipe 5 = .ok (.aload_n 0, 1) := by decide +kernel
theorem dX9_wipe_6 : decode cX9_wipe 6 = .ok (.iconst 0, 1) := by decide +kernel
theorem dX9_wipe_7 : decode cX9_wipe 7 = .ok (.putfield 62, 3) := by decide +kernel
theorem dX9_wipe_10 : decode cX9_wipe 10 = .ok (.iload_n 1, 1) := by decide +kernel
theorem dX9_wipe_11 : decode cX9_wipe 11 = .ok (.ireturn, 1) := by decide +kernel
theorem dX9_byteAt_0 : decode cX9_byteAt 0 = .ok (.iload_n 1, 1) := by decide +kernel
theorem dX9_byteAt_1 : decode cX9_byteAt 1 = .ok (.aload_n 0, 1) := by decide +kernel
theorem dX9_byteAt_2 : decode cX9_byteAt 2 = .ok (.getfield 62, 3) := by decide +kernel
theorem dX9_byteAt_5 : decode cX9_byteAt 5 = .ok (.if_icmp .ge 12, 3) := by decide +kernel
theorem dX9_byteAt_8 : decode cX9_byteAt 8 = .ok (.aload_n 0, 1) := by decide +kernel
theorem dX9_byteAt_9 : decode cX9_byteAt 9 = .ok (.getfield 7, 3) := by decide +kernel
theorem dX9_byteAt_12 : decode cX9_byteAt 12 = .ok (.iload_n 1, 1) := by decide +kernel
theorem dX9_byteAt_13 : decode cX9_byteAt 13 = .ok (.iaload, 1) := by decide +kernel
theorem dX9_byteAt_14 : decode cX9_byteAt 14 = .ok (.goto 4, 3) := by decide +kernel
theorem dX9_byteAt_17 : decode cX9_byteAt 17 = .ok (.iconst 0, 1) := by decide +kernel
theorem dX9_byteAt_18 : decode cX9_byteAt 18 = .ok (.ireturn, 1) := by decide +kernel
theorem dX9_number_0 : decode cX9_number 0 = .ok (.aload_n 0, 1) := by decide +kernel
theorem dX9_number_1 : decode cX9_number 1 = .ok (.aload_n 0, 1) := by decide +kernel
theorem dX9_number_2 : decode cX9_number 2 = .ok (.getfield 65, 3) := by decide +kernel
theorem dX9_number_5 : decode cX9_number 5 = .ok (.invokevirtual 68, 3) := by decide +kernel
theorem dX9_number_8 : decode cX9_number 8 = .ok (.iload_n 1, 1) := by decide +kernel
theorem dX9_number_9 : decode cX9_number 9 = .ok (.if_icmp .eq 5, 3) := by decide +kernel
theorem dX9_number_12 : decode cX9_number 12 = .ok (.iconst 0, 1) := by decide +kernel
theorem dX9_number_13 : decode cX9_number 13 = .ok (.ireturn, 1) := by decide +kernel
theorem dX9_number_14 : decode cX9_number 14 = .ok (.aload_n 0, 1) := by decide +kernel
theorem dX9_number_15 : decode cX9_number 15 = .ok (.dup, 1) := by decide +kernel
theorem dX9_number_16 : decode cX9_number 16 = .ok (.getfield 65, 3) := by decide +kernel
theorem dX9_number_19 : decode cX9_number 19 = .ok (.iconst 1, 1) := by decide +kernel
theorem dX9_number_20 : decode cX9_number 20 = .ok (.iadd, 1) := by decide +kernel
theorem dX9_number_21 : decode cX9_number 21 = .ok (.putfield 65, 3) := by decide +kernel
theorem dX9_number_24 : decode cX9_number 24 = .ok (.iconst 0, 1) := by decide +kernel
theorem dX9_number_25 : decode cX9_number 25 = .ok (.istore 5, 2) := by decide +kernel
theorem dX9_number_27 : decode cX9_number 27 = .ok (.iconst 0, 1) := by decide +kernel
theorem dX9_number_28 : decode cX9_number 28 = .ok (.istore 6, 2) := by decide +kernel
theorem dX9_number_30 : decode cX9_number 30 = .ok (.iload 6, 2) := by decide +kernel
theorem dX9_number_32 : decode cX9_number 32 = .ok (.iconst 2, 1) := by decide +kernel
theorem dX9_number_33 : decode cX9_number 33 = .ok (.if_icmp .ge 59, 3) := by decide +kernel
theorem dX9_number_36 : decode cX9_number 36 = .ok (.aload_n 0, 1) := by decide +kernel
theorem dX9_number_37 : decode cX9_number 37 = .ok (.aload_n 0, 1) := by decide +kernel
theorem dX9_number_38 : decode cX9_number 38 = .ok (.getfield 65, 3) := by decide +kernel
theorem dX9_number_41 : decode cX9_number 41 = .ok (.invokevirtual 68, 3) := by decide +kernel
theorem dX9_number_44 : decode cX9_number 44 = .ok (.i2l, 1) := by decide +kernel
theorem dX9_number_45 : decode cX9_number 45 = .ok (.ldc2_w 72, 3) := by decide +kernel
theorem dX9_number_48 : decode cX9_number 48 = .ok (.ldc2_w 74, 3) := by decide +kernel
theorem dX9_number_51 : decode cX9_number 51 = .ok (.invokestatic 58, 3) := by decide +kernel
theorem dX9_number_54 : decode cX9_number 54 = .ok (.ifCond .eq 38, 3) := by decide +kernel
theorem dX9_number_57 : decode cX9_number 57 = .ok (.bipush 10, 2) := by decide +kernel
theorem dX9_number_59 : decode cX9_number 59 = .ok (.iload 5, 2) := by decide +kernel
theorem dX9_number_61 : decode cX9_number 61 = .ok (.imul, 1) := by decide +kernel
theorem dX9_number_62 : decode cX9_number 62 = .ok (.aload_n 0, 1) := by decide +kernel
theorem dX9_number_63 : decode cX9_number 63 = .ok (.aload_n 0, 1) := by decide +kernel
theorem dX9_number_64 : decode cX9_number 64 = .ok (.getfield 65, 3) := by decide +kernel
theorem dX9_number_67 : decode cX9_number 67 = .ok (.invokevirtual 68, 3) := by decide +kernel
theorem dX9_number_70 : decode cX9_number 70 = .ok (.iadd, 1) := by decide +kernel
theorem dX9_number_71 : decode cX9_number 71 = .ok (.bipush 48, 2) := by decide +kernel
theorem dX9_number_73 : decode cX9_number 73 = .ok (.isub, 1) := by decide +kernel
theorem dX9_number_74 : decode cX9_number 74 = .ok (.istore 5, 2) := by decide +kernel
theorem dX9_number_76 : decode cX9_number 76 = .ok (.aload_n 0, 1) := by decide +kernel
theorem dX9_number_77 : decode cX9_number 77 = .ok (.dup, 1) := by decide +kernel
theorem dX9_number_78 : decode cX9_number 78 = .ok (.getfield 65, 3) := by decide +kernel
theorem dX9_number_81 : decode cX9_number 81 = .ok (.iconst 1, 1) := by decide +kernel
theorem dX9_number_82 : decode cX9_number 82 = .ok (.iadd, 1) := by decide +kernel
theorem dX9_number_83 : decode cX9_number 83 = .ok (.putfield 65, 3) := by decide +kernel
theorem dX9_number_86 : decode cX9_number 86 = .ok (.iinc 6 1, 3) := by decide +kernel
theorem dX9_number_89 : decode cX9_number 89 = .ok (.goto (-59), 3) := by decide +kernel
theorem dX9_number_92 : decode cX9_number 92 = .ok (.aload_n 0, 1) := by decide +kernel
theorem dX9_number_93 : decode cX9_number 93 = .ok (.getfield 16, 3) := by decide +kernel
theorem dX9_number_96 : decode cX9_number 96 = .ok (.iload_n 2, 1) := by decide +kernel
theorem dX9_number_97 : decode cX9_number 97 = .ok (.iload 5, 2) := by decide +kernel
theorem dX9_number_99 : decode cX9_number 99 = .ok (.iastore, 1) := by decide +kernel
theorem dX9_number_100 : decode cX9_number 100 = .ok (.iload 6, 2) := by decide +kernel
theorem dX9_number_102 : decode cX9_number 102 = .ok (.ifCond .le 21, 3) := by decide +kernel
theorem dX9_number_105 : decode cX9_number 105 = .ok (.iload 5, 2) := by decide +kernel
theorem dX9_number_107 : decode cX9_number 107 = .ok (.i2l, 1) := by decide +kernel
theorem dX9_number_108 : decode cX9_number 108 = .ok (.iload_n 3, 1) := by decide +kernel
theorem dX9_number_109 : decode cX9_number 109 = .ok (.i2l, 1) := by decide +kernel
theorem dX9_number_110 : decode cX9_number 110 = .ok (.iload 4, 2) := by decide +kernel
theorem dX9_number_112 : decode cX9_number 112 = .ok (.i2l, 1) := by decide +kernel
theorem dX9_number_113 : decode cX9_number 113 = .ok (.invokestatic 58, 3) := by decide +kernel
theorem dX9_number_116 : decode cX9_number 116 = .ok (.ifCond .eq 7, 3) := by decide +kernel
theorem dX9_number_119 : decode cX9_number 119 = .ok (.iconst 1, 1) := by decide +kernel
theorem dX9_number_120 : decode cX9_number 120 = .ok (.goto 4, 3) := by decide +kernel
theorem dX9_number_123 : decode cX9_number 123 = .ok (.iconst 0, 1) := by decide +kernel
theorem dX9_number_124 : decode cX9_number 124 = .ok (.ireturn, 1) := by decide +kernel
theorem dX9_word_0 : decode cX9_word 0 = .ok (.iconst 0, 1) := by decide +kernel
theorem dX9_word_1 : decode cX9_word 1 = .ok (.istore 4, 2) := by decide +kernel
theorem dX9_word_3 : decode cX9_word 3 = .ok (.iload 4, 2) := by decide +kernel
theorem dX9_word_5 : decode cX9_word 5 = .ok (.iload_n 3, 1) := by decide +kernel
theorem dX9_word_6 : decode cX9_word 6 = .ok (.if_icmp .ge 44, 3) := by decide +kernel
theorem dX9_word_9 : decode cX9_word 9 = .ok (.aload_n 0, 1) := by decide +kernel
theorem dX9_word_10 : decode cX9_word 10 = .ok (.aload_n 0, 1) := by decide +kernel
theorem dX9_word_11 : decode cX9_word 11 = .ok (.getfield 65, 3) := by decide +kernel
theorem dX9_word_14 : decode cX9_word 14 = .ok (.iload 4, 2) := by decide +kernel
theorem dX9_word_16 : decode cX9_word 16 = .ok (.iadd, 1) := by decide +kernel
theorem dX9_word_17 : decode cX9_word 17 = .ok (.invokevirtual 68, 3) := by decide +kernel
theorem dX9_word_20 : decode cX9_word 20 = .ok (.bipush 96, 2) := by decide +kernel
theorem dX9_word_22 : decode cX9_word 22 = .ok (.isub, 1) := by decide +kernel
theorem dX9_word_23 : decode cX9_word 23 = .ok (.i2l, 1) := by decide +kernel
theorem dX9_word_24 : decode cX9_word 24 = .ok (.lload_n 1, 1) := by decide +kernel
theorem dX9_word_25 : decode cX9_word 25 = .ok (.iconst 5, 1) := by decide +kernel
theorem dX9_word_26 : decode cX9_word 26 = .ok (.iload_n 3, 1) := by decide +kernel
theorem dX9_word_27 : decode cX9_word 27 = .ok (.iconst 1, 1) := by decide +kernel
theorem dX9_word_28 : decode cX9_word 28 = .ok (.isub, 1) := by decide +kernel
theorem dX9_word_29 : decode cX9_word 29 = .ok (.iload 4, 2) := by decide +kernel
theorem dX9_word_31 : decode cX9_word 31 = .ok (.isub, 1) := by decide +kernel
theorem dX9_word_32 : decode cX9_word 32 = .ok (.imul, 1) := by decide +kernel
theorem dX9_word_33 : decode cX9_word 33 = .ok (.lshr, 1) := by decide +kernel
theorem dX9_word_34 : decode cX9_word 34 = .ok (.ldc2_w 76, 3) := by decide +kernel
