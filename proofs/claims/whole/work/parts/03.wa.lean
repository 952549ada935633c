/-- a method: its name, bytes, locals, answer, how many it takes; room: frames, words, cells, slots -/
abbrev g_MD : Type := MethodName × ByteArray × Nat × Option FieldType × Nat × Nat × Nat × Nat × Nat
abbrev mX0_init : g_MD := (yX0_init, cX0_init, 1, none, 0, 1, 12, 0, 0)
abbrev mX0_put : g_MD := (yX0_put, cX0_put, 5, none, 4, 0, 0, 0, 0)
abbrev mX0_has : g_MD := (yX0_has, cX0_has, 3, (some .boolean), 2, 0, 0, 0, 0)
abbrev mX0_covers : g_MD := (yX0_covers, cX0_covers, 2, (some .boolean), 1, 0, 0, 0, 0)
abbrev mX0_meets : g_MD := (yX0_meets, cX0_meets, 2, (some .boolean), 1, 0, 0, 0, 0)
abbrev mX0_rowBits : g_MD := (yX0_rowBits, cX0_rowBits, 1, (some .int), 0, 0, 0, 0, 0)
abbrev mX1_init : g_MD := (yX1_init, cX1_init, 2, none, 0, 2, 32, 25, 168)
abbrev mX1_forget : g_MD := (yX1_forget, cX1_forget, 1, none, 0, 0, 0, 0, 0)
abbrev mX1_keep : g_MD := (yX1_keep, cX1_keep, 2, none, 1, 2, 47, 0, 0)
abbrev mX1_giveBack : g_MD := (yX1_giveBack, cX1_giveBack, 2, (some .boolean), 1, 2, 47, 0, 0)
abbrev mX2_init : g_MD := (yX2_init, cX2_init, 2, none, 0, 2, 32, 15, 61)
abbrev mX2_clear : g_MD := (yX2_clear, cX2_clear, 1, none, 0, 1, 24, 0, 0)
abbrev mX2_hasSheet : g_MD := (yX2_hasSheet, cX2_hasSheet, 1, (some .boolean), 0, 0, 0, 0, 0)
abbrev mX2_takeSheet : g_MD := (yX2_takeSheet, cX2_takeSheet, 3, (some .boolean), 2, 1, 24, 0, 0)
abbrev mX2_takeTool : g_MD := (yX2_takeTool, cX2_takeTool, 6, (some .boolean), 4, 1, 22, 0, 0)
abbrev mX2_takeHole : g_MD := (yX2_takeHole, cX2_takeHole, 7, (some .boolean), 4, 1, 24, 0, 0)
abbrev mX2_takeClamp : g_MD := (yX2_takeClamp, cX2_takeClamp, 3, (some .boolean), 1, 2, 43, 0, 0)
abbrev mX2_isColumn : g_MD := (yX2_isColumn, cX2_isColumn, 2, (some .boolean), 1, 1, 22, 0, 0)
abbrev mX2_areTooNear : g_MD := (yX2_areTooNear, cX2_areTooNear, 2, (some .boolean), 2, 1, 22, 0, 0)
abbrev mX2_holeAt : g_MD := (yX2_holeAt, cX2_holeAt, 4, (some .int), 2, 1, 22, 0, 0)
abbrev mX2_isOfOneHole : g_MD := (yX2_isOfOneHole, cX2_isOfOneHole, 3, (some .boolean), 1, 1, 21, 0, 0)
abbrev mX2_turnsBetween : g_MD := (yX2_turnsBetween, cX2_turnsBetween, 4, (some .int), 2, 1, 21, 0, 0)
abbrev mX2_turnsThrough : g_MD := (yX2_turnsThrough, cX2_turnsThrough, 6, (some .int), 2, 1, 25, 0, 0)
abbrev mX2_downBeyond : g_MD := (yX2_downBeyond, cX2_downBeyond, 6, (some .int), 3, 0, 0, 0, 0)
abbrev mX3_init : g_MD := (yX3_init, cX3_init, 1, none, 0, 1, 12, 4, 70)
abbrev mX3_work : g_MD := (yX3_work, cX3_work, 5, none, 2, 4, 89, 0, 0)
abbrev mX3_weighWays : g_MD := (yX3_weighWays, cX3_weighWays, 7, none, 1, 2, 45, 0, 0)
abbrev mX3_triesSet : g_MD := (yX3_triesSet, cX3_triesSet, 6, (some .boolean), 3, 3, 64, 0, 0)
abbrev mX3_takeFirstFewest : g_MD := (yX3_takeFirstFewest, cX3_takeFirstFewest, 7, (some .int), 3, 0, 0, 0, 0)
abbrev mX3_isBetter : g_MD := (yX3_isBetter, cX3_isBetter, 4, (some .boolean), 2, 0, 0, 0, 0)
abbrev mX3_keepTried : g_MD := (yX3_keepTried, cX3_keepTried, 2, none, 1, 1, 26, 0, 0)
abbrev mX4_init : g_MD := (yX4_init, cX4_init, 1, none, 0, 1, 12, 1, 4)
abbrev mX4_firstFault : g_MD := (yX4_firstFault, cX4_firstFault, 5, (some .int), 2, 6, 130, 0, 0)
abbrev mX4_takesItem : g_MD := (yX4_takesItem, cX4_takesItem, 3, (some .boolean), 2, 5, 108, 0, 0)
abbrev mX4_takesWord : g_MD := (yX4_takesWord, cX4_takesWord, 4, (some .boolean), 2, 4, 85, 0, 0)
abbrev mX4_takesNumbers : g_MD := (yX4_takesNumbers, cX4_takesNumbers, 4, (some .boolean), 2, 2, 43, 0, 0)
abbrev mX4_takeNumber : g_MD := (yX4_takeNumber, cX4_takeNumber, 3, (some .int), 1, 1, 21, 0, 0)
abbrev mX4_isFigure : g_MD := (yX4_isFigure, cX4_isFigure, 1, (some .boolean), 1, 0, 0, 0, 0)
abbrev mX5_init : g_MD := (yX5_init, cX5_init, 1, none, 0, 1, 12, 3, 20)
abbrev mX5_begin : g_MD := (yX5_begin, cX5_begin, 2, none, 1, 1, 26, 0, 0)
abbrev mX5_copyFrom : g_MD := (yX5_copyFrom, cX5_copyFrom, 2, none, 1, 1, 26, 0, 0)
abbrev mX5_refusal : g_MD := (yX5_refusal, cX5_refusal, 5, (some .int), 4, 3, 64, 0, 0)
abbrev mX5_punch : g_MD := (yX5_punch, cX5_punch, 6, (some .int), 3, 2, 44, 0, 0)
abbrev mX5_isDull : g_MD := (yX5_isDull, cX5_isDull, 3, (some .boolean), 2, 0, 0, 0, 0)
abbrev mX5_uncutIn : g_MD := (yX5_uncutIn, cX5_uncutIn, 4, (some .int), 1, 1, 20, 0, 0)
abbrev mX5_isCut : g_MD := (yX5_isCut, cX5_isCut, 2, (some .boolean), 1, 2, 43, 0, 0)
abbrev mX5_isCellCut : g_MD := (yX5_isCellCut, cX5_isCellCut, 3, (some .boolean), 2, 0, 0, 0, 0)
abbrev mX5_cutCells : g_MD := (yX5_cutCells, cX5_cutCells, 3, (some .int), 0, 1, 20, 0, 0)
abbrev mX5_holesDone : g_MD := (yX5_holesDone, cX5_holesDone, 4, (some .int), 1, 3, 64, 0, 0)
abbrev mX5_clampAt : g_MD := (yX5_clampAt, cX5_clampAt, 5, (some .int), 3, 1, 22, 0, 0)
abbrev mX5_isTakenByOther : g_MD := (yX5_isTakenByOther, cX5_isTakenByOther, 5, (some .boolean), 3, 2, 43, 0, 0)
abbrev mX5_isClamped : g_MD := (yX5_isClamped, cX5_isClamped, 5, (some .boolean), 2, 1, 22, 0, 0)
abbrev mX6_init : g_MD := (yX6_init, cX6_init, 1, none, 0, 1, 12, 1, 200)
abbrev mX6_append : g_MD := (yX6_append, cX6_append, 2, (some .boolean), 1, 0, 0, 0, 0)
abbrev mX6_clear : g_MD := (yX6_clear, cX6_clear, 1, none, 0, 0, 0, 0, 0)
abbrev mX6_letterAt : g_MD := (yX6_letterAt, cX6_letterAt, 2, (some .char), 1, 0, 0, 0, 0)
abbrev mX7_init : g_MD := (yX7_init, cX7_init, 1, none, 0, 1, 12, 0, 0)
abbrev mX7_wideWhen : g_MD := (yX7_wideWhen, cX7_wideWhen, 2, (some .int), 1, 0, 0, 0, 0)
abbrev mX7_highWhen : g_MD := (yX7_highWhen, cX7_highWhen, 2, (some .int), 1, 0, 0, 0, 0)
abbrev mX7_stampAt : g_MD := (yX7_stampAt, cX7_stampAt, 5, none, 4, 1, 24, 0, 0)
abbrev mX7_hitsFor : g_MD := (yX7_hitsFor, cX7_hitsFor, 5, (some .int), 2, 1, 21, 0, 0)
abbrev mX8_init : g_MD := (yX8_init, cX8_init, 2, none, 0, 8, 175, 76, 651)
abbrev mX8_write : g_MD := (yX8_write, cX8_write, 2, (some .int), 1, 1, 21, 0, 0)
abbrev mX8_wipe : g_MD := (yX8_wipe, cX8_wipe, 2, (some .int), 0, 1, 20, 0, 0)
abbrev mX8_fault : g_MD := (yX8_fault, cX8_fault, 1, (some .int), 0, 7, 154, 0, 0)
abbrev mX8_lay : g_MD := (yX8_lay, cX8_lay, 1, (some .int), 0, 8, 175, 0, 0)
abbrev mX8_hit : g_MD := (yX8_hit, cX8_hit, 5, (some .int), 4, 4, 88, 0, 0)
abbrev mX8_why : g_MD := (yX8_why, cX8_why, 5, (some .int), 4, 4, 88, 0, 0)
abbrev mX8_nibble : g_MD := (yX8_nibble, cX8_nibble, 5, (some .int), 3, 5, 117, 0, 0)
abbrev mX8_clamp : g_MD := (yX8_clamp, cX8_clamp, 4, (some .int), 2, 3, 68, 0, 0)
abbrev mX8_sharpen : g_MD := (yX8_sharpen, cX8_sharpen, 3, (some .int), 1, 3, 68, 0, 0)
abbrev mX8_undo : g_MD := (yX8_undo, cX8_undo, 1, (some .int), 0, 3, 68, 0, 0)
abbrev mX8_station : g_MD := (yX8_station, cX8_station, 4, (some .int), 2, 2, 44, 0, 0)
abbrev mX8_hole : g_MD := (yX8_hole, cX8_hole, 4, (some .int), 2, 3, 64, 0, 0)
abbrev mX8_hits : g_MD := (yX8_hits, cX8_hits, 5, (some .int), 3, 2, 45, 0, 0)
abbrev mX8_cell : g_MD := (yX8_cell, cX8_cell, 4, (some .int), 3, 2, 46, 0, 0)
abbrev mX8_column : g_MD := (yX8_column, cX8_column, 2, (some .int), 1, 1, 21, 0, 0)
abbrev mX8_plan : g_MD := (yX8_plan, cX8_plan, 2, (some .int), 1, 5, 113, 0, 0)
abbrev mX8_drawn : g_MD := (yX8_drawn, cX8_drawn, 4, (some .int), 1, 3, 68, 0, 0)
abbrev mX8_count : g_MD := (yX8_count, cX8_count, 2, (some .int), 1, 4, 87, 0, 0)
abbrev mX8_layDraft : g_MD := (yX8_layDraft, cX8_layDraft, 2, (some .boolean), 0, 7, 154, 0, 0)
abbrev mX8_punchAll : g_MD := (yX8_punchAll, cX8_punchAll, 10, (some .int), 3, 4, 88, 0, 0)
abbrev mX8_signAt : g_MD := (yX8_signAt, cX8_signAt, 3, (some .char), 2, 2, 46, 0, 0)
abbrev mX8_isHitTold : g_MD := (yX8_isHitTold, cX8_isHitTold, 5, (some .boolean), 4, 1, 22, 0, 0)
abbrev mX8_isStation : g_MD := (yX8_isStation, cX8_isStation, 2, (some .boolean), 1, 0, 0, 0, 0)
abbrev mX8_isHole : g_MD := (yX8_isHole, cX8_isHole, 2, (some .boolean), 1, 0, 0, 0, 0)
abbrev mX8_isClamp : g_MD := (yX8_isClamp, cX8_isClamp, 2, (some .boolean), 1, 0, 0, 0, 0)
abbrev mX8_isFlag : g_MD := (yX8_isFlag, cX8_isFlag, 1, (some .boolean), 1, 0, 0, 0, 0)
abbrev mX8_asFlag : g_MD := (yX8_asFlag, cX8_asFlag, 1, (some .int), 1, 0, 0, 0, 0)
abbrev mX8_isWithin : g_MD := (yX8_isWithin, cX8_isWithin, 3, (some .boolean), 3, 0, 0, 0, 0)
abbrev mX8_stepsOver : g_MD := (yX8_stepsOver, cX8_stepsOver, 2, (some .int), 2, 0, 0, 0, 0)
abbrev mX9_init : g_MD := (yX9_init, cX9_init, 1, none, 0, 1, 27, 11, 1689)
abbrev mX9_adds : g_MD := (yX9_adds, cX9_adds, 8, none, 6, 0, 0, 0, 0)
abbrev mX9_anew : g_MD := (yX9_anew, cX9_anew, 2, none, 0, 0, 0, 0, 0)
abbrev mX9_in : g_MD := (yX9_in, cX9_in, 6, (some .boolean), 3, 0, 0, 0, 0)
abbrev mX9_write : g_MD := (yX9_write, cX9_write, 2, (some .int), 1, 1, 25, 0, 0)
abbrev mX9_wipe : g_MD := (yX9_wipe, cX9_wipe, 2, (some .int), 0, 0, 0, 0, 0)
abbrev mX9_byteAt : g_MD := (yX9_byteAt, cX9_byteAt, 2, (some .int), 1, 0, 0, 0, 0)
abbrev mX9_number : g_MD := (yX9_number, cX9_number, 7, (some .boolean), 4, 1, 25, 0, 0)
abbrev mX9_word : g_MD := (yX9_word, cX9_word, 5, (some .boolean), 2, 1, 21, 0, 0)
abbrev mX9_word5 : g_MD := (yX9_word5, cX9_word5, 5, (some .long), 5, 0, 0, 0, 0)
abbrev mX9_word4 : g_MD := (yX9_word4, cX9_word4, 4, (some .long), 4, 0, 0, 0, 0)
abbrev mX9_isApart : g_MD := (yX9_isApart, cX9_isApart, 5, (some .boolean), 2, 0, 0, 0, 0)
abbrev mX9_holeItem : g_MD := (yX9_holeItem, cX9_holeItem, 5, (some .boolean), 0, 2, 51, 0, 0)
abbrev mX9_item : g_MD := (yX9_item, cX9_item, 2, (some .boolean), 0, 3, 75, 0, 0)
abbrev mX9_fault : g_MD := (yX9_fault, cX9_fault, 2, (some .int), 0, 4, 96, 0, 0)
abbrev mX9_lay : g_MD := (yX9_lay, cX9_lay, 2, (some .int), 0, 5, 117, 0, 0)
abbrev mX9_note : g_MD := (yX9_note, cX9_note, 2, none, 0, 0, 0, 0, 0)
abbrev mX9_takesBack : g_MD := (yX9_takesBack, cX9_takesBack, 2, none, 0, 0, 0, 0, 0)
abbrev mX9_undo : g_MD := (yX9_undo, cX9_undo, 1, (some .int), 0, 1, 21, 0, 0)
abbrev mX9_isCell : g_MD := (yX9_isCell, cX9_isCell, 3, (some .boolean), 2, 1, 25, 0, 0)
abbrev mX9_isStation : g_MD := (yX9_isStation, cX9_isStation, 2, (some .boolean), 1, 1, 25, 0, 0)
abbrev mX9_isHole : g_MD := (yX9_isHole, cX9_isHole, 2, (some .boolean), 1, 1, 25, 0, 0)
abbrev mX9_holeAt : g_MD := (yX9_holeAt, cX9_holeAt, 5, (some .int), 2, 1, 25, 0, 0)
abbrev mX9_clampAt : g_MD := (yX9_clampAt, cX9_clampAt, 4, (some .int), 2, 1, 25, 0, 0)
abbrev mX9_wide : g_MD := (yX9_wide, cX9_wide, 3, (some .int), 2, 0, 0, 0, 0)
abbrev mX9_high : g_MD := (yX9_high, cX9_high, 3, (some .int), 2, 0, 0, 0, 0)
abbrev mX9_isDull : g_MD := (yX9_isDull, cX9_isDull, 2, (some .boolean), 1, 0, 0, 0, 0)
abbrev mX9_ring : g_MD := (yX9_ring, cX9_ring, 4, (some .int), 2, 0, 0, 0, 0)
abbrev mX9_whyNot : g_MD := (yX9_whyNot, cX9_whyNot, 14, (some .int), 4, 2, 49, 0, 0)
abbrev mX9_why : g_MD := (yX9_why, cX9_why, 5, (some .int), 4, 3, 82, 0, 0)
abbrev mX9_strikes : g_MD := (yX9_strikes, cX9_strikes, 9, (some .int), 4, 1, 23, 0, 0)
abbrev mX9_hit : g_MD := (yX9_hit, cX9_hit, 6, (some .int), 4, 4, 106, 0, 0)
abbrev mX9_open : g_MD := (yX9_open, cX9_open, 4, (some .int), 1, 2, 49, 0, 0)
abbrev mX9_parts : g_MD := (yX9_parts, cX9_parts, 2, (some .int), 2, 0, 0, 0, 0)
abbrev mX9_nibbles : g_MD := (yX9_nibbles, cX9_nibbles, 8, (some .int), 3, 1, 22, 0, 0)
abbrev mX9_isCut : g_MD := (yX9_isCut, cX9_isCut, 8, (some .boolean), 4, 1, 22, 0, 0)
abbrev mX9_nibble : g_MD := (yX9_nibble, cX9_nibble, 15, (some .int), 3, 3, 82, 0, 0)
abbrev mX9_swaps : g_MD := (yX9_swaps, cX9_swaps, 3, none, 0, 0, 0, 0, 0)
abbrev mX9_clamp : g_MD := (yX9_clamp, cX9_clamp, 5, (some .int), 2, 1, 25, 0, 0)
abbrev mX9_sharpen : g_MD := (yX9_sharpen, cX9_sharpen, 3, (some .int), 1, 2, 46, 0, 0)
abbrev mX9_station : g_MD := (yX9_station, cX9_station, 3, (some .int), 2, 2, 46, 0, 0)
abbrev mX9_hole : g_MD := (yX9_hole, cX9_hole, 3, (some .int), 2, 3, 72, 0, 0)
abbrev mX9_hits : g_MD := (yX9_hits, cX9_hits, 4, (some .int), 3, 2, 49, 0, 0)
abbrev mX9_cell : g_MD := (yX9_cell, cX9_cell, 4, (some .int), 3, 2, 49, 0, 0)
abbrev mX9_column : g_MD := (yX9_column, cX9_column, 2, (some .int), 1, 1, 25, 0, 0)
abbrev mX9_round : g_MD := (yX9_round, cX9_round, 8, (some .int), 1, 0, 0, 0, 0)
abbrev mX9_plans : g_MD := (yX9_plans, cX9_plans, 12, (some .boolean), 0, 3, 72, 0, 0)
abbrev mX9_looks : g_MD := (yX9_looks, cX9_looks, 3, none, 0, 3, 72, 0, 0)
abbrev mX9_plan : g_MD := (yX9_plan, cX9_plan, 2, (some .int), 1, 4, 103, 0, 0)
abbrev mX9_drawn : g_MD := (yX9_drawn, cX9_drawn, 5, (some .int), 1, 2, 49, 0, 0)
abbrev mX9_count : g_MD := (yX9_count, cX9_count, 5, (some .int), 1, 3, 72, 0, 0)
abbrev mJ6_bitCount_0f7a4 : g_MD := (yJ6_bitCount_0f7a4, cJ6_bitCount_0f7a4, 1, (some .int), 1, 0, 0, 0, 0)
abbrev mJ9_abs_0f7a4 : g_MD := (yJ9_abs_0f7a4, cJ9_abs_0f7a4, 1, (some .int), 1, 0, 0, 0, 0)
abbrev mJ9_min_7cf53 : g_MD := (yJ9_min_7cf53, cJ9_min_7cf53, 2, (some .int), 2, 0, 0, 0, 0)
abbrev mJ0_length_8abf5 : g_MD := (yJ0_length_8abf5, cJ0_length_8abf5, 1, (some .int), 0, 1, 20, 0, 0)
abbrev mJ0_charAt_5068e : g_MD := (yJ0_charAt_5068e, cJ0_charAt_5068e, 2, (some .char), 1, 3, 64, 0, 0)
abbrev mJ0_coder_7d493 : g_MD := (yJ0_coder_7d493, cJ0_coder_7d493, 1, (some .byte), 0, 0, 0, 0, 0)
abbrev mJ0_isLatin1_aae02 : g_MD := (yJ0_isLatin1_aae02, cJ0_isLatin1_aae02, 1, (some .boolean), 0, 0, 0, 0, 0)
abbrev mJ0_checkIndex_df160 : g_MD := (yJ0_checkIndex_df160, cJ0_checkIndex_df160, 2, none, 2, 1, 22, 0, 0)
abbrev mJ1_charAt_3b067 : g_MD := (yJ1_charAt_3b067, cJ1_charAt_3b067, 2, (some .char), 2, 2, 43, 0, 0)
abbrev mJ7_fill_53178 : g_MD := (yJ7_fill_53178, cJ7_fill_53178, 4, none, 2, 0, 0, 0, 0)
abbrev mJ3_checkIndex_8e157 : g_MD := (yJ3_checkIndex_8e157, cJ3_checkIndex_8e157, 3, (some .int), 3, 0, 0, 0, 0)
abbrev mL_law : g_MD := (yL_law, cL_law, 4, (some .boolean), 1, 12, 434, 600000, 7302250)
/-- a field's link: class number ci, its place k -/
def g_FL (own : String) (idx ci k : Nat) : Prop := ∃ (C : String) (F : u_T) (n : Nat), vwCl[ci]? = some (C, F, n) ∧ k < n ∧ Cond.fieldLink own idx (F k).1 (F k).2.1 (F k).2.2.1 ∈ gTb ∧ ∀ w ∈ u_ws C F n, w ∈ gTb
/-- a field that may be written: its type, final or not -/
def g_FP (own : String) (idx ci k : Nat) (ty : FieldType) (fin : Bool) : Prop := ∃ (C : String) (F : u_T) (n : Nat) (ty0 : Nat → FieldType), vwCl[ci]? = some (C, F, n) ∧ k < n ∧ Cond.fieldLink own idx (F k).1 (F k).2.1 (F k).2.2.1 ∈ gTb ∧ (∀ w ∈ u_ws C F n, w ∈ gTb) ∧ (∀ k, k < n → parseFieldDescriptor (F k).2.2.1 = some (ty0 k)) ∧ (∀ a, a < n → ∀ b, b < n → a ≠ b → (F a).2.1 ≠ (F b).2.1) ∧ (F k).2.2.2 = fin ∧ parseFieldDescriptor (F k).2.2.1 = some ty ∧ (fin = true → (F k).1 = own)
/-- what the tables say of a method -/
def g_MO (M : g_MD) : Prop := Cond.code M.1 M.2.1 M.2.2.1 M.2.2.2.1 ∈ gTb ∧ Cond.initialized M.1.cls ∈ gTb ∧ plainName M.1.cls = true ∧ (M.1.cls ≠ "java/lang/invoke/MethodHandle" ∧ M.1.cls ≠ "java/lang/invoke/VarHandle") ∧ (parseMethodDescriptor M.1.desc).map (fun d => d.parameters.length) = some M.2.2.2.2.1
def g_MI (M : g_MD) : Prop := g_MO M ∧ Cond.instanceMethod M.1 ∈ gTb ∧ Cond.selects M.1.cls M.1 M.1 ∈ gTb
def g_MS (M : g_MD) : Prop := g_MO M ∧ Cond.static M.1 ∈ gTb
def g_MN (M : g_MD) : Prop := g_MO M ∧ Cond.instanceMethod M.1 ∈ gTb ∧ M.1.name = "<init>"
/-- a call's link, and the room that the called one wants -/
def g_LK (M M' : g_MD) (idx : Nat) : Prop := Cond.methodLink M.1.cls idx M'.1 ∈ gTb ∧ M'.2.2.2.2.2.1 + 1 ≤ M.2.2.2.2.2.1 ∧ 8 + (M'.2.2.1 + 11) + M'.2.2.2.2.2.2.1 ≤ M.2.2.2.2.2.2.1
def g_LN (M M' : g_MD) (idx : Nat) : Prop := (∃ host, Cond.methodLinkNest M.1.cls idx M'.1 host ∈ tables_1) ∧ M'.2.2.2.2.2.1 + 1 ≤ M.2.2.2.2.2.1 ∧ 8 + (M'.2.2.1 + 11) + M'.2.2.2.2.2.2.1 ≤ M.2.2.2.2.2.2.1
theorem flX6_9 : g_FL RX6 9 6 0 := ⟨RX6, TX6, 2, rfl, by decide, g_tb 33 (by decide +kernel) (by decide +kernel), g_in6⟩
theorem fpX6_9 : g_FP RX6 9 6 0 (.array .char) true := ⟨RX6, TX6, 2, tyX6, rfl, by decide, g_tb 33 (by decide +kernel) (by decide +kernel), g_in6, tyX6_ok, nmX6, rfl, by decide +kernel, fun _ => rfl⟩
theorem flX6_15 : g_FL RX6 15 6 1 := ⟨RX6, TX6, 2, rfl, by decide, g_tb 34 (by decide +kernel) (by decide +kernel), g_in6⟩
theorem fpX6_15 : g_FP RX6 15 6 1 .int false := ⟨RX6, TX6, 2, tyX6, rfl, by decide, g_tb 34 (by decide +kernel) (by decide +kernel), g_in6, tyX6_ok, nmX6, rfl, by decide +kernel, fun h => by cases h⟩
theorem flX4_24 : g_FL RX4 24 6 1 := ⟨RX6, TX6, 2, rfl, by decide, g_tb 35 (by decide +kernel) (by decide +kernel), g_in6⟩
theorem fpX4_24 : g_FP RX4 24 6 1 .int false := ⟨RX6, TX6, 2, tyX6, rfl, by decide, g_tb 35 (by decide +kernel) (by decide +kernel), g_in6, tyX6_ok, nmX6, rfl, by decide +kernel, fun h => by cases h⟩
theorem flX8_87 : g_FL RX8 87 6 1 := ⟨RX6, TX6, 2, rfl, by decide, g_tb 36 (by decide +kernel) (by decide +kernel), g_in6⟩
theorem fpX8_87 : g_FP RX8 87 6 1 .int false := ⟨RX6, TX6, 2, tyX6, rfl, by decide, g_tb 36 (by decide +kernel) (by decide +kernel), g_in6, tyX6_ok, nmX6, rfl, by decide +kernel, fun h => by cases h⟩
theorem flX4_9 : g_FL RX4 9 4 0 := ⟨RX4, TX4, 2, rfl, by decide, g_tb 49 (by decide +kernel) (by decide +kernel), g_in4⟩
theorem fpX4_9 : g_FP RX4 9 4 0 (.array .int) true := ⟨RX4, TX4, 2, tyX4, rfl, by decide, g_tb 49 (by decide +kernel) (by decide +kernel), g_in4, tyX4_ok, nmX4, rfl, by decide +kernel, fun _ => rfl⟩
theorem flX4_20 : g_FL RX4 20 4 1 := ⟨RX4, TX4, 2, rfl, by decide, g_tb 50 (by decide +kernel) (by decide +kernel), g_in4⟩
theorem fpX4_20 : g_FP RX4 20 4 1 .int false := ⟨RX4, TX4, 2, tyX4, rfl, by decide, g_tb 50 (by decide +kernel) (by decide +kernel), g_in4, tyX4_ok, nmX4, rfl, by decide +kernel, fun h => by cases h⟩
theorem flX5_9 : g_FL RX5 9 5 0 := ⟨RX5, TX5, 7, rfl, by decide, g_tb 63 (by decide +kernel) (by decide +kernel), g_in5⟩
theorem fpX5_9 : g_FP RX5 9 5 0 (.array .int) true := ⟨RX5, TX5, 7, tyX5, rfl, by decide, g_tb 63 (by decide +kernel) (by decide +kernel), g_in5, tyX5_ok, nmX5, rfl, by decide +kernel, fun _ => rfl⟩
theorem flX5_15 : g_FL RX5 15 5 1 := ⟨RX5, TX5, 7, rfl, by decide, g_tb 64 (by decide +kernel) (by decide +kernel), g_in5⟩
theorem fpX5_15 : g_FP RX5 15 5 1 (.array .int) true := ⟨RX5, TX5, 7, tyX5, rfl, by decide, g_tb 64 (by decide +kernel) (by decide +kernel), g_in5, tyX5_ok, nmX5, rfl, by decide +kernel, fun _ => rfl⟩
theorem flX8_165 : g_FL RX8 165 5 1 := ⟨RX5, TX5, 7, rfl, by decide, g_tb 65 (by decide +kernel) (by decide +kernel), g_in5⟩
theorem flX5_18 : g_FL RX5 18 5 2 := ⟨RX5, TX5, 7, rfl, by decide, g_tb 66 (by decide +kernel) (by decide +kernel), g_in5⟩
theorem fpX5_18 : g_FP RX5 18 5 2 (.array .int) true := ⟨RX5, TX5, 7, tyX5, rfl, by decide, g_tb 66 (by decide +kernel) (by decide +kernel), g_in5, tyX5_ok, nmX5, rfl, by decide +kernel, fun _ => rfl⟩
theorem flX8_154 : g_FL RX8 154 5 2 := ⟨RX5, TX5, 7, rfl, by decide, g_tb 67 (by decide +kernel) (by decide +kernel), g_in5⟩
theorem flX5_36 : g_FL RX5 36 5 3 := ⟨RX5, TX5, 7, rfl, by decide, g_tb 68 (by decide +kernel) (by decide +kernel), g_in5⟩
theorem fpX5_36 : g_FP RX5 36 5 3 .int false := ⟨RX5, TX5, 7, tyX5, rfl, by decide, g_tb 68 (by decide +kernel) (by decide +kernel), g_in5, tyX5_ok, nmX5, rfl, by decide +kernel, fun h => by cases h⟩
theorem flX3_42 : g_FL RX3 42 5 3 := ⟨RX5, TX5, 7, rfl, by decide, g_tb 69 (by decide +kernel) (by decide +kernel), g_in5⟩
theorem fpX3_42 : g_FP RX3 42 5 3 .int false := ⟨RX5, TX5, 7, tyX5, rfl, by decide, g_tb 69 (by decide +kernel) (by decide +kernel), g_in5, tyX5_ok, nmX5, rfl, by decide +kernel, fun h => by cases h⟩
theorem flX8_196 : g_FL RX8 196 5 3 := ⟨RX5, TX5, 7, rfl, by decide, g_tb 70 (by decide +kernel) (by decide +kernel), g_in5⟩
theorem fpX8_196 : g_FP RX8 196 5 3 .int false := ⟨RX5, TX5, 7, tyX5, rfl, by decide, g_tb 70 (by decide +kernel) (by decide +kernel), g_in5, tyX5_ok, nmX5, rfl, by decide +kernel, fun h => by cases h⟩
theorem flX5_40 : g_FL RX5 40 5 4 := ⟨RX5, TX5, 7, rfl, by decide, g_tb 71 (by decide +kernel) (by decide +kernel), g_in5⟩
theorem fpX5_40 : g_FP RX5 40 5 4 .int false := ⟨RX5, TX5, 7, tyX5, rfl, by decide, g_tb 71 (by decide +kernel) (by decide +kernel), g_in5, tyX5_ok, nmX5, rfl, by decide +kernel, fun h => by cases h⟩
theorem flX8_262 : g_FL RX8 262 5 4 := ⟨RX5, TX5, 7, rfl, by decide, g_tb 72 (by decide +kernel) (by decide +kernel), g_in5⟩
theorem fpX8_262 : g_FP RX8 262 5 4 .int false := ⟨RX5, TX5, 7, tyX5, rfl, by decide, g_tb 72 (by decide +kernel) (by decide +kernel), g_in5, tyX5_ok, nmX5, rfl, by decide +kernel, fun h => by cases h⟩
theorem flX5_43 : g_FL RX5 43 5 5 := ⟨RX5, TX5, 7, rfl, by decide, g_tb 73 (by decide +kernel) (by decide +kernel), g_in5⟩
theorem fpX5_43 : g_FP RX5 43 5 5 .int false := ⟨RX5, TX5, 7, tyX5, rfl, by decide, g_tb 73 (by decide +kernel) (by decide +kernel), g_in5, tyX5_ok, nmX5, rfl, by decide +kernel, fun h => by cases h⟩
theorem flX8_265 : g_FL RX8 265 5 5 := ⟨RX5, TX5, 7, rfl, by decide, g_tb 74 (by decide +kernel) (by decide +kernel), g_in5⟩
theorem fpX8_265 : g_FP RX8 265 5 5 .int false := ⟨RX5, TX5, 7, tyX5, rfl, by decide, g_tb 74 (by decide +kernel) (by decide +kernel), g_in5, tyX5_ok, nmX5, rfl, by decide +kernel, fun h => by cases h⟩
theorem flX5_46 : g_FL RX5 46 5 6 := ⟨RX5, TX5, 7, rfl, by decide, g_tb 75 (by decide +kernel) (by decide +kernel), g_in5⟩
theorem fpX5_46 : g_FP RX5 46 5 6 .int false := ⟨RX5, TX5, 7, tyX5, rfl, by decide, g_tb 75 (by decide +kernel) (by decide +kernel), g_in5, tyX5_ok, nmX5, rfl, by decide +kernel, fun h => by cases h⟩
theorem flX8_162 : g_FL RX8 162 5 6 := ⟨RX5, TX5, 7, rfl, by decide, g_tb 76 (by decide +kernel) (by decide +kernel), g_in5⟩
theorem fpX8_162 : g_FP RX8 162 5 6 .int false := ⟨RX5, TX5, 7, tyX5, rfl, by decide, g_tb 76 (by decide +kernel) (by decide +kernel), g_in5, tyX5_ok, nmX5, rfl, by decide +kernel, fun h => by cases h⟩
theorem flX1_11 : g_FL RX1 11 1 0 := ⟨RX1, TX1, 3, rfl, by decide, g_tb 101 (by decide +kernel) (by decide +kernel), g_in1⟩
theorem fpX1_11 : g_FP RX1 11 1 0 (.array (.object "TurretPunch$State")) true := ⟨RX1, TX1, 3, tyX1, rfl, by decide, g_tb 101 (by decide +kernel) (by decide +kernel), g_in1, tyX1_ok, nmX1, rfl, by decide +kernel, fun _ => rfl⟩
theorem flX1_22 : g_FL RX1 22 1 1 := ⟨RX1, TX1, 3, rfl, by decide, g_tb 102 (by decide +kernel) (by decide +kernel), g_in1⟩
theorem fpX1_22 : g_FP RX1 22 1 1 .int false := ⟨RX1, TX1, 3, tyX1, rfl, by decide, g_tb 102 (by decide +kernel) (by decide +kernel), g_in1, tyX1_ok, nmX1, rfl, by decide +kernel, fun h => by cases h⟩
theorem flX1_18 : g_FL RX1 18 1 2 := ⟨RX1, TX1, 3, rfl, by decide, g_tb 103 (by decide +kernel) (by decide +kernel), g_in1⟩
theorem fpX1_18 : g_FP RX1 18 1 2 .int false := ⟨RX1, TX1, 3, tyX1, rfl, by decide, g_tb 103 (by decide +kernel) (by decide +kernel), g_in1, tyX1_ok, nmX1, rfl, by decide +kernel, fun h => by cases h⟩
theorem flX8_172 : g_FL RX8 172 1 2 := ⟨RX1, TX1, 3, rfl, by decide, g_tb 104 (by decide +kernel) (by decide +kernel), g_in1⟩
theorem fpX8_172 : g_FP RX8 172 1 2 .int false := ⟨RX1, TX1, 3, tyX1, rfl, by decide, g_tb 104 (by decide +kernel) (by decide +kernel), g_in1, tyX1_ok, nmX1, rfl, by decide +kernel, fun h => by cases h⟩
theorem flX3_9 : g_FL RX3 9 3 0 := ⟨RX3, TX3, 8, rfl, by decide, g_tb 118 (by decide +kernel) (by decide +kernel), g_in3⟩
theorem fpX3_9 : g_FP RX3 9 3 0 (.array .int) true := ⟨RX3, TX3, 8, tyX3, rfl, by decide, g_tb 118 (by decide +kernel) (by decide +kernel), g_in3, tyX3_ok, nmX3, rfl, by decide +kernel, fun _ => rfl⟩
theorem flX3_15 : g_FL RX3 15 3 1 := ⟨RX3, TX3, 8, rfl, by decide, g_tb 119 (by decide +kernel) (by decide +kernel), g_in3⟩
theorem fpX3_15 : g_FP RX3 15 3 1 (.array .int) true := ⟨RX3, TX3, 8, tyX3, rfl, by decide, g_tb 119 (by decide +kernel) (by decide +kernel), g_in3, tyX3_ok, nmX3, rfl, by decide +kernel, fun _ => rfl⟩
theorem flX3_18 : g_FL RX3 18 3 2 := ⟨RX3, TX3, 8, rfl, by decide, g_tb 120 (by decide +kernel) (by decide +kernel), g_in3⟩
theorem fpX3_18 : g_FP RX3 18 3 2 (.array .int) true := ⟨RX3, TX3, 8, tyX3, rfl, by decide, g_tb 120 (by decide +kernel) (by decide +kernel), g_in3, tyX3_ok, nmX3, rfl, by decide +kernel, fun _ => rfl⟩
theorem flX3_80 : g_FL RX3 80 3 3 := ⟨RX3, TX3, 8, rfl, by decide, g_tb 121 (by decide +kernel) (by decide +kernel), g_in3⟩
theorem fpX3_80 : g_FP RX3 80 3 3 .int false := ⟨RX3, TX3, 8, tyX3, rfl, by decide, g_tb 121 (by decide +kernel) (by decide +kernel), g_in3, tyX3_ok, nmX3, rfl, by decide +kernel, fun h => by cases h⟩
theorem flX3_21 : g_FL RX3 21 3 4 := ⟨RX3, TX3, 8, rfl, by decide, g_tb 122 (by decide +kernel) (by decide +kernel), g_in3⟩
theorem fpX3_21 : g_FP RX3 21 3 4 (.array .int) true := ⟨RX3, TX3, 8, tyX3, rfl, by decide, g_tb 122 (by decide +kernel) (by decide +kernel), g_in3, tyX3_ok, nmX3, rfl, by decide +kernel, fun _ => rfl⟩
theorem flX8_249 : g_FL RX8 249 3 4 := ⟨RX3, TX3, 8, rfl, by decide, g_tb 123 (by decide +kernel) (by decide +kernel), g_in3⟩
theorem flX3_91 : g_FL RX3 91 3 5 := ⟨RX3, TX3, 8, rfl, by decide, g_tb 124 (by decide +kernel) (by decide +kernel), g_in3⟩
theorem fpX3_91 : g_FP RX3 91 3 5 .int false := ⟨RX3, TX3, 8, tyX3, rfl, by decide, g_tb 124 (by decide +kernel) (by decide +kernel), g_in3, tyX3_ok, nmX3, rfl, by decide +kernel, fun h => by cases h⟩
theorem flX8_243 : g_FL RX8 243 3 5 := ⟨RX3, TX3, 8, rfl, by decide, g_tb 125 (by decide +kernel) (by decide +kernel), g_in3⟩
theorem fpX8_243 : g_FP RX8 243 3 5 .int false := ⟨RX3, TX3, 8, tyX3, rfl, by decide, g_tb 125 (by decide +kernel) (by decide +kernel), g_in3, tyX3_ok, nmX3, rfl, by decide +kernel, fun h => by cases h⟩
theorem flX3_94 : g_FL RX3 94 3 6 := ⟨RX3, TX3, 8, rfl, by decide, g_tb 126 (by decide +kernel) (by decide +kernel), g_in3⟩
theorem fpX3_94 : g_FP RX3 94 3 6 .int false := ⟨RX3, TX3, 8, tyX3, rfl, by decide, g_tb 126 (by decide +kernel) (by decide +kernel), g_in3, tyX3_ok, nmX3, rfl, by decide +kernel, fun h => by cases h⟩
theorem flX8_246 : g_FL RX8 246 3 6 := ⟨RX3, TX3, 8, rfl, by decide, g_tb 127 (by decide +kernel) (by decide +kernel), g_in3⟩
theorem fpX8_246 : g_FP RX8 246 3 6 .int false := ⟨RX3, TX3, 8, tyX3, rfl, by decide, g_tb 127 (by decide +kernel) (by decide +kernel), g_in3, tyX3_ok, nmX3, rfl, by decide +kernel, fun h => by cases h⟩
theorem flX3_24 : g_FL RX3 24 3 7 := ⟨RX3, TX3, 8, rfl, by decide, g_tb 128 (by decide +kernel) (by decide +kernel), g_in3⟩
theorem fpX3_24 : g_FP RX3 24 3 7 .boolean false := ⟨RX3, TX3, 8, tyX3, rfl, by decide, g_tb 128 (by decide +kernel) (by decide +kernel), g_in3, tyX3_ok, nmX3, rfl, by decide +kernel, fun h => by cases h⟩
theorem flX8_240 : g_FL RX8 240 3 7 := ⟨RX3, TX3, 8, rfl, by decide, g_tb 129 (by decide +kernel) (by decide +kernel), g_in3⟩
theorem fpX8_240 : g_FP RX8 240 3 7 .boolean false := ⟨RX3, TX3, 8, tyX3, rfl, by decide, g_tb 129 (by decide +kernel) (by decide +kernel), g_in3, tyX3_ok, nmX3, rfl, by decide +kernel, fun h => by cases h⟩
theorem flX0_7 : g_FL RX0 7 0 0 := ⟨RX0, TX0, 4, rfl, by decide, g_tb 153 (by decide +kernel) (by decide +kernel), g_in0⟩
theorem fpX0_7 : g_FP RX0 7 0 0 .int false := ⟨RX0, TX0, 4, tyX0, rfl, by decide, g_tb 153 (by decide +kernel) (by decide +kernel), g_in0, tyX0_ok, nmX0, rfl, by decide +kernel, fun h => by cases h⟩
theorem flX8_203 : g_FL RX8 203 0 0 := ⟨RX0, TX0, 4, rfl, by decide, g_tb 154 (by decide +kernel) (by decide +kernel), g_in0⟩
theorem fpX8_203 : g_FP RX8 203 0 0 .int false := ⟨RX0, TX0, 4, tyX0, rfl, by decide, g_tb 154 (by decide +kernel) (by decide +kernel), g_in0, tyX0_ok, nmX0, rfl, by decide +kernel, fun h => by cases h⟩
theorem flX0_13 : g_FL RX0 13 0 1 := ⟨RX0, TX0, 4, rfl, by decide, g_tb 155 (by decide +kernel) (by decide +kernel), g_in0⟩
theorem fpX0_13 : g_FP RX0 13 0 1 .int false := ⟨RX0, TX0, 4, tyX0, rfl, by decide, g_tb 155 (by decide +kernel) (by decide +kernel), g_in0, tyX0_ok, nmX0, rfl, by decide +kernel, fun h => by cases h⟩
theorem flX5_87 : g_FL RX5 87 0 1 := ⟨RX0, TX0, 4, rfl, by decide, g_tb 156 (by decide +kernel) (by decide +kernel), g_in0⟩
theorem fpX5_87 : g_FP RX5 87 0 1 .int false := ⟨RX0, TX0, 4, tyX0, rfl, by decide, g_tb 156 (by decide +kernel) (by decide +kernel), g_in0, tyX0_ok, nmX0, rfl, by decide +kernel, fun h => by cases h⟩
theorem flX8_206 : g_FL RX8 206 0 1 := ⟨RX0, TX0, 4, rfl, by decide, g_tb 157 (by decide +kernel) (by decide +kernel), g_in0⟩
theorem fpX8_206 : g_FP RX8 206 0 1 .int false := ⟨RX0, TX0, 4, tyX0, rfl, by decide, g_tb 157 (by decide +kernel) (by decide +kernel), g_in0, tyX0_ok, nmX0, rfl, by decide +kernel, fun h => by cases h⟩
theorem flX0_16 : g_FL RX0 16 0 2 := ⟨RX0, TX0, 4, rfl, by decide, g_tb 158 (by decide +kernel) (by decide +kernel), g_in0⟩
theorem fpX0_16 : g_FP RX0 16 0 2 .int false := ⟨RX0, TX0, 4, tyX0, rfl, by decide, g_tb 158 (by decide +kernel) (by decide +kernel), g_in0, tyX0_ok, nmX0, rfl, by decide +kernel, fun h => by cases h⟩
theorem flX2_47 : g_FL RX2 47 0 2 := ⟨RX0, TX0, 4, rfl, by decide, g_tb 159 (by decide +kernel) (by decide +kernel), g_in0⟩
theorem fpX2_47 : g_FP RX2 47 0 2 .int false := ⟨RX0, TX0, 4, tyX0, rfl, by decide, g_tb 159 (by decide +kernel) (by decide +kernel), g_in0, tyX0_ok, nmX0, rfl, by decide +kernel, fun h => by cases h⟩
theorem flX7_33 : g_FL RX7 33 0 2 := ⟨RX0, TX0, 4, rfl, by decide, g_tb 160 (by decide +kernel) (by decide +kernel), g_in0⟩
theorem fpX7_33 : g_FP RX7 33 0 2 .int false := ⟨RX0, TX0, 4, tyX0, rfl, by decide, g_tb 160 (by decide +kernel) (by decide +kernel), g_in0, tyX0_ok, nmX0, rfl, by decide +kernel, fun h => by cases h⟩
theorem flX8_209 : g_FL RX8 209 0 2 := ⟨RX0, TX0, 4, rfl, by decide, g_tb 161 (by decide +kernel) (by decide +kernel), g_in0⟩
theorem fpX8_209 : g_FP RX8 209 0 2 .int false := ⟨RX0, TX0, 4, tyX0, rfl, by decide, g_tb 161 (by decide +kernel) (by decide +kernel), g_in0, tyX0_ok, nmX0, rfl, by decide +kernel, fun h => by cases h⟩
theorem flX0_19 : g_FL RX0 19 0 3 := ⟨RX0, TX0, 4, rfl, by decide, g_tb 162 (by decide +kernel) (by decide +kernel), g_in0⟩
theorem fpX0_19 : g_FP RX0 19 0 3 .int false := ⟨RX0, TX0, 4, tyX0, rfl, by decide, g_tb 162 (by decide +kernel) (by decide +kernel), g_in0, tyX0_ok, nmX0, rfl, by decide +kernel, fun h => by cases h⟩
theorem flX5_90 : g_FL RX5 90 0 3 := ⟨RX0, TX0, 4, rfl, by decide, g_tb 163 (by decide +kernel) (by decide +kernel), g_in0⟩
theorem fpX5_90 : g_FP RX5 90 0 3 .int false := ⟨RX0, TX0, 4, tyX0, rfl, by decide, g_tb 163 (by decide +kernel) (by decide +kernel), g_in0, tyX0_ok, nmX0, rfl, by decide +kernel, fun h => by cases h⟩
theorem flX7_34 : g_FL RX7 34 0 3 := ⟨RX0, TX0, 4, rfl, by decide, g_tb 164 (by decide +kernel) (by decide +kernel), g_in0⟩
theorem fpX7_34 : g_FP RX7 34 0 3 .int false := ⟨RX0, TX0, 4, tyX0, rfl, by decide, g_tb 164 (by decide +kernel) (by decide +kernel), g_in0, tyX0_ok, nmX0, rfl, by decide +kernel, fun h => by cases h⟩
theorem flX8_210 : g_FL RX8 210 0 3 := ⟨RX0, TX0, 4, rfl, by decide, g_tb 165 (by decide +kernel) (by decide +kernel), g_in0⟩
theorem fpX8_210 : g_FP RX8 210 0 3 .int false := ⟨RX0, TX0, 4, tyX0, rfl, by decide, g_tb 165 (by decide +kernel) (by decide +kernel), g_in0, tyX0_ok, nmX0, rfl, by decide +kernel, fun h => by cases h⟩
theorem flX7_13 : g_FL RX7 13 7 0 := ⟨RX7, TX7, 4, rfl, by decide, g_tb 191 (by decide +kernel) (by decide +kernel), g_in7⟩
theorem fpX7_13 : g_FP RX7 13 7 0 .int false := ⟨RX7, TX7, 4, tyX7, rfl, by decide, g_tb 191 (by decide +kernel) (by decide +kernel), g_in7, tyX7_ok, nmX7, rfl, by decide +kernel, fun h => by cases h⟩
theorem flX2_62 : g_FL RX2 62 7 0 := ⟨RX7, TX7, 4, rfl, by decide, g_tb 192 (by decide +kernel) (by decide +kernel), g_in7⟩
theorem fpX2_62 : g_FP RX2 62 7 0 .int false := ⟨RX7, TX7, 4, tyX7, rfl, by decide, g_tb 192 (by decide +kernel) (by decide +kernel), g_in7, tyX7_ok, nmX7, rfl, by decide +kernel, fun h => by cases h⟩
theorem flX8_175 : g_FL RX8 175 7 0 := ⟨RX7, TX7, 4, rfl, by decide, g_tb 193 (by decide +kernel) (by decide +kernel), g_in7⟩
theorem fpX8_175 : g_FP RX8 175 7 0 .int false := ⟨RX7, TX7, 4, tyX7, rfl, by decide, g_tb 193 (by decide +kernel) (by decide +kernel), g_in7, tyX7_ok, nmX7, rfl, by decide +kernel, fun h => by cases h⟩
theorem flX7_7 : g_FL RX7 7 7 1 := ⟨RX7, TX7, 4, rfl, by decide, g_tb 194 (by decide +kernel) (by decide +kernel), g_in7⟩
theorem fpX7_7 : g_FP RX7 7 7 1 .int false := ⟨RX7, TX7, 4, tyX7, rfl, by decide, g_tb 194 (by decide +kernel) (by decide +kernel), g_in7, tyX7_ok, nmX7, rfl, by decide +kernel, fun h => by cases h⟩
theorem flX2_63 : g_FL RX2 63 7 1 := ⟨RX7, TX7, 4, rfl, by decide, g_tb 195 (by decide +kernel) (by decide +kernel), g_in7⟩
theorem fpX2_63 : g_FP RX2 63 7 1 .int false := ⟨RX7, TX7, 4, tyX7, rfl, by decide, g_tb 195 (by decide +kernel) (by decide +kernel), g_in7, tyX7_ok, nmX7, rfl, by decide +kernel, fun h => by cases h⟩
theorem flX8_178 : g_FL RX8 178 7 1 := ⟨RX7, TX7, 4, rfl, by decide, g_tb 196 (by decide +kernel) (by decide +kernel), g_in7⟩
theorem fpX8_178 : g_FP RX8 178 7 1 .int false := ⟨RX7, TX7, 4, tyX7, rfl, by decide, g_tb 196 (by decide +kernel) (by decide +kernel), g_in7, tyX7_ok, nmX7, rfl, by decide +kernel, fun h => by cases h⟩
theorem flX2_70 : g_FL RX2 70 7 2 := ⟨RX7, TX7, 4, rfl, by decide, g_tb 197 (by decide +kernel) (by decide +kernel), g_in7⟩
theorem fpX2_70 : g_FP RX2 70 7 2 .int false := ⟨RX7, TX7, 4, tyX7, rfl, by decide, g_tb 197 (by decide +kernel) (by decide +kernel), g_in7, tyX7_ok, nmX7, rfl, by decide +kernel, fun h => by cases h⟩
theorem flX5_101 : g_FL RX5 101 7 2 := ⟨RX7, TX7, 4, rfl, by decide, g_tb 198 (by decide +kernel) (by decide +kernel), g_in7⟩
theorem fpX5_101 : g_FP RX5 101 7 2 .int false := ⟨RX7, TX7, 4, tyX7, rfl, by decide, g_tb 198 (by decide +kernel) (by decide +kernel), g_in7, tyX7_ok, nmX7, rfl, by decide +kernel, fun h => by cases h⟩
theorem flX8_189 : g_FL RX8 189 7 2 := ⟨RX7, TX7, 4, rfl, by decide, g_tb 199 (by decide +kernel) (by decide +kernel), g_in7⟩
theorem fpX8_189 : g_FP RX8 189 7 2 .int false := ⟨RX7, TX7, 4, tyX7, rfl, by decide, g_tb 199 (by decide +kernel) (by decide +kernel), g_in7, tyX7_ok, nmX7, rfl, by decide +kernel, fun h => by cases h⟩
theorem flX5_53 : g_FL RX5 53 7 3 := ⟨RX7, TX7, 4, rfl, by decide, g_tb 200 (by decide +kernel) (by decide +kernel), g_in7⟩
theorem fpX5_53 : g_FP RX5 53 7 3 .boolean false := ⟨RX7, TX7, 4, tyX7, rfl, by decide, g_tb 200 (by decide +kernel) (by decide +kernel), g_in7, tyX7_ok, nmX7, rfl, by decide +kernel, fun h => by cases h⟩
theorem flX7_29 : g_FL RX7 29 7 3 := ⟨RX7, TX7, 4, rfl, by decide, g_tb 201 (by decide +kernel) (by decide +kernel), g_in7⟩
theorem fpX7_29 : g_FP RX7 29 7 3 .boolean false := ⟨RX7, TX7, 4, tyX7, rfl, by decide, g_tb 201 (by decide +kernel) (by decide +kernel), g_in7, tyX7_ok, nmX7, rfl, by decide +kernel, fun h => by cases h⟩
theorem flX2_66 : g_FL RX2 66 7 3 := ⟨RX7, TX7, 4, rfl, by decide, g_tb 202 (by decide +kernel) (by decide +kernel), g_in7⟩
theorem fpX2_66 : g_FP RX2 66 7 3 .boolean false := ⟨RX7, TX7, 4, tyX7, rfl, by decide, g_tb 202 (by decide +kernel) (by decide +kernel), g_in7, tyX7_ok, nmX7, rfl, by decide +kernel, fun h => by cases h⟩
theorem flX8_181 : g_FL RX8 181 7 3 := ⟨RX7, TX7, 4, rfl, by decide, g_tb 203 (by decide +kernel) (by decide +kernel), g_in7⟩
theorem fpX8_181 : g_FP RX8 181 7 3 .boolean false := ⟨RX7, TX7, 4, tyX7, rfl, by decide, g_tb 203 (by decide +kernel) (by decide +kernel), g_in7, tyX7_ok, nmX7, rfl, by decide +kernel, fun h => by cases h⟩
theorem flX2_12 : g_FL RX2 12 2 0 := ⟨RX2, TX2, 7, rfl, by decide, g_tb 213 (by decide +kernel) (by decide +kernel), g_in2⟩
theorem fpX2_12 : g_FP RX2 12 2 0 (.object "TurretPunch$Area") true := ⟨RX2, TX2, 7, tyX2, rfl, by decide, g_tb 213 (by decide +kernel) (by decide +kernel), g_in2, tyX2_ok, nmX2, rfl, by decide +kernel, fun _ => rfl⟩
theorem flX5_59 : g_FL RX5 59 2 0 := ⟨RX2, TX2, 7, rfl, by decide, g_tb 214 (by decide +kernel) (by decide +kernel), g_in2⟩
theorem flX8_219 : g_FL RX8 219 2 0 := ⟨RX2, TX2, 7, rfl, by decide, g_tb 215 (by decide +kernel) (by decide +kernel), g_in2⟩
theorem flX2_20 : g_FL RX2 20 2 1 := ⟨RX2, TX2, 7, rfl, by decide, g_tb 216 (by decide +kernel) (by decide +kernel), g_in2⟩
theorem fpX2_20 : g_FP RX2 20 2 1 (.array (.object "TurretPunch$Tool")) true := ⟨RX2, TX2, 7, tyX2, rfl, by decide, g_tb 216 (by decide +kernel) (by decide +kernel), g_in2, tyX2_ok, nmX2, rfl, by decide +kernel, fun _ => rfl⟩
theorem flX3_62 : g_FL RX3 62 2 1 := ⟨RX2, TX2, 7, rfl, by decide, g_tb 217 (by decide +kernel) (by decide +kernel), g_in2⟩
theorem flX5_49 : g_FL RX5 49 2 1 := ⟨RX2, TX2, 7, rfl, by decide, g_tb 218 (by decide +kernel) (by decide +kernel), g_in2⟩
theorem flX8_101 : g_FL RX8 101 2 1 := ⟨RX2, TX2, 7, rfl, by decide, g_tb 219 (by decide +kernel) (by decide +kernel), g_in2⟩
theorem flX2_24 : g_FL RX2 24 2 2 := ⟨RX2, TX2, 7, rfl, by decide, g_tb 220 (by decide +kernel) (by decide +kernel), g_in2⟩
theorem fpX2_24 : g_FP RX2 24 2 2 (.array (.object "TurretPunch$Area")) true := ⟨RX2, TX2, 7, tyX2, rfl, by decide, g_tb 220 (by decide +kernel) (by decide +kernel), g_in2, tyX2_ok, nmX2, rfl, by decide +kernel, fun _ => rfl⟩
theorem flX3_66 : g_FL RX3 66 2 2 := ⟨RX2, TX2, 7, rfl, by decide, g_tb 221 (by decide +kernel) (by decide +kernel), g_in2⟩
theorem flX8_133 : g_FL RX8 133 2 2 := ⟨RX2, TX2, 7, rfl, by decide, g_tb 222 (by decide +kernel) (by decide +kernel), g_in2⟩
theorem flX5_113 : g_FL RX5 113 2 2 := ⟨RX2, TX2, 7, rfl, by decide, g_tb 223 (by decide +kernel) (by decide +kernel), g_in2⟩
theorem flX2_28 : g_FL RX2 28 2 3 := ⟨RX2, TX2, 7, rfl, by decide, g_tb 224 (by decide +kernel) (by decide +kernel), g_in2⟩
theorem fpX2_28 : g_FP RX2 28 2 3 (.array .int) true := ⟨RX2, TX2, 7, tyX2, rfl, by decide, g_tb 224 (by decide +kernel) (by decide +kernel), g_in2, tyX2_ok, nmX2, rfl, by decide +kernel, fun _ => rfl⟩
theorem flX5_27 : g_FL RX5 27 2 3 := ⟨RX2, TX2, 7, rfl, by decide, g_tb 225 (by decide +kernel) (by decide +kernel), g_in2⟩
theorem flX2_37 : g_FL RX2 37 2 4 := ⟨RX2, TX2, 7, rfl, by decide, g_tb 226 (by decide +kernel) (by decide +kernel), g_in2⟩
theorem fpX2_37 : g_FP RX2 37 2 4 .int false := ⟨RX2, TX2, 7, tyX2, rfl, by decide, g_tb 226 (by decide +kernel) (by decide +kernel), g_in2, tyX2_ok, nmX2, rfl, by decide +kernel, fun h => by cases h⟩
theorem flX3_32 : g_FL RX3 32 2 4 := ⟨RX2, TX2, 7, rfl, by decide, g_tb 227 (by decide +kernel) (by decide +kernel), g_in2⟩
theorem fpX3_32 : g_FP RX3 32 2 4 .int false := ⟨RX2, TX2, 7, tyX2, rfl, by decide, g_tb 227 (by decide +kernel) (by decide +kernel), g_in2, tyX2_ok, nmX2, rfl, by decide +kernel, fun h => by cases h⟩
theorem flX8_94 : g_FL RX8 94 2 4 := ⟨RX2, TX2, 7, rfl, by decide, g_tb 228 (by decide +kernel) (by decide +kernel), g_in2⟩
theorem fpX8_94 : g_FP RX8 94 2 4 .int false := ⟨RX2, TX2, 7, tyX2, rfl, by decide, g_tb 228 (by decide +kernel) (by decide +kernel), g_in2, tyX2_ok, nmX2, rfl, by decide +kernel, fun h => by cases h⟩
theorem flX2_41 : g_FL RX2 41 2 5 := ⟨RX2, TX2, 7, rfl, by decide, g_tb 229 (by decide +kernel) (by decide +kernel), g_in2⟩
theorem fpX2_41 : g_FP RX2 41 2 5 .int false := ⟨RX2, TX2, 7, tyX2, rfl, by decide, g_tb 229 (by decide +kernel) (by decide +kernel), g_in2, tyX2_ok, nmX2, rfl, by decide +kernel, fun h => by cases h⟩
theorem flX3_51 : g_FL RX3 51 2 5 := ⟨RX2, TX2, 7, rfl, by decide, g_tb 230 (by decide +kernel) (by decide +kernel), g_in2⟩
theorem fpX3_51 : g_FP RX3 51 2 5 .int false := ⟨RX2, TX2, 7, tyX2, rfl, by decide, g_tb 230 (by decide +kernel) (by decide +kernel), g_in2, tyX2_ok, nmX2, rfl, by decide +kernel, fun h => by cases h⟩
theorem flX5_110 : g_FL RX5 110 2 5 := ⟨RX2, TX2, 7, rfl, by decide, g_tb 231 (by decide +kernel) (by decide +kernel), g_in2⟩
theorem fpX5_110 : g_FP RX5 110 2 5 .int false := ⟨RX2, TX2, 7, tyX2, rfl, by decide, g_tb 231 (by decide +kernel) (by decide +kernel), g_in2, tyX2_ok, nmX2, rfl, by decide +kernel, fun h => by cases h⟩
theorem flX8_256 : g_FL RX8 256 2 5 := ⟨RX2, TX2, 7, rfl, by decide, g_tb 232 (by decide +kernel) (by decide +kernel), g_in2⟩
theorem fpX8_256 : g_FP RX8 256 2 5 .int false := ⟨RX2, TX2, 7, tyX2, rfl, by decide, g_tb 232 (by decide +kernel) (by decide +kernel), g_in2, tyX2_ok, nmX2, rfl, by decide +kernel, fun h => by cases h⟩
theorem flX2_44 : g_FL RX2 44 2 6 := ⟨RX2, TX2, 7, rfl, by decide, g_tb 233 (by decide +kernel) (by decide +kernel), g_in2⟩
theorem fpX2_44 : g_FP RX2 44 2 6 .int false := ⟨RX2, TX2, 7, tyX2, rfl, by decide, g_tb 233 (by decide +kernel) (by decide +kernel), g_in2, tyX2_ok, nmX2, rfl, by decide +kernel, fun h => by cases h⟩
theorem flX5_117 : g_FL RX5 117 2 6 := ⟨RX2, TX2, 7, rfl, by decide, g_tb 234 (by decide +kernel) (by decide +kernel), g_in2⟩
theorem fpX5_117 : g_FP RX5 117 2 6 .int false := ⟨RX2, TX2, 7, tyX2, rfl, by decide, g_tb 234 (by decide +kernel) (by decide +kernel), g_in2, tyX2_ok, nmX2, rfl, by decide +kernel, fun h => by cases h⟩
theorem flX8_259 : g_FL RX8 259 2 6 := ⟨RX2, TX2, 7, rfl, by decide, g_tb 235 (by decide +kernel) (by decide +kernel), g_in2⟩
theorem fpX8_259 : g_FP RX8 259 2 6 .int false := ⟨RX2, TX2, 7, tyX2, rfl, by decide, g_tb 235 (by decide +kernel) (by decide +kernel), g_in2, tyX2_ok, nmX2, rfl, by decide +kernel, fun h => by cases h⟩
theorem flX8_10 : g_FL RX8 10 8 0 := ⟨RX8, TX8, 9, rfl, by decide, g_tb 408 (by decide +kernel) (by decide +kernel), g_in8⟩
theorem fpX8_10 : g_FP RX8 10 8 0 (.object "TurretPunch$Text") true := ⟨RX8, TX8, 9, tyX8, rfl, by decide, g_tb 408 (by decide +kernel) (by decide +kernel), g_in8, tyX8_ok, nmX8, rfl, by decide +kernel, fun _ => rfl⟩
theorem flX8_19 : g_FL RX8 19 8 1 := ⟨RX8, TX8, 9, rfl, by decide, g_tb 409 (by decide +kernel) (by decide +kernel), g_in8⟩
theorem fpX8_19 : g_FP RX8 19 8 1 (.object "TurretPunch$Reader") true := ⟨RX8, TX8, 9, tyX8, rfl, by decide, g_tb 409 (by decide +kernel) (by decide +kernel), g_in8, tyX8_ok, nmX8, rfl, by decide +kernel, fun _ => rfl⟩
theorem flX8_26 : g_FL RX8 26 8 2 := ⟨RX8, TX8, 9, rfl, by decide, g_tb 410 (by decide +kernel) (by decide +kernel), g_in8⟩
theorem fpX8_26 : g_FP RX8 26 8 2 (.object "TurretPunch$State") true := ⟨RX8, TX8, 9, tyX8, rfl, by decide, g_tb 410 (by decide +kernel) (by decide +kernel), g_in8, tyX8_ok, nmX8, rfl, by decide +kernel, fun _ => rfl⟩
theorem flX8_30 : g_FL RX8 30 8 3 := ⟨RX8, TX8, 9, rfl, by decide, g_tb 411 (by decide +kernel) (by decide +kernel), g_in8⟩
theorem fpX8_30 : g_FP RX8 30 8 3 (.object "TurretPunch$State") true := ⟨RX8, TX8, 9, tyX8, rfl, by decide, g_tb 411 (by decide +kernel) (by decide +kernel), g_in8, tyX8_ok, nmX8, rfl, by decide +kernel, fun _ => rfl⟩
theorem flX8_36 : g_FL RX8 36 8 4 := ⟨RX8, TX8, 9, rfl, by decide, g_tb 412 (by decide +kernel) (by decide +kernel), g_in8⟩
theorem fpX8_36 : g_FP RX8 36 8 4 (.object "TurretPunch$History") true := ⟨RX8, TX8, 9, tyX8, rfl, by decide, g_tb 412 (by decide +kernel) (by decide +kernel), g_in8, tyX8_ok, nmX8, rfl, by decide +kernel, fun _ => rfl⟩
theorem flX8_43 : g_FL RX8 43 8 5 := ⟨RX8, TX8, 9, rfl, by decide, g_tb 413 (by decide +kernel) (by decide +kernel), g_in8⟩
theorem fpX8_43 : g_FP RX8 43 8 5 (.object "TurretPunch$Planner") true := ⟨RX8, TX8, 9, tyX8, rfl, by decide, g_tb 413 (by decide +kernel) (by decide +kernel), g_in8, tyX8_ok, nmX8, rfl, by decide +kernel, fun _ => rfl⟩
theorem flX8_50 : g_FL RX8 50 8 6 := ⟨RX8, TX8, 9, rfl, by decide, g_tb 414 (by decide +kernel) (by decide +kernel), g_in8⟩
theorem fpX8_50 : g_FP RX8 50 8 6 (.object "TurretPunch$Area") true := ⟨RX8, TX8, 9, tyX8, rfl, by decide, g_tb 414 (by decide +kernel) (by decide +kernel), g_in8, tyX8_ok, nmX8, rfl, by decide +kernel, fun _ => rfl⟩
theorem flX8_57 : g_FL RX8 57 8 7 := ⟨RX8, TX8, 9, rfl, by decide, g_tb 415 (by decide +kernel) (by decide +kernel), g_in8⟩
theorem fpX8_57 : g_FP RX8 57 8 7 (.object "TurretPunch$Job") false := ⟨RX8, TX8, 9, tyX8, rfl, by decide, g_tb 415 (by decide +kernel) (by decide +kernel), g_in8, tyX8_ok, nmX8, rfl, by decide +kernel, fun h => by cases h⟩
theorem flX8_61 : g_FL RX8 61 8 8 := ⟨RX8, TX8, 9, rfl, by decide, g_tb 416 (by decide +kernel) (by decide +kernel), g_in8⟩
theorem fpX8_61 : g_FP RX8 61 8 8 (.object "TurretPunch$Job") false := ⟨RX8, TX8, 9, tyX8, rfl, by decide, g_tb 416 (by decide +kernel) (by decide +kernel), g_in8, tyX8_ok, nmX8, rfl, by decide +kernel, fun h => by cases h⟩
theorem flX9_62 : g_FL RX9 62 9 0 := ⟨RX9, TX9, 16, rfl, by decide, g_tb 712 (by decide +kernel) (by decide +kernel), g_in9⟩
theorem fpX9_62 : g_FP RX9 62 9 0 .int false := ⟨RX9, TX9, 16, tyX9, rfl, by decide, g_tb 712 (by decide +kernel) (by decide +kernel), g_in9, tyX9_ok, nmX9, rfl, by decide +kernel, fun h => by cases h⟩
theorem flX9_7 : g_FL RX9 7 9 1 := ⟨RX9, TX9, 16, rfl, by decide, g_tb 713 (by decide +kernel) (by decide +kernel), g_in9⟩
theorem fpX9_7 : g_FP RX9 7 9 1 (.array .int) true := ⟨RX9, TX9, 16, tyX9, rfl, by decide, g_tb 713 (by decide +kernel) (by decide +kernel), g_in9, tyX9_ok, nmX9, rfl, by decide +kernel, fun _ => rfl⟩
theorem flX9_65 : g_FL RX9 65 9 2 := ⟨RX9, TX9, 16, rfl, by decide, g_tb 714 (by decide +kernel) (by decide +kernel), g_in9⟩
theorem fpX9_65 : g_FP RX9 65 9 2 .int false := ⟨RX9, TX9, 16, tyX9, rfl, by decide, g_tb 714 (by decide +kernel) (by decide +kernel), g_in9, tyX9_ok, nmX9, rfl, by decide +kernel, fun h => by cases h⟩
theorem flX9_13 : g_FL RX9 13 9 3 := ⟨RX9, TX9, 16, rfl, by decide, g_tb 715 (by decide +kernel) (by decide +kernel), g_in9⟩
theorem fpX9_13 : g_FP RX9 13 9 3 (.array .int) true := ⟨RX9, TX9, 16, tyX9, rfl, by decide, g_tb 715 (by decide +kernel) (by decide +kernel), g_in9, tyX9_ok, nmX9, rfl, by decide +kernel, fun _ => rfl⟩
theorem flX9_16 : g_FL RX9 16 9 4 := ⟨RX9, TX9, 16, rfl, by decide, g_tb 716 (by decide +kernel) (by decide +kernel), g_in9⟩
theorem fpX9_16 : g_FP RX9 16 9 4 (.array .int) true := ⟨RX9, TX9, 16, tyX9, rfl, by decide, g_tb 716 (by decide +kernel) (by decide +kernel), g_in9, tyX9_ok, nmX9, rfl, by decide +kernel, fun _ => rfl⟩
theorem flX9_19 : g_FL RX9 19 9 5 := ⟨RX9, TX9, 16, rfl, by decide, g_tb 717 (by decide +kernel) (by decide +kernel), g_in9⟩
theorem fpX9_19 : g_FP RX9 19 9 5 (.array .int) true := ⟨RX9, TX9, 16, tyX9, rfl, by decide, g_tb 717 (by decide +kernel) (by decide +kernel), g_in9, tyX9_ok, nmX9, rfl, by decide +kernel, fun _ => rfl⟩
theorem flX9_22 : g_FL RX9 22 9 6 := ⟨RX9, TX9, 16, rfl, by decide, g_tb 718 (by decide +kernel) (by decide +kernel), g_in9⟩
theorem fpX9_22 : g_FP RX9 22 9 6 (.array .int) true := ⟨RX9, TX9, 16, tyX9, rfl, by decide, g_tb 718 (by decide +kernel) (by decide +kernel), g_in9, tyX9_ok, nmX9, rfl, by decide +kernel, fun _ => rfl⟩
theorem flX9_50 : g_FL RX9 50 9 7 := ⟨RX9, TX9, 16, rfl, by decide, g_tb 719 (by decide +kernel) (by decide +kernel), g_in9⟩
theorem fpX9_50 : g_FP RX9 50 9 7 .int false := ⟨RX9, TX9, 16, tyX9, rfl, by decide, g_tb 719 (by decide +kernel) (by decide +kernel), g_in9, tyX9_ok, nmX9, rfl, by decide +kernel, fun h => by cases h⟩
theorem flX9_25 : g_FL RX9 25 9 8 := ⟨RX9, TX9, 16, rfl, by decide, g_tb 720 (by decide +kernel) (by decide +kernel), g_in9⟩
theorem fpX9_25 : g_FP RX9 25 9 8 (.array .int) true := ⟨RX9, TX9, 16, tyX9, rfl, by decide, g_tb 720 (by decide +kernel) (by decide +kernel), g_in9, tyX9_ok, nmX9, rfl, by decide +kernel, fun _ => rfl⟩
theorem flX9_28 : g_FL RX9 28 9 9 := ⟨RX9, TX9, 16, rfl, by decide, g_tb 721 (by decide +kernel) (by decide +kernel), g_in9⟩
theorem fpX9_28 : g_FP RX9 28 9 9 (.array .int) true := ⟨RX9, TX9, 16, tyX9, rfl, by decide, g_tb 721 (by decide +kernel) (by decide +kernel), g_in9, tyX9_ok, nmX9, rfl, by decide +kernel, fun _ => rfl⟩
theorem flX9_31 : g_FL RX9 31 9 10 := ⟨RX9, TX9, 16, rfl, by decide, g_tb 722 (by decide +kernel) (by decide +kernel), g_in9⟩
theorem fpX9_31 : g_FP RX9 31 9 10 (.array .int) true := ⟨RX9, TX9, 16, tyX9, rfl, by decide, g_tb 722 (by decide +kernel) (by decide +kernel), g_in9, tyX9_ok, nmX9, rfl, by decide +kernel, fun _ => rfl⟩
theorem flX9_185 : g_FL RX9 185 9 11 := ⟨RX9, TX9, 16, rfl, by decide, g_tb 723 (by decide +kernel) (by decide +kernel), g_in9⟩
theorem fpX9_185 : g_FP RX9 185 9 11 .int false := ⟨RX9, TX9, 16, tyX9, rfl, by decide, g_tb 723 (by decide +kernel) (by decide +kernel), g_in9, tyX9_ok, nmX9, rfl, by decide +kernel, fun h => by cases h⟩
theorem flX9_188 : g_FL RX9 188 9 12 := ⟨RX9, TX9, 16, rfl, by decide, g_tb 724 (by decide +kernel) (by decide +kernel), g_in9⟩
theorem fpX9_188 : g_FP RX9 188 9 12 .int false := ⟨RX9, TX9, 16, tyX9, rfl, by decide, g_tb 724 (by decide +kernel) (by decide +kernel), g_in9, tyX9_ok, nmX9, rfl, by decide +kernel, fun h => by cases h⟩
theorem flX9_34 : g_FL RX9 34 9 13 := ⟨RX9, TX9, 16, rfl, by decide, g_tb 725 (by decide +kernel) (by decide +kernel), g_in9⟩
theorem fpX9_34 : g_FP RX9 34 9 13 (.array .int) true := ⟨RX9, TX9, 16, tyX9, rfl, by decide, g_tb 725 (by decide +kernel) (by decide +kernel), g_in9, tyX9_ok, nmX9, rfl, by decide +kernel, fun _ => rfl⟩
theorem flX9_37 : g_FL RX9 37 9 14 := ⟨RX9, TX9, 16, rfl, by decide, g_tb 726 (by decide +kernel) (by decide +kernel), g_in9⟩
theorem fpX9_37 : g_FP RX9 37 9 14 (.array .int) true := ⟨RX9, TX9, 16, tyX9, rfl, by decide, g_tb 726 (by decide +kernel) (by decide +kernel), g_in9, tyX9_ok, nmX9, rfl, by decide +kernel, fun _ => rfl⟩
theorem flX9_40 : g_FL RX9 40 9 15 := ⟨RX9, TX9, 16, rfl, by decide, g_tb 727 (by decide +kernel) (by decide +kernel), g_in9⟩
theorem fpX9_40 : g_FP RX9 40 9 15 (.array .int) true := ⟨RX9, TX9, 16, tyX9, rfl, by decide, g_tb 727 (by decide +kernel) (by decide +kernel), g_in9, tyX9_ok, nmX9, rfl, by decide +kernel, fun _ => rfl⟩
