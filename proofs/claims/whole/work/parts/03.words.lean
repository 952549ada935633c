/-- a method: its name, bytes, locals, answer, how many it takes; room: frames, words, cells, slots -/
abbrev g_MD : Type := MethodName × ByteArray × Nat × Option FieldType × Nat × Nat × Nat × Nat × Nat
abbrev mX0_init : g_MD := (yX0_init, cX0_init, 1, none, 0, 1, 12, 0, 0)
abbrev mX0_put : g_MD := (yX0_put, cX0_put, 5, none, 4, 0, 0, 0, 0)
abbrev mX0_has : g_MD := (yX0_has, cX0_has, 3, (some .boolean), 2, 0, 0, 0, 0)
abbrev mX0_covers : g_MD := (yX0_covers, cX0_covers, 2, (some .boolean), 1, 0, 0, 0, 0)
abbrev mX0_meets : g_MD := (yX0_meets, cX0_meets, 2, (some .boolean), 1, 0, 0, 0, 0)
abbrev mX0_rowBits : g_MD := (yX0_rowBits, cX0_rowBits, 1, (some .int), 0, 0, 0, 0, 0)
abbrev mX1_init : g_MD := (yX1_init, cX1_init, 2, none, 0, 2, 32, 25, 168)
abbrev mX1_forget : g_MD := (yX1_forget, cX1_forget, 1, none, 0, 0, 0, 0, 0)
abbrev mX1_keep : g_MD := (yX1_keep, cX1_keep, 2, none, 1, 2, 47, 0, 0)
abbrev mX1_giveBack : g_MD := (yX1_giveBack, cX1_giveBack, 2, (some .boolean), 1, 2, 47, 0, 0)
abbrev mX2_init : g_MD := (yX2_init, cX2_init, 2, none, 0, 2, 32, 15, 61)
abbrev mX2_clear : g_MD := (yX2_clear, cX2_clear, 1, none, 0, 1, 24, 0, 0)
abbrev mX2_hasSheet : g_MD := (yX2_hasSheet, cX2_hasSheet, 1, (some .boolean), 0, 0, 0, 0, 0)
abbrev mX2_takeSheet : g_MD := (yX2_takeSheet, cX2_takeSheet, 3, (some .boolean), 2, 1, 24, 0, 0)
abbrev mX2_takeTool : g_MD := (yX2_takeTool, cX2_takeTool, 6, (some .boolean), 4, 1, 22, 0, 0)
abbrev mX2_takeHole : g_MD := (yX2_takeHole, cX2_takeHole, 7, (some .boolean), 4, 1, 24, 0, 0)
abbrev mX2_takeClamp : g_MD := (yX2_takeClamp, cX2_takeClamp, 3, (some .boolean), 1, 2, 43, 0, 0)
abbrev mX2_isColumn : g_MD := (yX2_isColumn, cX2_isColumn, 2, (some .boolean), 1, 1, 22, 0, 0)
abbrev mX2_areTooNear : g_MD := (yX2_areTooNear, cX2_areTooNear, 2, (some .boolean), 2, 1, 22, 0, 0)
abbrev mX2_holeAt : g_MD := (yX2_holeAt, cX2_holeAt, 4, (some .int), 2, 1, 22, 0, 0)
abbrev mX2_isOfOneHole : g_MD := (yX2_isOfOneHole, cX2_isOfOneHole, 3, (some .boolean), 1, 1, 21, 0, 0)
abbrev mX2_turnsBetween : g_MD := (yX2_turnsBetween, cX2_turnsBetween, 4, (some .int), 2, 1, 21, 0, 0)
abbrev mX2_turnsThrough : g_MD := (yX2_turnsThrough, cX2_turnsThrough, 6, (some .int), 2, 1, 25, 0, 0)
abbrev mX2_downBeyond : g_MD := (yX2_downBeyond, cX2_downBeyond, 6, (some .int), 3, 0, 0, 0, 0)
abbrev mX3_init : g_MD := (yX3_init, cX3_init, 1, none, 0, 1, 12, 4, 70)
abbrev mX3_work : g_MD := (yX3_work, cX3_work, 5, none, 2, 4, 89, 0, 0)
abbrev mX3_weighWays : g_MD := (yX3_weighWays, cX3_weighWays, 7, none, 1, 2, 45, 0, 0)
abbrev mX3_triesSet : g_MD := (yX3_triesSet, cX3_triesSet, 6, (some .boolean), 3, 3, 64, 0, 0)
abbrev mX3_takeFirstFewest : g_MD := (yX3_takeFirstFewest, cX3_takeFirstFewest, 7, (some .int), 3, 0, 0, 0, 0)
abbrev mX3_isBetter : g_MD := (yX3_isBetter, cX3_isBetter, 4, (some .boolean), 2, 0, 0, 0, 0)
abbrev mX3_keepTried : g_MD := (yX3_keepTried, cX3_keepTried, 2, none, 1, 1, 26, 0, 0)
abbrev mX4_init : g_MD := (yX4_init, cX4_init, 1, none, 0, 1, 12, 1, 4)
abbrev mX4_firstFault : g_MD := (yX4_firstFault, cX4_firstFault, 5, (some .int), 2, 6, 130, 0, 0)
abbrev mX4_takesItem : g_MD := (yX4_takesItem, cX4_takesItem, 3, (some .boolean), 2, 5, 108, 0, 0)
abbrev mX4_takesWord : g_MD := (yX4_takesWord, cX4_takesWord, 4, (some .boolean), 2, 4, 85, 0, 0)
abbrev mX4_takesNumbers : g_MD := (yX4_takesNumbers, cX4_takesNumbers, 4, (some .boolean), 2, 2, 43, 0, 0)
abbrev mX4_takeNumber : g_MD := (yX4_takeNumber, cX4_takeNumber, 3, (some .int), 1, 1, 21, 0, 0)
abbrev mX4_isFigure : g_MD := (yX4_isFigure, cX4_isFigure, 1, (some .boolean), 1, 0, 0, 0, 0)
abbrev mX5_init : g_MD := (yX5_init, cX5_init, 1, none, 0, 1, 12, 3, 20)
abbrev mX5_begin : g_MD := (yX5_begin, cX5_begin, 2, none, 1, 1, 26, 0, 0)
abbrev mX5_copyFrom : g_MD := (yX5_copyFrom, cX5_copyFrom, 2, none, 1, 1, 26, 0, 0)
abbrev mX5_refusal : g_MD := (yX5_refusal, cX5_refusal, 5, (some .int), 4, 3, 64, 0, 0)
abbrev mX5_punch : g_MD := (yX5_punch, cX5_punch, 6, (some .int), 3, 2, 44, 0, 0)
abbrev mX5_isDull : g_MD := (yX5_isDull, cX5_isDull, 3, (some .boolean), 2, 0, 0, 0, 0)
abbrev mX5_uncutIn : g_MD := (yX5_uncutIn, cX5_uncutIn, 4, (some .int), 1, 1, 20, 0, 0)
abbrev mX5_isCut : g_MD := (yX5_isCut, cX5_isCut, 2, (some .boolean), 1, 2, 43, 0, 0)
abbrev mX5_isCellCut : g_MD := (yX5_isCellCut, cX5_isCellCut, 3, (some .boolean), 2, 0, 0, 0, 0)
abbrev mX5_cutCells : g_MD := (yX5_cutCells, cX5_cutCells, 3, (some .int), 0, 1, 20, 0, 0)
abbrev mX5_holesDone : g_MD := (yX5_holesDone, cX5_holesDone, 4, (some .int), 1, 3, 64, 0, 0)
abbrev mX5_clampAt : g_MD := (yX5_clampAt, cX5_clampAt, 5, (some .int), 3, 1, 22, 0, 0)
abbrev mX5_isTakenByOther : g_MD := (yX5_isTakenByOther, cX5_isTakenByOther, 5, (some .boolean), 3, 2, 43, 0, 0)
abbrev mX5_isClamped : g_MD := (yX5_isClamped, cX5_isClamped, 5, (some .boolean), 2, 1, 22, 0, 0)
abbrev mX6_init : g_MD := (yX6_init, cX6_init, 1, none, 0, 1, 12, 1, 200)
abbrev mX6_append : g_MD := (yX6_append, cX6_append, 2, (some .boolean), 1, 0, 0, 0, 0)
abbrev mX6_clear : g_MD := (yX6_clear, cX6_clear, 1, none, 0, 0, 0, 0, 0)
abbrev mX6_letterAt : g_MD := (yX6_letterAt, cX6_letterAt, 2, (some .char), 1, 0, 0, 0, 0)
abbrev mX7_init : g_MD := (yX7_init, cX7_init, 1, none, 0, 1, 12, 0, 0)
abbrev mX7_wideWhen : g_MD := (yX7_wideWhen, cX7_wideWhen, 2, (some .int), 1, 0, 0, 0, 0)
abbrev mX7_highWhen : g_MD := (yX7_highWhen, cX7_highWhen, 2, (some .int), 1, 0, 0, 0, 0)
abbrev mX7_stampAt : g_MD := (yX7_stampAt, cX7_stampAt, 5, none, 4, 1, 24, 0, 0)
abbrev mX7_hitsFor : g_MD := (yX7_hitsFor, cX7_hitsFor, 5, (some .int), 2, 1, 21, 0, 0)
abbrev mX8_init : g_MD := (yX8_init, cX8_init, 2, none, 0, 8, 175, 76, 651)
abbrev mX8_write : g_MD := (yX8_write, cX8_write, 2, (some .int), 1, 1, 21, 0, 0)
abbrev mX8_wipe : g_MD := (yX8_wipe, cX8_wipe, 2, (some .int), 0, 1, 20, 0, 0)
abbrev mX8_fault : g_MD := (yX8_fault, cX8_fault, 1, (some .int), 0, 7, 154, 0, 0)
abbrev mX8_lay : g_MD := (yX8_lay, cX8_lay, 1, (some .int), 0, 8, 175, 0, 0)
abbrev mX8_hit : g_MD := (yX8_hit, cX8_hit, 5, (some .int), 4, 4, 88, 0, 0)
abbrev mX8_why : g_MD := (yX8_why, cX8_why, 5, (some .int), 4, 4, 88, 0, 0)
abbrev mX8_nibble : g_MD := (yX8_nibble, cX8_nibble, 5, (some .int), 3, 5, 117, 0, 0)
abbrev mX8_clamp : g_MD := (yX8_clamp, cX8_clamp, 4, (some .int), 2, 3, 68, 0, 0)
abbrev mX8_sharpen : g_MD := (yX8_sharpen, cX8_sharpen, 3, (some .int), 1, 3, 68, 0, 0)
abbrev mX8_undo : g_MD := (yX8_undo, cX8_undo, 1, (some .int), 0, 3, 68, 0, 0)
abbrev mX8_station : g_MD := (yX8_station, cX8_station, 4, (some .int), 2, 2, 44, 0, 0)
abbrev mX8_hole : g_MD := (yX8_hole, cX8_hole, 4, (some .int), 2, 3, 64, 0, 0)
abbrev mX8_hits : g_MD := (yX8_hits, cX8_hits, 5, (some .int), 3, 2, 45, 0, 0)
abbrev mX8_cell : g_MD := (yX8_cell, cX8_cell, 4, (some .int), 3, 2, 46, 0, 0)
abbrev mX8_column : g_MD := (yX8_column, cX8_column, 2, (some .int), 1, 1, 21, 0, 0)
abbrev mX8_plan : g_MD := (yX8_plan, cX8_plan, 2, (some .int), 1, 5, 113, 0, 0)
abbrev mX8_drawn : g_MD := (yX8_drawn, cX8_drawn, 4, (some .int), 1, 3, 68, 0, 0)
abbrev mX8_count : g_MD := (yX8_count, cX8_count, 2, (some .int), 1, 4, 87, 0, 0)
abbrev mX8_layDraft : g_MD := (yX8_layDraft, cX8_layDraft, 2, (some .boolean), 0, 7, 154, 0, 0)
abbrev mX8_punchAll : g_MD := (yX8_punchAll, cX8_punchAll, 10, (some .int), 3, 4, 88, 0, 0)
abbrev mX8_signAt : g_MD := (yX8_signAt, cX8_signAt, 3, (some .char), 2, 2, 46, 0, 0)
abbrev mX8_isHitTold : g_MD := (yX8_isHitTold, cX8_isHitTold, 5, (some .boolean), 4, 1, 22, 0, 0)
abbrev mX8_isStation : g_MD := (yX8_isStation, cX8_isStation, 2, (some .boolean), 1, 0, 0, 0, 0)
abbrev mX8_isHole : g_MD := (yX8_isHole, cX8_isHole, 2, (some .boolean), 1, 0, 0, 0, 0)
abbrev mX8_isClamp : g_MD := (yX8_isClamp, cX8_isClamp, 2, (some .boolean), 1, 0, 0, 0, 0)
abbrev mX8_isFlag : g_MD := (yX8_isFlag, cX8_isFlag, 1, (some .boolean), 1, 0, 0, 0, 0)
abbrev mX8_asFlag : g_MD := (yX8_asFlag, cX8_asFlag, 1, (some .int), 1, 0, 0, 0, 0)
abbrev mX8_isWithin : g_MD := (yX8_isWithin, cX8_isWithin, 3, (some .boolean), 3, 0, 0, 0, 0)
abbrev mX8_stepsOver : g_MD := (yX8_stepsOver, cX8_stepsOver, 2, (some .int), 2, 0, 0, 0, 0)
abbrev mX9_init : g_MD := (yX9_init, cX9_init, 1, none, 0, 1, 27, 11, 1689)
abbrev mX9_adds : g_MD := (yX9_adds, cX9_adds, 8, none, 6, 0, 0, 0, 0)
abbrev mX9_anew : g_MD := (yX9_anew, cX9_anew, 2, none, 0, 0, 0, 0, 0)
abbrev mX9_in : g_MD := (yX9_in, cX9_in, 6, (some .boolean), 3, 0, 0, 0, 0)
abbrev mX9_write : g_MD := (yX9_write, cX9_write, 2, (some .int), 1, 1, 25, 0, 0)
abbrev mX9_wipe : g_MD := (yX9_wipe, cX9_wipe, 2, (some .int), 0, 0, 0, 0, 0)
abbrev mX9_byteAt : g_MD := (yX9_byteAt, cX9_byteAt, 2, (some .int), 1, 0, 0, 0, 0)
abbrev mX9_number : g_MD := (yX9_number, cX9_number, 7, (some .boolean), 4, 1, 25, 0, 0)
abbrev mX9_word : g_MD := (yX9_word, cX9_word, 5, (some .boolean), 2, 1, 21, 0, 0)
abbrev mX9_word5 : g_MD := (yX9_word5, cX9_word5, 5, (some .long), 5, 0, 0, 0, 0)
abbrev mX9_word4 : g_MD := (yX9_word4, cX9_word4, 4, (some .long), 4, 0, 0, 0, 0)
abbrev mX9_isApart : g_MD := (yX9_isApart, cX9_isApart, 5, (some .boolean), 2, 0, 0, 0, 0)
abbrev mX9_holeItem : g_MD := (yX9_holeItem, cX9_holeItem, 5, (some .boolean), 0, 2, 51, 0, 0)
abbrev mX9_item : g_MD := (yX9_item, cX9_item, 2, (some .boolean), 0, 3, 75, 0, 0)
abbrev mX9_fault : g_MD := (yX9_fault, cX9_fault, 2, (some .int), 0, 4, 96, 0, 0)
abbrev mX9_lay : g_MD := (yX9_lay, cX9_lay, 2, (some .int), 0, 5, 117, 0, 0)
abbrev mX9_note : g_MD := (yX9_note, cX9_note, 2, none, 0, 0, 0, 0, 0)
abbrev mX9_takesBack : g_MD := (yX9_takesBack, cX9_takesBack, 2, none, 0, 0, 0, 0, 0)
abbrev mX9_undo : g_MD := (yX9_undo, cX9_undo, 1, (some .int), 0, 1, 21, 0, 0)
abbrev mX9_isCell : g_MD := (yX9_isCell, cX9_isCell, 3, (some .boolean), 2, 1, 25, 0, 0)
abbrev mX9_isStation : g_MD := (yX9_isStation, cX9_isStation, 2, (some .boolean), 1, 1, 25, 0, 0)
abbrev mX9_isHole : g_MD := (yX9_isHole, cX9_isHole, 2, (some .boolean), 1, 1, 25, 0, 0)
abbrev mX9_holeAt : g_MD := (yX9_holeAt, cX9_holeAt, 5, (some .int), 2, 1, 25, 0, 0)
abbrev mX9_clampAt : g_MD := (yX9_clampAt, cX9_clampAt, 4, (some .int), 2, 1, 25, 0, 0)
abbrev mX9_wide : g_MD := (yX9_wide, cX9_wide, 3, (some .int), 2, 0, 0, 0, 0)
abbrev mX9_high : g_MD := (yX9_high, cX9_high, 3, (some .int), 2, 0, 0, 0, 0)
abbrev mX9_isDull : g_MD := (yX9_isDull, cX9_isDull, 2, (some .boolean), 1, 0, 0, 0, 0)
abbrev mX9_ring : g_MD := (yX9_ring, cX9_ring, 4, (some .int), 2, 0, 0, 0, 0)
abbrev mX9_whyNot : g_MD := (yX9_whyNot, cX9_whyNot, 14, (some .int), 4, 2, 49, 0, 0)
abbrev mX9_why : g_MD := (yX9_why, cX9_why, 5, (some .int), 4, 3, 82, 0, 0)
abbrev mX9_strikes : g_MD := (yX9_strikes, cX9_strikes, 9, (some .int), 4, 1, 23, 0, 0)
abbrev mX9_hit : g_MD := (yX9_hit, cX9_hit, 6, (some .int), 4, 4, 106, 0, 0)
abbrev mX9_open : g_MD := (yX9_open, cX9_open, 4, (some .int), 1, 2, 49, 0, 0)
abbrev mX9_parts : g_MD := (yX9_parts, cX9_parts, 2, (some .int), 2, 0, 0, 0, 0)
abbrev mX9_nibbles : g_MD := (yX9_nibbles, cX9_nibbles, 8, (some .int), 3, 1, 22, 0, 0)
abbrev mX9_isCut : g_MD := (yX9_isCut, cX9_isCut, 8, (some .boolean), 4, 1, 22, 0, 0)
abbrev mX9_nibble : g_MD := (yX9_nibble, cX9_nibble, 15, (some .int), 3, 3, 82, 0, 0)
abbrev mX9_swaps : g_MD := (yX9_swaps, cX9_swaps, 3, none, 0, 0, 0, 0, 0)
abbrev mX9_clamp : g_MD := (yX9_clamp, cX9_clamp, 5, (some .int), 2, 1, 25, 0, 0)
abbrev mX9_sharpen : g_MD := (yX9_sharpen, cX9_sharpen, 3, (some .int), 1, 2, 46, 0, 0)
abbrev mX9_station : g_MD := (yX9_station, cX9_station, 3, (some .int), 2, 2, 46, 0, 0)
abbrev mX9_hole : g_MD := (yX9_hole, cX9_hole, 3, (some .int), 2, 3, 72, 0, 0)
abbrev mX9_hits : g_MD := (yX9_hits, cX9_hits, 4, (some .int), 3, 2, 49, 0, 0)
abbrev mX9_cell : g_MD := (yX9_cell, cX9_cell, 4, (some .int), 3, 2, 49, 0, 0)
abbrev mX9_column : g_MD := (yX9_column, cX9_column, 2, (some .int), 1, 1, 25, 0, 0)
abbrev mX9_round : g_MD := (yX9_round, cX9_round, 8, (some .int), 1, 0, 0, 0, 0)
abbrev mX9_plans : g_MD := (yX9_plans, cX9_plans, 12, (some .boolean), 0, 3, 72, 0, 0)
abbrev mX9_looks : g_MD := (yX9_looks, cX9_looks, 3, none, 0, 3, 72, 0, 0)
abbrev mX9_plan : g_MD := (yX9_plan, cX9_plan, 2, (some .int), 1, 4, 103, 0, 0)
abbrev mX9_drawn : g_MD := (yX9_drawn, cX9_drawn, 5, (some .int), 1, 2, 49, 0, 0)
abbrev mX9_count : g_MD := (yX9_count, cX9_count, 5, (some .int), 1, 3, 72, 0, 0)
abbrev mJ6_bitCount_0f7a4 : g_MD := (yJ6_bitCount_0f7a4, cJ6_bitCount_0f7a4, 1, (some .int), 1, 0, 0, 0, 0)
abbrev mJ9_abs_0f7a4 : g_MD := (yJ9_abs_0f7a4, cJ9_abs_0f7a4, 1, (some .int), 1, 0, 0, 0, 0)
abbrev mJ9_min_7cf53 : g_MD := (yJ9_min_7cf53, cJ9_min_7cf53, 2, (some .int), 2, 0, 0, 0, 0)
abbrev mJ0_length_8abf5 : g_MD := (yJ0_length_8abf5, cJ0_length_8abf5, 1, (some .int), 0, 1, 20, 0, 0)
abbrev mJ0_charAt_5068e : g_MD := (yJ0_charAt_5068e, cJ0_charAt_5068e, 2, (some .char), 1, 3, 64, 0, 0)
abbrev mJ0_coder_7d493 : g_MD := (yJ0_coder_7d493, cJ0_coder_7d493, 1, (some .byte), 0, 0, 0, 0, 0)
abbrev mJ0_isLatin1_aae02 : g_MD := (yJ0_isLatin1_aae02, cJ0_isLatin1_aae02, 1, (some .boolean), 0, 0, 0, 0, 0)
abbrev mJ0_checkIndex_df160 : g_MD := (yJ0_checkIndex_df160, cJ0_checkIndex_df160, 2, none, 2, 1, 22, 0, 0)
abbrev mJ1_charAt_3b067 : g_MD := (yJ1_charAt_3b067, cJ1_charAt_3b067, 2, (some .char), 2, 2, 43, 0, 0)
abbrev mJ7_fill_53178 : g_MD := (yJ7_fill_53178, cJ7_fill_53178, 4, none, 2, 0, 0, 0, 0)
abbrev mJ3_checkIndex_8e157 : g_MD := (yJ3_checkIndex_8e157, cJ3_checkIndex_8e157, 3, (some .int), 3, 0, 0, 0, 0)
abbrev mL_law : g_MD := (yL_law, cL_law, 4, (some .boolean), 1, 12, 434, 600000, 7302250)
/-- a field's link: class number ci, its place k -/
def g_FL (own : String) (idx ci k : Nat) : Prop := ∃ (C : String) (F : u_T) (n : Nat), vwCl[ci]? = some (C, F, n) ∧ k < n ∧ Cond.fieldLink own idx (F k).1 (F k).2.1 (F k).2.2.1 ∈ gTb ∧ ∀ w ∈ u_ws C F n, w ∈ gTb
/-- a field that may be written: its type, final or not -/
def g_FP (own : String) (idx ci k : Nat) (ty : FieldType) (fin : Bool) : Prop := ∃ (C : String) (F : u_T) (n : Nat) (ty0 : Nat → FieldType), vwCl[ci]? = some (C, F, n) ∧ k < n ∧ Cond.fieldLink own idx (F k).1 (F k).2.1 (F k).2.2.1 ∈ gTb ∧ (∀ w ∈ u_ws C F n, w ∈ gTb) ∧ (∀ k, k < n → parseFieldDescriptor (F k).2.2.1 = some (ty0 k)) ∧ (∀ a, a < n → ∀ b, b < n → a ≠ b → (F a).2.1 ≠ (F b).2.1) ∧ (F k).2.2.2 = fin ∧ parseFieldDescriptor (F k).2.2.1 = some ty ∧ (fin = true → (F k).1 = own)
/-- what the tables say of a method -/
def g_MO (M : g_MD) : Prop := Cond.code M.1 M.2.1 M.2.2.1 M.2.2.2.1 ∈ gTb ∧ Cond.initialized M.1.cls ∈ gTb ∧ plainName M.1.cls = true ∧ (M.1.cls ≠ "java/lang/invoke/MethodHandle" ∧ M.1.cls ≠ "java/lang/invoke/VarHandle") ∧ (parseMethodDescriptor M.1.desc).map (fun d => d.parameters.length) = some M.2.2.2.2.1
def g_MI (M : g_MD) : Prop := g_MO M ∧ Cond.instanceMethod M.1 ∈ gTb ∧ Cond.selects M.1.cls M.1 M.1 ∈ gTb
def g_MS (M : g_MD) : Prop := g_MO M ∧ Cond.static M.1 ∈ gTb
def g_MN (M : g_MD) : Prop := g_MO M ∧ Cond.instanceMethod M.1 ∈ gTb ∧ M.1.name = "<init>"
/-- a call's link, and the room that the called one wants -/
def g_LK (M M' : g_MD) (idx : Nat) : Prop := Cond.methodLink M.1.cls idx M'.1 ∈ gTb ∧ M'.2.2.2.2.2.1 + 1 ≤ M.2.2.2.2.2.1 ∧ 8 + (M'.2.2.1 + 11) + M'.2.2.2.2.2.2.1 ≤ M.2.2.2.2.2.2.1
def g_LN (M M' : g_MD) (idx : Nat) : Prop := (∃ host, Cond.methodLinkNest M.1.cls idx M'.1 host ∈ gTb) ∧ M'.2.2.2.2.2.1 + 1 ≤ M.2.2.2.2.2.1 ∧ 8 + (M'.2.2.1 + 11) + M'.2.2.2.2.2.2.1 ≤ M.2.2.2.2.2.2.1
theorem flX6_9 : g_FL RX6 9 6 0 := ⟨RX6, TX6, 2, rfl, by decide, g_tb 33 (by decide +kernel) (by decide +kernel), g_in6⟩
theorem fpX6_9 : g_FP RX6 9 6 0 (.array .char) true := ⟨RX6, TX6, 2, tyX6, rfl, by decide, g_tb 33 (by decide +kernel) (by decide +kernel), g_in6, tyX6_ok, nmX6, rfl, by decide +kernel, fun _ => rfl⟩
theorem flX6_15 : g_FL RX6 15 6 1 := ⟨RX6, TX6, 2, rfl, by decide, g_tb 34 (by decide +kernel) (by decide +kernel), g_in6⟩
theorem fpX6_15 : g_FP RX6 15 6 1 .int false := ⟨RX6, TX6, 2, tyX6, rfl, by decide, g_tb 34 (by decide +kernel) (by decide +kernel), g_in6, tyX6_ok, nmX6, rfl, by decide +kernel, fun h => by cases h⟩
theorem flX4_24 : g_FL RX4 24 6 1 := ⟨RX6, TX6, 2, rfl, by decide, g_tb 35 (by decide +kernel) (by decide +kernel), g_in6⟩
theorem fpX4_24 : g_FP RX4 24 6 1 .int false := ⟨RX6, TX6, 2, tyX6, rfl, by decide, g_tb 35 (by decide +kernel) (by decide +kernel), g_in6, tyX6_ok, nmX6, rfl, by decide +kernel, fun h => by cases h⟩
theorem flX8_87 : g_FL RX8 87 6 1 := ⟨RX6, TX6, 2, rfl, by decide, g_tb 36 (by decide +kernel) (by decide +kernel), g_in6⟩
theorem fpX8_87 : g_FP RX8 87 6 1 .int false := ⟨RX6, TX6, 2, tyX6, rfl, by decide, g_tb 36 (by decide +kernel) (by decide +kernel), g_in6, tyX6_ok, nmX6, rfl, by decide +kernel, fun h => by cases h⟩
theorem flX4_9 : g_FL RX4 9 4 0 := ⟨RX4, TX4, 2, rfl, by decide, g_tb 49 (by decide +kernel) (by decide +kernel), g_in4⟩
theorem fpX4_9 : g_FP RX4 9 4 0 (.array .int) true := ⟨RX4, TX4, 2, tyX4, rfl, by decide, g_tb 49 (by decide +kernel) (by decide +kernel), g_in4, tyX4_ok, nmX4, rfl, by decide +kernel, fun _ => rfl⟩
theorem flX4_20 : g_FL RX4 20 4 1 := ⟨RX4, TX4, 2, rfl, by decide, g_tb 50 (by decide +kernel) (by decide +kernel), g_in4⟩
theorem fpX4_20 : g_FP RX4 20 4 1 .int false := ⟨RX4, TX4, 2, tyX4, rfl, by decide, g_tb 50 (by decide +kernel) (by decide +kernel), g_in4, tyX4_ok, nmX4, rfl, by decide +kernel, fun h => by cases h⟩
theorem flX5_9 : g_FL RX5 9 5 0 := ⟨RX5, TX5, 7, rfl, by decide, g_tb 63 (by decide +kernel) (by decide +kernel), g_in5⟩
theorem fpX5_9 : g_FP RX5 9 5 0 (.array .int) true := ⟨RX5, TX5, 7, tyX5, rfl, by decide, g_tb 63 (by decide +kernel) (by decide +kernel), g_in5, tyX5_ok, nmX5, rfl, by decide +kernel, fun _ => rfl⟩
theorem flX5_15 : g_FL RX5 15 5 1 := ⟨RX5, TX5, 7, rfl, by decide, g_tb 64 (by decide +kernel) (by decide +kernel), g_in5⟩
theorem fpX5_15 : g_FP RX5 15 5 1 (.array .int) true := ⟨RX5, TX5, 7, tyX5, rfl, by decide, g_tb 64 (by decide +kernel) (by decide +kernel), g_in5, tyX5_ok, nmX5, rfl, by decide +kernel, fun _ => rfl⟩
theorem flX8_165 : g_FL RX8 165 5 1 := ⟨RX5, TX5, 7, rfl, by decide, g_tb 65 (by decide +kernel) (by decide +kernel), g_in5⟩
theorem flX5_18 : g_FL RX5 18 5 2 := ⟨RX5, TX5, 7, rfl, by decide, g_tb 66 (by decide +kernel) (by decide +kernel), g_in5⟩
theorem fpX5_18 : g_FP RX5 18 5 2 (.array .int) true := ⟨RX5, TX5, 7, tyX5, rfl, by decide, g_tb 66 (by decide +kernel) (by decide +kernel), g_in5, tyX5_ok, nmX5, rfl, by decide +kernel, fun _ => rfl⟩
theorem flX8_154 : g_FL RX8 154 5 2 := ⟨RX5, TX5, 7, rfl, by decide, g_tb 67 (by decide +kernel) (by decide +kernel), g_in5⟩
theorem flX5_36 : g_FL RX5 36 5 3 := ⟨RX5, TX5, 7, rfl, by decide, g_tb 68 (by decide +kernel) (by decide +kernel), g_in5⟩
theorem fpX5_36 : g_FP RX5 36 5 3 .int false := ⟨RX5, TX5, 7, tyX5, rfl, by decide, g_tb 68 (by decide +kernel) (by decide +kernel), g_in5, tyX5_ok, nmX5, rfl, by decide +kernel, fun h => by cases h⟩
theorem flX3_42 : g_FL RX3 42 5 3 := ⟨RX5, TX5, 7, rfl, by decide, g_tb 69 (by decide +kernel) (by decide +kernel), g_in5⟩
theorem fpX3_42 : g_FP RX3 42 5 3 .int false := ⟨RX5, TX5, 7, tyX5, rfl, by decide, g_tb 69 (by decide +kernel) (by decide +kernel), g_in5, tyX5_ok, nmX5, rfl, by decide +kernel, fun h => by cases h⟩
theorem flX8_196 : g_FL RX8 196 5 3 := ⟨RX5, TX5, 7, rfl, by decide, g_tb 70 (by decide +kernel) (by decide +kernel), g_in5⟩
theorem fpX8_196 : g_FP RX8 196 5 3 .int false := ⟨RX5, TX5, 7, tyX5, rfl, by decide, g_tb 70 (by decide +kernel) (by decide +kernel), g_in5, tyX5_ok, nmX5, rfl, by decide +kernel, fun h => by cases h⟩
theorem flX5_40 : g_FL RX5 40 5 4 := ⟨RX5, TX5, 7, rfl, by decide, g_tb 71 (by decide +kernel) (by decide +kernel), g_in5⟩
theorem fpX5_40 : g_FP RX5 40 5 4 .int false := ⟨RX5, TX5, 7, tyX5, rfl, by decide, g_tb 71 (by decide +kernel) (by decide +kernel), g_in5, tyX5_ok, nmX5, rfl, by decide +kernel, fun h => by cases h⟩
theorem flX8_262 : g_FL RX8 262 5 4 := ⟨RX5, TX5, 7, rfl, by decide, g_tb 72 (by decide +kernel) (by decide +kernel), g_in5⟩
theorem fpX8_262 : g_FP RX8 262 5 4 .int false := ⟨RX5, TX5, 7, tyX5, rfl, by decide, g_tb 72 (by decide +kernel) (by decide +kernel), g_in5, tyX5_ok, nmX5, rfl, by decide +kernel, fun h => by cases h⟩
theorem flX5_43 : g_FL RX5 43 5 5 := ⟨RX5, TX5, 7, rfl, by decide, g_tb 73 (by decide +kernel) (by decide +kernel), g_in5⟩
theorem fpX5_43 : g_FP RX5 43 5 5 .int false := ⟨RX5, TX5, 7, tyX5, rfl, by decide, g_tb 73 (by decide +kernel) (by decide +kernel), g_in5, tyX5_ok, nmX5, rfl, by decide +kernel, fun h => by cases h⟩
theorem flX8_265 : g_FL RX8 265 5 5 := ⟨RX5, TX5, 7, rfl, by decide, g_tb 74 (by decide +kernel) (by decide +kernel), g_in5⟩
theorem fpX8_265 : g_FP RX8 265 5 5 .int false := ⟨RX5, TX5, 7, tyX5, rfl, by decide, g_tb 74 (by decide +kernel) (by decide +kernel), g_in5, tyX5_ok, nmX5, rfl, by decide +kernel, fun h => by cases h⟩
theorem flX5_46 : g_FL RX5 46 5 6 := ⟨RX5, TX5, 7, rfl, by decide, g_tb 75 (by decide +kernel) (by decide +kernel), g_in5⟩
theorem fpX5_46 : g_FP RX5 46 5 6 .int false := ⟨RX5, TX5, 7, tyX5, rfl, by decide, g_tb 75 (by decide +kernel) (by decide +kernel), g_in5, tyX5_ok, nmX5, rfl, by decide +kernel, fun h => by cases h⟩
theorem flX8_162 : g_FL RX8 162 5 6 := ⟨RX5, TX5, 7, rfl, by decide, g_tb 76 (by decide +kernel) (by decide +kernel), g_in5⟩
theorem fpX8_162 : g_FP RX8 162 5 6 .int false := ⟨RX5, TX5, 7, tyX5, rfl, by decide, g_tb 76 (by decide +kernel) (by decide +kernel), g_in5, tyX5_ok, nmX5, rfl, by decide +kernel, fun h => by cases h⟩
theorem flX1_11 : g_FL RX1 11 1 0 := ⟨RX1, TX1, 3, rfl, by decide, g_tb 101 (by decide +kernel) (by decide +kernel), g_in1⟩
theorem fpX1_11 : g_FP RX1 11 1 0 (.array (.object "TurretPunch$State")) true := ⟨RX1, TX1, 3, tyX1, rfl, by decide, g_tb 101 (by decide +kernel) (by decide +kernel), g_in1, tyX1_ok, nmX1, rfl, by decide +kernel, fun _ => rfl⟩
theorem flX1_22 : g_FL RX1 22 1 1 := ⟨RX1, TX1, 3, rfl, by decide, g_tb 102 (by decide +kernel) (by decide +kernel), g_in1⟩
theorem fpX1_22 : g_FP RX1 22 1 1 .int false := ⟨RX1, TX1, 3, tyX1, rfl, by decide, g_tb 102 (by decide +kernel) (by decide +kernel), g_in1, tyX1_ok, nmX1, rfl, by decide +kernel, fun h => by cases h⟩
theorem flX1_18 : g_FL RX1 18 1 2 := ⟨RX1, TX1, 3, rfl, by decide, g_tb 103 (by decide +kernel) (by decide +kernel), g_in1⟩
theorem fpX1_18 : g_FP RX1 18 1 2 .int false := ⟨RX1, TX1, 3, tyX1, rfl, by decide, g_tb 103 (by decide +kernel) (by decide +kernel), g_in1, tyX1_ok, nmX1, rfl, by decide +kernel, fun h => by cases h⟩
theorem flX8_172 : g_FL RX8 172 1 2 := ⟨RX1, TX1, 3, rfl, by decide, g_tb 104 (by decide +kernel) (by decide +kernel), g_in1⟩
theorem fpX8_172 : g_FP RX8 172 1 2 .int false := ⟨RX1, TX1, 3, tyX1, rfl, by decide, g_tb 104 (by decide +kernel) (by decide +kernel), g_in1, tyX1_ok, nmX1, rfl, by decide +kernel, fun h => by cases h⟩
theorem flX3_9 : g_FL RX3 9 3 0 := ⟨RX3, TX3, 8, rfl, by decide, g_tb 118 (by decide +kernel) (by decide +kernel), g_in3⟩
theorem fpX3_9 : g_FP RX3 9 3 0 (.array .int) true := ⟨RX3, TX3, 8, tyX3, rfl, by decide, g_tb 118 (by decide +kernel) (by decide +kernel), g_in3, tyX3_ok, nmX3, rfl, by decide +kernel, fun _ => rfl⟩
theorem flX3_15 : g_FL RX3 15 3 1 := ⟨RX3, TX3, 8, rfl, by decide, g_tb 119 (by decide +kernel) (by decide +kernel), g_in3⟩
theorem fpX3_15 : g_FP RX3 15 3 1 (.array .int) true := ⟨RX3, TX3, 8, tyX3, rfl, by decide, g_tb 119 (by decide +kernel) (by decide +kernel), g_in3, tyX3_ok, nmX3, rfl, by decide +kernel, fun _ => rfl⟩
theorem flX3_18 : g_FL RX3 18 3 2 := ⟨RX3, TX3, 8, rfl, by decide, g_tb 120 (by decide +kernel) (by decide +kernel), g_in3⟩
theorem fpX3_18 : g_FP RX3 18 3 2 (.array .int) true := ⟨RX3, TX3, 8, tyX3, rfl, by decide, g_tb 120 (by decide +kernel) (by decide +kernel), g_in3, tyX3_ok, nmX3, rfl, by decide +kernel, fun _ => rfl⟩
theorem flX3_80 : g_FL RX3 80 3 3 := ⟨RX3, TX3, 8, rfl, by decide, g_tb 121 (by decide +kernel) (by decide +kernel), g_in3⟩
theorem fpX3_80 : g_FP RX3 80 3 3 .int false := ⟨RX3, TX3, 8, tyX3, rfl, by decide, g_tb 121 (by decide +kernel) (by decide +kernel), g_in3, tyX3_ok, nmX3, rfl, by decide +kernel, fun h => by cases h⟩
theorem flX3_21 : g_FL RX3 21 3 4 := ⟨RX3, TX3, 8, rfl, by decide, g_tb 122 (by decide +kernel) (by decide +kernel), g_in3⟩
theorem fpX3_21 : g_FP RX3 21 3 4 (.array .int) true := ⟨RX3, TX3, 8, tyX3, rfl, by decide, g_tb 122 (by decide +kernel) (by decide +kernel), g_in3, tyX3_ok, nmX3, rfl, by decide +kernel, fun _ => rfl⟩
theorem flX8_249 : g_FL RX8 249 3 4 := ⟨RX3, TX3, 8, rfl, by decide, g_tb 123 (by decide +kernel) (by decide +kernel), g_in3⟩
theorem flX3_91 : g_FL RX3 91 3 5 := ⟨RX3, TX3, 8, rfl, by decide, g_tb 124 (by decide +kernel) (by decide +kernel), g_in3⟩
theorem fpX3_91 : g_FP RX3 91 3 5 .int false := ⟨RX3, TX3, 8, tyX3, rfl, by decide, g_tb 124 (by decide +kernel) (by decide +kernel), g_in3, tyX3_ok, nmX3, rfl, by decide +kernel, fun h => by cases h⟩
theorem flX8_243 : g_FL RX8 243 3 5 := ⟨RX3, TX3, 8, rfl, by decide, g_tb 125 (by decide +kernel) (by decide +kernel), g_in3⟩
theorem fpX8_243 : g_FP RX8 243 3 5 .int false := ⟨RX3, TX3, 8, tyX3, rfl, by decide, g_tb 125 (by decide +kernel) (by decide +kernel), g_in3, tyX3_ok, nmX3, rfl, by decide +kernel, fun h => by cases h⟩
theorem flX3_94 : g_FL RX3 94 3 6 := ⟨RX3, TX3, 8, rfl, by decide, g_tb 126 (by decide +kernel) (by decide +kernel), g_in3⟩
theorem fpX3_94 : g_FP RX3 94 3 6 .int false := ⟨RX3, TX3, 8, tyX3, rfl, by decide, g_tb 126 (by decide +kernel) (by decide +kernel), g_in3, tyX3_ok, nmX3, rfl, by decide +kernel, fun h => by cases h⟩
theorem flX8_246 : g_FL RX8 246 3 6 := ⟨RX3, TX3, 8, rfl, by decide, g_tb 127 (by decide +kernel) (by decide +kernel), g_in3⟩
theorem fpX8_246 : g_FP RX8 246 3 6 .int false := ⟨RX3, TX3, 8, tyX3, rfl, by decide, g_tb 127 (by decide +kernel) (by decide +kernel), g_in3, tyX3_ok, nmX3, rfl, by decide +kernel, fun h => by cases h⟩
theorem flX3_24 : g_FL RX3 24 3 7 := ⟨RX3, TX3, 8, rfl, by decide, g_tb 128 (by decide +kernel) (by decide +kernel), g_in3⟩
theorem fpX3_24 : g_FP RX3 24 3 7 .boolean false := ⟨RX3, TX3, 8, tyX3, rfl, by decide, g_tb 128 (by decide +kernel) (by decide +kernel), g_in3, tyX3_ok, nmX3, rfl, by decide +kernel, fun h => by cases h⟩
theorem flX8_240 : g_FL RX8 240 3 7 := ⟨RX3, TX3, 8, rfl, by decide, g_tb 129 (by decide +kernel) (by decide +kernel), g_in3⟩
theorem fpX8_240 : g_FP RX8 240 3 7 .boolean false := ⟨RX3, TX3, 8, tyX3, rfl, by decide, g_tb 129 (by decide +kernel) (by decide +kernel), g_in3, tyX3_ok, nmX3, rfl, by decide +kernel, fun h => by cases h⟩
theorem flX0_7 : g_FL RX0 7 0 0 := ⟨RX0, TX0, 4, rfl, by decide, g_tb 153 (by decide +kernel) (by decide +kernel), g_in0⟩
theorem fpX0_7 : g_FP RX0 7 0 0 .int false := ⟨RX0, TX0, 4, tyX0, rfl, by decide, g_tb 153 (by decide +kernel) (by decide +kernel), g_in0, tyX0_ok, nmX0, rfl, by decide +kernel, fun h => by cases h⟩
theorem flX8_203 : g_FL RX8 203 0 0 := ⟨RX0, TX0, 4, rfl, by decide, g_tb 154 (by decide +kernel) (by decide +kernel), g_in0⟩
theorem fpX8_203 : g_FP RX8 203 0 0 .int false := ⟨RX0, TX0, 4, tyX0, rfl, by decide, g_tb 154 (by decide +kernel) (by decide +kernel), g_in0, tyX0_ok, nmX0, rfl, by decide +kernel, fun h => by cases h⟩
theorem flX0_13 : g_FL RX0 13 0 1 := ⟨RX0, TX0, 4, rfl, by decide, g_tb 155 (by decide +kernel) (by decide +kernel), g_in0⟩
theorem fpX0_13 : g_FP RX0 13 0 1 .int false := ⟨RX0, TX0, 4, tyX0, rfl, by decide, g_tb 155 (by decide +kernel) (by decide +kernel), g_in0, tyX0_ok, nmX0, rfl, by decide +kernel, fun h => by cases h⟩
theorem flX5_87 : g_FL RX5 87 0 1 := ⟨RX0, TX0, 4, rfl, by decide, g_tb 156 (by decide +kernel) (by decide +kernel), g_in0⟩
theorem fpX5_87 : g_FP RX5 87 0 1 .int false := ⟨RX0, TX0, 4, tyX0, rfl, by decide, g_tb 156 (by decide +kernel) (by decide +kernel), g_in0, tyX0_ok, nmX0, rfl, by decide +kernel, fun h => by cases h⟩
theorem flX8_206 : g_FL RX8 206 0 1 := ⟨RX0, TX0, 4, rfl, by decide, g_tb 157 (by decide +kernel) (by decide +kernel), g_in0⟩
theorem fpX8_206 : g_FP RX8 206 0 1 .int false := ⟨RX0, TX0, 4, tyX0, rfl, by decide, g_tb 157 (by decide +kernel) (by decide +kernel), g_in0, tyX0_ok, nmX0, rfl, by decide +kernel, fun h => by cases h⟩
theorem flX0_16 : g_FL RX0 16 0 2 := ⟨RX0, TX0, 4, rfl, by decide, g_tb 158 (by decide +kernel) (by decide +kernel), g_in0⟩
theorem fpX0_16 : g_FP RX0 16 0 2 .int false := ⟨RX0, TX0, 4, tyX0, rfl, by decide, g_tb 158 (by decide +kernel) (by decide +kernel), g_in0, tyX0_ok, nmX0, rfl, by decide +kernel, fun h => by cases h⟩
theorem flX2_47 : g_FL RX2 47 0 2 := ⟨RX0, TX0, 4, rfl, by decide, g_tb 159 (by decide +kernel) (by decide +kernel), g_in0⟩
theorem fpX2_47 : g_FP RX2 47 0 2 .int false := ⟨RX0, TX0, 4, tyX0, rfl, by decide, g_tb 159 (by decide +kernel) (by decide +kernel), g_in0, tyX0_ok, nmX0, rfl, by decide +kernel, fun h => by cases h⟩
theorem flX7_33 : g_FL RX7 33 0 2 := ⟨RX0, TX0, 4, rfl, by decide, g_tb 160 (by decide +kernel) (by decide +kernel), g_in0⟩
theorem fpX7_33 : g_FP RX7 33 0 2 .int false := ⟨RX0, TX0, 4, tyX0, rfl, by decide, g_tb 160 (by decide +kernel) (by decide +kernel), g_in0, tyX0_ok, nmX0, rfl, by decide +kernel, fun h => by cases h⟩
theorem flX8_209 : g_FL RX8 209 0 2 := ⟨RX0, TX0, 4, rfl, by decide, g_tb 161 (by decide +kernel) (by decide +kernel), g_in0⟩
theorem fpX8_209 : g_FP RX8 209 0 2 .int false := ⟨RX0, TX0, 4, tyX0, rfl, by decide, g_tb 161 (by decide +kernel) (by decide +kernel), g_in0, tyX0_ok, nmX0, rfl, by decide +kernel, fun h => by cases h⟩
theorem flX0_19 : g_FL RX0 19 0 3 := ⟨RX0, TX0, 4, rfl, by decide, g_tb 162 (by decide +kernel) (by decide +kernel), g_in0⟩
theorem fpX0_19 : g_FP RX0 19 0 3 .int false := ⟨RX0, TX0, 4, tyX0, rfl, by decide, g_tb 162 (by decide +kernel) (by decide +kernel), g_in0, tyX0_ok, nmX0, rfl, by decide +kernel, fun h => by cases h⟩
theorem flX5_90 : g_FL RX5 90 0 3 := ⟨RX0, TX0, 4, rfl, by decide, g_tb 163 (by decide +kernel) (by decide +kernel), g_in0⟩
theorem fpX5_90 : g_FP RX5 90 0 3 .int false := ⟨RX0, TX0, 4, tyX0, rfl, by decide, g_tb 163 (by decide +kernel) (by decide +kernel), g_in0, tyX0_ok, nmX0, rfl, by decide +kernel, fun h => by cases h⟩
theorem flX7_34 : g_FL RX7 34 0 3 := ⟨RX0, TX0, 4, rfl, by decide, g_tb 164 (by decide +kernel) (by decide +kernel), g_in0⟩
theorem fpX7_34 : g_FP RX7 34 0 3 .int false := ⟨RX0, TX0, 4, tyX0, rfl, by decide, g_tb 164 (by decide +kernel) (by decide +kernel), g_in0, tyX0_ok, nmX0, rfl, by decide +kernel, fun h => by cases h⟩
theorem flX8_210 : g_FL RX8 210 0 3 := ⟨RX0, TX0, 4, rfl, by decide, g_tb 165 (by decide +kernel) (by decide +kernel), g_in0⟩
theorem fpX8_210 : g_FP RX8 210 0 3 .int false := ⟨RX0, TX0, 4, tyX0, rfl, by decide, g_tb 165 (by decide +kernel) (by decide +kernel), g_in0, tyX0_ok, nmX0, rfl, by decide +kernel, fun h => by cases h⟩
theorem flX7_13 : g_FL RX7 13 7 0 := ⟨RX7, TX7, 4, rfl, by decide, g_tb 191 (by decide +kernel) (by decide +kernel), g_in7⟩
theorem fpX7_13 : g_FP RX7 13 7 0 .int false := ⟨RX7, TX7, 4, tyX7, rfl, by decide, g_tb 191 (by decide +kernel) (by decide +kernel), g_in7, tyX7_ok, nmX7, rfl, by decide +kernel, fun h => by cases h⟩
theorem flX2_62 : g_FL RX2 62 7 0 := ⟨RX7, TX7, 4, rfl, by decide, g_tb 192 (by decide +kernel) (by decide +kernel), g_in7⟩
theorem fpX2_62 : g_FP RX2 62 7 0 .int false := ⟨RX7, TX7, 4, tyX7, rfl, by decide, g_tb 192 (by decide +kernel) (by decide +kernel), g_in7, tyX7_ok, nmX7, rfl, by decide +kernel, fun h => by cases h⟩
theorem flX8_175 : g_FL RX8 175 7 0 := ⟨RX7, TX7, 4, rfl, by decide, g_tb 193 (by decide +kernel) (by decide +kernel), g_in7⟩
theorem fpX8_175 : g_FP RX8 175 7 0 .int false := ⟨RX7, TX7, 4, tyX7, rfl, by decide, g_tb 193 (by decide +kernel) (by decide +kernel), g_in7, tyX7_ok, nmX7, rfl, by decide +kernel, fun h => by cases h⟩
theorem flX7_7 : g_FL RX7 7 7 1 := ⟨RX7, TX7, 4, rfl, by decide, g_tb 194 (by decide +kernel) (by decide +kernel), g_in7⟩
theorem fpX7_7 : g_FP RX7 7 7 1 .int false := ⟨RX7, TX7, 4, tyX7, rfl, by decide, g_tb 194 (by decide +kernel) (by decide +kernel), g_in7, tyX7_ok, nmX7, rfl, by decide +kernel, fun h => by cases h⟩
theorem flX2_63 : g_FL RX2 63 7 1 := ⟨RX7, TX7, 4, rfl, by decide, g_tb 195 (by decide +kernel) (by decide +kernel), g_in7⟩
theorem fpX2_63 : g_FP RX2 63 7 1 .int false := ⟨RX7, TX7, 4, tyX7, rfl, by decide, g_tb 195 (by decide +kernel) (by decide +kernel), g_in7, tyX7_ok, nmX7, rfl, by decide +kernel, fun h => by cases h⟩
theorem flX8_178 : g_FL RX8 178 7 1 := ⟨RX7, TX7, 4, rfl, by decide, g_tb 196 (by decide +kernel) (by decide +kernel), g_in7⟩
theorem fpX8_178 : g_FP RX8 178 7 1 .int false := ⟨RX7, TX7, 4, tyX7, rfl, by decide, g_tb 196 (by decide +kernel) (by decide +kernel), g_in7, tyX7_ok, nmX7, rfl, by decide +kernel, fun h => by cases h⟩
theorem flX2_70 : g_FL RX2 70 7 2 := ⟨RX7, TX7, 4, rfl, by decide, g_tb 197 (by decide +kernel) (by decide +kernel), g_in7⟩
theorem fpX2_70 : g_FP RX2 70 7 2 .int false := ⟨RX7, TX7, 4, tyX7, rfl, by decide, g_tb 197 (by decide +kernel) (by decide +kernel), g_in7, tyX7_ok, nmX7, rfl, by decide +kernel, fun h => by cases h⟩
theorem flX5_101 : g_FL RX5 101 7 2 := ⟨RX7, TX7, 4, rfl, by decide, g_tb 198 (by decide +kernel) (by decide +kernel), g_in7⟩
theorem fpX5_101 : g_FP RX5 101 7 2 .int false := ⟨RX7, TX7, 4, tyX7, rfl, by decide, g_tb 198 (by decide +kernel) (by decide +kernel), g_in7, tyX7_ok, nmX7, rfl, by decide +kernel, fun h => by cases h⟩
theorem flX8_189 : g_FL RX8 189 7 2 := ⟨RX7, TX7, 4, rfl, by decide, g_tb 199 (by decide +kernel) (by decide +kernel), g_in7⟩
theorem fpX8_189 : g_FP RX8 189 7 2 .int false := ⟨RX7, TX7, 4, tyX7, rfl, by decide, g_tb 199 (by decide +kernel) (by decide +kernel), g_in7, tyX7_ok, nmX7, rfl, by decide +kernel, fun h => by cases h⟩
theorem flX5_53 : g_FL RX5 53 7 3 := ⟨RX7, TX7, 4, rfl, by decide, g_tb 200 (by decide +kernel) (by decide +kernel), g_in7⟩
theorem fpX5_53 : g_FP RX5 53 7 3 .boolean false := ⟨RX7, TX7, 4, tyX7, rfl, by decide, g_tb 200 (by decide +kernel) (by decide +kernel), g_in7, tyX7_ok, nmX7, rfl, by decide +kernel, fun h => by cases h⟩
theorem flX7_29 : g_FL RX7 29 7 3 := ⟨RX7, TX7, 4, rfl, by decide, g_tb 201 (by decide +kernel) (by decide +kernel), g_in7⟩
theorem fpX7_29 : g_FP RX7 29 7 3 .boolean false := ⟨RX7, TX7, 4, tyX7, rfl, by decide, g_tb 201 (by decide +kernel) (by decide +kernel), g_in7, tyX7_ok, nmX7, rfl, by decide +kernel, fun h => by cases h⟩
theorem flX2_66 : g_FL RX2 66 7 3 := ⟨RX7, TX7, 4, rfl, by decide, g_tb 202 (by decide +kernel) (by decide +kernel), g_in7⟩
theorem fpX2_66 : g_FP RX2 66 7 3 .boolean false := ⟨RX7, TX7, 4, tyX7, rfl, by decide, g_tb 202 (by decide +kernel) (by decide +kernel), g_in7, tyX7_ok, nmX7, rfl, by decide +kernel, fun h => by cases h⟩
theorem flX8_181 : g_FL RX8 181 7 3 := ⟨RX7, TX7, 4, rfl, by decide, g_tb 203 (by decide +kernel) (by decide +kernel), g_in7⟩
theorem fpX8_181 : g_FP RX8 181 7 3 .boolean false := ⟨RX7, TX7, 4, tyX7, rfl, by decide, g_tb 203 (by decide +kernel) (by decide +kernel), g_in7, tyX7_ok, nmX7, rfl, by decide +kernel, fun h => by cases h⟩
theorem flX2_12 : g_FL RX2 12 2 0 := ⟨RX2, TX2, 7, rfl, by decide, g_tb 213 (by decide +kernel) (by decide +kernel), g_in2⟩
theorem fpX2_12 : g_FP RX2 12 2 0 (.object "TurretPunch$Area") true := ⟨RX2, TX2, 7, tyX2, rfl, by decide, g_tb 213 (by decide +kernel) (by decide +kernel), g_in2, tyX2_ok, nmX2, rfl, by decide +kernel, fun _ => rfl⟩
theorem flX5_59 : g_FL RX5 59 2 0 := ⟨RX2, TX2, 7, rfl, by decide, g_tb 214 (by decide +kernel) (by decide +kernel), g_in2⟩
theorem flX8_219 : g_FL RX8 219 2 0 := ⟨RX2, TX2, 7, rfl, by decide, g_tb 215 (by decide +kernel) (by decide +kernel), g_in2⟩
theorem flX2_20 : g_FL RX2 20 2 1 := ⟨RX2, TX2, 7, rfl, by decide, g_tb 216 (by decide +kernel) (by decide +kernel), g_in2⟩
theorem fpX2_20 : g_FP RX2 20 2 1 (.array (.object "TurretPunch$Tool")) true := ⟨RX2, TX2, 7, tyX2, rfl, by decide, g_tb 216 (by decide +kernel) (by decide +kernel), g_in2, tyX2_ok, nmX2, rfl, by decide +kernel, fun _ => rfl⟩
theorem flX3_62 : g_FL RX3 62 2 1 := ⟨RX2, TX2, 7, rfl, by decide, g_tb 217 (by decide +kernel) (by decide +kernel), g_in2⟩
theorem flX5_49 : g_FL RX5 49 2 1 := ⟨RX2, TX2, 7, rfl, by decide, g_tb 218 (by decide +kernel) (by decide +kernel), g_in2⟩
theorem flX8_101 : g_FL RX8 101 2 1 := ⟨RX2, TX2, 7, rfl, by decide, g_tb 219 (by decide +kernel) (by decide +kernel), g_in2⟩
theorem flX2_24 : g_FL RX2 24 2 2 := ⟨RX2, TX2, 7, rfl, by decide, g_tb 220 (by decide +kernel) (by decide +kernel), g_in2⟩
theorem fpX2_24 : g_FP RX2 24 2 2 (.array (.object "TurretPunch$Area")) true := ⟨RX2, TX2, 7, tyX2, rfl, by decide, g_tb 220 (by decide +kernel) (by decide +kernel), g_in2, tyX2_ok, nmX2, rfl, by decide +kernel, fun _ => rfl⟩
theorem flX3_66 : g_FL RX3 66 2 2 := ⟨RX2, TX2, 7, rfl, by decide, g_tb 221 (by decide +kernel) (by decide +kernel), g_in2⟩
theorem flX8_133 : g_FL RX8 133 2 2 := ⟨RX2, TX2, 7, rfl, by decide, g_tb 222 (by decide +kernel) (by decide +kernel), g_in2⟩
theorem flX5_113 : g_FL RX5 113 2 2 := ⟨RX2, TX2, 7, rfl, by decide, g_tb 223 (by decide +kernel) (by decide +kernel), g_in2⟩
theorem flX2_28 : g_FL RX2 28 2 3 := ⟨RX2, TX2, 7, rfl, by decide, g_tb 224 (by decide +kernel) (by decide +kernel), g_in2⟩
theorem fpX2_28 : g_FP RX2 28 2 3 (.array .int) true := ⟨RX2, TX2, 7, tyX2, rfl, by decide, g_tb 224 (by decide +kernel) (by decide +kernel), g_in2, tyX2_ok, nmX2, rfl, by decide +kernel, fun _ => rfl⟩
theorem flX5_27 : g_FL RX5 27 2 3 := ⟨RX2, TX2, 7, rfl, by decide, g_tb 225 (by decide +kernel) (by decide +kernel), g_in2⟩
theorem flX2_37 : g_FL RX2 37 2 4 := ⟨RX2, TX2, 7, rfl, by decide, g_tb 226 (by decide +kernel) (by decide +kernel), g_in2⟩
theorem fpX2_37 : g_FP RX2 37 2 4 .int false := ⟨RX2, TX2, 7, tyX2, rfl, by decide, g_tb 226 (by decide +kernel) (by decide +kernel), g_in2, tyX2_ok, nmX2, rfl, by decide +kernel, fun h => by cases h⟩
theorem flX3_32 : g_FL RX3 32 2 4 := ⟨RX2, TX2, 7, rfl, by decide, g_tb 227 (by decide +kernel) (by decide +kernel), g_in2⟩
theorem fpX3_32 : g_FP RX3 32 2 4 .int false := ⟨RX2, TX2, 7, tyX2, rfl, by decide, g_tb 227 (by decide +kernel) (by decide +kernel), g_in2, tyX2_ok, nmX2, rfl, by decide +kernel, fun h => by cases h⟩
theorem flX8_94 : g_FL RX8 94 2 4 := ⟨RX2, TX2, 7, rfl, by decide, g_tb 228 (by decide +kernel) (by decide +kernel), g_in2⟩
theorem fpX8_94 : g_FP RX8 94 2 4 .int false := ⟨RX2, TX2, 7, tyX2, rfl, by decide, g_tb 228 (by decide +kernel) (by decide +kernel), g_in2, tyX2_ok, nmX2, rfl, by decide +kernel, fun h => by cases h⟩
theorem flX2_41 : g_FL RX2 41 2 5 := ⟨RX2, TX2, 7, rfl, by decide, g_tb 229 (by decide +kernel) (by decide +kernel), g_in2⟩
theorem fpX2_41 : g_FP RX2 41 2 5 .int false := ⟨RX2, TX2, 7, tyX2, rfl, by decide, g_tb 229 (by decide +kernel) (by decide +kernel), g_in2, tyX2_ok, nmX2, rfl, by decide +kernel, fun h => by cases h⟩
theorem flX3_51 : g_FL RX3 51 2 5 := ⟨RX2, TX2, 7, rfl, by decide, g_tb 230 (by decide +kernel) (by decide +kernel), g_in2⟩
theorem fpX3_51 : g_FP RX3 51 2 5 .int false := ⟨RX2, TX2, 7, tyX2, rfl, by decide, g_tb 230 (by decide +kernel) (by decide +kernel), g_in2, tyX2_ok, nmX2, rfl, by decide +kernel, fun h => by cases h⟩
theorem flX5_110 : g_FL RX5 110 2 5 := ⟨RX2, TX2, 7, rfl, by decide, g_tb 231 (by decide +kernel) (by decide +kernel), g_in2⟩
theorem fpX5_110 : g_FP RX5 110 2 5 .int false := ⟨RX2, TX2, 7, tyX2, rfl, by decide, g_tb 231 (by decide +kernel) (by decide +kernel), g_in2, tyX2_ok, nmX2, rfl, by decide +kernel, fun h => by cases h⟩
theorem flX8_256 : g_FL RX8 256 2 5 := ⟨RX2, TX2, 7, rfl, by decide, g_tb 232 (by decide +kernel) (by decide +kernel), g_in2⟩
theorem fpX8_256 : g_FP RX8 256 2 5 .int false := ⟨RX2, TX2, 7, tyX2, rfl, by decide, g_tb 232 (by decide +kernel) (by decide +kernel), g_in2, tyX2_ok, nmX2, rfl, by decide +kernel, fun h => by cases h⟩
theorem flX2_44 : g_FL RX2 44 2 6 := ⟨RX2, TX2, 7, rfl, by decide, g_tb 233 (by decide +kernel) (by decide +kernel), g_in2⟩
theorem fpX2_44 : g_FP RX2 44 2 6 .int false := ⟨RX2, TX2, 7, tyX2, rfl, by decide, g_tb 233 (by decide +kernel) (by decide +kernel), g_in2, tyX2_ok, nmX2, rfl, by decide +kernel, fun h => by cases h⟩
theorem flX5_117 : g_FL RX5 117 2 6 := ⟨RX2, TX2, 7, rfl, by decide, g_tb 234 (by decide +kernel) (by decide +kernel), g_in2⟩
theorem fpX5_117 : g_FP RX5 117 2 6 .int false := ⟨RX2, TX2, 7, tyX2, rfl, by decide, g_tb 234 (by decide +kernel) (by decide +kernel), g_in2, tyX2_ok, nmX2, rfl, by decide +kernel, fun h => by cases h⟩
theorem flX8_259 : g_FL RX8 259 2 6 := ⟨RX2, TX2, 7, rfl, by decide, g_tb 235 (by decide +kernel) (by decide +kernel), g_in2⟩
theorem fpX8_259 : g_FP RX8 259 2 6 .int false := ⟨RX2, TX2, 7, tyX2, rfl, by decide, g_tb 235 (by decide +kernel) (by decide +kernel), g_in2, tyX2_ok, nmX2, rfl, by decide +kernel, fun h => by cases h⟩
theorem flX8_10 : g_FL RX8 10 8 0 := ⟨RX8, TX8, 9, rfl, by decide, g_tb 408 (by decide +kernel) (by decide +kernel), g_in8⟩
theorem fpX8_10 : g_FP RX8 10 8 0 (.object "TurretPunch$Text") true := ⟨RX8, TX8, 9, tyX8, rfl, by decide, g_tb 408 (by decide +kernel) (by decide +kernel), g_in8, tyX8_ok, nmX8, rfl, by decide +kernel, fun _ => rfl⟩
theorem flX8_19 : g_FL RX8 19 8 1 := ⟨RX8, TX8, 9, rfl, by decide, g_tb 409 (by decide +kernel) (by decide +kernel), g_in8⟩
theorem fpX8_19 : g_FP RX8 19 8 1 (.object "TurretPunch$Reader") true := ⟨RX8, TX8, 9, tyX8, rfl, by decide, g_tb 409 (by decide +kernel) (by decide +kernel), g_in8, tyX8_ok, nmX8, rfl, by decide +kernel, fun _ => rfl⟩
theorem flX8_26 : g_FL RX8 26 8 2 := ⟨RX8, TX8, 9, rfl, by decide, g_tb 410 (by decide +kernel) (by decide +kernel), g_in8⟩
theorem fpX8_26 : g_FP RX8 26 8 2 (.object "TurretPunch$State") true := ⟨RX8, TX8, 9, tyX8, rfl, by decide, g_tb 410 (by decide +kernel) (by decide +kernel), g_in8, tyX8_ok, nmX8, rfl, by decide +kernel, fun _ => rfl⟩
theorem flX8_30 : g_FL RX8 30 8 3 := ⟨RX8, TX8, 9, rfl, by decide, g_tb 411 (by decide +kernel) (by decide +kernel), g_in8⟩
theorem fpX8_30 : g_FP RX8 30 8 3 (.object "TurretPunch$State") true := ⟨RX8, TX8, 9, tyX8, rfl, by decide, g_tb 411 (by decide +kernel) (by decide +kernel), g_in8, tyX8_ok, nmX8, rfl, by decide +kernel, fun _ => rfl⟩
theorem flX8_36 : g_FL RX8 36 8 4 := ⟨RX8, TX8, 9, rfl, by decide, g_tb 412 (by decide +kernel) (by decide +kernel), g_in8⟩
theorem fpX8_36 : g_FP RX8 36 8 4 (.object "TurretPunch$History") true := ⟨RX8, TX8, 9, tyX8, rfl, by decide, g_tb 412 (by decide +kernel) (by decide +kernel), g_in8, tyX8_ok, nmX8, rfl, by decide +kernel, fun _ => rfl⟩
theorem flX8_43 : g_FL RX8 43 8 5 := ⟨RX8, TX8, 9, rfl, by decide, g_tb 413 (by decide +kernel) (by decide +kernel), g_in8⟩
theorem fpX8_43 : g_FP RX8 43 8 5 (.object "TurretPunch$Planner") true := ⟨RX8, TX8, 9, tyX8, rfl, by decide, g_tb 413 (by decide +kernel) (by decide +kernel), g_in8, tyX8_ok, nmX8, rfl, by decide +kernel, fun _ => rfl⟩
theorem flX8_50 : g_FL RX8 50 8 6 := ⟨RX8, TX8, 9, rfl, by decide, g_tb 414 (by decide +kernel) (by decide +kernel), g_in8⟩
theorem fpX8_50 : g_FP RX8 50 8 6 (.object "TurretPunch$Area") true := ⟨RX8, TX8, 9, tyX8, rfl, by decide, g_tb 414 (by decide +kernel) (by decide +kernel), g_in8, tyX8_ok, nmX8, rfl, by decide +kernel, fun _ => rfl⟩
theorem flX8_57 : g_FL RX8 57 8 7 := ⟨RX8, TX8, 9, rfl, by decide, g_tb 415 (by decide +kernel) (by decide +kernel), g_in8⟩
theorem fpX8_57 : g_FP RX8 57 8 7 (.object "TurretPunch$Job") false := ⟨RX8, TX8, 9, tyX8, rfl, by decide, g_tb 415 (by decide +kernel) (by decide +kernel), g_in8, tyX8_ok, nmX8, rfl, by decide +kernel, fun h => by cases h⟩
theorem flX8_61 : g_FL RX8 61 8 8 := ⟨RX8, TX8, 9, rfl, by decide, g_tb 416 (by decide +kernel) (by decide +kernel), g_in8⟩
theorem fpX8_61 : g_FP RX8 61 8 8 (.object "TurretPunch$Job") false := ⟨RX8, TX8, 9, tyX8, rfl, by decide, g_tb 416 (by decide +kernel) (by decide +kernel), g_in8, tyX8_ok, nmX8, rfl, by decide +kernel, fun h => by cases h⟩
theorem flX9_62 : g_FL RX9 62 9 0 := ⟨RX9, TX9, 16, rfl, by decide, g_tb 712 (by decide +kernel) (by decide +kernel), g_in9⟩
theorem fpX9_62 : g_FP RX9 62 9 0 .int false := ⟨RX9, TX9, 16, tyX9, rfl, by decide, g_tb 712 (by decide +kernel) (by decide +kernel), g_in9, tyX9_ok, nmX9, rfl, by decide +kernel, fun h => by cases h⟩
theorem flX9_7 : g_FL RX9 7 9 1 := ⟨RX9, TX9, 16, rfl, by decide, g_tb 713 (by decide +kernel) (by decide +kernel), g_in9⟩
theorem fpX9_7 : g_FP RX9 7 9 1 (.array .int) true := ⟨RX9, TX9, 16, tyX9, rfl, by decide, g_tb 713 (by decide +kernel) (by decide +kernel), g_in9, tyX9_ok, nmX9, rfl, by decide +kernel, fun _ => rfl⟩
theorem flX9_65 : g_FL RX9 65 9 2 := ⟨RX9, TX9, 16, rfl, by decide, g_tb 714 (by decide +kernel) (by decide +kernel), g_in9⟩
theorem fpX9_65 : g_FP RX9 65 9 2 .int false := ⟨RX9, TX9, 16, tyX9, rfl, by decide, g_tb 714 (by decide +kernel) (by decide +kernel), g_in9, tyX9_ok, nmX9, rfl, by decide +kernel, fun h => by cases h⟩
theorem flX9_13 : g_FL RX9 13 9 3 := ⟨RX9, TX9, 16, rfl, by decide, g_tb 715 (by decide +kernel) (by decide +kernel), g_in9⟩
theorem fpX9_13 : g_FP RX9 13 9 3 (.array .int) true := ⟨RX9, TX9, 16, tyX9, rfl, by decide, g_tb 715 (by decide +kernel) (by decide +kernel), g_in9, tyX9_ok, nmX9, rfl, by decide +kernel, fun _ => rfl⟩
theorem flX9_16 : g_FL RX9 16 9 4 := ⟨RX9, TX9, 16, rfl, by decide, g_tb 716 (by decide +kernel) (by decide +kernel), g_in9⟩
theorem fpX9_16 : g_FP RX9 16 9 4 (.array .int) true := ⟨RX9, TX9, 16, tyX9, rfl, by decide, g_tb 716 (by decide +kernel) (by decide +kernel), g_in9, tyX9_ok, nmX9, rfl, by decide +kernel, fun _ => rfl⟩
theorem flX9_19 : g_FL RX9 19 9 5 := ⟨RX9, TX9, 16, rfl, by decide, g_tb 717 (by decide +kernel) (by decide +kernel), g_in9⟩
theorem fpX9_19 : g_FP RX9 19 9 5 (.array .int) true := ⟨RX9, TX9, 16, tyX9, rfl, by decide, g_tb 717 (by decide +kernel) (by decide +kernel), g_in9, tyX9_ok, nmX9, rfl, by decide +kernel, fun _ => rfl⟩
theorem flX9_22 : g_FL RX9 22 9 6 := ⟨RX9, TX9, 16, rfl, by decide, g_tb 718 (by decide +kernel) (by decide +kernel), g_in9⟩
theorem fpX9_22 : g_FP RX9 22 9 6 (.array .int) true := ⟨RX9, TX9, 16, tyX9, rfl, by decide, g_tb 718 (by decide +kernel) (by decide +kernel), g_in9, tyX9_ok, nmX9, rfl, by decide +kernel, fun _ => rfl⟩
theorem flX9_50 : g_FL RX9 50 9 7 := ⟨RX9, TX9, 16, rfl, by decide, g_tb 719 (by decide +kernel) (by decide +kernel), g_in9⟩
theorem fpX9_50 : g_FP RX9 50 9 7 .int false := ⟨RX9, TX9, 16, tyX9, rfl, by decide, g_tb 719 (by decide +kernel) (by decide +kernel), g_in9, tyX9_ok, nmX9, rfl, by decide +kernel, fun h => by cases h⟩
theorem flX9_25 : g_FL RX9 25 9 8 := ⟨RX9, TX9, 16, rfl, by decide, g_tb 720 (by decide +kernel) (by decide +kernel), g_in9⟩
theorem fpX9_25 : g_FP RX9 25 9 8 (.array .int) true := ⟨RX9, TX9, 16, tyX9, rfl, by decide, g_tb 720 (by decide +kernel) (by decide +kernel), g_in9, tyX9_ok, nmX9, rfl, by decide +kernel, fun _ => rfl⟩
theorem flX9_28 : g_FL RX9 28 9 9 := ⟨RX9, TX9, 16, rfl, by decide, g_tb 721 (by decide +kernel) (by decide +kernel), g_in9⟩
theorem fpX9_28 : g_FP RX9 28 9 9 (.array .int) true := ⟨RX9, TX9, 16, tyX9, rfl, by decide, g_tb 721 (by decide +kernel) (by decide +kernel), g_in9, tyX9_ok, nmX9, rfl, by decide +kernel, fun _ => rfl⟩
theorem flX9_31 : g_FL RX9 31 9 10 := ⟨RX9, TX9, 16, rfl, by decide, g_tb 722 (by decide +kernel) (by decide +kernel), g_in9⟩
theorem fpX9_31 : g_FP RX9 31 9 10 (.array .int) true := ⟨RX9, TX9, 16, tyX9, rfl, by decide, g_tb 722 (by decide +kernel) (by decide +kernel), g_in9, tyX9_ok, nmX9, rfl, by decide +kernel, fun _ => rfl⟩
theorem flX9_185 : g_FL RX9 185 9 11 := ⟨RX9, TX9, 16, rfl, by decide, g_tb 723 (by decide +kernel) (by decide +kernel), g_in9⟩
theorem fpX9_185 : g_FP RX9 185 9 11 .int false := ⟨RX9, TX9, 16, tyX9, rfl, by decide, g_tb 723 (by decide +kernel) (by decide +kernel), g_in9, tyX9_ok, nmX9, rfl, by decide +kernel, fun h => by cases h⟩
theorem flX9_188 : g_FL RX9 188 9 12 := ⟨RX9, TX9, 16, rfl, by decide, g_tb 724 (by decide +kernel) (by decide +kernel), g_in9⟩
theorem fpX9_188 : g_FP RX9 188 9 12 .int false := ⟨RX9, TX9, 16, tyX9, rfl, by decide, g_tb 724 (by decide +kernel) (by decide +kernel), g_in9, tyX9_ok, nmX9, rfl, by decide +kernel, fun h => by cases h⟩
theorem flX9_34 : g_FL RX9 34 9 13 := ⟨RX9, TX9, 16, rfl, by decide, g_tb 725 (by decide +kernel) (by decide +kernel), g_in9⟩
theorem fpX9_34 : g_FP RX9 34 9 13 (.array .int) true := ⟨RX9, TX9, 16, tyX9, rfl, by decide, g_tb 725 (by decide +kernel) (by decide +kernel), g_in9, tyX9_ok, nmX9, rfl, by decide +kernel, fun _ => rfl⟩
theorem flX9_37 : g_FL RX9 37 9 14 := ⟨RX9, TX9, 16, rfl, by decide, g_tb 726 (by decide +kernel) (by decide +kernel), g_in9⟩
theorem fpX9_37 : g_FP RX9 37 9 14 (.array .int) true := ⟨RX9, TX9, 16, tyX9, rfl, by decide, g_tb 726 (by decide +kernel) (by decide +kernel), g_in9, tyX9_ok, nmX9, rfl, by decide +kernel, fun _ => rfl⟩
theorem flX9_40 : g_FL RX9 40 9 15 := ⟨RX9, TX9, 16, rfl, by decide, g_tb 727 (by decide +kernel) (by decide +kernel), g_in9⟩
theorem fpX9_40 : g_FP RX9 40 9 15 (.array .int) true := ⟨RX9, TX9, 16, tyX9, rfl, by decide, g_tb 727 (by decide +kernel) (by decide +kernel), g_in9, tyX9_ok, nmX9, rfl, by decide +kernel, fun _ => rfl⟩
theorem moX0_init : g_MN mX0_init := ⟨⟨g_tb 151 (by decide +kernel) (by decide +kernel), g_tb 7 (by decide +kernel) (by decide +kernel), by decide +kernel, by decide +kernel, by decide +kernel⟩, g_tb 150 (by decide +kernel) (by decide +kernel), rfl⟩
theorem moX0_put : g_MI mX0_put := ⟨⟨g_tb 319 (by decide +kernel) (by decide +kernel), g_tb 7 (by decide +kernel) (by decide +kernel), by decide +kernel, by decide +kernel, by decide +kernel⟩, g_tb 317 (by decide +kernel) (by decide +kernel), g_tb 318 (by decide +kernel) (by decide +kernel)⟩
theorem moX0_has : g_MI mX0_has := ⟨⟨g_tb 496 (by decide +kernel) (by decide +kernel), g_tb 7 (by decide +kernel) (by decide +kernel), by decide +kernel, by decide +kernel, by decide +kernel⟩, g_tb 494 (by decide +kernel) (by decide +kernel), g_tb 495 (by decide +kernel) (by decide +kernel)⟩
theorem moX0_covers : g_MI mX0_covers := ⟨⟨g_tb 373 (by decide +kernel) (by decide +kernel), g_tb 7 (by decide +kernel) (by decide +kernel), by decide +kernel, by decide +kernel, by decide +kernel⟩, g_tb 371 (by decide +kernel) (by decide +kernel), g_tb 372 (by decide +kernel) (by decide +kernel)⟩
theorem moX0_meets : g_MI mX0_meets := ⟨⟨g_tb 377 (by decide +kernel) (by decide +kernel), g_tb 7 (by decide +kernel) (by decide +kernel), by decide +kernel, by decide +kernel, by decide +kernel⟩, g_tb 375 (by decide +kernel) (by decide +kernel), g_tb 376 (by decide +kernel) (by decide +kernel)⟩
theorem moX0_rowBits : g_MI mX0_rowBits := ⟨⟨g_tb 508 (by decide +kernel) (by decide +kernel), g_tb 7 (by decide +kernel) (by decide +kernel), by decide +kernel, by decide +kernel, by decide +kernel⟩, g_tb 506 (by decide +kernel) (by decide +kernel), g_tb 507 (by decide +kernel) (by decide +kernel)⟩
theorem moX1_init : g_MN mX1_init := ⟨⟨g_tb 96 (by decide +kernel) (by decide +kernel), g_tb 5 (by decide +kernel) (by decide +kernel), by decide +kernel, by decide +kernel, by decide +kernel⟩, g_tb 95 (by decide +kernel) (by decide +kernel), rfl⟩
theorem moX1_forget : g_MI mX1_forget := ⟨⟨g_tb 403 (by decide +kernel) (by decide +kernel), g_tb 5 (by decide +kernel) (by decide +kernel), by decide +kernel, by decide +kernel, by decide +kernel⟩, g_tb 401 (by decide +kernel) (by decide +kernel), g_tb 402 (by decide +kernel) (by decide +kernel)⟩
theorem moX1_keep : g_MI mX1_keep := ⟨⟨g_tb 522 (by decide +kernel) (by decide +kernel), g_tb 5 (by decide +kernel) (by decide +kernel), by decide +kernel, by decide +kernel, by decide +kernel⟩, g_tb 520 (by decide +kernel) (by decide +kernel), g_tb 521 (by decide +kernel) (by decide +kernel)⟩
theorem moX1_giveBack : g_MI mX1_giveBack := ⟨⟨g_tb 596 (by decide +kernel) (by decide +kernel), g_tb 5 (by decide +kernel) (by decide +kernel), by decide +kernel, by decide +kernel, by decide +kernel⟩, g_tb 594 (by decide +kernel) (by decide +kernel), g_tb 595 (by decide +kernel) (by decide +kernel)⟩
theorem moX2_init : g_MN mX2_init := ⟨⟨g_tb 179 (by decide +kernel) (by decide +kernel), g_tb 8 (by decide +kernel) (by decide +kernel), by decide +kernel, by decide +kernel, by decide +kernel⟩, g_tb 178 (by decide +kernel) (by decide +kernel), rfl⟩
theorem moX2_clear : g_MI mX2_clear := ⟨⟨g_tb 315 (by decide +kernel) (by decide +kernel), g_tb 8 (by decide +kernel) (by decide +kernel), by decide +kernel, by decide +kernel, by decide +kernel⟩, g_tb 313 (by decide +kernel) (by decide +kernel), g_tb 314 (by decide +kernel) (by decide +kernel)⟩
theorem moX2_hasSheet : g_MI mX2_hasSheet := ⟨⟨g_tb 353 (by decide +kernel) (by decide +kernel), g_tb 8 (by decide +kernel) (by decide +kernel), by decide +kernel, by decide +kernel, by decide +kernel⟩, g_tb 351 (by decide +kernel) (by decide +kernel), g_tb 352 (by decide +kernel) (by decide +kernel)⟩
theorem moX2_takeSheet : g_MI mX2_takeSheet := ⟨⟨g_tb 349 (by decide +kernel) (by decide +kernel), g_tb 8 (by decide +kernel) (by decide +kernel), by decide +kernel, by decide +kernel, by decide +kernel⟩, g_tb 347 (by decide +kernel) (by decide +kernel), g_tb 348 (by decide +kernel) (by decide +kernel)⟩
theorem moX2_takeTool : g_MI mX2_takeTool := ⟨⟨g_tb 361 (by decide +kernel) (by decide +kernel), g_tb 8 (by decide +kernel) (by decide +kernel), by decide +kernel, by decide +kernel, by decide +kernel⟩, g_tb 359 (by decide +kernel) (by decide +kernel), g_tb 360 (by decide +kernel) (by decide +kernel)⟩
theorem moX2_takeHole : g_MI mX2_takeHole := ⟨⟨g_tb 369 (by decide +kernel) (by decide +kernel), g_tb 8 (by decide +kernel) (by decide +kernel), by decide +kernel, by decide +kernel, by decide +kernel⟩, g_tb 367 (by decide +kernel) (by decide +kernel), g_tb 368 (by decide +kernel) (by decide +kernel)⟩
theorem moX2_takeClamp : g_MI mX2_takeClamp := ⟨⟨g_tb 382 (by decide +kernel) (by decide +kernel), g_tb 8 (by decide +kernel) (by decide +kernel), by decide +kernel, by decide +kernel, by decide +kernel⟩, g_tb 380 (by decide +kernel) (by decide +kernel), g_tb 381 (by decide +kernel) (by decide +kernel)⟩
theorem moX2_isColumn : g_MI mX2_isColumn := ⟨⟨g_tb 386 (by decide +kernel) (by decide +kernel), g_tb 8 (by decide +kernel) (by decide +kernel), by decide +kernel, by decide +kernel, by decide +kernel⟩, g_tb 384 (by decide +kernel) (by decide +kernel), g_tb 385 (by decide +kernel) (by decide +kernel)⟩
theorem moX2_areTooNear : g_MS mX2_areTooNear := ⟨⟨g_tb 389 (by decide +kernel) (by decide +kernel), g_tb 8 (by decide +kernel) (by decide +kernel), by decide +kernel, by decide +kernel, by decide +kernel⟩, g_tb 388 (by decide +kernel) (by decide +kernel)⟩
theorem moX2_holeAt : g_MI mX2_holeAt := ⟨⟨g_tb 627 (by decide +kernel) (by decide +kernel), g_tb 8 (by decide +kernel) (by decide +kernel), by decide +kernel, by decide +kernel, by decide +kernel⟩, g_tb 625 (by decide +kernel) (by decide +kernel), g_tb 626 (by decide +kernel) (by decide +kernel)⟩
theorem moX2_isOfOneHole : g_MI mX2_isOfOneHole := ⟨⟨g_tb 488 (by decide +kernel) (by decide +kernel), g_tb 8 (by decide +kernel) (by decide +kernel), by decide +kernel, by decide +kernel, by decide +kernel⟩, g_tb 486 (by decide +kernel) (by decide +kernel), g_tb 487 (by decide +kernel) (by decide +kernel)⟩
theorem moX2_turnsBetween : g_MI mX2_turnsBetween := ⟨⟨g_tb 537 (by decide +kernel) (by decide +kernel), g_tb 8 (by decide +kernel) (by decide +kernel), by decide +kernel, by decide +kernel, by decide +kernel⟩, g_tb 535 (by decide +kernel) (by decide +kernel), g_tb 536 (by decide +kernel) (by decide +kernel)⟩
theorem moX2_turnsThrough : g_MI mX2_turnsThrough := ⟨⟨g_tb 664 (by decide +kernel) (by decide +kernel), g_tb 8 (by decide +kernel) (by decide +kernel), by decide +kernel, by decide +kernel, by decide +kernel⟩, g_tb 662 (by decide +kernel) (by decide +kernel), g_tb 663 (by decide +kernel) (by decide +kernel)⟩
theorem moX2_downBeyond : g_MI mX2_downBeyond := ⟨⟨g_tb 668 (by decide +kernel) (by decide +kernel), g_tb 8 (by decide +kernel) (by decide +kernel), by decide +kernel, by decide +kernel, by decide +kernel⟩, g_tb 667 (by decide +kernel) (by decide +kernel), g_tp 14 (by decide +kernel) (by decide +kernel)⟩
theorem moX3_init : g_MN mX3_init := ⟨⟨g_tb 116 (by decide +kernel) (by decide +kernel), g_tb 6 (by decide +kernel) (by decide +kernel), by decide +kernel, by decide +kernel, by decide +kernel⟩, g_tb 115 (by decide +kernel) (by decide +kernel), rfl⟩
theorem moX3_work : g_MI mX3_work := ⟨⟨g_tb 645 (by decide +kernel) (by decide +kernel), g_tb 6 (by decide +kernel) (by decide +kernel), by decide +kernel, by decide +kernel, by decide +kernel⟩, g_tb 643 (by decide +kernel) (by decide +kernel), g_tb 644 (by decide +kernel) (by decide +kernel)⟩
theorem moX3_weighWays : g_MI mX3_weighWays := ⟨⟨g_tb 649 (by decide +kernel) (by decide +kernel), g_tb 6 (by decide +kernel) (by decide +kernel), by decide +kernel, by decide +kernel, by decide +kernel⟩, g_tb 648 (by decide +kernel) (by decide +kernel), g_tp 11 (by decide +kernel) (by decide +kernel)⟩
theorem moX3_triesSet : g_MI mX3_triesSet := ⟨⟨g_tb 655 (by decide +kernel) (by decide +kernel), g_tb 6 (by decide +kernel) (by decide +kernel), by decide +kernel, by decide +kernel, by decide +kernel⟩, g_tb 654 (by decide +kernel) (by decide +kernel), g_tp 12 (by decide +kernel) (by decide +kernel)⟩
theorem moX3_takeFirstFewest : g_MI mX3_takeFirstFewest := ⟨⟨g_tb 660 (by decide +kernel) (by decide +kernel), g_tb 6 (by decide +kernel) (by decide +kernel), by decide +kernel, by decide +kernel, by decide +kernel⟩, g_tb 659 (by decide +kernel) (by decide +kernel), g_tp 13 (by decide +kernel) (by decide +kernel)⟩
theorem moX3_isBetter : g_MI mX3_isBetter := ⟨⟨g_tb 672 (by decide +kernel) (by decide +kernel), g_tb 6 (by decide +kernel) (by decide +kernel), by decide +kernel, by decide +kernel, by decide +kernel⟩, g_tb 671 (by decide +kernel) (by decide +kernel), g_tp 15 (by decide +kernel) (by decide +kernel)⟩
theorem moX3_keepTried : g_MI mX3_keepTried := ⟨⟨g_tb 676 (by decide +kernel) (by decide +kernel), g_tb 6 (by decide +kernel) (by decide +kernel), by decide +kernel, by decide +kernel, by decide +kernel⟩, g_tb 675 (by decide +kernel) (by decide +kernel), g_tp 16 (by decide +kernel) (by decide +kernel)⟩
theorem moX4_init : g_MN mX4_init := ⟨⟨g_tb 47 (by decide +kernel) (by decide +kernel), g_tb 3 (by decide +kernel) (by decide +kernel), by decide +kernel, by decide +kernel, by decide +kernel⟩, g_tb 46 (by decide +kernel) (by decide +kernel), rfl⟩
theorem moX4_firstFault : g_MI mX4_firstFault := ⟨⟨g_tb 311 (by decide +kernel) (by decide +kernel), g_tb 3 (by decide +kernel) (by decide +kernel), by decide +kernel, by decide +kernel, by decide +kernel⟩, g_tb 309 (by decide +kernel) (by decide +kernel), g_tb 310 (by decide +kernel) (by decide +kernel)⟩
theorem moX4_takesItem : g_MI mX4_takesItem := ⟨⟨g_tb 323 (by decide +kernel) (by decide +kernel), g_tb 3 (by decide +kernel) (by decide +kernel), by decide +kernel, by decide +kernel, by decide +kernel⟩, g_tb 322 (by decide +kernel) (by decide +kernel), g_tp 1 (by decide +kernel) (by decide +kernel)⟩
theorem moX4_takesWord : g_MI mX4_takesWord := ⟨⟨g_tb 328 (by decide +kernel) (by decide +kernel), g_tb 3 (by decide +kernel) (by decide +kernel), by decide +kernel, by decide +kernel, by decide +kernel⟩, g_tb 327 (by decide +kernel) (by decide +kernel), g_tp 2 (by decide +kernel) (by decide +kernel)⟩
theorem moX4_takesNumbers : g_MI mX4_takesNumbers := ⟨⟨g_tb 338 (by decide +kernel) (by decide +kernel), g_tb 3 (by decide +kernel) (by decide +kernel), by decide +kernel, by decide +kernel, by decide +kernel⟩, g_tb 337 (by decide +kernel) (by decide +kernel), g_tp 3 (by decide +kernel) (by decide +kernel)⟩
theorem moX4_takeNumber : g_MI mX4_takeNumber := ⟨⟨g_tb 345 (by decide +kernel) (by decide +kernel), g_tb 3 (by decide +kernel) (by decide +kernel), by decide +kernel, by decide +kernel, by decide +kernel⟩, g_tb 344 (by decide +kernel) (by decide +kernel), g_tp 4 (by decide +kernel) (by decide +kernel)⟩
theorem moX4_isFigure : g_MS mX4_isFigure := ⟨⟨g_tb 341 (by decide +kernel) (by decide +kernel), g_tb 3 (by decide +kernel) (by decide +kernel), by decide +kernel, by decide +kernel, by decide +kernel⟩, g_tb 340 (by decide +kernel) (by decide +kernel)⟩
theorem moX5_init : g_MN mX5_init := ⟨⟨g_tb 61 (by decide +kernel) (by decide +kernel), g_tb 4 (by decide +kernel) (by decide +kernel), by decide +kernel, by decide +kernel, by decide +kernel⟩, g_tb 60 (by decide +kernel) (by decide +kernel), rfl⟩
theorem moX5_begin : g_MI mX5_begin := ⟨⟨g_tb 393 (by decide +kernel) (by decide +kernel), g_tb 4 (by decide +kernel) (by decide +kernel), by decide +kernel, by decide +kernel, by decide +kernel⟩, g_tb 391 (by decide +kernel) (by decide +kernel), g_tb 392 (by decide +kernel) (by decide +kernel)⟩
theorem moX5_copyFrom : g_MI mX5_copyFrom := ⟨⟨g_tb 526 (by decide +kernel) (by decide +kernel), g_tb 4 (by decide +kernel) (by decide +kernel), by decide +kernel, by decide +kernel, by decide +kernel⟩, g_tb 524 (by decide +kernel) (by decide +kernel), g_tb 525 (by decide +kernel) (by decide +kernel)⟩
theorem moX5_refusal : g_MI mX5_refusal := ⟨⟨g_tb 483 (by decide +kernel) (by decide +kernel), g_tb 4 (by decide +kernel) (by decide +kernel), by decide +kernel, by decide +kernel, by decide +kernel⟩, g_tb 481 (by decide +kernel) (by decide +kernel), g_tb 482 (by decide +kernel) (by decide +kernel)⟩
theorem moX5_punch : g_MI mX5_punch := ⟨⟨g_tb 533 (by decide +kernel) (by decide +kernel), g_tb 4 (by decide +kernel) (by decide +kernel), by decide +kernel, by decide +kernel, by decide +kernel⟩, g_tb 531 (by decide +kernel) (by decide +kernel), g_tb 532 (by decide +kernel) (by decide +kernel)⟩
theorem moX5_isDull : g_MI mX5_isDull := ⟨⟨g_tb 518 (by decide +kernel) (by decide +kernel), g_tb 4 (by decide +kernel) (by decide +kernel), by decide +kernel, by decide +kernel, by decide +kernel⟩, g_tb 516 (by decide +kernel) (by decide +kernel), g_tb 517 (by decide +kernel) (by decide +kernel)⟩
theorem moX5_uncutIn : g_MI mX5_uncutIn := ⟨⟨g_tb 504 (by decide +kernel) (by decide +kernel), g_tb 4 (by decide +kernel) (by decide +kernel), by decide +kernel, by decide +kernel, by decide +kernel⟩, g_tb 502 (by decide +kernel) (by decide +kernel), g_tb 503 (by decide +kernel) (by decide +kernel)⟩
theorem moX5_isCut : g_MI mX5_isCut := ⟨⟨g_tb 500 (by decide +kernel) (by decide +kernel), g_tb 4 (by decide +kernel) (by decide +kernel), by decide +kernel, by decide +kernel, by decide +kernel⟩, g_tb 498 (by decide +kernel) (by decide +kernel), g_tb 499 (by decide +kernel) (by decide +kernel)⟩
theorem moX5_isCellCut : g_MI mX5_isCellCut := ⟨⟨g_tb 623 (by decide +kernel) (by decide +kernel), g_tb 4 (by decide +kernel) (by decide +kernel), by decide +kernel, by decide +kernel, by decide +kernel⟩, g_tb 621 (by decide +kernel) (by decide +kernel), g_tb 622 (by decide +kernel) (by decide +kernel)⟩
theorem moX5_cutCells : g_MI mX5_cutCells := ⟨⟨g_tb 693 (by decide +kernel) (by decide +kernel), g_tb 4 (by decide +kernel) (by decide +kernel), by decide +kernel, by decide +kernel, by decide +kernel⟩, g_tb 691 (by decide +kernel) (by decide +kernel), g_tb 692 (by decide +kernel) (by decide +kernel)⟩
theorem moX5_holesDone : g_MI mX5_holesDone := ⟨⟨g_tb 697 (by decide +kernel) (by decide +kernel), g_tb 4 (by decide +kernel) (by decide +kernel), by decide +kernel, by decide +kernel, by decide +kernel⟩, g_tb 695 (by decide +kernel) (by decide +kernel), g_tb 696 (by decide +kernel) (by decide +kernel)⟩
theorem moX5_clampAt : g_MI mX5_clampAt := ⟨⟨g_tb 632 (by decide +kernel) (by decide +kernel), g_tb 4 (by decide +kernel) (by decide +kernel), by decide +kernel, by decide +kernel, by decide +kernel⟩, g_tb 630 (by decide +kernel) (by decide +kernel), g_tb 631 (by decide +kernel) (by decide +kernel)⟩
theorem moX5_isTakenByOther : g_MI mX5_isTakenByOther := ⟨⟨g_tb 583 (by decide +kernel) (by decide +kernel), g_tb 4 (by decide +kernel) (by decide +kernel), by decide +kernel, by decide +kernel, by decide +kernel⟩, g_tb 581 (by decide +kernel) (by decide +kernel), g_tb 582 (by decide +kernel) (by decide +kernel)⟩
theorem moX5_isClamped : g_MI mX5_isClamped := ⟨⟨g_tb 492 (by decide +kernel) (by decide +kernel), g_tb 4 (by decide +kernel) (by decide +kernel), by decide +kernel, by decide +kernel, by decide +kernel⟩, g_tb 491 (by decide +kernel) (by decide +kernel), g_tp 7 (by decide +kernel) (by decide +kernel)⟩
theorem moX6_init : g_MN mX6_init := ⟨⟨g_tb 31 (by decide +kernel) (by decide +kernel), g_tb 2 (by decide +kernel) (by decide +kernel), by decide +kernel, by decide +kernel, by decide +kernel⟩, g_tb 30 (by decide +kernel) (by decide +kernel), rfl⟩
theorem moX6_append : g_MI mX6_append := ⟨⟨g_tb 303 (by decide +kernel) (by decide +kernel), g_tb 2 (by decide +kernel) (by decide +kernel), by decide +kernel, by decide +kernel, by decide +kernel⟩, g_tb 301 (by decide +kernel) (by decide +kernel), g_tb 302 (by decide +kernel) (by decide +kernel)⟩
theorem moX6_clear : g_MI mX6_clear := ⟨⟨g_tb 407 (by decide +kernel) (by decide +kernel), g_tb 2 (by decide +kernel) (by decide +kernel), by decide +kernel, by decide +kernel, by decide +kernel⟩, g_tb 405 (by decide +kernel) (by decide +kernel), g_tb 406 (by decide +kernel) (by decide +kernel)⟩
theorem moX6_letterAt : g_MI mX6_letterAt := ⟨⟨g_tb 333 (by decide +kernel) (by decide +kernel), g_tb 2 (by decide +kernel) (by decide +kernel), by decide +kernel, by decide +kernel, by decide +kernel⟩, g_tb 331 (by decide +kernel) (by decide +kernel), g_tb 332 (by decide +kernel) (by decide +kernel)⟩
theorem moX7_init : g_MN mX7_init := ⟨⟨g_tb 189 (by decide +kernel) (by decide +kernel), g_tb 9 (by decide +kernel) (by decide +kernel), by decide +kernel, by decide +kernel, by decide +kernel⟩, g_tb 188 (by decide +kernel) (by decide +kernel), rfl⟩
theorem moX7_wideWhen : g_MI mX7_wideWhen := ⟨⟨g_tb 474 (by decide +kernel) (by decide +kernel), g_tb 9 (by decide +kernel) (by decide +kernel), by decide +kernel, by decide +kernel, by decide +kernel⟩, g_tb 472 (by decide +kernel) (by decide +kernel), g_tb 473 (by decide +kernel) (by decide +kernel)⟩
theorem moX7_highWhen : g_MI mX7_highWhen := ⟨⟨g_tb 478 (by decide +kernel) (by decide +kernel), g_tb 9 (by decide +kernel) (by decide +kernel), by decide +kernel, by decide +kernel, by decide +kernel⟩, g_tb 476 (by decide +kernel) (by decide +kernel), g_tb 477 (by decide +kernel) (by decide +kernel)⟩
theorem moX7_stampAt : g_MI mX7_stampAt := ⟨⟨g_tb 470 (by decide +kernel) (by decide +kernel), g_tb 9 (by decide +kernel) (by decide +kernel), by decide +kernel, by decide +kernel, by decide +kernel⟩, g_tb 468 (by decide +kernel) (by decide +kernel), g_tb 469 (by decide +kernel) (by decide +kernel)⟩
theorem moX7_hitsFor : g_MI mX7_hitsFor := ⟨⟨g_tb 563 (by decide +kernel) (by decide +kernel), g_tb 9 (by decide +kernel) (by decide +kernel), by decide +kernel, by decide +kernel, by decide +kernel⟩, g_tb 561 (by decide +kernel) (by decide +kernel), g_tb 562 (by decide +kernel) (by decide +kernel)⟩
theorem moX8_init : g_MN mX8_init := ⟨⟨g_tb 23 (by decide +kernel) (by decide +kernel), g_tb 1 (by decide +kernel) (by decide +kernel), by decide +kernel, by decide +kernel, by decide +kernel⟩, g_tb 22 (by decide +kernel) (by decide +kernel), rfl⟩
theorem moX8_write : g_MI mX8_write := ⟨⟨g_tb 440 (by decide +kernel) (by decide +kernel), g_tb 1 (by decide +kernel) (by decide +kernel), by decide +kernel, by decide +kernel, by decide +kernel⟩, g_tb 438 (by decide +kernel) (by decide +kernel), g_tb 439 (by decide +kernel) (by decide +kernel)⟩
theorem moX8_wipe : g_MI mX8_wipe := ⟨⟨g_tb 444 (by decide +kernel) (by decide +kernel), g_tb 1 (by decide +kernel) (by decide +kernel), by decide +kernel, by decide +kernel, by decide +kernel⟩, g_tb 442 (by decide +kernel) (by decide +kernel), g_tb 443 (by decide +kernel) (by decide +kernel)⟩
theorem moX8_fault : g_MI mX8_fault := ⟨⟨g_tb 448 (by decide +kernel) (by decide +kernel), g_tb 1 (by decide +kernel) (by decide +kernel), by decide +kernel, by decide +kernel, by decide +kernel⟩, g_tb 446 (by decide +kernel) (by decide +kernel), g_tb 447 (by decide +kernel) (by decide +kernel)⟩
theorem moX8_lay : g_MI mX8_lay := ⟨⟨g_tb 452 (by decide +kernel) (by decide +kernel), g_tb 1 (by decide +kernel) (by decide +kernel), by decide +kernel, by decide +kernel, by decide +kernel⟩, g_tb 450 (by decide +kernel) (by decide +kernel), g_tb 451 (by decide +kernel) (by decide +kernel)⟩
theorem moX8_hit : g_MI mX8_hit := ⟨⟨g_tb 456 (by decide +kernel) (by decide +kernel), g_tb 1 (by decide +kernel) (by decide +kernel), by decide +kernel, by decide +kernel, by decide +kernel⟩, g_tb 454 (by decide +kernel) (by decide +kernel), g_tb 455 (by decide +kernel) (by decide +kernel)⟩
theorem moX8_why : g_MI mX8_why := ⟨⟨g_tb 545 (by decide +kernel) (by decide +kernel), g_tb 1 (by decide +kernel) (by decide +kernel), by decide +kernel, by decide +kernel, by decide +kernel⟩, g_tb 543 (by decide +kernel) (by decide +kernel), g_tb 544 (by decide +kernel) (by decide +kernel)⟩
theorem moX8_nibble : g_MI mX8_nibble := ⟨⟨g_tb 549 (by decide +kernel) (by decide +kernel), g_tb 1 (by decide +kernel) (by decide +kernel), by decide +kernel, by decide +kernel, by decide +kernel⟩, g_tb 547 (by decide +kernel) (by decide +kernel), g_tb 548 (by decide +kernel) (by decide +kernel)⟩
theorem moX8_clamp : g_MI mX8_clamp := ⟨⟨g_tb 574 (by decide +kernel) (by decide +kernel), g_tb 1 (by decide +kernel) (by decide +kernel), by decide +kernel, by decide +kernel, by decide +kernel⟩, g_tb 572 (by decide +kernel) (by decide +kernel), g_tb 573 (by decide +kernel) (by decide +kernel)⟩
theorem moX8_sharpen : g_MI mX8_sharpen := ⟨⟨g_tb 588 (by decide +kernel) (by decide +kernel), g_tb 1 (by decide +kernel) (by decide +kernel), by decide +kernel, by decide +kernel, by decide +kernel⟩, g_tb 586 (by decide +kernel) (by decide +kernel), g_tb 587 (by decide +kernel) (by decide +kernel)⟩
theorem moX8_undo : g_MI mX8_undo := ⟨⟨g_tb 592 (by decide +kernel) (by decide +kernel), g_tb 1 (by decide +kernel) (by decide +kernel), by decide +kernel, by decide +kernel, by decide +kernel⟩, g_tb 590 (by decide +kernel) (by decide +kernel), g_tb 591 (by decide +kernel) (by decide +kernel)⟩
theorem moX8_station : g_MI mX8_station := ⟨⟨g_tb 600 (by decide +kernel) (by decide +kernel), g_tb 1 (by decide +kernel) (by decide +kernel), by decide +kernel, by decide +kernel, by decide +kernel⟩, g_tb 598 (by decide +kernel) (by decide +kernel), g_tb 599 (by decide +kernel) (by decide +kernel)⟩
theorem moX8_hole : g_MI mX8_hole := ⟨⟨g_tb 609 (by decide +kernel) (by decide +kernel), g_tb 1 (by decide +kernel) (by decide +kernel), by decide +kernel, by decide +kernel, by decide +kernel⟩, g_tb 607 (by decide +kernel) (by decide +kernel), g_tb 608 (by decide +kernel) (by decide +kernel)⟩
theorem moX8_hits : g_MI mX8_hits := ⟨⟨g_tb 614 (by decide +kernel) (by decide +kernel), g_tb 1 (by decide +kernel) (by decide +kernel), by decide +kernel, by decide +kernel, by decide +kernel⟩, g_tb 612 (by decide +kernel) (by decide +kernel), g_tb 613 (by decide +kernel) (by decide +kernel)⟩
theorem moX8_cell : g_MI mX8_cell := ⟨⟨g_tb 618 (by decide +kernel) (by decide +kernel), g_tb 1 (by decide +kernel) (by decide +kernel), by decide +kernel, by decide +kernel, by decide +kernel⟩, g_tb 616 (by decide +kernel) (by decide +kernel), g_tb 617 (by decide +kernel) (by decide +kernel)⟩
theorem moX8_column : g_MI mX8_column := ⟨⟨g_tb 637 (by decide +kernel) (by decide +kernel), g_tb 1 (by decide +kernel) (by decide +kernel), by decide +kernel, by decide +kernel, by decide +kernel⟩, g_tb 635 (by decide +kernel) (by decide +kernel), g_tb 636 (by decide +kernel) (by decide +kernel)⟩
theorem moX8_plan : g_MI mX8_plan := ⟨⟨g_tb 641 (by decide +kernel) (by decide +kernel), g_tb 1 (by decide +kernel) (by decide +kernel), by decide +kernel, by decide +kernel, by decide +kernel⟩, g_tb 639 (by decide +kernel) (by decide +kernel), g_tb 640 (by decide +kernel) (by decide +kernel)⟩
theorem moX8_drawn : g_MI mX8_drawn := ⟨⟨g_tb 681 (by decide +kernel) (by decide +kernel), g_tb 1 (by decide +kernel) (by decide +kernel), by decide +kernel, by decide +kernel, by decide +kernel⟩, g_tb 679 (by decide +kernel) (by decide +kernel), g_tb 680 (by decide +kernel) (by decide +kernel)⟩
theorem moX8_count : g_MI mX8_count := ⟨⟨g_tb 689 (by decide +kernel) (by decide +kernel), g_tb 1 (by decide +kernel) (by decide +kernel), by decide +kernel, by decide +kernel, by decide +kernel⟩, g_tb 687 (by decide +kernel) (by decide +kernel), g_tb 688 (by decide +kernel) (by decide +kernel)⟩
theorem moX8_layDraft : g_MI mX8_layDraft := ⟨⟨g_tb 307 (by decide +kernel) (by decide +kernel), g_tb 1 (by decide +kernel) (by decide +kernel), by decide +kernel, by decide +kernel, by decide +kernel⟩, g_tb 306 (by decide +kernel) (by decide +kernel), g_tp 0 (by decide +kernel) (by decide +kernel)⟩
theorem moX8_punchAll : g_MI mX8_punchAll := ⟨⟨g_tb 559 (by decide +kernel) (by decide +kernel), g_tb 1 (by decide +kernel) (by decide +kernel), by decide +kernel, by decide +kernel, by decide +kernel⟩, g_tb 558 (by decide +kernel) (by decide +kernel), g_tp 9 (by decide +kernel) (by decide +kernel)⟩
theorem moX8_signAt : g_MI mX8_signAt := ⟨⟨g_tb 685 (by decide +kernel) (by decide +kernel), g_tb 1 (by decide +kernel) (by decide +kernel), by decide +kernel, by decide +kernel, by decide +kernel⟩, g_tb 684 (by decide +kernel) (by decide +kernel), g_tp 17 (by decide +kernel) (by decide +kernel)⟩
theorem moX8_isHitTold : g_MI mX8_isHitTold := ⟨⟨g_tb 460 (by decide +kernel) (by decide +kernel), g_tb 1 (by decide +kernel) (by decide +kernel), by decide +kernel, by decide +kernel, by decide +kernel⟩, g_tb 459 (by decide +kernel) (by decide +kernel), g_tp 5 (by decide +kernel) (by decide +kernel)⟩
theorem moX8_isStation : g_MI mX8_isStation := ⟨⟨g_tb 464 (by decide +kernel) (by decide +kernel), g_tb 1 (by decide +kernel) (by decide +kernel), by decide +kernel, by decide +kernel, by decide +kernel⟩, g_tb 463 (by decide +kernel) (by decide +kernel), g_tp 6 (by decide +kernel) (by decide +kernel)⟩
theorem moX8_isHole : g_MI mX8_isHole := ⟨⟨g_tb 553 (by decide +kernel) (by decide +kernel), g_tb 1 (by decide +kernel) (by decide +kernel), by decide +kernel, by decide +kernel, by decide +kernel⟩, g_tb 552 (by decide +kernel) (by decide +kernel), g_tp 8 (by decide +kernel) (by decide +kernel)⟩
theorem moX8_isClamp : g_MI mX8_isClamp := ⟨⟨g_tb 578 (by decide +kernel) (by decide +kernel), g_tb 1 (by decide +kernel) (by decide +kernel), by decide +kernel, by decide +kernel, by decide +kernel⟩, g_tb 577 (by decide +kernel) (by decide +kernel), g_tp 10 (by decide +kernel) (by decide +kernel)⟩
theorem moX8_isFlag : g_MS mX8_isFlag := ⟨⟨g_tb 364 (by decide +kernel) (by decide +kernel), g_tb 1 (by decide +kernel) (by decide +kernel), by decide +kernel, by decide +kernel, by decide +kernel⟩, g_tb 363 (by decide +kernel) (by decide +kernel)⟩
theorem moX8_asFlag : g_MS mX8_asFlag := ⟨⟨g_tb 603 (by decide +kernel) (by decide +kernel), g_tb 1 (by decide +kernel) (by decide +kernel), by decide +kernel, by decide +kernel, by decide +kernel⟩, g_tb 602 (by decide +kernel) (by decide +kernel)⟩
theorem moX8_isWithin : g_MS mX8_isWithin := ⟨⟨g_tb 356 (by decide +kernel) (by decide +kernel), g_tb 1 (by decide +kernel) (by decide +kernel), by decide +kernel, by decide +kernel, by decide +kernel⟩, g_tb 355 (by decide +kernel) (by decide +kernel)⟩
theorem moX8_stepsOver : g_MS mX8_stepsOver := ⟨⟨g_tb 566 (by decide +kernel) (by decide +kernel), g_tb 1 (by decide +kernel) (by decide +kernel), by decide +kernel, by decide +kernel, by decide +kernel⟩, g_tb 565 (by decide +kernel) (by decide +kernel)⟩
theorem moX9_init : g_MN mX9_init := ⟨⟨g_tb 702 (by decide +kernel) (by decide +kernel), g_tb 16 (by decide +kernel) (by decide +kernel), by decide +kernel, by decide +kernel, by decide +kernel⟩, g_tb 701 (by decide +kernel) (by decide +kernel), rfl⟩
theorem moX9_adds : g_MI mX9_adds := ⟨⟨g_tb 707 (by decide +kernel) (by decide +kernel), g_tb 16 (by decide +kernel) (by decide +kernel), by decide +kernel, by decide +kernel, by decide +kernel⟩, g_tb 706 (by decide +kernel) (by decide +kernel), g_tp 18 (by decide +kernel) (by decide +kernel)⟩
theorem moX9_anew : g_MI mX9_anew := ⟨⟨g_tb 711 (by decide +kernel) (by decide +kernel), g_tb 16 (by decide +kernel) (by decide +kernel), by decide +kernel, by decide +kernel, by decide +kernel⟩, g_tb 710 (by decide +kernel) (by decide +kernel), g_tp 19 (by decide +kernel) (by decide +kernel)⟩
theorem moX9_in : g_MS mX9_in := ⟨⟨g_tb 769 (by decide +kernel) (by decide +kernel), g_tb 16 (by decide +kernel) (by decide +kernel), by decide +kernel, by decide +kernel, by decide +kernel⟩, g_tb 768 (by decide +kernel) (by decide +kernel)⟩
theorem moX9_write : g_MI mX9_write := ⟨⟨g_tb 764 (by decide +kernel) (by decide +kernel), g_tb 16 (by decide +kernel) (by decide +kernel), by decide +kernel, by decide +kernel, by decide +kernel⟩, g_tb 762 (by decide +kernel) (by decide +kernel), g_tb 763 (by decide +kernel) (by decide +kernel)⟩
theorem moX9_wipe : g_MI mX9_wipe := ⟨⟨g_tb 773 (by decide +kernel) (by decide +kernel), g_tb 16 (by decide +kernel) (by decide +kernel), by decide +kernel, by decide +kernel, by decide +kernel⟩, g_tb 771 (by decide +kernel) (by decide +kernel), g_tb 772 (by decide +kernel) (by decide +kernel)⟩
theorem moX9_byteAt : g_MI mX9_byteAt := ⟨⟨g_tb 793 (by decide +kernel) (by decide +kernel), g_tb 16 (by decide +kernel) (by decide +kernel), by decide +kernel, by decide +kernel, by decide +kernel⟩, g_tb 792 (by decide +kernel) (by decide +kernel), g_tp 22 (by decide +kernel) (by decide +kernel)⟩
theorem moX9_number : g_MI mX9_number := ⟨⟨g_tb 798 (by decide +kernel) (by decide +kernel), g_tb 16 (by decide +kernel) (by decide +kernel), by decide +kernel, by decide +kernel, by decide +kernel⟩, g_tb 797 (by decide +kernel) (by decide +kernel), g_tp 23 (by decide +kernel) (by decide +kernel)⟩
theorem moX9_word : g_MI mX9_word := ⟨⟨g_tb 789 (by decide +kernel) (by decide +kernel), g_tb 16 (by decide +kernel) (by decide +kernel), by decide +kernel, by decide +kernel, by decide +kernel⟩, g_tb 788 (by decide +kernel) (by decide +kernel), g_tp 21 (by decide +kernel) (by decide +kernel)⟩
theorem moX9_word5 : g_MS mX9_word5 := ⟨⟨g_tb 784 (by decide +kernel) (by decide +kernel), g_tb 16 (by decide +kernel) (by decide +kernel), by decide +kernel, by decide +kernel, by decide +kernel⟩, g_tb 783 (by decide +kernel) (by decide +kernel)⟩
theorem moX9_word4 : g_MS mX9_word4 := ⟨⟨g_tb 803 (by decide +kernel) (by decide +kernel), g_tb 16 (by decide +kernel) (by decide +kernel), by decide +kernel, by decide +kernel, by decide +kernel⟩, g_tb 802 (by decide +kernel) (by decide +kernel)⟩
theorem moX9_isApart : g_MI mX9_isApart := ⟨⟨g_tb 811 (by decide +kernel) (by decide +kernel), g_tb 16 (by decide +kernel) (by decide +kernel), by decide +kernel, by decide +kernel, by decide +kernel⟩, g_tb 810 (by decide +kernel) (by decide +kernel), g_tp 25 (by decide +kernel) (by decide +kernel)⟩
theorem moX9_holeItem : g_MI mX9_holeItem := ⟨⟨g_tb 807 (by decide +kernel) (by decide +kernel), g_tb 16 (by decide +kernel) (by decide +kernel), by decide +kernel, by decide +kernel, by decide +kernel⟩, g_tb 806 (by decide +kernel) (by decide +kernel), g_tp 24 (by decide +kernel) (by decide +kernel)⟩
theorem moX9_item : g_MI mX9_item := ⟨⟨g_tb 781 (by decide +kernel) (by decide +kernel), g_tb 16 (by decide +kernel) (by decide +kernel), by decide +kernel, by decide +kernel, by decide +kernel⟩, g_tb 780 (by decide +kernel) (by decide +kernel), g_tp 20 (by decide +kernel) (by decide +kernel)⟩
theorem moX9_fault : g_MI mX9_fault := ⟨⟨g_tb 777 (by decide +kernel) (by decide +kernel), g_tb 16 (by decide +kernel) (by decide +kernel), by decide +kernel, by decide +kernel, by decide +kernel⟩, g_tb 775 (by decide +kernel) (by decide +kernel), g_tb 776 (by decide +kernel) (by decide +kernel)⟩
theorem moX9_lay : g_MI mX9_lay := ⟨⟨g_tb 815 (by decide +kernel) (by decide +kernel), g_tb 16 (by decide +kernel) (by decide +kernel), by decide +kernel, by decide +kernel, by decide +kernel⟩, g_tb 813 (by decide +kernel) (by decide +kernel), g_tb 814 (by decide +kernel) (by decide +kernel)⟩
theorem moX9_note : g_MI mX9_note := ⟨⟨g_tb 870 (by decide +kernel) (by decide +kernel), g_tb 16 (by decide +kernel) (by decide +kernel), by decide +kernel, by decide +kernel, by decide +kernel⟩, g_tb 869 (by decide +kernel) (by decide +kernel), g_tp 35 (by decide +kernel) (by decide +kernel)⟩
theorem moX9_takesBack : g_MI mX9_takesBack := ⟨⟨g_tb 824 (by decide +kernel) (by decide +kernel), g_tb 16 (by decide +kernel) (by decide +kernel), by decide +kernel, by decide +kernel, by decide +kernel⟩, g_tb 823 (by decide +kernel) (by decide +kernel), g_tp 26 (by decide +kernel) (by decide +kernel)⟩
theorem moX9_undo : g_MI mX9_undo := ⟨⟨g_tb 820 (by decide +kernel) (by decide +kernel), g_tb 16 (by decide +kernel) (by decide +kernel), by decide +kernel, by decide +kernel, by decide +kernel⟩, g_tb 818 (by decide +kernel) (by decide +kernel), g_tb 819 (by decide +kernel) (by decide +kernel)⟩
theorem moX9_isCell : g_MI mX9_isCell := ⟨⟨g_tb 849 (by decide +kernel) (by decide +kernel), g_tb 16 (by decide +kernel) (by decide +kernel), by decide +kernel, by decide +kernel, by decide +kernel⟩, g_tb 848 (by decide +kernel) (by decide +kernel), g_tp 31 (by decide +kernel) (by decide +kernel)⟩
theorem moX9_isStation : g_MI mX9_isStation := ⟨⟨g_tb 832 (by decide +kernel) (by decide +kernel), g_tb 16 (by decide +kernel) (by decide +kernel), by decide +kernel, by decide +kernel, by decide +kernel⟩, g_tb 831 (by decide +kernel) (by decide +kernel), g_tp 27 (by decide +kernel) (by decide +kernel)⟩
theorem moX9_isHole : g_MI mX9_isHole := ⟨⟨g_tb 886 (by decide +kernel) (by decide +kernel), g_tb 16 (by decide +kernel) (by decide +kernel), by decide +kernel, by decide +kernel, by decide +kernel⟩, g_tb 885 (by decide +kernel) (by decide +kernel), g_tp 38 (by decide +kernel) (by decide +kernel)⟩
theorem moX9_holeAt : g_MI mX9_holeAt := ⟨⟨g_tb 853 (by decide +kernel) (by decide +kernel), g_tb 16 (by decide +kernel) (by decide +kernel), by decide +kernel, by decide +kernel, by decide +kernel⟩, g_tb 852 (by decide +kernel) (by decide +kernel), g_tp 32 (by decide +kernel) (by decide +kernel)⟩
theorem moX9_clampAt : g_MI mX9_clampAt := ⟨⟨g_tb 857 (by decide +kernel) (by decide +kernel), g_tb 16 (by decide +kernel) (by decide +kernel), by decide +kernel, by decide +kernel, by decide +kernel⟩, g_tb 856 (by decide +kernel) (by decide +kernel), g_tp 33 (by decide +kernel) (by decide +kernel)⟩
theorem moX9_wide : g_MI mX9_wide := ⟨⟨g_tb 841 (by decide +kernel) (by decide +kernel), g_tb 16 (by decide +kernel) (by decide +kernel), by decide +kernel, by decide +kernel, by decide +kernel⟩, g_tb 840 (by decide +kernel) (by decide +kernel), g_tp 29 (by decide +kernel) (by decide +kernel)⟩
theorem moX9_high : g_MI mX9_high := ⟨⟨g_tb 845 (by decide +kernel) (by decide +kernel), g_tb 16 (by decide +kernel) (by decide +kernel), by decide +kernel, by decide +kernel, by decide +kernel⟩, g_tb 844 (by decide +kernel) (by decide +kernel), g_tp 30 (by decide +kernel) (by decide +kernel)⟩
theorem moX9_isDull : g_MI mX9_isDull := ⟨⟨g_tb 861 (by decide +kernel) (by decide +kernel), g_tb 16 (by decide +kernel) (by decide +kernel), by decide +kernel, by decide +kernel, by decide +kernel⟩, g_tb 860 (by decide +kernel) (by decide +kernel), g_tp 34 (by decide +kernel) (by decide +kernel)⟩
theorem moX9_ring : g_MI mX9_ring := ⟨⟨g_tb 878 (by decide +kernel) (by decide +kernel), g_tb 16 (by decide +kernel) (by decide +kernel), by decide +kernel, by decide +kernel, by decide +kernel⟩, g_tb 877 (by decide +kernel) (by decide +kernel), g_tp 37 (by decide +kernel) (by decide +kernel)⟩
theorem moX9_whyNot : g_MI mX9_whyNot := ⟨⟨g_tb 837 (by decide +kernel) (by decide +kernel), g_tb 16 (by decide +kernel) (by decide +kernel), by decide +kernel, by decide +kernel, by decide +kernel⟩, g_tb 836 (by decide +kernel) (by decide +kernel), g_tp 28 (by decide +kernel) (by decide +kernel)⟩
theorem moX9_why : g_MI mX9_why := ⟨⟨g_tb 828 (by decide +kernel) (by decide +kernel), g_tb 16 (by decide +kernel) (by decide +kernel), by decide +kernel, by decide +kernel, by decide +kernel⟩, g_tb 826 (by decide +kernel) (by decide +kernel), g_tb 827 (by decide +kernel) (by decide +kernel)⟩
theorem moX9_strikes : g_MI mX9_strikes := ⟨⟨g_tb 874 (by decide +kernel) (by decide +kernel), g_tb 16 (by decide +kernel) (by decide +kernel), by decide +kernel, by decide +kernel, by decide +kernel⟩, g_tb 873 (by decide +kernel) (by decide +kernel), g_tp 36 (by decide +kernel) (by decide +kernel)⟩
theorem moX9_hit : g_MI mX9_hit := ⟨⟨g_tb 865 (by decide +kernel) (by decide +kernel), g_tb 16 (by decide +kernel) (by decide +kernel), by decide +kernel, by decide +kernel, by decide +kernel⟩, g_tb 863 (by decide +kernel) (by decide +kernel), g_tb 864 (by decide +kernel) (by decide +kernel)⟩
theorem moX9_open : g_MI mX9_open := ⟨⟨g_tb 897 (by decide +kernel) (by decide +kernel), g_tb 16 (by decide +kernel) (by decide +kernel), by decide +kernel, by decide +kernel, by decide +kernel⟩, g_tb 896 (by decide +kernel) (by decide +kernel), g_tp 40 (by decide +kernel) (by decide +kernel)⟩
theorem moX9_parts : g_MS mX9_parts := ⟨⟨g_tb 893 (by decide +kernel) (by decide +kernel), g_tb 16 (by decide +kernel) (by decide +kernel), by decide +kernel, by decide +kernel, by decide +kernel⟩, g_tb 892 (by decide +kernel) (by decide +kernel)⟩
theorem moX9_nibbles : g_MI mX9_nibbles := ⟨⟨g_tb 890 (by decide +kernel) (by decide +kernel), g_tb 16 (by decide +kernel) (by decide +kernel), by decide +kernel, by decide +kernel, by decide +kernel⟩, g_tb 889 (by decide +kernel) (by decide +kernel), g_tp 39 (by decide +kernel) (by decide +kernel)⟩
theorem moX9_isCut : g_MI mX9_isCut := ⟨⟨g_tb 901 (by decide +kernel) (by decide +kernel), g_tb 16 (by decide +kernel) (by decide +kernel), by decide +kernel, by decide +kernel, by decide +kernel⟩, g_tb 900 (by decide +kernel) (by decide +kernel), g_tp 41 (by decide +kernel) (by decide +kernel)⟩
theorem moX9_nibble : g_MI mX9_nibble := ⟨⟨g_tb 882 (by decide +kernel) (by decide +kernel), g_tb 16 (by decide +kernel) (by decide +kernel), by decide +kernel, by decide +kernel, by decide +kernel⟩, g_tb 880 (by decide +kernel) (by decide +kernel), g_tb 881 (by decide +kernel) (by decide +kernel)⟩
theorem moX9_swaps : g_MI mX9_swaps := ⟨⟨g_tb 905 (by decide +kernel) (by decide +kernel), g_tb 16 (by decide +kernel) (by decide +kernel), by decide +kernel, by decide +kernel, by decide +kernel⟩, g_tb 904 (by decide +kernel) (by decide +kernel), g_tp 42 (by decide +kernel) (by decide +kernel)⟩
theorem moX9_clamp : g_MI mX9_clamp := ⟨⟨g_tb 909 (by decide +kernel) (by decide +kernel), g_tb 16 (by decide +kernel) (by decide +kernel), by decide +kernel, by decide +kernel, by decide +kernel⟩, g_tb 907 (by decide +kernel) (by decide +kernel), g_tb 908 (by decide +kernel) (by decide +kernel)⟩
theorem moX9_sharpen : g_MI mX9_sharpen := ⟨⟨g_tb 914 (by decide +kernel) (by decide +kernel), g_tb 16 (by decide +kernel) (by decide +kernel), by decide +kernel, by decide +kernel, by decide +kernel⟩, g_tb 912 (by decide +kernel) (by decide +kernel), g_tb 913 (by decide +kernel) (by decide +kernel)⟩
theorem moX9_station : g_MI mX9_station := ⟨⟨g_tb 918 (by decide +kernel) (by decide +kernel), g_tb 16 (by decide +kernel) (by decide +kernel), by decide +kernel, by decide +kernel, by decide +kernel⟩, g_tb 916 (by decide +kernel) (by decide +kernel), g_tb 917 (by decide +kernel) (by decide +kernel)⟩
theorem moX9_hole : g_MI mX9_hole := ⟨⟨g_tb 923 (by decide +kernel) (by decide +kernel), g_tb 16 (by decide +kernel) (by decide +kernel), by decide +kernel, by decide +kernel, by decide +kernel⟩, g_tb 921 (by decide +kernel) (by decide +kernel), g_tb 922 (by decide +kernel) (by decide +kernel)⟩
theorem moX9_hits : g_MI mX9_hits := ⟨⟨g_tb 928 (by decide +kernel) (by decide +kernel), g_tb 16 (by decide +kernel) (by decide +kernel), by decide +kernel, by decide +kernel, by decide +kernel⟩, g_tb 926 (by decide +kernel) (by decide +kernel), g_tb 927 (by decide +kernel) (by decide +kernel)⟩
theorem moX9_cell : g_MI mX9_cell := ⟨⟨g_tb 932 (by decide +kernel) (by decide +kernel), g_tb 16 (by decide +kernel) (by decide +kernel), by decide +kernel, by decide +kernel, by decide +kernel⟩, g_tb 930 (by decide +kernel) (by decide +kernel), g_tb 931 (by decide +kernel) (by decide +kernel)⟩
theorem moX9_column : g_MI mX9_column := ⟨⟨g_tb 937 (by decide +kernel) (by decide +kernel), g_tb 16 (by decide +kernel) (by decide +kernel), by decide +kernel, by decide +kernel, by decide +kernel⟩, g_tb 935 (by decide +kernel) (by decide +kernel), g_tb 936 (by decide +kernel) (by decide +kernel)⟩
theorem moX9_round : g_MI mX9_round := ⟨⟨g_tb 954 (by decide +kernel) (by decide +kernel), g_tb 16 (by decide +kernel) (by decide +kernel), by decide +kernel, by decide +kernel, by decide +kernel⟩, g_tb 953 (by decide +kernel) (by decide +kernel), g_tp 45 (by decide +kernel) (by decide +kernel)⟩
theorem moX9_plans : g_MI mX9_plans := ⟨⟨g_tb 950 (by decide +kernel) (by decide +kernel), g_tb 16 (by decide +kernel) (by decide +kernel), by decide +kernel, by decide +kernel, by decide +kernel⟩, g_tb 949 (by decide +kernel) (by decide +kernel), g_tp 44 (by decide +kernel) (by decide +kernel)⟩
theorem moX9_looks : g_MI mX9_looks := ⟨⟨g_tb 946 (by decide +kernel) (by decide +kernel), g_tb 16 (by decide +kernel) (by decide +kernel), by decide +kernel, by decide +kernel, by decide +kernel⟩, g_tb 945 (by decide +kernel) (by decide +kernel), g_tp 43 (by decide +kernel) (by decide +kernel)⟩
theorem moX9_plan : g_MI mX9_plan := ⟨⟨g_tb 941 (by decide +kernel) (by decide +kernel), g_tb 16 (by decide +kernel) (by decide +kernel), by decide +kernel, by decide +kernel, by decide +kernel⟩, g_tb 939 (by decide +kernel) (by decide +kernel), g_tb 940 (by decide +kernel) (by decide +kernel)⟩
theorem moX9_drawn : g_MI mX9_drawn := ⟨⟨g_tb 958 (by decide +kernel) (by decide +kernel), g_tb 16 (by decide +kernel) (by decide +kernel), by decide +kernel, by decide +kernel, by decide +kernel⟩, g_tb 956 (by decide +kernel) (by decide +kernel), g_tb 957 (by decide +kernel) (by decide +kernel)⟩
theorem moX9_count : g_MI mX9_count := ⟨⟨g_tb 962 (by decide +kernel) (by decide +kernel), g_tb 16 (by decide +kernel) (by decide +kernel), by decide +kernel, by decide +kernel, by decide +kernel⟩, g_tb 960 (by decide +kernel) (by decide +kernel), g_tb 961 (by decide +kernel) (by decide +kernel)⟩
theorem moJ6_bitCount_0f7a4 : g_MS mJ6_bitCount_0f7a4 := ⟨⟨g_tb 511 (by decide +kernel) (by decide +kernel), g_tb 17 (by decide +kernel) (by decide +kernel), by decide +kernel, by decide +kernel, by decide +kernel⟩, g_tb 510 (by decide +kernel) (by decide +kernel)⟩
theorem moJ9_abs_0f7a4 : g_MS mJ9_abs_0f7a4 := ⟨⟨g_tb 540 (by decide +kernel) (by decide +kernel), g_tb 18 (by decide +kernel) (by decide +kernel), by decide +kernel, by decide +kernel, by decide +kernel⟩, g_tb 539 (by decide +kernel) (by decide +kernel)⟩
theorem moJ9_min_7cf53 : g_MS mJ9_min_7cf53 := ⟨⟨g_tb 529 (by decide +kernel) (by decide +kernel), g_tb 18 (by decide +kernel) (by decide +kernel), by decide +kernel, by decide +kernel, by decide +kernel⟩, g_tb 528 (by decide +kernel) (by decide +kernel)⟩
theorem moJ0_length_8abf5 : g_MI mJ0_length_8abf5 := ⟨⟨g_tb 255 (by decide +kernel) (by decide +kernel), g_tb 10 (by decide +kernel) (by decide +kernel), by decide +kernel, by decide +kernel, by decide +kernel⟩, g_tb 253 (by decide +kernel) (by decide +kernel), g_tb 254 (by decide +kernel) (by decide +kernel)⟩
theorem moJ0_charAt_5068e : g_MI mJ0_charAt_5068e := ⟨⟨g_tb 265 (by decide +kernel) (by decide +kernel), g_tb 10 (by decide +kernel) (by decide +kernel), by decide +kernel, by decide +kernel, by decide +kernel⟩, g_tb 263 (by decide +kernel) (by decide +kernel), g_tb 264 (by decide +kernel) (by decide +kernel)⟩
theorem moJ0_coder_7d493 : g_MI mJ0_coder_7d493 := ⟨⟨g_tb 259 (by decide +kernel) (by decide +kernel), g_tb 10 (by decide +kernel) (by decide +kernel), by decide +kernel, by decide +kernel, by decide +kernel⟩, g_tb 257 (by decide +kernel) (by decide +kernel), g_tb 258 (by decide +kernel) (by decide +kernel)⟩
theorem moJ0_isLatin1_aae02 : g_MI mJ0_isLatin1_aae02 := ⟨⟨g_tb 269 (by decide +kernel) (by decide +kernel), g_tb 10 (by decide +kernel) (by decide +kernel), by decide +kernel, by decide +kernel, by decide +kernel⟩, g_tb 267 (by decide +kernel) (by decide +kernel), g_tb 268 (by decide +kernel) (by decide +kernel)⟩
theorem moJ0_checkIndex_df160 : g_MS mJ0_checkIndex_df160 := ⟨⟨g_tb 275 (by decide +kernel) (by decide +kernel), g_tb 10 (by decide +kernel) (by decide +kernel), by decide +kernel, by decide +kernel, by decide +kernel⟩, g_tb 274 (by decide +kernel) (by decide +kernel)⟩
theorem moJ1_charAt_3b067 : g_MS mJ1_charAt_3b067 := ⟨⟨g_tb 272 (by decide +kernel) (by decide +kernel), g_tb 11 (by decide +kernel) (by decide +kernel), by decide +kernel, by decide +kernel, by decide +kernel⟩, g_tb 271 (by decide +kernel) (by decide +kernel)⟩
theorem moJ7_fill_53178 : g_MS mJ7_fill_53178 := ⟨⟨g_tb 396 (by decide +kernel) (by decide +kernel), g_tb 14 (by decide +kernel) (by decide +kernel), by decide +kernel, by decide +kernel, by decide +kernel⟩, g_tb 395 (by decide +kernel) (by decide +kernel)⟩
theorem moJ3_checkIndex_8e157 : g_MS mJ3_checkIndex_8e157 := ⟨⟨g_tb 280 (by decide +kernel) (by decide +kernel), g_tb 12 (by decide +kernel) (by decide +kernel), by decide +kernel, by decide +kernel, by decide +kernel⟩, g_tb 279 (by decide +kernel) (by decide +kernel)⟩
theorem lkX1_init_17 : g_LN mX1_init mX5_init 17 := ⟨⟨_, g_tb 100 (by decide +kernel) (by decide +kernel)⟩, Nat.le_of_ble_eq_true rfl, Nat.le_of_ble_eq_true rfl⟩
theorem lkX1_keep_25 : g_LK mX1_keep mX5_copyFrom 25 := ⟨g_tb 523 (by decide +kernel) (by decide +kernel), Nat.le_of_ble_eq_true rfl, Nat.le_of_ble_eq_true rfl⟩
theorem lkX1_keep_29 : g_LK mX1_keep mJ9_min_7cf53 29 := ⟨g_tb 527 (by decide +kernel) (by decide +kernel), Nat.le_of_ble_eq_true rfl, Nat.le_of_ble_eq_true rfl⟩
theorem lkX1_giveBack_25 : g_LK mX1_giveBack mX5_copyFrom 25 := ⟨g_tb 523 (by decide +kernel) (by decide +kernel), Nat.le_of_ble_eq_true rfl, Nat.le_of_ble_eq_true rfl⟩
theorem lkX2_init_11 : g_LN mX2_init mX0_init 11 := ⟨⟨_, g_tb 182 (by decide +kernel) (by decide +kernel)⟩, Nat.le_of_ble_eq_true rfl, Nat.le_of_ble_eq_true rfl⟩
theorem lkX2_init_32 : g_LN mX2_init mX7_init 32 := ⟨⟨_, g_tb 187 (by decide +kernel) (by decide +kernel)⟩, Nat.le_of_ble_eq_true rfl, Nat.le_of_ble_eq_true rfl⟩
theorem lkX2_clear_33 : g_LK mX2_clear mX0_put 33 := ⟨g_tb 316 (by decide +kernel) (by decide +kernel), Nat.le_of_ble_eq_true rfl, Nat.le_of_ble_eq_true rfl⟩
theorem lkX2_takeSheet_50 : g_LK mX2_takeSheet mX2_hasSheet 50 := ⟨g_tb 350 (by decide +kernel) (by decide +kernel), Nat.le_of_ble_eq_true rfl, Nat.le_of_ble_eq_true rfl⟩
theorem lkX2_takeSheet_54 : g_LN mX2_takeSheet mX8_isWithin 54 := ⟨⟨_, g_tb 354 (by decide +kernel) (by decide +kernel)⟩, Nat.le_of_ble_eq_true rfl, Nat.le_of_ble_eq_true rfl⟩
theorem lkX2_takeSheet_33 : g_LK mX2_takeSheet mX0_put 33 := ⟨g_tb 316 (by decide +kernel) (by decide +kernel), Nat.le_of_ble_eq_true rfl, Nat.le_of_ble_eq_true rfl⟩
theorem lkX2_takeTool_50 : g_LK mX2_takeTool mX2_hasSheet 50 := ⟨g_tb 350 (by decide +kernel) (by decide +kernel), Nat.le_of_ble_eq_true rfl, Nat.le_of_ble_eq_true rfl⟩
theorem lkX2_takeTool_58 : g_LN mX2_takeTool mX8_isFlag 58 := ⟨⟨_, g_tb 362 (by decide +kernel) (by decide +kernel)⟩, Nat.le_of_ble_eq_true rfl, Nat.le_of_ble_eq_true rfl⟩
theorem lkX2_takeTool_54 : g_LN mX2_takeTool mX8_isWithin 54 := ⟨⟨_, g_tb 354 (by decide +kernel) (by decide +kernel)⟩, Nat.le_of_ble_eq_true rfl, Nat.le_of_ble_eq_true rfl⟩
theorem lkX2_takeHole_50 : g_LK mX2_takeHole mX2_hasSheet 50 := ⟨g_tb 350 (by decide +kernel) (by decide +kernel), Nat.le_of_ble_eq_true rfl, Nat.le_of_ble_eq_true rfl⟩
theorem lkX2_takeHole_33 : g_LK mX2_takeHole mX0_put 33 := ⟨g_tb 316 (by decide +kernel) (by decide +kernel), Nat.le_of_ble_eq_true rfl, Nat.le_of_ble_eq_true rfl⟩
theorem lkX2_takeHole_73 : g_LK mX2_takeHole mX0_covers 73 := ⟨g_tb 370 (by decide +kernel) (by decide +kernel), Nat.le_of_ble_eq_true rfl, Nat.le_of_ble_eq_true rfl⟩
theorem lkX2_takeHole_77 : g_LK mX2_takeHole mX0_meets 77 := ⟨g_tb 374 (by decide +kernel) (by decide +kernel), Nat.le_of_ble_eq_true rfl, Nat.le_of_ble_eq_true rfl⟩
theorem lkX2_takeClamp_50 : g_LK mX2_takeClamp mX2_hasSheet 50 := ⟨g_tb 350 (by decide +kernel) (by decide +kernel), Nat.le_of_ble_eq_true rfl, Nat.le_of_ble_eq_true rfl⟩
theorem lkX2_takeClamp_80 : g_LK mX2_takeClamp mX2_isColumn 80 := ⟨g_tb 383 (by decide +kernel) (by decide +kernel), Nat.le_of_ble_eq_true rfl, Nat.le_of_ble_eq_true rfl⟩
theorem lkX2_takeClamp_83 : g_LK mX2_takeClamp mX2_areTooNear 83 := ⟨g_tb 387 (by decide +kernel) (by decide +kernel), Nat.le_of_ble_eq_true rfl, Nat.le_of_ble_eq_true rfl⟩
theorem lkX2_isColumn_54 : g_LN mX2_isColumn mX8_isWithin 54 := ⟨⟨_, g_tb 354 (by decide +kernel) (by decide +kernel)⟩, Nat.le_of_ble_eq_true rfl, Nat.le_of_ble_eq_true rfl⟩
theorem lkX2_areTooNear_54 : g_LN mX2_areTooNear mX8_isWithin 54 := ⟨⟨_, g_tb 354 (by decide +kernel) (by decide +kernel)⟩, Nat.le_of_ble_eq_true rfl, Nat.le_of_ble_eq_true rfl⟩
theorem lkX2_holeAt_87 : g_LK mX2_holeAt mX0_has 87 := ⟨g_tb 628 (by decide +kernel) (by decide +kernel), Nat.le_of_ble_eq_true rfl, Nat.le_of_ble_eq_true rfl⟩
theorem lkX2_isOfOneHole_73 : g_LK mX2_isOfOneHole mX0_covers 73 := ⟨g_tb 370 (by decide +kernel) (by decide +kernel), Nat.le_of_ble_eq_true rfl, Nat.le_of_ble_eq_true rfl⟩
theorem lkX2_turnsBetween_90 : g_LK mX2_turnsBetween mJ9_abs_0f7a4 90 := ⟨g_tb 538 (by decide +kernel) (by decide +kernel), Nat.le_of_ble_eq_true rfl, Nat.le_of_ble_eq_true rfl⟩
theorem lkX2_turnsBetween_96 : g_LK mX2_turnsBetween mJ9_min_7cf53 96 := ⟨g_tb 541 (by decide +kernel) (by decide +kernel), Nat.le_of_ble_eq_true rfl, Nat.le_of_ble_eq_true rfl⟩
theorem lkX2_turnsThrough_100 : g_LK mX2_turnsThrough mX2_downBeyond 100 := ⟨g_tb 665 (by decide +kernel) (by decide +kernel), Nat.le_of_ble_eq_true rfl, Nat.le_of_ble_eq_true rfl⟩
theorem lkX2_turnsThrough_96 : g_LK mX2_turnsThrough mJ9_min_7cf53 96 := ⟨g_tb 541 (by decide +kernel) (by decide +kernel), Nat.le_of_ble_eq_true rfl, Nat.le_of_ble_eq_true rfl⟩
theorem lkX3_work_28 : g_LK mX3_work mX3_weighWays 28 := ⟨g_tb 646 (by decide +kernel) (by decide +kernel), Nat.le_of_ble_eq_true rfl, Nat.le_of_ble_eq_true rfl⟩
theorem lkX3_work_38 : g_LK mX3_work mX3_triesSet 38 := ⟨g_tb 652 (by decide +kernel) (by decide +kernel), Nat.le_of_ble_eq_true rfl, Nat.le_of_ble_eq_true rfl⟩
theorem lkX3_work_47 : g_LK mX3_work mX2_turnsThrough 47 := ⟨g_tb 661 (by decide +kernel) (by decide +kernel), Nat.le_of_ble_eq_true rfl, Nat.le_of_ble_eq_true rfl⟩
theorem lkX3_work_54 : g_LK mX3_work mX3_isBetter 54 := ⟨g_tb 669 (by decide +kernel) (by decide +kernel), Nat.le_of_ble_eq_true rfl, Nat.le_of_ble_eq_true rfl⟩
theorem lkX3_work_58 : g_LK mX3_work mX3_keepTried 58 := ⟨g_tb 673 (by decide +kernel) (by decide +kernel), Nat.le_of_ble_eq_true rfl, Nat.le_of_ble_eq_true rfl⟩
theorem lkX3_weighWays_70 : g_LK mX3_weighWays mX7_hitsFor 70 := ⟨g_tb 650 (by decide +kernel) (by decide +kernel), Nat.le_of_ble_eq_true rfl, Nat.le_of_ble_eq_true rfl⟩
theorem lkX3_weighWays_76 : g_LN mX3_weighWays mX8_asFlag 76 := ⟨⟨_, g_tb 651 (by decide +kernel) (by decide +kernel)⟩, Nat.le_of_ble_eq_true rfl, Nat.le_of_ble_eq_true rfl⟩
theorem lkX3_triesSet_83 : g_LK mX3_triesSet mX5_isCut 83 := ⟨g_tb 656 (by decide +kernel) (by decide +kernel), Nat.le_of_ble_eq_true rfl, Nat.le_of_ble_eq_true rfl⟩
theorem lkX3_triesSet_87 : g_LK mX3_triesSet mX3_takeFirstFewest 87 := ⟨g_tb 657 (by decide +kernel) (by decide +kernel), Nat.le_of_ble_eq_true rfl, Nat.le_of_ble_eq_true rfl⟩
theorem lkX4_firstFault_15 : g_LK mX4_firstFault mX2_clear 15 := ⟨g_tb 312 (by decide +kernel) (by decide +kernel), Nat.le_of_ble_eq_true rfl, Nat.le_of_ble_eq_true rfl⟩
theorem lkX4_firstFault_29 : g_LK mX4_firstFault mX4_takesItem 29 := ⟨g_tb 320 (by decide +kernel) (by decide +kernel), Nat.le_of_ble_eq_true rfl, Nat.le_of_ble_eq_true rfl⟩
theorem lkX4_takesItem_35 : g_LK mX4_takesItem mX4_takesWord 35 := ⟨g_tb 325 (by decide +kernel) (by decide +kernel), Nat.le_of_ble_eq_true rfl, Nat.le_of_ble_eq_true rfl⟩
theorem lkX4_takesItem_39 : g_LK mX4_takesItem mX4_takesNumbers 39 := ⟨g_tb 335 (by decide +kernel) (by decide +kernel), Nat.le_of_ble_eq_true rfl, Nat.le_of_ble_eq_true rfl⟩
theorem lkX4_takesItem_43 : g_LK mX4_takesItem mX2_takeSheet 43 := ⟨g_tb 346 (by decide +kernel) (by decide +kernel), Nat.le_of_ble_eq_true rfl, Nat.le_of_ble_eq_true rfl⟩
theorem lkX4_takesItem_49 : g_LK mX4_takesItem mX2_takeTool 49 := ⟨g_tb 358 (by decide +kernel) (by decide +kernel), Nat.le_of_ble_eq_true rfl, Nat.le_of_ble_eq_true rfl⟩
theorem lkX4_takesItem_55 : g_LK mX4_takesItem mX2_takeHole 55 := ⟨g_tb 366 (by decide +kernel) (by decide +kernel), Nat.le_of_ble_eq_true rfl, Nat.le_of_ble_eq_true rfl⟩
theorem lkX4_takesItem_60 : g_LK mX4_takesItem mX2_takeClamp 60 := ⟨g_tb 379 (by decide +kernel) (by decide +kernel), Nat.le_of_ble_eq_true rfl, Nat.le_of_ble_eq_true rfl⟩
theorem lkX4_takesWord_64 : g_LK mX4_takesWord mJ0_length_8abf5 64 := ⟨g_tb 329 (by decide +kernel) (by decide +kernel), Nat.le_of_ble_eq_true rfl, Nat.le_of_ble_eq_true rfl⟩
theorem lkX4_takesWord_69 : g_LK mX4_takesWord mX6_letterAt 69 := ⟨g_tb 330 (by decide +kernel) (by decide +kernel), Nat.le_of_ble_eq_true rfl, Nat.le_of_ble_eq_true rfl⟩
theorem lkX4_takesWord_73 : g_LK mX4_takesWord mJ0_charAt_5068e 73 := ⟨g_tb 334 (by decide +kernel) (by decide +kernel), Nat.le_of_ble_eq_true rfl, Nat.le_of_ble_eq_true rfl⟩
theorem lkX4_takesNumbers_69 : g_LK mX4_takesNumbers mX6_letterAt 69 := ⟨g_tb 330 (by decide +kernel) (by decide +kernel), Nat.le_of_ble_eq_true rfl, Nat.le_of_ble_eq_true rfl⟩
theorem lkX4_takesNumbers_76 : g_LK mX4_takesNumbers mX4_isFigure 76 := ⟨g_tb 339 (by decide +kernel) (by decide +kernel), Nat.le_of_ble_eq_true rfl, Nat.le_of_ble_eq_true rfl⟩
theorem lkX4_takesNumbers_80 : g_LK mX4_takesNumbers mX4_takeNumber 80 := ⟨g_tb 342 (by decide +kernel) (by decide +kernel), Nat.le_of_ble_eq_true rfl, Nat.le_of_ble_eq_true rfl⟩
theorem lkX4_takeNumber_69 : g_LK mX4_takeNumber mX6_letterAt 69 := ⟨g_tb 330 (by decide +kernel) (by decide +kernel), Nat.le_of_ble_eq_true rfl, Nat.le_of_ble_eq_true rfl⟩
theorem lkX4_takeNumber_76 : g_LK mX4_takeNumber mX4_isFigure 76 := ⟨g_tb 339 (by decide +kernel) (by decide +kernel), Nat.le_of_ble_eq_true rfl, Nat.le_of_ble_eq_true rfl⟩
theorem lkX5_begin_21 : g_LK mX5_begin mJ7_fill_53178 21 := ⟨g_tb 394 (by decide +kernel) (by decide +kernel), Nat.le_of_ble_eq_true rfl, Nat.le_of_ble_eq_true rfl⟩
theorem lkX5_refusal_63 : g_LK mX5_refusal mX0_covers 63 := ⟨g_tb 484 (by decide +kernel) (by decide +kernel), Nat.le_of_ble_eq_true rfl, Nat.le_of_ble_eq_true rfl⟩
theorem lkX5_refusal_69 : g_LK mX5_refusal mX2_isOfOneHole 69 := ⟨g_tb 485 (by decide +kernel) (by decide +kernel), Nat.le_of_ble_eq_true rfl, Nat.le_of_ble_eq_true rfl⟩
theorem lkX5_refusal_72 : g_LK mX5_refusal mX5_isClamped 72 := ⟨g_tb 489 (by decide +kernel) (by decide +kernel), Nat.le_of_ble_eq_true rfl, Nat.le_of_ble_eq_true rfl⟩
theorem lkX5_refusal_76 : g_LK mX5_refusal mX5_isCut 76 := ⟨g_tb 497 (by decide +kernel) (by decide +kernel), Nat.le_of_ble_eq_true rfl, Nat.le_of_ble_eq_true rfl⟩
theorem lkX5_refusal_79 : g_LK mX5_refusal mX5_isDull 79 := ⟨g_tb 515 (by decide +kernel) (by decide +kernel), Nat.le_of_ble_eq_true rfl, Nat.le_of_ble_eq_true rfl⟩
theorem lkX5_punch_83 : g_LK mX5_punch mX5_uncutIn 83 := ⟨g_tb 501 (by decide +kernel) (by decide +kernel), Nat.le_of_ble_eq_true rfl, Nat.le_of_ble_eq_true rfl⟩
theorem lkX5_punch_93 : g_LK mX5_punch mX0_rowBits 93 := ⟨g_tb 505 (by decide +kernel) (by decide +kernel), Nat.le_of_ble_eq_true rfl, Nat.le_of_ble_eq_true rfl⟩
theorem lkX5_punch_97 : g_LK mX5_punch mX2_turnsBetween 97 := ⟨g_tb 534 (by decide +kernel) (by decide +kernel), Nat.le_of_ble_eq_true rfl, Nat.le_of_ble_eq_true rfl⟩
theorem lkX5_uncutIn_93 : g_LK mX5_uncutIn mX0_rowBits 93 := ⟨g_tb 505 (by decide +kernel) (by decide +kernel), Nat.le_of_ble_eq_true rfl, Nat.le_of_ble_eq_true rfl⟩
theorem lkX5_uncutIn_104 : g_LK mX5_uncutIn mJ6_bitCount_0f7a4 104 := ⟨g_tb 509 (by decide +kernel) (by decide +kernel), Nat.le_of_ble_eq_true rfl, Nat.le_of_ble_eq_true rfl⟩
theorem lkX5_isCut_83 : g_LK mX5_isCut mX5_uncutIn 83 := ⟨g_tb 501 (by decide +kernel) (by decide +kernel), Nat.le_of_ble_eq_true rfl, Nat.le_of_ble_eq_true rfl⟩
theorem lkX5_cutCells_104 : g_LK mX5_cutCells mJ6_bitCount_0f7a4 104 := ⟨g_tb 509 (by decide +kernel) (by decide +kernel), Nat.le_of_ble_eq_true rfl, Nat.le_of_ble_eq_true rfl⟩
theorem lkX5_holesDone_76 : g_LK mX5_holesDone mX5_isCut 76 := ⟨g_tb 497 (by decide +kernel) (by decide +kernel), Nat.le_of_ble_eq_true rfl, Nat.le_of_ble_eq_true rfl⟩
theorem lkX5_clampAt_120 : g_LN mX5_clampAt mX8_isWithin 120 := ⟨⟨_, g_tb 633 (by decide +kernel) (by decide +kernel)⟩, Nat.le_of_ble_eq_true rfl, Nat.le_of_ble_eq_true rfl⟩
theorem lkX5_isTakenByOther_124 : g_LK mX5_isTakenByOther mX2_areTooNear 124 := ⟨g_tb 584 (by decide +kernel) (by decide +kernel), Nat.le_of_ble_eq_true rfl, Nat.le_of_ble_eq_true rfl⟩
theorem lkX5_isClamped_128 : g_LK mX5_isClamped mX0_has 128 := ⟨g_tb 493 (by decide +kernel) (by decide +kernel), Nat.le_of_ble_eq_true rfl, Nat.le_of_ble_eq_true rfl⟩
theorem lkX7_stampAt_16 : g_LK mX7_stampAt mX7_wideWhen 16 := ⟨g_tb 471 (by decide +kernel) (by decide +kernel), Nat.le_of_ble_eq_true rfl, Nat.le_of_ble_eq_true rfl⟩
theorem lkX7_stampAt_20 : g_LK mX7_stampAt mX7_highWhen 20 := ⟨g_tb 475 (by decide +kernel) (by decide +kernel), Nat.le_of_ble_eq_true rfl, Nat.le_of_ble_eq_true rfl⟩
theorem lkX7_stampAt_23 : g_LK mX7_stampAt mX0_put 23 := ⟨g_tb 479 (by decide +kernel) (by decide +kernel), Nat.le_of_ble_eq_true rfl, Nat.le_of_ble_eq_true rfl⟩
theorem lkX7_hitsFor_16 : g_LK mX7_hitsFor mX7_wideWhen 16 := ⟨g_tb 471 (by decide +kernel) (by decide +kernel), Nat.le_of_ble_eq_true rfl, Nat.le_of_ble_eq_true rfl⟩
theorem lkX7_hitsFor_20 : g_LK mX7_hitsFor mX7_highWhen 20 := ⟨g_tb 475 (by decide +kernel) (by decide +kernel), Nat.le_of_ble_eq_true rfl, Nat.le_of_ble_eq_true rfl⟩
theorem lkX7_hitsFor_35 : g_LN mX7_hitsFor mX8_stepsOver 35 := ⟨⟨_, g_tb 564 (by decide +kernel) (by decide +kernel)⟩, Nat.le_of_ble_eq_true rfl, Nat.le_of_ble_eq_true rfl⟩
theorem lkX8_init_9 : g_LN mX8_init mX6_init 9 := ⟨⟨_, g_tb 29 (by decide +kernel) (by decide +kernel)⟩, Nat.le_of_ble_eq_true rfl, Nat.le_of_ble_eq_true rfl⟩
theorem lkX8_init_18 : g_LN mX8_init mX4_init 18 := ⟨⟨_, g_tb 45 (by decide +kernel) (by decide +kernel)⟩, Nat.le_of_ble_eq_true rfl, Nat.le_of_ble_eq_true rfl⟩
theorem lkX8_init_25 : g_LN mX8_init mX5_init 25 := ⟨⟨_, g_tb 59 (by decide +kernel) (by decide +kernel)⟩, Nat.le_of_ble_eq_true rfl, Nat.le_of_ble_eq_true rfl⟩
theorem lkX8_init_35 : g_LK mX8_init mX1_init 35 := ⟨g_tb 94 (by decide +kernel) (by decide +kernel), Nat.le_of_ble_eq_true rfl, Nat.le_of_ble_eq_true rfl⟩
theorem lkX8_init_42 : g_LN mX8_init mX3_init 42 := ⟨⟨_, g_tb 114 (by decide +kernel) (by decide +kernel)⟩, Nat.le_of_ble_eq_true rfl, Nat.le_of_ble_eq_true rfl⟩
theorem lkX8_init_49 : g_LN mX8_init mX0_init 49 := ⟨⟨_, g_tb 149 (by decide +kernel) (by decide +kernel)⟩, Nat.le_of_ble_eq_true rfl, Nat.le_of_ble_eq_true rfl⟩
theorem lkX8_init_56 : g_LK mX8_init mX2_init 56 := ⟨g_tb 177 (by decide +kernel) (by decide +kernel), Nat.le_of_ble_eq_true rfl, Nat.le_of_ble_eq_true rfl⟩
theorem lkX8_init_66 : g_LK mX8_init mJ0_length_8abf5 66 := ⟨g_tb 252 (by decide +kernel) (by decide +kernel), Nat.le_of_ble_eq_true rfl, Nat.le_of_ble_eq_true rfl⟩
theorem lkX8_init_72 : g_LK mX8_init mJ0_charAt_5068e 72 := ⟨g_tb 262 (by decide +kernel) (by decide +kernel), Nat.le_of_ble_eq_true rfl, Nat.le_of_ble_eq_true rfl⟩
theorem lkX8_init_76 : g_LK mX8_init mX6_append 76 := ⟨g_tb 300 (by decide +kernel) (by decide +kernel), Nat.le_of_ble_eq_true rfl, Nat.le_of_ble_eq_true rfl⟩
theorem lkX8_init_80 : g_LK mX8_init mX8_layDraft 80 := ⟨g_tb 304 (by decide +kernel) (by decide +kernel), Nat.le_of_ble_eq_true rfl, Nat.le_of_ble_eq_true rfl⟩
theorem lkX8_init_84 : g_LK mX8_init mX6_clear 84 := ⟨g_tb 404 (by decide +kernel) (by decide +kernel), Nat.le_of_ble_eq_true rfl, Nat.le_of_ble_eq_true rfl⟩
theorem lkX8_write_76 : g_LK mX8_write mX6_append 76 := ⟨g_tb 300 (by decide +kernel) (by decide +kernel), Nat.le_of_ble_eq_true rfl, Nat.le_of_ble_eq_true rfl⟩
theorem lkX8_wipe_84 : g_LK mX8_wipe mX6_clear 84 := ⟨g_tb 404 (by decide +kernel) (by decide +kernel), Nat.le_of_ble_eq_true rfl, Nat.le_of_ble_eq_true rfl⟩
theorem lkX8_fault_90 : g_LK mX8_fault mX4_firstFault 90 := ⟨g_tb 308 (by decide +kernel) (by decide +kernel), Nat.le_of_ble_eq_true rfl, Nat.le_of_ble_eq_true rfl⟩
theorem lkX8_lay_80 : g_LK mX8_lay mX8_layDraft 80 := ⟨g_tb 304 (by decide +kernel) (by decide +kernel), Nat.le_of_ble_eq_true rfl, Nat.le_of_ble_eq_true rfl⟩
theorem lkX8_hit_97 : g_LK mX8_hit mX8_isHitTold 97 := ⟨g_tb 457 (by decide +kernel) (by decide +kernel), Nat.le_of_ble_eq_true rfl, Nat.le_of_ble_eq_true rfl⟩
theorem lkX8_hit_105 : g_LK mX8_hit mX7_stampAt 105 := ⟨g_tb 467 (by decide +kernel) (by decide +kernel), Nat.le_of_ble_eq_true rfl, Nat.le_of_ble_eq_true rfl⟩
theorem lkX8_hit_111 : g_LK mX8_hit mX5_refusal 111 := ⟨g_tb 480 (by decide +kernel) (by decide +kernel), Nat.le_of_ble_eq_true rfl, Nat.le_of_ble_eq_true rfl⟩
theorem lkX8_hit_115 : g_LK mX8_hit mX1_keep 115 := ⟨g_tb 519 (by decide +kernel) (by decide +kernel), Nat.le_of_ble_eq_true rfl, Nat.le_of_ble_eq_true rfl⟩
theorem lkX8_hit_119 : g_LK mX8_hit mX5_punch 119 := ⟨g_tb 530 (by decide +kernel) (by decide +kernel), Nat.le_of_ble_eq_true rfl, Nat.le_of_ble_eq_true rfl⟩
theorem lkX8_why_97 : g_LK mX8_why mX8_isHitTold 97 := ⟨g_tb 457 (by decide +kernel) (by decide +kernel), Nat.le_of_ble_eq_true rfl, Nat.le_of_ble_eq_true rfl⟩
theorem lkX8_why_105 : g_LK mX8_why mX7_stampAt 105 := ⟨g_tb 467 (by decide +kernel) (by decide +kernel), Nat.le_of_ble_eq_true rfl, Nat.le_of_ble_eq_true rfl⟩
theorem lkX8_why_111 : g_LK mX8_why mX5_refusal 111 := ⟨g_tb 480 (by decide +kernel) (by decide +kernel), Nat.le_of_ble_eq_true rfl, Nat.le_of_ble_eq_true rfl⟩
theorem lkX8_nibble_123 : g_LK mX8_nibble mX8_isHole 123 := ⟨g_tb 550 (by decide +kernel) (by decide +kernel), Nat.le_of_ble_eq_true rfl, Nat.le_of_ble_eq_true rfl⟩
theorem lkX8_nibble_127 : g_LK mX8_nibble mX8_isStation 127 := ⟨g_tb 461 (by decide +kernel) (by decide +kernel), Nat.le_of_ble_eq_true rfl, Nat.le_of_ble_eq_true rfl⟩
theorem lkX8_nibble_130 : g_LK mX8_nibble mX8_isFlag 130 := ⟨g_tb 466 (by decide +kernel) (by decide +kernel), Nat.le_of_ble_eq_true rfl, Nat.le_of_ble_eq_true rfl⟩
theorem lkX8_nibble_137 : g_LK mX8_nibble mX5_isCut 137 := ⟨g_tb 554 (by decide +kernel) (by decide +kernel), Nat.le_of_ble_eq_true rfl, Nat.le_of_ble_eq_true rfl⟩
theorem lkX8_nibble_141 : g_LK mX8_nibble mX5_copyFrom 141 := ⟨g_tb 555 (by decide +kernel) (by decide +kernel), Nat.le_of_ble_eq_true rfl, Nat.le_of_ble_eq_true rfl⟩
theorem lkX8_nibble_144 : g_LK mX8_nibble mX8_punchAll 144 := ⟨g_tb 556 (by decide +kernel) (by decide +kernel), Nat.le_of_ble_eq_true rfl, Nat.le_of_ble_eq_true rfl⟩
theorem lkX8_nibble_115 : g_LK mX8_nibble mX1_keep 115 := ⟨g_tb 519 (by decide +kernel) (by decide +kernel), Nat.le_of_ble_eq_true rfl, Nat.le_of_ble_eq_true rfl⟩
theorem lkX8_clamp_148 : g_LK mX8_clamp mX8_isClamp 148 := ⟨g_tb 575 (by decide +kernel) (by decide +kernel), Nat.le_of_ble_eq_true rfl, Nat.le_of_ble_eq_true rfl⟩
theorem lkX8_clamp_151 : g_LK mX8_clamp mX2_isColumn 151 := ⟨g_tb 579 (by decide +kernel) (by decide +kernel), Nat.le_of_ble_eq_true rfl, Nat.le_of_ble_eq_true rfl⟩
theorem lkX8_clamp_158 : g_LK mX8_clamp mX5_isTakenByOther 158 := ⟨g_tb 580 (by decide +kernel) (by decide +kernel), Nat.le_of_ble_eq_true rfl, Nat.le_of_ble_eq_true rfl⟩
theorem lkX8_clamp_115 : g_LK mX8_clamp mX1_keep 115 := ⟨g_tb 519 (by decide +kernel) (by decide +kernel), Nat.le_of_ble_eq_true rfl, Nat.le_of_ble_eq_true rfl⟩
theorem lkX8_sharpen_127 : g_LK mX8_sharpen mX8_isStation 127 := ⟨g_tb 461 (by decide +kernel) (by decide +kernel), Nat.le_of_ble_eq_true rfl, Nat.le_of_ble_eq_true rfl⟩
theorem lkX8_sharpen_115 : g_LK mX8_sharpen mX1_keep 115 := ⟨g_tb 519 (by decide +kernel) (by decide +kernel), Nat.le_of_ble_eq_true rfl, Nat.le_of_ble_eq_true rfl⟩
theorem lkX8_undo_168 : g_LK mX8_undo mX1_giveBack 168 := ⟨g_tb 593 (by decide +kernel) (by decide +kernel), Nat.le_of_ble_eq_true rfl, Nat.le_of_ble_eq_true rfl⟩
theorem lkX8_station_127 : g_LK mX8_station mX8_isStation 127 := ⟨g_tb 461 (by decide +kernel) (by decide +kernel), Nat.le_of_ble_eq_true rfl, Nat.le_of_ble_eq_true rfl⟩
theorem lkX8_station_185 : g_LK mX8_station mX8_asFlag 185 := ⟨g_tb 601 (by decide +kernel) (by decide +kernel), Nat.le_of_ble_eq_true rfl, Nat.le_of_ble_eq_true rfl⟩
theorem lkX8_station_192 : g_LK mX8_station mX5_isDull 192 := ⟨g_tb 604 (by decide +kernel) (by decide +kernel), Nat.le_of_ble_eq_true rfl, Nat.le_of_ble_eq_true rfl⟩
theorem lkX8_station_199 : g_LK mX8_station mX2_turnsBetween 199 := ⟨g_tb 605 (by decide +kernel) (by decide +kernel), Nat.le_of_ble_eq_true rfl, Nat.le_of_ble_eq_true rfl⟩
theorem lkX8_hole_123 : g_LK mX8_hole mX8_isHole 123 := ⟨g_tb 550 (by decide +kernel) (by decide +kernel), Nat.le_of_ble_eq_true rfl, Nat.le_of_ble_eq_true rfl⟩
theorem lkX8_hole_211 : g_LK mX8_hole mX5_uncutIn 211 := ⟨g_tb 610 (by decide +kernel) (by decide +kernel), Nat.le_of_ble_eq_true rfl, Nat.le_of_ble_eq_true rfl⟩
theorem lkX8_hole_137 : g_LK mX8_hole mX5_isCut 137 := ⟨g_tb 554 (by decide +kernel) (by decide +kernel), Nat.le_of_ble_eq_true rfl, Nat.le_of_ble_eq_true rfl⟩
theorem lkX8_hole_185 : g_LK mX8_hole mX8_asFlag 185 := ⟨g_tb 601 (by decide +kernel) (by decide +kernel), Nat.le_of_ble_eq_true rfl, Nat.le_of_ble_eq_true rfl⟩
theorem lkX8_hits_123 : g_LK mX8_hits mX8_isHole 123 := ⟨g_tb 550 (by decide +kernel) (by decide +kernel), Nat.le_of_ble_eq_true rfl, Nat.le_of_ble_eq_true rfl⟩
theorem lkX8_hits_127 : g_LK mX8_hits mX8_isStation 127 := ⟨g_tb 461 (by decide +kernel) (by decide +kernel), Nat.le_of_ble_eq_true rfl, Nat.le_of_ble_eq_true rfl⟩
theorem lkX8_hits_130 : g_LK mX8_hits mX8_isFlag 130 := ⟨g_tb 466 (by decide +kernel) (by decide +kernel), Nat.le_of_ble_eq_true rfl, Nat.le_of_ble_eq_true rfl⟩
theorem lkX8_hits_215 : g_LK mX8_hits mX7_hitsFor 215 := ⟨g_tb 560 (by decide +kernel) (by decide +kernel), Nat.le_of_ble_eq_true rfl, Nat.le_of_ble_eq_true rfl⟩
theorem lkX8_cell_222 : g_LK mX8_cell mX0_has 222 := ⟨g_tb 619 (by decide +kernel) (by decide +kernel), Nat.le_of_ble_eq_true rfl, Nat.le_of_ble_eq_true rfl⟩
theorem lkX8_cell_226 : g_LK mX8_cell mX5_isCellCut 226 := ⟨g_tb 620 (by decide +kernel) (by decide +kernel), Nat.le_of_ble_eq_true rfl, Nat.le_of_ble_eq_true rfl⟩
theorem lkX8_cell_185 : g_LK mX8_cell mX8_asFlag 185 := ⟨g_tb 601 (by decide +kernel) (by decide +kernel), Nat.le_of_ble_eq_true rfl, Nat.le_of_ble_eq_true rfl⟩
theorem lkX8_cell_229 : g_LK mX8_cell mX2_holeAt 229 := ⟨g_tb 624 (by decide +kernel) (by decide +kernel), Nat.le_of_ble_eq_true rfl, Nat.le_of_ble_eq_true rfl⟩
theorem lkX8_cell_232 : g_LK mX8_cell mX5_clampAt 232 := ⟨g_tb 629 (by decide +kernel) (by decide +kernel), Nat.le_of_ble_eq_true rfl, Nat.le_of_ble_eq_true rfl⟩
theorem lkX8_column_148 : g_LK mX8_column mX8_isClamp 148 := ⟨g_tb 575 (by decide +kernel) (by decide +kernel), Nat.le_of_ble_eq_true rfl, Nat.le_of_ble_eq_true rfl⟩
theorem lkX8_plan_123 : g_LK mX8_plan mX8_isHole 123 := ⟨g_tb 550 (by decide +kernel) (by decide +kernel), Nat.le_of_ble_eq_true rfl, Nat.le_of_ble_eq_true rfl⟩
theorem lkX8_plan_236 : g_LK mX8_plan mX3_work 236 := ⟨g_tb 642 (by decide +kernel) (by decide +kernel), Nat.le_of_ble_eq_true rfl, Nat.le_of_ble_eq_true rfl⟩
theorem lkX8_drawn_252 : g_LK mX8_drawn mX8_signAt 252 := ⟨g_tb 682 (by decide +kernel) (by decide +kernel), Nat.le_of_ble_eq_true rfl, Nat.le_of_ble_eq_true rfl⟩
theorem lkX8_count_268 : g_LK mX8_count mX5_cutCells 268 := ⟨g_tb 690 (by decide +kernel) (by decide +kernel), Nat.le_of_ble_eq_true rfl, Nat.le_of_ble_eq_true rfl⟩
theorem lkX8_count_271 : g_LK mX8_count mX5_holesDone 271 := ⟨g_tb 694 (by decide +kernel) (by decide +kernel), Nat.le_of_ble_eq_true rfl, Nat.le_of_ble_eq_true rfl⟩
theorem lkX8_layDraft_90 : g_LK mX8_layDraft mX4_firstFault 90 := ⟨g_tb 308 (by decide +kernel) (by decide +kernel), Nat.le_of_ble_eq_true rfl, Nat.le_of_ble_eq_true rfl⟩
theorem lkX8_layDraft_275 : g_LK mX8_layDraft mX5_begin 275 := ⟨g_tb 390 (by decide +kernel) (by decide +kernel), Nat.le_of_ble_eq_true rfl, Nat.le_of_ble_eq_true rfl⟩
theorem lkX8_layDraft_279 : g_LK mX8_layDraft mX1_forget 279 := ⟨g_tb 400 (by decide +kernel) (by decide +kernel), Nat.le_of_ble_eq_true rfl, Nat.le_of_ble_eq_true rfl⟩
theorem lkX8_punchAll_215 : g_LK mX8_punchAll mX7_hitsFor 215 := ⟨g_tb 560 (by decide +kernel) (by decide +kernel), Nat.le_of_ble_eq_true rfl, Nat.le_of_ble_eq_true rfl⟩
theorem lkX8_punchAll_282 : g_LK mX8_punchAll mX7_highWhen 282 := ⟨g_tb 567 (by decide +kernel) (by decide +kernel), Nat.le_of_ble_eq_true rfl, Nat.le_of_ble_eq_true rfl⟩
theorem lkX8_punchAll_285 : g_LK mX8_punchAll mX8_stepsOver 285 := ⟨g_tb 568 (by decide +kernel) (by decide +kernel), Nat.le_of_ble_eq_true rfl, Nat.le_of_ble_eq_true rfl⟩
theorem lkX8_punchAll_288 : g_LK mX8_punchAll mX7_wideWhen 288 := ⟨g_tb 569 (by decide +kernel) (by decide +kernel), Nat.le_of_ble_eq_true rfl, Nat.le_of_ble_eq_true rfl⟩
theorem lkX8_punchAll_105 : g_LK mX8_punchAll mX7_stampAt 105 := ⟨g_tb 467 (by decide +kernel) (by decide +kernel), Nat.le_of_ble_eq_true rfl, Nat.le_of_ble_eq_true rfl⟩
theorem lkX8_punchAll_291 : g_LK mX8_punchAll mJ9_min_7cf53 291 := ⟨g_tb 570 (by decide +kernel) (by decide +kernel), Nat.le_of_ble_eq_true rfl, Nat.le_of_ble_eq_true rfl⟩
theorem lkX8_punchAll_137 : g_LK mX8_punchAll mX5_isCut 137 := ⟨g_tb 554 (by decide +kernel) (by decide +kernel), Nat.le_of_ble_eq_true rfl, Nat.le_of_ble_eq_true rfl⟩
theorem lkX8_punchAll_111 : g_LK mX8_punchAll mX5_refusal 111 := ⟨g_tb 480 (by decide +kernel) (by decide +kernel), Nat.le_of_ble_eq_true rfl, Nat.le_of_ble_eq_true rfl⟩
theorem lkX8_punchAll_119 : g_LK mX8_punchAll mX5_punch 119 := ⟨g_tb 530 (by decide +kernel) (by decide +kernel), Nat.le_of_ble_eq_true rfl, Nat.le_of_ble_eq_true rfl⟩
theorem lkX8_signAt_232 : g_LK mX8_signAt mX5_clampAt 232 := ⟨g_tb 629 (by decide +kernel) (by decide +kernel), Nat.le_of_ble_eq_true rfl, Nat.le_of_ble_eq_true rfl⟩
theorem lkX8_signAt_226 : g_LK mX8_signAt mX5_isCellCut 226 := ⟨g_tb 620 (by decide +kernel) (by decide +kernel), Nat.le_of_ble_eq_true rfl, Nat.le_of_ble_eq_true rfl⟩
theorem lkX8_signAt_229 : g_LK mX8_signAt mX2_holeAt 229 := ⟨g_tb 624 (by decide +kernel) (by decide +kernel), Nat.le_of_ble_eq_true rfl, Nat.le_of_ble_eq_true rfl⟩
theorem lkX8_isHitTold_127 : g_LK mX8_isHitTold mX8_isStation 127 := ⟨g_tb 461 (by decide +kernel) (by decide +kernel), Nat.le_of_ble_eq_true rfl, Nat.le_of_ble_eq_true rfl⟩
theorem lkX8_isHitTold_296 : g_LK mX8_isHitTold mX8_isWithin 296 := ⟨g_tb 465 (by decide +kernel) (by decide +kernel), Nat.le_of_ble_eq_true rfl, Nat.le_of_ble_eq_true rfl⟩
theorem lkX8_isHitTold_130 : g_LK mX8_isHitTold mX8_isFlag 130 := ⟨g_tb 466 (by decide +kernel) (by decide +kernel), Nat.le_of_ble_eq_true rfl, Nat.le_of_ble_eq_true rfl⟩
theorem lkX9_init_43 : g_LK mX9_init mX9_adds 43 := ⟨g_tb 704 (by decide +kernel) (by decide +kernel), Nat.le_of_ble_eq_true rfl, Nat.le_of_ble_eq_true rfl⟩
theorem lkX9_init_47 : g_LK mX9_init mX9_anew 47 := ⟨g_tb 708 (by decide +kernel) (by decide +kernel), Nat.le_of_ble_eq_true rfl, Nat.le_of_ble_eq_true rfl⟩
theorem lkX9_write_58 : g_LK mX9_write mX9_in 58 := ⟨g_tb 767 (by decide +kernel) (by decide +kernel), Nat.le_of_ble_eq_true rfl, Nat.le_of_ble_eq_true rfl⟩
theorem lkX9_number_68 : g_LK mX9_number mX9_byteAt 68 := ⟨g_tb 790 (by decide +kernel) (by decide +kernel), Nat.le_of_ble_eq_true rfl, Nat.le_of_ble_eq_true rfl⟩
theorem lkX9_number_58 : g_LK mX9_number mX9_in 58 := ⟨g_tb 767 (by decide +kernel) (by decide +kernel), Nat.le_of_ble_eq_true rfl, Nat.le_of_ble_eq_true rfl⟩
theorem lkX9_word_68 : g_LK mX9_word mX9_byteAt 68 := ⟨g_tb 790 (by decide +kernel) (by decide +kernel), Nat.le_of_ble_eq_true rfl, Nat.le_of_ble_eq_true rfl⟩
theorem lkX9_holeItem_80 : g_LK mX9_holeItem mX9_number 80 := ⟨g_tb 795 (by decide +kernel) (by decide +kernel), Nat.le_of_ble_eq_true rfl, Nat.le_of_ble_eq_true rfl⟩
theorem lkX9_holeItem_84 : g_LK mX9_holeItem mX9_isApart 84 := ⟨g_tb 808 (by decide +kernel) (by decide +kernel), Nat.le_of_ble_eq_true rfl, Nat.le_of_ble_eq_true rfl⟩
theorem lkX9_item_88 : g_LK mX9_item mX9_word5 88 := ⟨g_tb 782 (by decide +kernel) (by decide +kernel), Nat.le_of_ble_eq_true rfl, Nat.le_of_ble_eq_true rfl⟩
theorem lkX9_item_92 : g_LK mX9_item mX9_word 92 := ⟨g_tb 786 (by decide +kernel) (by decide +kernel), Nat.le_of_ble_eq_true rfl, Nat.le_of_ble_eq_true rfl⟩
theorem lkX9_item_80 : g_LK mX9_item mX9_number 80 := ⟨g_tb 795 (by decide +kernel) (by decide +kernel), Nat.le_of_ble_eq_true rfl, Nat.le_of_ble_eq_true rfl⟩
theorem lkX9_item_96 : g_LK mX9_item mX9_word4 96 := ⟨g_tb 801 (by decide +kernel) (by decide +kernel), Nat.le_of_ble_eq_true rfl, Nat.le_of_ble_eq_true rfl⟩
theorem lkX9_item_100 : g_LK mX9_item mX9_holeItem 100 := ⟨g_tb 804 (by decide +kernel) (by decide +kernel), Nat.le_of_ble_eq_true rfl, Nat.le_of_ble_eq_true rfl⟩
theorem lkX9_fault_104 : g_LK mX9_fault mX9_item 104 := ⟨g_tb 778 (by decide +kernel) (by decide +kernel), Nat.le_of_ble_eq_true rfl, Nat.le_of_ble_eq_true rfl⟩
theorem lkX9_fault_68 : g_LK mX9_fault mX9_byteAt 68 := ⟨g_tb 790 (by decide +kernel) (by decide +kernel), Nat.le_of_ble_eq_true rfl, Nat.le_of_ble_eq_true rfl⟩
theorem lkX9_lay_107 : g_LK mX9_lay mX9_fault 107 := ⟨g_tb 816 (by decide +kernel) (by decide +kernel), Nat.le_of_ble_eq_true rfl, Nat.le_of_ble_eq_true rfl⟩
theorem lkX9_lay_47 : g_LK mX9_lay mX9_anew 47 := ⟨g_tb 708 (by decide +kernel) (by decide +kernel), Nat.le_of_ble_eq_true rfl, Nat.le_of_ble_eq_true rfl⟩
theorem lkX9_undo_111 : g_LK mX9_undo mX9_takesBack 111 := ⟨g_tb 821 (by decide +kernel) (by decide +kernel), Nat.le_of_ble_eq_true rfl, Nat.le_of_ble_eq_true rfl⟩
theorem lkX9_isCell_58 : g_LK mX9_isCell mX9_in 58 := ⟨g_tb 767 (by decide +kernel) (by decide +kernel), Nat.le_of_ble_eq_true rfl, Nat.le_of_ble_eq_true rfl⟩
theorem lkX9_isStation_58 : g_LK mX9_isStation mX9_in 58 := ⟨g_tb 767 (by decide +kernel) (by decide +kernel), Nat.le_of_ble_eq_true rfl, Nat.le_of_ble_eq_true rfl⟩
theorem lkX9_isHole_58 : g_LK mX9_isHole mX9_in 58 := ⟨g_tb 767 (by decide +kernel) (by decide +kernel), Nat.le_of_ble_eq_true rfl, Nat.le_of_ble_eq_true rfl⟩
theorem lkX9_holeAt_58 : g_LK mX9_holeAt mX9_in 58 := ⟨g_tb 767 (by decide +kernel) (by decide +kernel), Nat.le_of_ble_eq_true rfl, Nat.le_of_ble_eq_true rfl⟩
theorem lkX9_clampAt_58 : g_LK mX9_clampAt mX9_in 58 := ⟨g_tb 767 (by decide +kernel) (by decide +kernel), Nat.le_of_ble_eq_true rfl, Nat.le_of_ble_eq_true rfl⟩
theorem lkX9_whyNot_114 : g_LK mX9_whyNot mX9_wide 114 := ⟨g_tb 838 (by decide +kernel) (by decide +kernel), Nat.le_of_ble_eq_true rfl, Nat.le_of_ble_eq_true rfl⟩
theorem lkX9_whyNot_118 : g_LK mX9_whyNot mX9_high 118 := ⟨g_tb 842 (by decide +kernel) (by decide +kernel), Nat.le_of_ble_eq_true rfl, Nat.le_of_ble_eq_true rfl⟩
theorem lkX9_whyNot_121 : g_LK mX9_whyNot mX9_isCell 121 := ⟨g_tb 846 (by decide +kernel) (by decide +kernel), Nat.le_of_ble_eq_true rfl, Nat.le_of_ble_eq_true rfl⟩
theorem lkX9_whyNot_124 : g_LK mX9_whyNot mX9_holeAt 124 := ⟨g_tb 850 (by decide +kernel) (by decide +kernel), Nat.le_of_ble_eq_true rfl, Nat.le_of_ble_eq_true rfl⟩
theorem lkX9_whyNot_127 : g_LK mX9_whyNot mX9_clampAt 127 := ⟨g_tb 854 (by decide +kernel) (by decide +kernel), Nat.le_of_ble_eq_true rfl, Nat.le_of_ble_eq_true rfl⟩
theorem lkX9_whyNot_130 : g_LK mX9_whyNot mX9_isDull 130 := ⟨g_tb 858 (by decide +kernel) (by decide +kernel), Nat.le_of_ble_eq_true rfl, Nat.le_of_ble_eq_true rfl⟩
theorem lkX9_why_134 : g_LK mX9_why mX9_isStation 134 := ⟨g_tb 829 (by decide +kernel) (by decide +kernel), Nat.le_of_ble_eq_true rfl, Nat.le_of_ble_eq_true rfl⟩
theorem lkX9_why_58 : g_LK mX9_why mX9_in 58 := ⟨g_tb 767 (by decide +kernel) (by decide +kernel), Nat.le_of_ble_eq_true rfl, Nat.le_of_ble_eq_true rfl⟩
theorem lkX9_why_139 : g_LK mX9_why mX9_whyNot 139 := ⟨g_tb 834 (by decide +kernel) (by decide +kernel), Nat.le_of_ble_eq_true rfl, Nat.le_of_ble_eq_true rfl⟩
theorem lkX9_strikes_114 : g_LK mX9_strikes mX9_wide 114 := ⟨g_tb 838 (by decide +kernel) (by decide +kernel), Nat.le_of_ble_eq_true rfl, Nat.le_of_ble_eq_true rfl⟩
theorem lkX9_strikes_118 : g_LK mX9_strikes mX9_high 118 := ⟨g_tb 842 (by decide +kernel) (by decide +kernel), Nat.le_of_ble_eq_true rfl, Nat.le_of_ble_eq_true rfl⟩
theorem lkX9_strikes_143 : g_LK mX9_strikes mX9_ring 143 := ⟨g_tb 875 (by decide +kernel) (by decide +kernel), Nat.le_of_ble_eq_true rfl, Nat.le_of_ble_eq_true rfl⟩
theorem lkX9_hit_146 : g_LK mX9_hit mX9_why 146 := ⟨g_tb 866 (by decide +kernel) (by decide +kernel), Nat.le_of_ble_eq_true rfl, Nat.le_of_ble_eq_true rfl⟩
theorem lkX9_hit_149 : g_LK mX9_hit mX9_note 149 := ⟨g_tb 867 (by decide +kernel) (by decide +kernel), Nat.le_of_ble_eq_true rfl, Nat.le_of_ble_eq_true rfl⟩
theorem lkX9_hit_152 : g_LK mX9_hit mX9_strikes 152 := ⟨g_tb 871 (by decide +kernel) (by decide +kernel), Nat.le_of_ble_eq_true rfl, Nat.le_of_ble_eq_true rfl⟩
theorem lkX9_open_124 : g_LK mX9_open mX9_holeAt 124 := ⟨g_tb 850 (by decide +kernel) (by decide +kernel), Nat.le_of_ble_eq_true rfl, Nat.le_of_ble_eq_true rfl⟩
theorem lkX9_nibbles_114 : g_LK mX9_nibbles mX9_wide 114 := ⟨g_tb 838 (by decide +kernel) (by decide +kernel), Nat.le_of_ble_eq_true rfl, Nat.le_of_ble_eq_true rfl⟩
theorem lkX9_nibbles_118 : g_LK mX9_nibbles mX9_high 118 := ⟨g_tb 842 (by decide +kernel) (by decide +kernel), Nat.le_of_ble_eq_true rfl, Nat.le_of_ble_eq_true rfl⟩
theorem lkX9_nibbles_155 : g_LK mX9_nibbles mX9_parts 155 := ⟨g_tb 891 (by decide +kernel) (by decide +kernel), Nat.le_of_ble_eq_true rfl, Nat.le_of_ble_eq_true rfl⟩
theorem lkX9_isCut_114 : g_LK mX9_isCut mX9_wide 114 := ⟨g_tb 838 (by decide +kernel) (by decide +kernel), Nat.le_of_ble_eq_true rfl, Nat.le_of_ble_eq_true rfl⟩
theorem lkX9_isCut_118 : g_LK mX9_isCut mX9_high 118 := ⟨g_tb 842 (by decide +kernel) (by decide +kernel), Nat.le_of_ble_eq_true rfl, Nat.le_of_ble_eq_true rfl⟩
theorem lkX9_nibble_158 : g_LK mX9_nibble mX9_isHole 158 := ⟨g_tb 883 (by decide +kernel) (by decide +kernel), Nat.le_of_ble_eq_true rfl, Nat.le_of_ble_eq_true rfl⟩
theorem lkX9_nibble_134 : g_LK mX9_nibble mX9_isStation 134 := ⟨g_tb 829 (by decide +kernel) (by decide +kernel), Nat.le_of_ble_eq_true rfl, Nat.le_of_ble_eq_true rfl⟩
theorem lkX9_nibble_58 : g_LK mX9_nibble mX9_in 58 := ⟨g_tb 767 (by decide +kernel) (by decide +kernel), Nat.le_of_ble_eq_true rfl, Nat.le_of_ble_eq_true rfl⟩
theorem lkX9_nibble_161 : g_LK mX9_nibble mX9_nibbles 161 := ⟨g_tb 887 (by decide +kernel) (by decide +kernel), Nat.le_of_ble_eq_true rfl, Nat.le_of_ble_eq_true rfl⟩
theorem lkX9_nibble_165 : g_LK mX9_nibble mX9_open 165 := ⟨g_tb 894 (by decide +kernel) (by decide +kernel), Nat.le_of_ble_eq_true rfl, Nat.le_of_ble_eq_true rfl⟩
theorem lkX9_nibble_114 : g_LK mX9_nibble mX9_wide 114 := ⟨g_tb 838 (by decide +kernel) (by decide +kernel), Nat.le_of_ble_eq_true rfl, Nat.le_of_ble_eq_true rfl⟩
theorem lkX9_nibble_118 : g_LK mX9_nibble mX9_high 118 := ⟨g_tb 842 (by decide +kernel) (by decide +kernel), Nat.le_of_ble_eq_true rfl, Nat.le_of_ble_eq_true rfl⟩
theorem lkX9_nibble_155 : g_LK mX9_nibble mX9_parts 155 := ⟨g_tb 891 (by decide +kernel) (by decide +kernel), Nat.le_of_ble_eq_true rfl, Nat.le_of_ble_eq_true rfl⟩
theorem lkX9_nibble_168 : g_LK mX9_nibble mX9_isCut 168 := ⟨g_tb 898 (by decide +kernel) (by decide +kernel), Nat.le_of_ble_eq_true rfl, Nat.le_of_ble_eq_true rfl⟩
theorem lkX9_nibble_139 : g_LK mX9_nibble mX9_whyNot 139 := ⟨g_tb 834 (by decide +kernel) (by decide +kernel), Nat.le_of_ble_eq_true rfl, Nat.le_of_ble_eq_true rfl⟩
theorem lkX9_nibble_152 : g_LK mX9_nibble mX9_strikes 152 := ⟨g_tb 871 (by decide +kernel) (by decide +kernel), Nat.le_of_ble_eq_true rfl, Nat.le_of_ble_eq_true rfl⟩
theorem lkX9_nibble_171 : g_LK mX9_nibble mX9_swaps 171 := ⟨g_tb 902 (by decide +kernel) (by decide +kernel), Nat.le_of_ble_eq_true rfl, Nat.le_of_ble_eq_true rfl⟩
theorem lkX9_nibble_149 : g_LK mX9_nibble mX9_note 149 := ⟨g_tb 867 (by decide +kernel) (by decide +kernel), Nat.le_of_ble_eq_true rfl, Nat.le_of_ble_eq_true rfl⟩
theorem lkX9_clamp_58 : g_LK mX9_clamp mX9_in 58 := ⟨g_tb 767 (by decide +kernel) (by decide +kernel), Nat.le_of_ble_eq_true rfl, Nat.le_of_ble_eq_true rfl⟩
theorem lkX9_clamp_149 : g_LK mX9_clamp mX9_note 149 := ⟨g_tb 867 (by decide +kernel) (by decide +kernel), Nat.le_of_ble_eq_true rfl, Nat.le_of_ble_eq_true rfl⟩
theorem lkX9_sharpen_134 : g_LK mX9_sharpen mX9_isStation 134 := ⟨g_tb 829 (by decide +kernel) (by decide +kernel), Nat.le_of_ble_eq_true rfl, Nat.le_of_ble_eq_true rfl⟩
theorem lkX9_sharpen_149 : g_LK mX9_sharpen mX9_note 149 := ⟨g_tb 867 (by decide +kernel) (by decide +kernel), Nat.le_of_ble_eq_true rfl, Nat.le_of_ble_eq_true rfl⟩
theorem lkX9_station_134 : g_LK mX9_station mX9_isStation 134 := ⟨g_tb 829 (by decide +kernel) (by decide +kernel), Nat.le_of_ble_eq_true rfl, Nat.le_of_ble_eq_true rfl⟩
theorem lkX9_station_58 : g_LK mX9_station mX9_in 58 := ⟨g_tb 767 (by decide +kernel) (by decide +kernel), Nat.le_of_ble_eq_true rfl, Nat.le_of_ble_eq_true rfl⟩
theorem lkX9_station_130 : g_LK mX9_station mX9_isDull 130 := ⟨g_tb 858 (by decide +kernel) (by decide +kernel), Nat.le_of_ble_eq_true rfl, Nat.le_of_ble_eq_true rfl⟩
theorem lkX9_station_143 : g_LK mX9_station mX9_ring 143 := ⟨g_tb 875 (by decide +kernel) (by decide +kernel), Nat.le_of_ble_eq_true rfl, Nat.le_of_ble_eq_true rfl⟩
theorem lkX9_hole_158 : g_LK mX9_hole mX9_isHole 158 := ⟨g_tb 883 (by decide +kernel) (by decide +kernel), Nat.le_of_ble_eq_true rfl, Nat.le_of_ble_eq_true rfl⟩
theorem lkX9_hole_58 : g_LK mX9_hole mX9_in 58 := ⟨g_tb 767 (by decide +kernel) (by decide +kernel), Nat.le_of_ble_eq_true rfl, Nat.le_of_ble_eq_true rfl⟩
theorem lkX9_hole_165 : g_LK mX9_hole mX9_open 165 := ⟨g_tb 894 (by decide +kernel) (by decide +kernel), Nat.le_of_ble_eq_true rfl, Nat.le_of_ble_eq_true rfl⟩
theorem lkX9_hits_158 : g_LK mX9_hits mX9_isHole 158 := ⟨g_tb 883 (by decide +kernel) (by decide +kernel), Nat.le_of_ble_eq_true rfl, Nat.le_of_ble_eq_true rfl⟩
theorem lkX9_hits_134 : g_LK mX9_hits mX9_isStation 134 := ⟨g_tb 829 (by decide +kernel) (by decide +kernel), Nat.le_of_ble_eq_true rfl, Nat.le_of_ble_eq_true rfl⟩
theorem lkX9_hits_58 : g_LK mX9_hits mX9_in 58 := ⟨g_tb 767 (by decide +kernel) (by decide +kernel), Nat.le_of_ble_eq_true rfl, Nat.le_of_ble_eq_true rfl⟩
theorem lkX9_hits_161 : g_LK mX9_hits mX9_nibbles 161 := ⟨g_tb 887 (by decide +kernel) (by decide +kernel), Nat.le_of_ble_eq_true rfl, Nat.le_of_ble_eq_true rfl⟩
theorem lkX9_cell_121 : g_LK mX9_cell mX9_isCell 121 := ⟨g_tb 846 (by decide +kernel) (by decide +kernel), Nat.le_of_ble_eq_true rfl, Nat.le_of_ble_eq_true rfl⟩
theorem lkX9_cell_58 : g_LK mX9_cell mX9_in 58 := ⟨g_tb 767 (by decide +kernel) (by decide +kernel), Nat.le_of_ble_eq_true rfl, Nat.le_of_ble_eq_true rfl⟩
theorem lkX9_cell_124 : g_LK mX9_cell mX9_holeAt 124 := ⟨g_tb 850 (by decide +kernel) (by decide +kernel), Nat.le_of_ble_eq_true rfl, Nat.le_of_ble_eq_true rfl⟩
theorem lkX9_cell_127 : g_LK mX9_cell mX9_clampAt 127 := ⟨g_tb 854 (by decide +kernel) (by decide +kernel), Nat.le_of_ble_eq_true rfl, Nat.le_of_ble_eq_true rfl⟩
theorem lkX9_column_58 : g_LK mX9_column mX9_in 58 := ⟨g_tb 767 (by decide +kernel) (by decide +kernel), Nat.le_of_ble_eq_true rfl, Nat.le_of_ble_eq_true rfl⟩
theorem lkX9_plans_182 : g_LK mX9_plans mX9_round 182 := ⟨g_tb 951 (by decide +kernel) (by decide +kernel), Nat.le_of_ble_eq_true rfl, Nat.le_of_ble_eq_true rfl⟩
theorem lkX9_plans_165 : g_LK mX9_plans mX9_open 165 := ⟨g_tb 894 (by decide +kernel) (by decide +kernel), Nat.le_of_ble_eq_true rfl, Nat.le_of_ble_eq_true rfl⟩
theorem lkX9_looks_165 : g_LK mX9_looks mX9_open 165 := ⟨g_tb 894 (by decide +kernel) (by decide +kernel), Nat.le_of_ble_eq_true rfl, Nat.le_of_ble_eq_true rfl⟩
theorem lkX9_looks_161 : g_LK mX9_looks mX9_nibbles 161 := ⟨g_tb 887 (by decide +kernel) (by decide +kernel), Nat.le_of_ble_eq_true rfl, Nat.le_of_ble_eq_true rfl⟩
theorem lkX9_plan_58 : g_LK mX9_plan mX9_in 58 := ⟨g_tb 767 (by decide +kernel) (by decide +kernel), Nat.le_of_ble_eq_true rfl, Nat.le_of_ble_eq_true rfl⟩
theorem lkX9_plan_193 : g_LK mX9_plan mX9_looks 193 := ⟨g_tb 943 (by decide +kernel) (by decide +kernel), Nat.le_of_ble_eq_true rfl, Nat.le_of_ble_eq_true rfl⟩
theorem lkX9_plan_196 : g_LK mX9_plan mX9_plans 196 := ⟨g_tb 947 (by decide +kernel) (by decide +kernel), Nat.le_of_ble_eq_true rfl, Nat.le_of_ble_eq_true rfl⟩
theorem lkX9_drawn_127 : g_LK mX9_drawn mX9_clampAt 127 := ⟨g_tb 854 (by decide +kernel) (by decide +kernel), Nat.le_of_ble_eq_true rfl, Nat.le_of_ble_eq_true rfl⟩
theorem lkX9_drawn_124 : g_LK mX9_drawn mX9_holeAt 124 := ⟨g_tb 850 (by decide +kernel) (by decide +kernel), Nat.le_of_ble_eq_true rfl, Nat.le_of_ble_eq_true rfl⟩
theorem lkX9_count_165 : g_LK mX9_count mX9_open 165 := ⟨g_tb 894 (by decide +kernel) (by decide +kernel), Nat.le_of_ble_eq_true rfl, Nat.le_of_ble_eq_true rfl⟩
theorem lkJ0_length_8abf5_335 : g_LK mJ0_length_8abf5 mJ0_coder_7d493 335 := ⟨g_tb 256 (by decide +kernel) (by decide +kernel), Nat.le_of_ble_eq_true rfl, Nat.le_of_ble_eq_true rfl⟩
theorem lkJ0_charAt_5068e_492 : g_LK mJ0_charAt_5068e mJ0_isLatin1_aae02 492 := ⟨g_tb 266 (by decide +kernel) (by decide +kernel), Nat.le_of_ble_eq_true rfl, Nat.le_of_ble_eq_true rfl⟩
theorem lkJ0_charAt_5068e_495 : g_LK mJ0_charAt_5068e mJ1_charAt_3b067 495 := ⟨g_tb 270 (by decide +kernel) (by decide +kernel), Nat.le_of_ble_eq_true rfl, Nat.le_of_ble_eq_true rfl⟩
theorem lkJ0_checkIndex_df160_1059 : g_LK mJ0_checkIndex_df160 mJ3_checkIndex_8e157 1059 := ⟨g_tb 278 (by decide +kernel) (by decide +kernel), Nat.le_of_ble_eq_true rfl, Nat.le_of_ble_eq_true rfl⟩
theorem lkJ1_charAt_3b067_9 : g_LK mJ1_charAt_3b067 mJ0_checkIndex_df160 9 := ⟨g_tb 273 (by decide +kernel) (by decide +kernel), Nat.le_of_ble_eq_true rfl, Nat.le_of_ble_eq_true rfl⟩
theorem lkL_law_9 : g_LK mL_law mX8_init 9 := ⟨g_tb 21 (by decide +kernel) (by decide +kernel), Nat.le_of_ble_eq_true rfl, Nat.le_of_ble_eq_true rfl⟩
theorem lkL_law_12 : g_LK mL_law mX9_init 12 := ⟨g_tb 700 (by decide +kernel) (by decide +kernel), Nat.le_of_ble_eq_true rfl, Nat.le_of_ble_eq_true rfl⟩
theorem lkL_law_13 : g_LK mL_law mX8_write 13 := ⟨g_tb 437 (by decide +kernel) (by decide +kernel), Nat.le_of_ble_eq_true rfl, Nat.le_of_ble_eq_true rfl⟩
theorem lkL_law_17 : g_LK mL_law mX9_write 17 := ⟨g_tb 761 (by decide +kernel) (by decide +kernel), Nat.le_of_ble_eq_true rfl, Nat.le_of_ble_eq_true rfl⟩
theorem lkL_law_18 : g_LK mL_law mX8_wipe 18 := ⟨g_tb 441 (by decide +kernel) (by decide +kernel), Nat.le_of_ble_eq_true rfl, Nat.le_of_ble_eq_true rfl⟩
theorem lkL_law_22 : g_LK mL_law mX9_wipe 22 := ⟨g_tb 770 (by decide +kernel) (by decide +kernel), Nat.le_of_ble_eq_true rfl, Nat.le_of_ble_eq_true rfl⟩
theorem lkL_law_23 : g_LK mL_law mX8_fault 23 := ⟨g_tb 445 (by decide +kernel) (by decide +kernel), Nat.le_of_ble_eq_true rfl, Nat.le_of_ble_eq_true rfl⟩
theorem lkL_law_26 : g_LK mL_law mX9_fault 26 := ⟨g_tb 774 (by decide +kernel) (by decide +kernel), Nat.le_of_ble_eq_true rfl, Nat.le_of_ble_eq_true rfl⟩
theorem lkL_law_27 : g_LK mL_law mX8_lay 27 := ⟨g_tb 449 (by decide +kernel) (by decide +kernel), Nat.le_of_ble_eq_true rfl, Nat.le_of_ble_eq_true rfl⟩
theorem lkL_law_30 : g_LK mL_law mX9_lay 30 := ⟨g_tb 812 (by decide +kernel) (by decide +kernel), Nat.le_of_ble_eq_true rfl, Nat.le_of_ble_eq_true rfl⟩
theorem lkL_law_31 : g_LK mL_law mX8_hit 31 := ⟨g_tb 453 (by decide +kernel) (by decide +kernel), Nat.le_of_ble_eq_true rfl, Nat.le_of_ble_eq_true rfl⟩
theorem lkL_law_35 : g_LK mL_law mX9_hit 35 := ⟨g_tb 862 (by decide +kernel) (by decide +kernel), Nat.le_of_ble_eq_true rfl, Nat.le_of_ble_eq_true rfl⟩
theorem lkL_law_36 : g_LK mL_law mX8_why 36 := ⟨g_tb 542 (by decide +kernel) (by decide +kernel), Nat.le_of_ble_eq_true rfl, Nat.le_of_ble_eq_true rfl⟩
theorem lkL_law_39 : g_LK mL_law mX9_why 39 := ⟨g_tb 825 (by decide +kernel) (by decide +kernel), Nat.le_of_ble_eq_true rfl, Nat.le_of_ble_eq_true rfl⟩
theorem lkL_law_40 : g_LK mL_law mX8_nibble 40 := ⟨g_tb 546 (by decide +kernel) (by decide +kernel), Nat.le_of_ble_eq_true rfl, Nat.le_of_ble_eq_true rfl⟩
theorem lkL_law_44 : g_LK mL_law mX9_nibble 44 := ⟨g_tb 879 (by decide +kernel) (by decide +kernel), Nat.le_of_ble_eq_true rfl, Nat.le_of_ble_eq_true rfl⟩
theorem lkL_law_45 : g_LK mL_law mX8_clamp 45 := ⟨g_tb 571 (by decide +kernel) (by decide +kernel), Nat.le_of_ble_eq_true rfl, Nat.le_of_ble_eq_true rfl⟩
theorem lkL_law_49 : g_LK mL_law mX9_clamp 49 := ⟨g_tb 906 (by decide +kernel) (by decide +kernel), Nat.le_of_ble_eq_true rfl, Nat.le_of_ble_eq_true rfl⟩
theorem lkL_law_50 : g_LK mL_law mX8_sharpen 50 := ⟨g_tb 585 (by decide +kernel) (by decide +kernel), Nat.le_of_ble_eq_true rfl, Nat.le_of_ble_eq_true rfl⟩
theorem lkL_law_53 : g_LK mL_law mX9_sharpen 53 := ⟨g_tb 911 (by decide +kernel) (by decide +kernel), Nat.le_of_ble_eq_true rfl, Nat.le_of_ble_eq_true rfl⟩
theorem lkL_law_54 : g_LK mL_law mX8_undo 54 := ⟨g_tb 589 (by decide +kernel) (by decide +kernel), Nat.le_of_ble_eq_true rfl, Nat.le_of_ble_eq_true rfl⟩
theorem lkL_law_57 : g_LK mL_law mX9_undo 57 := ⟨g_tb 817 (by decide +kernel) (by decide +kernel), Nat.le_of_ble_eq_true rfl, Nat.le_of_ble_eq_true rfl⟩
theorem lkL_law_58 : g_LK mL_law mX8_station 58 := ⟨g_tb 597 (by decide +kernel) (by decide +kernel), Nat.le_of_ble_eq_true rfl, Nat.le_of_ble_eq_true rfl⟩
theorem lkL_law_61 : g_LK mL_law mX9_station 61 := ⟨g_tb 915 (by decide +kernel) (by decide +kernel), Nat.le_of_ble_eq_true rfl, Nat.le_of_ble_eq_true rfl⟩
theorem lkL_law_62 : g_LK mL_law mX8_hole 62 := ⟨g_tb 606 (by decide +kernel) (by decide +kernel), Nat.le_of_ble_eq_true rfl, Nat.le_of_ble_eq_true rfl⟩
theorem lkL_law_65 : g_LK mL_law mX9_hole 65 := ⟨g_tb 920 (by decide +kernel) (by decide +kernel), Nat.le_of_ble_eq_true rfl, Nat.le_of_ble_eq_true rfl⟩
theorem lkL_law_66 : g_LK mL_law mX8_hits 66 := ⟨g_tb 611 (by decide +kernel) (by decide +kernel), Nat.le_of_ble_eq_true rfl, Nat.le_of_ble_eq_true rfl⟩
theorem lkL_law_69 : g_LK mL_law mX9_hits 69 := ⟨g_tb 925 (by decide +kernel) (by decide +kernel), Nat.le_of_ble_eq_true rfl, Nat.le_of_ble_eq_true rfl⟩
theorem lkL_law_70 : g_LK mL_law mX8_cell 70 := ⟨g_tb 615 (by decide +kernel) (by decide +kernel), Nat.le_of_ble_eq_true rfl, Nat.le_of_ble_eq_true rfl⟩
theorem lkL_law_73 : g_LK mL_law mX9_cell 73 := ⟨g_tb 929 (by decide +kernel) (by decide +kernel), Nat.le_of_ble_eq_true rfl, Nat.le_of_ble_eq_true rfl⟩
theorem lkL_law_74 : g_LK mL_law mX8_column 74 := ⟨g_tb 634 (by decide +kernel) (by decide +kernel), Nat.le_of_ble_eq_true rfl, Nat.le_of_ble_eq_true rfl⟩
theorem lkL_law_77 : g_LK mL_law mX9_column 77 := ⟨g_tb 934 (by decide +kernel) (by decide +kernel), Nat.le_of_ble_eq_true rfl, Nat.le_of_ble_eq_true rfl⟩
theorem lkL_law_78 : g_LK mL_law mX8_plan 78 := ⟨g_tb 638 (by decide +kernel) (by decide +kernel), Nat.le_of_ble_eq_true rfl, Nat.le_of_ble_eq_true rfl⟩
theorem lkL_law_81 : g_LK mL_law mX9_plan 81 := ⟨g_tb 938 (by decide +kernel) (by decide +kernel), Nat.le_of_ble_eq_true rfl, Nat.le_of_ble_eq_true rfl⟩
theorem lkL_law_82 : g_LK mL_law mX8_drawn 82 := ⟨g_tb 678 (by decide +kernel) (by decide +kernel), Nat.le_of_ble_eq_true rfl, Nat.le_of_ble_eq_true rfl⟩
theorem lkL_law_85 : g_LK mL_law mX9_drawn 85 := ⟨g_tb 955 (by decide +kernel) (by decide +kernel), Nat.le_of_ble_eq_true rfl, Nat.le_of_ble_eq_true rfl⟩
theorem lkL_law_86 : g_LK mL_law mX8_count 86 := ⟨g_tb 686 (by decide +kernel) (by decide +kernel), Nat.le_of_ble_eq_true rfl, Nat.le_of_ble_eq_true rfl⟩
theorem lkL_law_89 : g_LK mL_law mX9_count 89 := ⟨g_tb 959 (by decide +kernel) (by decide +kernel), Nat.le_of_ble_eq_true rfl, Nat.le_of_ble_eq_true rfl⟩
