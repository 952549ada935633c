section
-- ===== PART A: goes FIRST, ahead of the names: the tables' words, and 'selects' of the private methods out of them =====
/-- a private method of a class that the tables say can be made, by its rows of tables_1 -/
def lw_okq (q : MethodName × Nat) : Prop := (q.1.cls ≠ "java/lang/invoke/MethodHandle" ∧ q.1.cls ≠ "java/lang/invoke/VarHandle") ∧ Cond.instantiable q.1.cls q.2 ∈ tables_1 ∧ Cond.privateMethod q.1 ∈ tables_1 ∧ Cond.instanceMethod q.1 ∈ tables_1
theorem lw_p0 : lw_okq (⟨"TurretPunch", "layDraft", "()Z"⟩, 9) := ⟨⟨by decide +kernel, by decide +kernel⟩, List.mem_of_getElem? (i := 20) (by decide +kernel), List.mem_of_getElem? (i := 305) (by decide +kernel), List.mem_of_getElem? (i := 306) (by decide +kernel)⟩
theorem lw_p1 : lw_okq (⟨"TurretPunch$Reader", "takesItem", "(LTurretPunch$Text;LTurretPunch$Job;)Z"⟩, 2) := ⟨⟨by decide +kernel, by decide +kernel⟩, List.mem_of_getElem? (i := 44) (by decide +kernel), List.mem_of_getElem? (i := 321) (by decide +kernel), List.mem_of_getElem? (i := 322) (by decide +kernel)⟩
theorem lw_p2 : lw_okq (⟨"TurretPunch$Reader", "takesWord", "(LTurretPunch$Text;Ljava/lang/String;)Z"⟩, 2) := ⟨⟨by decide +kernel, by decide +kernel⟩, List.mem_of_getElem? (i := 44) (by decide +kernel), List.mem_of_getElem? (i := 326) (by decide +kernel), List.mem_of_getElem? (i := 327) (by decide +kernel)⟩
theorem lw_p3 : lw_okq (⟨"TurretPunch$Reader", "takesNumbers", "(LTurretPunch$Text;I)Z"⟩, 2) := ⟨⟨by decide +kernel, by decide +kernel⟩, List.mem_of_getElem? (i := 44) (by decide +kernel), List.mem_of_getElem? (i := 336) (by decide +kernel), List.mem_of_getElem? (i := 337) (by decide +kernel)⟩
theorem lw_p4 : lw_okq (⟨"TurretPunch$Reader", "takeNumber", "(LTurretPunch$Text;)I"⟩, 2) := ⟨⟨by decide +kernel, by decide +kernel⟩, List.mem_of_getElem? (i := 44) (by decide +kernel), List.mem_of_getElem? (i := 343) (by decide +kernel), List.mem_of_getElem? (i := 344) (by decide +kernel)⟩
theorem lw_p5 : lw_okq (⟨"TurretPunch", "isHitTold", "(IIII)Z"⟩, 9) := ⟨⟨by decide +kernel, by decide +kernel⟩, List.mem_of_getElem? (i := 20) (by decide +kernel), List.mem_of_getElem? (i := 458) (by decide +kernel), List.mem_of_getElem? (i := 459) (by decide +kernel)⟩
theorem lw_p6 : lw_okq (⟨"TurretPunch", "isStation", "(I)Z"⟩, 9) := ⟨⟨by decide +kernel, by decide +kernel⟩, List.mem_of_getElem? (i := 20) (by decide +kernel), List.mem_of_getElem? (i := 462) (by decide +kernel), List.mem_of_getElem? (i := 463) (by decide +kernel)⟩
theorem lw_p7 : lw_okq (⟨"TurretPunch$State", "isClamped", "(LTurretPunch$Job;LTurretPunch$Area;)Z"⟩, 7) := ⟨⟨by decide +kernel, by decide +kernel⟩, List.mem_of_getElem? (i := 58) (by decide +kernel), List.mem_of_getElem? (i := 490) (by decide +kernel), List.mem_of_getElem? (i := 491) (by decide +kernel)⟩
theorem lw_p8 : lw_okq (⟨"TurretPunch", "isHole", "(I)Z"⟩, 9) := ⟨⟨by decide +kernel, by decide +kernel⟩, List.mem_of_getElem? (i := 20) (by decide +kernel), List.mem_of_getElem? (i := 551) (by decide +kernel), List.mem_of_getElem? (i := 552) (by decide +kernel)⟩
theorem lw_p9 : lw_okq (⟨"TurretPunch", "punchAll", "(LTurretPunch$Area;IZ)I"⟩, 9) := ⟨⟨by decide +kernel, by decide +kernel⟩, List.mem_of_getElem? (i := 20) (by decide +kernel), List.mem_of_getElem? (i := 557) (by decide +kernel), List.mem_of_getElem? (i := 558) (by decide +kernel)⟩
theorem lw_p10 : lw_okq (⟨"TurretPunch", "isClamp", "(I)Z"⟩, 9) := ⟨⟨by decide +kernel, by decide +kernel⟩, List.mem_of_getElem? (i := 20) (by decide +kernel), List.mem_of_getElem? (i := 576) (by decide +kernel), List.mem_of_getElem? (i := 577) (by decide +kernel)⟩
theorem lw_p11 : lw_okq (⟨"TurretPunch$Planner", "weighWays", "(LTurretPunch$Job;)V"⟩, 8) := ⟨⟨by decide +kernel, by decide +kernel⟩, List.mem_of_getElem? (i := 113) (by decide +kernel), List.mem_of_getElem? (i := 647) (by decide +kernel), List.mem_of_getElem? (i := 648) (by decide +kernel)⟩
theorem lw_p12 : lw_okq (⟨"TurretPunch$Planner", "triesSet", "(LTurretPunch$Job;LTurretPunch$State;I)Z"⟩, 8) := ⟨⟨by decide +kernel, by decide +kernel⟩, List.mem_of_getElem? (i := 113) (by decide +kernel), List.mem_of_getElem? (i := 653) (by decide +kernel), List.mem_of_getElem? (i := 654) (by decide +kernel)⟩
theorem lw_p13 : lw_okq (⟨"TurretPunch$Planner", "takeFirstFewest", "(III)I"⟩, 8) := ⟨⟨by decide +kernel, by decide +kernel⟩, List.mem_of_getElem? (i := 113) (by decide +kernel), List.mem_of_getElem? (i := 658) (by decide +kernel), List.mem_of_getElem? (i := 659) (by decide +kernel)⟩
theorem lw_p14 : lw_okq (⟨"TurretPunch$Job", "downBeyond", "(III)I"⟩, 7) := ⟨⟨by decide +kernel, by decide +kernel⟩, List.mem_of_getElem? (i := 176) (by decide +kernel), List.mem_of_getElem? (i := 666) (by decide +kernel), List.mem_of_getElem? (i := 667) (by decide +kernel)⟩
theorem lw_p15 : lw_okq (⟨"TurretPunch$Planner", "isBetter", "(II)Z"⟩, 8) := ⟨⟨by decide +kernel, by decide +kernel⟩, List.mem_of_getElem? (i := 113) (by decide +kernel), List.mem_of_getElem? (i := 670) (by decide +kernel), List.mem_of_getElem? (i := 671) (by decide +kernel)⟩
def lw_privs_1 : List (MethodName × Nat) := [(⟨"TurretPunch", "layDraft", "()Z"⟩, 9), (⟨"TurretPunch$Reader", "takesItem", "(LTurretPunch$Text;LTurretPunch$Job;)Z"⟩, 2), (⟨"TurretPunch$Reader", "takesWord", "(LTurretPunch$Text;Ljava/lang/String;)Z"⟩, 2), (⟨"TurretPunch$Reader", "takesNumbers", "(LTurretPunch$Text;I)Z"⟩, 2), (⟨"TurretPunch$Reader", "takeNumber", "(LTurretPunch$Text;)I"⟩, 2), (⟨"TurretPunch", "isHitTold", "(IIII)Z"⟩, 9), (⟨"TurretPunch", "isStation", "(I)Z"⟩, 9), (⟨"TurretPunch$State", "isClamped", "(LTurretPunch$Job;LTurretPunch$Area;)Z"⟩, 7), (⟨"TurretPunch", "isHole", "(I)Z"⟩, 9), (⟨"TurretPunch", "punchAll", "(LTurretPunch$Area;IZ)I"⟩, 9), (⟨"TurretPunch", "isClamp", "(I)Z"⟩, 9), (⟨"TurretPunch$Planner", "weighWays", "(LTurretPunch$Job;)V"⟩, 8), (⟨"TurretPunch$Planner", "triesSet", "(LTurretPunch$Job;LTurretPunch$State;I)Z"⟩, 8), (⟨"TurretPunch$Planner", "takeFirstFewest", "(III)I"⟩, 8), (⟨"TurretPunch$Job", "downBeyond", "(III)I"⟩, 7), (⟨"TurretPunch$Planner", "isBetter", "(II)Z"⟩, 8)]
theorem lw_r1 : ∀ q ∈ lw_privs_1, lw_okq q := List.forall_mem_cons.mpr ⟨lw_p0, List.forall_mem_cons.mpr ⟨lw_p1, List.forall_mem_cons.mpr ⟨lw_p2, List.forall_mem_cons.mpr ⟨lw_p3, List.forall_mem_cons.mpr ⟨lw_p4, List.forall_mem_cons.mpr ⟨lw_p5, List.forall_mem_cons.mpr ⟨lw_p6, List.forall_mem_cons.mpr ⟨lw_p7, List.forall_mem_cons.mpr ⟨lw_p8, List.forall_mem_cons.mpr ⟨lw_p9, List.forall_mem_cons.mpr ⟨lw_p10, List.forall_mem_cons.mpr ⟨lw_p11, List.forall_mem_cons.mpr ⟨lw_p12, List.forall_mem_cons.mpr ⟨lw_p13, List.forall_mem_cons.mpr ⟨lw_p14, List.forall_mem_cons.mpr ⟨lw_p15, fun _ h => absurd h List.not_mem_nil⟩⟩⟩⟩⟩⟩⟩⟩⟩⟩⟩⟩⟩⟩⟩⟩
theorem lw_p16 : lw_okq (⟨"TurretPunch$Planner", "keepTried", "(I)V"⟩, 8) := ⟨⟨by decide +kernel, by decide +kernel⟩, List.mem_of_getElem? (i := 113) (by decide +kernel), List.mem_of_getElem? (i := 674) (by decide +kernel), List.mem_of_getElem? (i := 675) (by decide +kernel)⟩
theorem lw_p17 : lw_okq (⟨"TurretPunch", "signAt", "(II)C"⟩, 9) := ⟨⟨by decide +kernel, by decide +kernel⟩, List.mem_of_getElem? (i := 20) (by decide +kernel), List.mem_of_getElem? (i := 683) (by decide +kernel), List.mem_of_getElem? (i := 684) (by decide +kernel)⟩
theorem lw_p18 : lw_okq (⟨"TurretPunchModel", "adds", "(IIIIII)V"⟩, 16) := ⟨⟨by decide +kernel, by decide +kernel⟩, List.mem_of_getElem? (i := 699) (by decide +kernel), List.mem_of_getElem? (i := 705) (by decide +kernel), List.mem_of_getElem? (i := 706) (by decide +kernel)⟩
theorem lw_p19 : lw_okq (⟨"TurretPunchModel", "anew", "()V"⟩, 16) := ⟨⟨by decide +kernel, by decide +kernel⟩, List.mem_of_getElem? (i := 699) (by decide +kernel), List.mem_of_getElem? (i := 709) (by decide +kernel), List.mem_of_getElem? (i := 710) (by decide +kernel)⟩
theorem lw_p20 : lw_okq (⟨"TurretPunchModel", "item", "()Z"⟩, 16) := ⟨⟨by decide +kernel, by decide +kernel⟩, List.mem_of_getElem? (i := 699) (by decide +kernel), List.mem_of_getElem? (i := 779) (by decide +kernel), List.mem_of_getElem? (i := 780) (by decide +kernel)⟩
theorem lw_p21 : lw_okq (⟨"TurretPunchModel", "word", "(JI)Z"⟩, 16) := ⟨⟨by decide +kernel, by decide +kernel⟩, List.mem_of_getElem? (i := 699) (by decide +kernel), List.mem_of_getElem? (i := 787) (by decide +kernel), List.mem_of_getElem? (i := 788) (by decide +kernel)⟩
theorem lw_p22 : lw_okq (⟨"TurretPunchModel", "byteAt", "(I)I"⟩, 16) := ⟨⟨by decide +kernel, by decide +kernel⟩, List.mem_of_getElem? (i := 699) (by decide +kernel), List.mem_of_getElem? (i := 791) (by decide +kernel), List.mem_of_getElem? (i := 792) (by decide +kernel)⟩
theorem lw_p23 : lw_okq (⟨"TurretPunchModel", "number", "(IIII)Z"⟩, 16) := ⟨⟨by decide +kernel, by decide +kernel⟩, List.mem_of_getElem? (i := 699) (by decide +kernel), List.mem_of_getElem? (i := 796) (by decide +kernel), List.mem_of_getElem? (i := 797) (by decide +kernel)⟩
theorem lw_p24 : lw_okq (⟨"TurretPunchModel", "holeItem", "()Z"⟩, 16) := ⟨⟨by decide +kernel, by decide +kernel⟩, List.mem_of_getElem? (i := 699) (by decide +kernel), List.mem_of_getElem? (i := 805) (by decide +kernel), List.mem_of_getElem? (i := 806) (by decide +kernel)⟩
theorem lw_p25 : lw_okq (⟨"TurretPunchModel", "isApart", "(II)Z"⟩, 16) := ⟨⟨by decide +kernel, by decide +kernel⟩, List.mem_of_getElem? (i := 699) (by decide +kernel), List.mem_of_getElem? (i := 809) (by decide +kernel), List.mem_of_getElem? (i := 810) (by decide +kernel)⟩
theorem lw_p26 : lw_okq (⟨"TurretPunchModel", "takesBack", "()V"⟩, 16) := ⟨⟨by decide +kernel, by decide +kernel⟩, List.mem_of_getElem? (i := 699) (by decide +kernel), List.mem_of_getElem? (i := 822) (by decide +kernel), List.mem_of_getElem? (i := 823) (by decide +kernel)⟩
theorem lw_p27 : lw_okq (⟨"TurretPunchModel", "isStation", "(I)Z"⟩, 16) := ⟨⟨by decide +kernel, by decide +kernel⟩, List.mem_of_getElem? (i := 699) (by decide +kernel), List.mem_of_getElem? (i := 830) (by decide +kernel), List.mem_of_getElem? (i := 831) (by decide +kernel)⟩
theorem lw_p28 : lw_okq (⟨"TurretPunchModel", "whyNot", "(IIII)I"⟩, 16) := ⟨⟨by decide +kernel, by decide +kernel⟩, List.mem_of_getElem? (i := 699) (by decide +kernel), List.mem_of_getElem? (i := 835) (by decide +kernel), List.mem_of_getElem? (i := 836) (by decide +kernel)⟩
theorem lw_p29 : lw_okq (⟨"TurretPunchModel", "wide", "(II)I"⟩, 16) := ⟨⟨by decide +kernel, by decide +kernel⟩, List.mem_of_getElem? (i := 699) (by decide +kernel), List.mem_of_getElem? (i := 839) (by decide +kernel), List.mem_of_getElem? (i := 840) (by decide +kernel)⟩
theorem lw_p30 : lw_okq (⟨"TurretPunchModel", "high", "(II)I"⟩, 16) := ⟨⟨by decide +kernel, by decide +kernel⟩, List.mem_of_getElem? (i := 699) (by decide +kernel), List.mem_of_getElem? (i := 843) (by decide +kernel), List.mem_of_getElem? (i := 844) (by decide +kernel)⟩
theorem lw_p31 : lw_okq (⟨"TurretPunchModel", "isCell", "(II)Z"⟩, 16) := ⟨⟨by decide +kernel, by decide +kernel⟩, List.mem_of_getElem? (i := 699) (by decide +kernel), List.mem_of_getElem? (i := 847) (by decide +kernel), List.mem_of_getElem? (i := 848) (by decide +kernel)⟩
def lw_privs_2 : List (MethodName × Nat) := [(⟨"TurretPunch$Planner", "keepTried", "(I)V"⟩, 8), (⟨"TurretPunch", "signAt", "(II)C"⟩, 9), (⟨"TurretPunchModel", "adds", "(IIIIII)V"⟩, 16), (⟨"TurretPunchModel", "anew", "()V"⟩, 16), (⟨"TurretPunchModel", "item", "()Z"⟩, 16), (⟨"TurretPunchModel", "word", "(JI)Z"⟩, 16), (⟨"TurretPunchModel", "byteAt", "(I)I"⟩, 16), (⟨"TurretPunchModel", "number", "(IIII)Z"⟩, 16), (⟨"TurretPunchModel", "holeItem", "()Z"⟩, 16), (⟨"TurretPunchModel", "isApart", "(II)Z"⟩, 16), (⟨"TurretPunchModel", "takesBack", "()V"⟩, 16), (⟨"TurretPunchModel", "isStation", "(I)Z"⟩, 16), (⟨"TurretPunchModel", "whyNot", "(IIII)I"⟩, 16), (⟨"TurretPunchModel", "wide", "(II)I"⟩, 16), (⟨"TurretPunchModel", "high", "(II)I"⟩, 16), (⟨"TurretPunchModel", "isCell", "(II)Z"⟩, 16)]
theorem lw_r2 : ∀ q ∈ lw_privs_2, lw_okq q := List.forall_mem_cons.mpr ⟨lw_p16, List.forall_mem_cons.mpr ⟨lw_p17, List.forall_mem_cons.mpr ⟨lw_p18, List.forall_mem_cons.mpr ⟨lw_p19, List.forall_mem_cons.mpr ⟨lw_p20, List.forall_mem_cons.mpr ⟨lw_p21, List.forall_mem_cons.mpr ⟨lw_p22, List.forall_mem_cons.mpr ⟨lw_p23, List.forall_mem_cons.mpr ⟨lw_p24, List.forall_mem_cons.mpr ⟨lw_p25, List.forall_mem_cons.mpr ⟨lw_p26, List.forall_mem_cons.mpr ⟨lw_p27, List.forall_mem_cons.mpr ⟨lw_p28, List.forall_mem_cons.mpr ⟨lw_p29, List.forall_mem_cons.mpr ⟨lw_p30, List.forall_mem_cons.mpr ⟨lw_p31, fun _ h => absurd h List.not_mem_nil⟩⟩⟩⟩⟩⟩⟩⟩⟩⟩⟩⟩⟩⟩⟩⟩
theorem lw_p32 : lw_okq (⟨"TurretPunchModel", "holeAt", "(II)I"⟩, 16) := ⟨⟨by decide +kernel, by decide +kernel⟩, List.mem_of_getElem? (i := 699) (by decide +kernel), List.mem_of_getElem? (i := 851) (by decide +kernel), List.mem_of_getElem? (i := 852) (by decide +kernel)⟩
theorem lw_p33 : lw_okq (⟨"TurretPunchModel", "clampAt", "(II)I"⟩, 16) := ⟨⟨by decide +kernel, by decide +kernel⟩, List.mem_of_getElem? (i := 699) (by decide +kernel), List.mem_of_getElem? (i := 855) (by decide +kernel), List.mem_of_getElem? (i := 856) (by decide +kernel)⟩
theorem lw_p34 : lw_okq (⟨"TurretPunchModel", "isDull", "(I)Z"⟩, 16) := ⟨⟨by decide +kernel, by decide +kernel⟩, List.mem_of_getElem? (i := 699) (by decide +kernel), List.mem_of_getElem? (i := 859) (by decide +kernel), List.mem_of_getElem? (i := 860) (by decide +kernel)⟩
theorem lw_p35 : lw_okq (⟨"TurretPunchModel", "note", "()V"⟩, 16) := ⟨⟨by decide +kernel, by decide +kernel⟩, List.mem_of_getElem? (i := 699) (by decide +kernel), List.mem_of_getElem? (i := 868) (by decide +kernel), List.mem_of_getElem? (i := 869) (by decide +kernel)⟩
theorem lw_p36 : lw_okq (⟨"TurretPunchModel", "strikes", "(IIII)I"⟩, 16) := ⟨⟨by decide +kernel, by decide +kernel⟩, List.mem_of_getElem? (i := 699) (by decide +kernel), List.mem_of_getElem? (i := 872) (by decide +kernel), List.mem_of_getElem? (i := 873) (by decide +kernel)⟩
theorem lw_p37 : lw_okq (⟨"TurretPunchModel", "ring", "(II)I"⟩, 16) := ⟨⟨by decide +kernel, by decide +kernel⟩, List.mem_of_getElem? (i := 699) (by decide +kernel), List.mem_of_getElem? (i := 876) (by decide +kernel), List.mem_of_getElem? (i := 877) (by decide +kernel)⟩
theorem lw_p38 : lw_okq (⟨"TurretPunchModel", "isHole", "(I)Z"⟩, 16) := ⟨⟨by decide +kernel, by decide +kernel⟩, List.mem_of_getElem? (i := 699) (by decide +kernel), List.mem_of_getElem? (i := 884) (by decide +kernel), List.mem_of_getElem? (i := 885) (by decide +kernel)⟩
theorem lw_p39 : lw_okq (⟨"TurretPunchModel", "nibbles", "(III)I"⟩, 16) := ⟨⟨by decide +kernel, by decide +kernel⟩, List.mem_of_getElem? (i := 699) (by decide +kernel), List.mem_of_getElem? (i := 888) (by decide +kernel), List.mem_of_getElem? (i := 889) (by decide +kernel)⟩
theorem lw_p40 : lw_okq (⟨"TurretPunchModel", "open", "(I)I"⟩, 16) := ⟨⟨by decide +kernel, by decide +kernel⟩, List.mem_of_getElem? (i := 699) (by decide +kernel), List.mem_of_getElem? (i := 895) (by decide +kernel), List.mem_of_getElem? (i := 896) (by decide +kernel)⟩
theorem lw_p41 : lw_okq (⟨"TurretPunchModel", "isCut", "(IIII)Z"⟩, 16) := ⟨⟨by decide +kernel, by decide +kernel⟩, List.mem_of_getElem? (i := 699) (by decide +kernel), List.mem_of_getElem? (i := 899) (by decide +kernel), List.mem_of_getElem? (i := 900) (by decide +kernel)⟩
theorem lw_p42 : lw_okq (⟨"TurretPunchModel", "swaps", "()V"⟩, 16) := ⟨⟨by decide +kernel, by decide +kernel⟩, List.mem_of_getElem? (i := 699) (by decide +kernel), List.mem_of_getElem? (i := 903) (by decide +kernel), List.mem_of_getElem? (i := 904) (by decide +kernel)⟩
theorem lw_p43 : lw_okq (⟨"TurretPunchModel", "looks", "()V"⟩, 16) := ⟨⟨by decide +kernel, by decide +kernel⟩, List.mem_of_getElem? (i := 699) (by decide +kernel), List.mem_of_getElem? (i := 944) (by decide +kernel), List.mem_of_getElem? (i := 945) (by decide +kernel)⟩
theorem lw_p44 : lw_okq (⟨"TurretPunchModel", "plans", "()Z"⟩, 16) := ⟨⟨by decide +kernel, by decide +kernel⟩, List.mem_of_getElem? (i := 699) (by decide +kernel), List.mem_of_getElem? (i := 948) (by decide +kernel), List.mem_of_getElem? (i := 949) (by decide +kernel)⟩
theorem lw_p45 : lw_okq (⟨"TurretPunchModel", "round", "(I)I"⟩, 16) := ⟨⟨by decide +kernel, by decide +kernel⟩, List.mem_of_getElem? (i := 699) (by decide +kernel), List.mem_of_getElem? (i := 952) (by decide +kernel), List.mem_of_getElem? (i := 953) (by decide +kernel)⟩
def lw_privs_3 : List (MethodName × Nat) := [(⟨"TurretPunchModel", "holeAt", "(II)I"⟩, 16), (⟨"TurretPunchModel", "clampAt", "(II)I"⟩, 16), (⟨"TurretPunchModel", "isDull", "(I)Z"⟩, 16), (⟨"TurretPunchModel", "note", "()V"⟩, 16), (⟨"TurretPunchModel", "strikes", "(IIII)I"⟩, 16), (⟨"TurretPunchModel", "ring", "(II)I"⟩, 16), (⟨"TurretPunchModel", "isHole", "(I)Z"⟩, 16), (⟨"TurretPunchModel", "nibbles", "(III)I"⟩, 16), (⟨"TurretPunchModel", "open", "(I)I"⟩, 16), (⟨"TurretPunchModel", "isCut", "(IIII)Z"⟩, 16), (⟨"TurretPunchModel", "swaps", "()V"⟩, 16), (⟨"TurretPunchModel", "looks", "()V"⟩, 16), (⟨"TurretPunchModel", "plans", "()Z"⟩, 16), (⟨"TurretPunchModel", "round", "(I)I"⟩, 16)]
theorem lw_r3 : ∀ q ∈ lw_privs_3, lw_okq q := List.forall_mem_cons.mpr ⟨lw_p32, List.forall_mem_cons.mpr ⟨lw_p33, List.forall_mem_cons.mpr ⟨lw_p34, List.forall_mem_cons.mpr ⟨lw_p35, List.forall_mem_cons.mpr ⟨lw_p36, List.forall_mem_cons.mpr ⟨lw_p37, List.forall_mem_cons.mpr ⟨lw_p38, List.forall_mem_cons.mpr ⟨lw_p39, List.forall_mem_cons.mpr ⟨lw_p40, List.forall_mem_cons.mpr ⟨lw_p41, List.forall_mem_cons.mpr ⟨lw_p42, List.forall_mem_cons.mpr ⟨lw_p43, List.forall_mem_cons.mpr ⟨lw_p44, List.forall_mem_cons.mpr ⟨lw_p45, fun _ h => absurd h List.not_mem_nil⟩⟩⟩⟩⟩⟩⟩⟩⟩⟩⟩⟩⟩⟩
def lw_privs : List (MethodName × Nat) := lw_privs_1 ++ (lw_privs_2 ++ (lw_privs_3))
def lw_tbl : List Cond := k2_sels lw_privs ++ tables_1
theorem lw_privs_ok : ∀ q ∈ lw_privs, lw_okq q := by
  show ∀ q ∈ lw_privs_1 ++ (lw_privs_2 ++ (lw_privs_3)), lw_okq q
  exact List.forall_mem_append.mpr ⟨lw_r1, List.forall_mem_append.mpr ⟨lw_r2, lw_r3⟩⟩
-- names, printed
def RX0 : String := "TurretPunch$Area"
def TX0 : u_T := fun k => match k with
  | 0 => ("TurretPunch$Area", "x", "I", false)
  | 1 => ("TurretPunch$Area", "y", "I", false)
  | 2 => ("TurretPunch$Area", "wide", "I", false)
  | _ => ("TurretPunch$Area", "high", "I", false)
def tyX0 : Nat → FieldType := fun k => match k with
  | 0 => .int
  | 1 => .int
  | 2 => .int
  | _ => .int
theorem nmX0 : ∀ a, a < 4 → ∀ b, b < 4 → a ≠ b → (TX0 a).2.1 ≠ (TX0 b).2.1 := by decide +kernel
theorem tyX0_ok : ∀ k, k < 4 → parseFieldDescriptor (TX0 k).2.2.1 = some (tyX0 k) := by decide +kernel
abbrev cX0_init : ByteArray := prog_2_method_1_code
def yX0_init : MethodName := ⟨RX0, "<init>", "()V"⟩
abbrev cX0_put : ByteArray := prog_2_method_2_code
def yX0_put : MethodName := ⟨RX0, "put", "(IIII)V"⟩
abbrev cX0_has : ByteArray := prog_2_method_3_code
def yX0_has : MethodName := ⟨RX0, "has", "(II)Z"⟩
abbrev cX0_covers : ByteArray := prog_2_method_4_code
def yX0_covers : MethodName := ⟨RX0, "covers", "(LTurretPunch$Area;)Z"⟩
abbrev cX0_meets : ByteArray := prog_2_method_5_code
def yX0_meets : MethodName := ⟨RX0, "meets", "(LTurretPunch$Area;)Z"⟩
abbrev cX0_rowBits : ByteArray := prog_2_method_6_code
def yX0_rowBits : MethodName := ⟨RX0, "rowBits", "()I"⟩
def RX1 : String := "TurretPunch$History"
def TX1 : u_T := fun k => match k with
  | 0 => ("TurretPunch$History", "kept", "[LTurretPunch$State;", true)
  | 1 => ("TurretPunch$History", "next", "I", false)
  | _ => ("TurretPunch$History", "size", "I", false)
def tyX1 : Nat → FieldType := fun k => match k with
  | 0 => .array (.object "TurretPunch$State")
  | 1 => .int
  | _ => .int
theorem nmX1 : ∀ a, a < 3 → ∀ b, b < 3 → a ≠ b → (TX1 a).2.1 ≠ (TX1 b).2.1 := by decide +kernel
theorem tyX1_ok : ∀ k, k < 3 → parseFieldDescriptor (TX1 k).2.2.1 = some (tyX1 k) := by decide +kernel
abbrev cX1_init : ByteArray := prog_3_method_1_code
def yX1_init : MethodName := ⟨RX1, "<init>", "()V"⟩
abbrev cX1_forget : ByteArray := prog_3_method_2_code
def yX1_forget : MethodName := ⟨RX1, "forget", "()V"⟩
abbrev cX1_keep : ByteArray := prog_3_method_3_code
def yX1_keep : MethodName := ⟨RX1, "keep", "(LTurretPunch$State;)V"⟩
abbrev cX1_giveBack : ByteArray := prog_3_method_4_code
def yX1_giveBack : MethodName := ⟨RX1, "giveBack", "(LTurretPunch$State;)Z"⟩
def RX2 : String := "TurretPunch$Job"
def TX2 : u_T := fun k => match k with
  | 0 => ("TurretPunch$Job", "sheet", "LTurretPunch$Area;", true)
  | 1 => ("TurretPunch$Job", "tools", "[LTurretPunch$Tool;", true)
  | 2 => ("TurretPunch$Job", "holes", "[LTurretPunch$Area;", true)
  | 3 => ("TurretPunch$Job", "columns", "[I", true)
  | 4 => ("TurretPunch$Job", "stations", "I", false)
  | 5 => ("TurretPunch$Job", "holeCount", "I", false)
  | _ => ("TurretPunch$Job", "clampCount", "I", false)
def tyX2 : Nat → FieldType := fun k => match k with
  | 0 => .object "TurretPunch$Area"
  | 1 => .array (.object "TurretPunch$Tool")
  | 2 => .array (.object "TurretPunch$Area")
  | 3 => .array .int
  | 4 => .int
  | 5 => .int
  | _ => .int
theorem nmX2 : ∀ a, a < 7 → ∀ b, b < 7 → a ≠ b → (TX2 a).2.1 ≠ (TX2 b).2.1 := by decide +kernel
theorem tyX2_ok : ∀ k, k < 7 → parseFieldDescriptor (TX2 k).2.2.1 = some (tyX2 k) := by decide +kernel
abbrev cX2_init : ByteArray := prog_4_method_1_code
def yX2_init : MethodName := ⟨RX2, "<init>", "()V"⟩
abbrev cX2_clear : ByteArray := prog_4_method_2_code
def yX2_clear : MethodName := ⟨RX2, "clear", "()V"⟩
abbrev cX2_hasSheet : ByteArray := prog_4_method_3_code
def yX2_hasSheet : MethodName := ⟨RX2, "hasSheet", "()Z"⟩
abbrev cX2_takeSheet : ByteArray := prog_4_method_4_code
def yX2_takeSheet : MethodName := ⟨RX2, "takeSheet", "(II)Z"⟩
abbrev cX2_takeTool : ByteArray := prog_4_method_5_code
def yX2_takeTool : MethodName := ⟨RX2, "takeTool", "(IIII)Z"⟩
abbrev cX2_takeHole : ByteArray := prog_4_method_6_code
def yX2_takeHole : MethodName := ⟨RX2, "takeHole", "(IIII)Z"⟩
abbrev cX2_takeClamp : ByteArray := prog_4_method_7_code
def yX2_takeClamp : MethodName := ⟨RX2, "takeClamp", "(I)Z"⟩
abbrev cX2_isColumn : ByteArray := prog_4_method_8_code
def yX2_isColumn : MethodName := ⟨RX2, "isColumn", "(I)Z"⟩
abbrev cX2_areTooNear : ByteArray := prog_4_method_9_code
def yX2_areTooNear : MethodName := ⟨RX2, "areTooNear", "(II)Z"⟩
abbrev cX2_holeAt : ByteArray := prog_4_method_10_code
def yX2_holeAt : MethodName := ⟨RX2, "holeAt", "(II)I"⟩
abbrev cX2_isOfOneHole : ByteArray := prog_4_method_11_code
def yX2_isOfOneHole : MethodName := ⟨RX2, "isOfOneHole", "(LTurretPunch$Area;)Z"⟩
abbrev cX2_turnsBetween : ByteArray := prog_4_method_12_code
def yX2_turnsBetween : MethodName := ⟨RX2, "turnsBetween", "(II)I"⟩
abbrev cX2_turnsThrough : ByteArray := prog_4_method_13_code
def yX2_turnsThrough : MethodName := ⟨RX2, "turnsThrough", "(II)I"⟩
abbrev cX2_downBeyond : ByteArray := prog_4_method_14_code
def yX2_downBeyond : MethodName := ⟨RX2, "downBeyond", "(III)I"⟩
def RX3 : String := "TurretPunch$Planner"
def TX3 : u_T := fun k => match k with
  | 0 => ("TurretPunch$Planner", "fewest", "[I", true)
  | 1 => ("TurretPunch$Planner", "ways", "[I", true)
  | 2 => ("TurretPunch$Planner", "tried", "[I", true)
  | 3 => ("TurretPunch$Planner", "triedHits", "I", false)
  | 4 => ("TurretPunch$Planner", "best", "[I", true)
  | 5 => ("TurretPunch$Planner", "bestHits", "I", false)
  | 6 => ("TurretPunch$Planner", "bestTurns", "I", false)
  | _ => ("TurretPunch$Planner", "found", "Z", false)
def tyX3 : Nat → FieldType := fun k => match k with
  | 0 => .array .int
  | 1 => .array .int
  | 2 => .array .int
  | 3 => .int
  | 4 => .array .int
  | 5 => .int
  | 6 => .int
  | _ => .boolean
theorem nmX3 : ∀ a, a < 8 → ∀ b, b < 8 → a ≠ b → (TX3 a).2.1 ≠ (TX3 b).2.1 := by decide +kernel
theorem tyX3_ok : ∀ k, k < 8 → parseFieldDescriptor (TX3 k).2.2.1 = some (tyX3 k) := by decide +kernel
abbrev cX3_init : ByteArray := prog_5_method_1_code
def yX3_init : MethodName := ⟨RX3, "<init>", "()V"⟩
abbrev cX3_work : ByteArray := prog_5_method_2_code
def yX3_work : MethodName := ⟨RX3, "work", "(LTurretPunch$Job;LTurretPunch$State;)V"⟩
abbrev cX3_weighWays : ByteArray := prog_5_method_3_code
def yX3_weighWays : MethodName := ⟨RX3, "weighWays", "(LTurretPunch$Job;)V"⟩
abbrev cX3_triesSet : ByteArray := prog_5_method_4_code
def yX3_triesSet : MethodName := ⟨RX3, "triesSet", "(LTurretPunch$Job;LTurretPunch$State;I)Z"⟩
abbrev cX3_takeFirstFewest : ByteArray := prog_5_method_5_code
def yX3_takeFirstFewest : MethodName := ⟨RX3, "takeFirstFewest", "(III)I"⟩
abbrev cX3_isBetter : ByteArray := prog_5_method_6_code
def yX3_isBetter : MethodName := ⟨RX3, "isBetter", "(II)Z"⟩
abbrev cX3_keepTried : ByteArray := prog_5_method_7_code
def yX3_keepTried : MethodName := ⟨RX3, "keepTried", "(I)V"⟩
def RX4 : String := "TurretPunch$Reader"
def TX4 : u_T := fun k => match k with
  | 0 => ("TurretPunch$Reader", "numbers", "[I", true)
  | _ => ("TurretPunch$Reader", "at", "I", false)
def tyX4 : Nat → FieldType := fun k => match k with
  | 0 => .array .int
  | _ => .int
theorem nmX4 : ∀ a, a < 2 → ∀ b, b < 2 → a ≠ b → (TX4 a).2.1 ≠ (TX4 b).2.1 := by decide +kernel
theorem tyX4_ok : ∀ k, k < 2 → parseFieldDescriptor (TX4 k).2.2.1 = some (tyX4 k) := by decide +kernel
abbrev cX4_init : ByteArray := prog_6_method_1_code
def yX4_init : MethodName := ⟨RX4, "<init>", "()V"⟩
abbrev cX4_firstFault : ByteArray := prog_6_method_2_code
def yX4_firstFault : MethodName := ⟨RX4, "firstFault", "(LTurretPunch$Text;LTurretPunch$Job;)I"⟩
abbrev cX4_takesItem : ByteArray := prog_6_method_3_code
def yX4_takesItem : MethodName := ⟨RX4, "takesItem", "(LTurretPunch$Text;LTurretPunch$Job;)Z"⟩
abbrev cX4_takesWord : ByteArray := prog_6_method_4_code
def yX4_takesWord : MethodName := ⟨RX4, "takesWord", "(LTurretPunch$Text;Ljava/lang/String;)Z"⟩
abbrev cX4_takesNumbers : ByteArray := prog_6_method_5_code
def yX4_takesNumbers : MethodName := ⟨RX4, "takesNumbers", "(LTurretPunch$Text;I)Z"⟩
abbrev cX4_takeNumber : ByteArray := prog_6_method_6_code
def yX4_takeNumber : MethodName := ⟨RX4, "takeNumber", "(LTurretPunch$Text;)I"⟩
abbrev cX4_isFigure : ByteArray := prog_6_method_7_code
def yX4_isFigure : MethodName := ⟨RX4, "isFigure", "(C)Z"⟩
def RX5 : String := "TurretPunch$State"
def TX5 : u_T := fun k => match k with
  | 0 => ("TurretPunch$State", "cut", "[I", true)
  | 1 => ("TurretPunch$State", "worn", "[I", true)
  | 2 => ("TurretPunch$State", "columns", "[I", true)
  | 3 => ("TurretPunch$State", "here", "I", false)
  | 4 => ("TurretPunch$State", "hitsMade", "I", false)
  | 5 => ("TurretPunch$State", "turnsMade", "I", false)
  | _ => ("TurretPunch$State", "movesMade", "I", false)
def tyX5 : Nat → FieldType := fun k => match k with
  | 0 => .array .int
  | 1 => .array .int
  | 2 => .array .int
  | 3 => .int
  | 4 => .int
  | 5 => .int
  | _ => .int
theorem nmX5 : ∀ a, a < 7 → ∀ b, b < 7 → a ≠ b → (TX5 a).2.1 ≠ (TX5 b).2.1 := by decide +kernel
theorem tyX5_ok : ∀ k, k < 7 → parseFieldDescriptor (TX5 k).2.2.1 = some (tyX5 k) := by decide +kernel
abbrev cX5_init : ByteArray := prog_7_method_1_code
def yX5_init : MethodName := ⟨RX5, "<init>", "()V"⟩
abbrev cX5_begin : ByteArray := prog_7_method_2_code
def yX5_begin : MethodName := ⟨RX5, "begin", "(LTurretPunch$Job;)V"⟩
abbrev cX5_copyFrom : ByteArray := prog_7_method_3_code
def yX5_copyFrom : MethodName := ⟨RX5, "copyFrom", "(LTurretPunch$State;)V"⟩
abbrev cX5_refusal : ByteArray := prog_7_method_4_code
def yX5_refusal : MethodName := ⟨RX5, "refusal", "(LTurretPunch$Job;IZLTurretPunch$Area;)I"⟩
abbrev cX5_punch : ByteArray := prog_7_method_5_code
def yX5_punch : MethodName := ⟨RX5, "punch", "(LTurretPunch$Job;ILTurretPunch$Area;)I"⟩
abbrev cX5_isDull : ByteArray := prog_7_method_6_code
def yX5_isDull : MethodName := ⟨RX5, "isDull", "(LTurretPunch$Job;I)Z"⟩
abbrev cX5_uncutIn : ByteArray := prog_7_method_7_code
def yX5_uncutIn : MethodName := ⟨RX5, "uncutIn", "(LTurretPunch$Area;)I"⟩
abbrev cX5_isCut : ByteArray := prog_7_method_8_code
def yX5_isCut : MethodName := ⟨RX5, "isCut", "(LTurretPunch$Area;)Z"⟩
abbrev cX5_isCellCut : ByteArray := prog_7_method_9_code
def yX5_isCellCut : MethodName := ⟨RX5, "isCellCut", "(II)Z"⟩
abbrev cX5_cutCells : ByteArray := prog_7_method_10_code
def yX5_cutCells : MethodName := ⟨RX5, "cutCells", "()I"⟩
abbrev cX5_holesDone : ByteArray := prog_7_method_11_code
def yX5_holesDone : MethodName := ⟨RX5, "holesDone", "(LTurretPunch$Job;)I"⟩
abbrev cX5_clampAt : ByteArray := prog_7_method_12_code
def yX5_clampAt : MethodName := ⟨RX5, "clampAt", "(LTurretPunch$Job;II)I"⟩
abbrev cX5_isTakenByOther : ByteArray := prog_7_method_13_code
def yX5_isTakenByOther : MethodName := ⟨RX5, "isTakenByOther", "(LTurretPunch$Job;II)Z"⟩
abbrev cX5_isClamped : ByteArray := prog_7_method_14_code
def yX5_isClamped : MethodName := ⟨RX5, "isClamped", "(LTurretPunch$Job;LTurretPunch$Area;)Z"⟩
def RX6 : String := "TurretPunch$Text"
def TX6 : u_T := fun k => match k with
  | 0 => ("TurretPunch$Text", "letters", "[C", true)
  | _ => ("TurretPunch$Text", "length", "I", false)
def tyX6 : Nat → FieldType := fun k => match k with
  | 0 => .array .char
  | _ => .int
theorem nmX6 : ∀ a, a < 2 → ∀ b, b < 2 → a ≠ b → (TX6 a).2.1 ≠ (TX6 b).2.1 := by decide +kernel
theorem tyX6_ok : ∀ k, k < 2 → parseFieldDescriptor (TX6 k).2.2.1 = some (tyX6 k) := by decide +kernel
abbrev cX6_init : ByteArray := prog_8_method_1_code
def yX6_init : MethodName := ⟨RX6, "<init>", "()V"⟩
abbrev cX6_append : ByteArray := prog_8_method_2_code
def yX6_append : MethodName := ⟨RX6, "append", "(C)Z"⟩
abbrev cX6_clear : ByteArray := prog_8_method_3_code
def yX6_clear : MethodName := ⟨RX6, "clear", "()V"⟩
abbrev cX6_letterAt : ByteArray := prog_8_method_4_code
def yX6_letterAt : MethodName := ⟨RX6, "letterAt", "(I)C"⟩
def RX7 : String := "TurretPunch$Tool"
def TX7 : u_T := fun k => match k with
  | 0 => ("TurretPunch$Tool", "wide", "I", false)
  | 1 => ("TurretPunch$Tool", "high", "I", false)
  | 2 => ("TurretPunch$Tool", "life", "I", false)
  | _ => ("TurretPunch$Tool", "canTurn", "Z", false)
def tyX7 : Nat → FieldType := fun k => match k with
  | 0 => .int
  | 1 => .int
  | 2 => .int
  | _ => .boolean
theorem nmX7 : ∀ a, a < 4 → ∀ b, b < 4 → a ≠ b → (TX7 a).2.1 ≠ (TX7 b).2.1 := by decide +kernel
theorem tyX7_ok : ∀ k, k < 4 → parseFieldDescriptor (TX7 k).2.2.1 = some (tyX7 k) := by decide +kernel
abbrev cX7_init : ByteArray := prog_9_method_1_code
def yX7_init : MethodName := ⟨RX7, "<init>", "()V"⟩
abbrev cX7_wideWhen : ByteArray := prog_9_method_2_code
def yX7_wideWhen : MethodName := ⟨RX7, "wideWhen", "(Z)I"⟩
abbrev cX7_highWhen : ByteArray := prog_9_method_3_code
def yX7_highWhen : MethodName := ⟨RX7, "highWhen", "(Z)I"⟩
abbrev cX7_stampAt : ByteArray := prog_9_method_4_code
def yX7_stampAt : MethodName := ⟨RX7, "stampAt", "(LTurretPunch$Area;IIZ)V"⟩
abbrev cX7_hitsFor : ByteArray := prog_9_method_5_code
def yX7_hitsFor : MethodName := ⟨RX7, "hitsFor", "(LTurretPunch$Area;Z)I"⟩
def RX8 : String := "TurretPunch"
def TX8 : u_T := fun k => match k with
  | 0 => ("TurretPunch", "text", "LTurretPunch$Text;", true)
  | 1 => ("TurretPunch", "reader", "LTurretPunch$Reader;", true)
  | 2 => ("TurretPunch", "now", "LTurretPunch$State;", true)
  | 3 => ("TurretPunch", "trial", "LTurretPunch$State;", true)
  | 4 => ("TurretPunch", "history", "LTurretPunch$History;", true)
  | 5 => ("TurretPunch", "planner", "LTurretPunch$Planner;", true)
  | 6 => ("TurretPunch", "stamp", "LTurretPunch$Area;", true)
  | 7 => ("TurretPunch", "laid", "LTurretPunch$Job;", false)
  | _ => ("TurretPunch", "draft", "LTurretPunch$Job;", false)
def tyX8 : Nat → FieldType := fun k => match k with
  | 0 => .object "TurretPunch$Text"
  | 1 => .object "TurretPunch$Reader"
  | 2 => .object "TurretPunch$State"
  | 3 => .object "TurretPunch$State"
  | 4 => .object "TurretPunch$History"
  | 5 => .object "TurretPunch$Planner"
  | 6 => .object "TurretPunch$Area"
  | 7 => .object "TurretPunch$Job"
  | _ => .object "TurretPunch$Job"
theorem nmX8 : ∀ a, a < 9 → ∀ b, b < 9 → a ≠ b → (TX8 a).2.1 ≠ (TX8 b).2.1 := by decide +kernel
theorem tyX8_ok : ∀ k, k < 9 → parseFieldDescriptor (TX8 k).2.2.1 = some (tyX8 k) := by decide +kernel
abbrev cX8_init : ByteArray := prog_1_method_1_code
def yX8_init : MethodName := ⟨RX8, "<init>", "()V"⟩
abbrev cX8_write : ByteArray := prog_1_method_2_code
def yX8_write : MethodName := ⟨RX8, "write", "(I)I"⟩
abbrev cX8_wipe : ByteArray := prog_1_method_3_code
def yX8_wipe : MethodName := ⟨RX8, "wipe", "()I"⟩
abbrev cX8_fault : ByteArray := prog_1_method_4_code
def yX8_fault : MethodName := ⟨RX8, "fault", "()I"⟩
abbrev cX8_lay : ByteArray := prog_1_method_5_code
def yX8_lay : MethodName := ⟨RX8, "lay", "()I"⟩
abbrev cX8_hit : ByteArray := prog_1_method_6_code
def yX8_hit : MethodName := ⟨RX8, "hit", "(IIII)I"⟩
abbrev cX8_why : ByteArray := prog_1_method_7_code
def yX8_why : MethodName := ⟨RX8, "why", "(IIII)I"⟩
abbrev cX8_nibble : ByteArray := prog_1_method_8_code
def yX8_nibble : MethodName := ⟨RX8, "nibble", "(III)I"⟩
abbrev cX8_clamp : ByteArray := prog_1_method_9_code
def yX8_clamp : MethodName := ⟨RX8, "clamp", "(II)I"⟩
abbrev cX8_sharpen : ByteArray := prog_1_method_10_code
def yX8_sharpen : MethodName := ⟨RX8, "sharpen", "(I)I"⟩
abbrev cX8_undo : ByteArray := prog_1_method_11_code
def yX8_undo : MethodName := ⟨RX8, "undo", "()I"⟩
abbrev cX8_station : ByteArray := prog_1_method_12_code
def yX8_station : MethodName := ⟨RX8, "station", "(II)I"⟩
abbrev cX8_hole : ByteArray := prog_1_method_13_code
def yX8_hole : MethodName := ⟨RX8, "hole", "(II)I"⟩
abbrev cX8_hits : ByteArray := prog_1_method_14_code
def yX8_hits : MethodName := ⟨RX8, "hits", "(III)I"⟩
abbrev cX8_cell : ByteArray := prog_1_method_15_code
def yX8_cell : MethodName := ⟨RX8, "cell", "(III)I"⟩
abbrev cX8_column : ByteArray := prog_1_method_16_code
def yX8_column : MethodName := ⟨RX8, "column", "(I)I"⟩
abbrev cX8_plan : ByteArray := prog_1_method_17_code
def yX8_plan : MethodName := ⟨RX8, "plan", "(I)I"⟩
abbrev cX8_drawn : ByteArray := prog_1_method_18_code
def yX8_drawn : MethodName := ⟨RX8, "drawn", "(I)I"⟩
abbrev cX8_count : ByteArray := prog_1_method_19_code
def yX8_count : MethodName := ⟨RX8, "count", "(I)I"⟩
abbrev cX8_layDraft : ByteArray := prog_1_method_20_code
def yX8_layDraft : MethodName := ⟨RX8, "layDraft", "()Z"⟩
abbrev cX8_punchAll : ByteArray := prog_1_method_21_code
def yX8_punchAll : MethodName := ⟨RX8, "punchAll", "(LTurretPunch$Area;IZ)I"⟩
abbrev cX8_signAt : ByteArray := prog_1_method_22_code
def yX8_signAt : MethodName := ⟨RX8, "signAt", "(II)C"⟩
abbrev cX8_isHitTold : ByteArray := prog_1_method_23_code
def yX8_isHitTold : MethodName := ⟨RX8, "isHitTold", "(IIII)Z"⟩
abbrev cX8_isStation : ByteArray := prog_1_method_24_code
def yX8_isStation : MethodName := ⟨RX8, "isStation", "(I)Z"⟩
abbrev cX8_isHole : ByteArray := prog_1_method_25_code
def yX8_isHole : MethodName := ⟨RX8, "isHole", "(I)Z"⟩
abbrev cX8_isClamp : ByteArray := prog_1_method_26_code
def yX8_isClamp : MethodName := ⟨RX8, "isClamp", "(I)Z"⟩
abbrev cX8_isFlag : ByteArray := prog_1_method_27_code
def yX8_isFlag : MethodName := ⟨RX8, "isFlag", "(I)Z"⟩
abbrev cX8_asFlag : ByteArray := prog_1_method_28_code
def yX8_asFlag : MethodName := ⟨RX8, "asFlag", "(Z)I"⟩
abbrev cX8_isWithin : ByteArray := prog_1_method_29_code
def yX8_isWithin : MethodName := ⟨RX8, "isWithin", "(III)Z"⟩
abbrev cX8_stepsOver : ByteArray := prog_1_method_30_code
def yX8_stepsOver : MethodName := ⟨RX8, "stepsOver", "(II)I"⟩
def RX9 : String := "TurretPunchModel"
def TX9 : u_T := fun k => match k with
  | 0 => ("TurretPunchModel", "length", "I", false)
  | 1 => ("TurretPunchModel", "text", "[I", true)
  | 2 => ("TurretPunchModel", "spot", "I", false)
  | 3 => ("TurretPunchModel", "told", "[I", true)
  | 4 => ("TurretPunchModel", "read", "[I", true)
  | 5 => ("TurretPunchModel", "s", "[I", true)
  | 6 => ("TurretPunchModel", "before", "[I", true)
  | 7 => ("TurretPunchModel", "undoMany", "I", false)
  | 8 => ("TurretPunchModel", "held", "[I", true)
  | 9 => ("TurretPunchModel", "turns", "[I", true)
  | 10 => ("TurretPunchModel", "best", "[I", true)
  | 11 => ("TurretPunchModel", "bestHits", "I", false)
  | 12 => ("TurretPunchModel", "bestTurns", "I", false)
  | 13 => ("TurretPunchModel", "openAs", "[I", true)
  | 14 => ("TurretPunchModel", "hitsAs", "[I", true)
  | _ => ("TurretPunchModel", "wayAs", "[I", true)
def tyX9 : Nat → FieldType := fun k => match k with
  | 0 => .int
  | 1 => .array .int
  | 2 => .int
  | 3 => .array .int
  | 4 => .array .int
  | 5 => .array .int
  | 6 => .array .int
  | 7 => .int
  | 8 => .array .int
  | 9 => .array .int
  | 10 => .array .int
  | 11 => .int
  | 12 => .int
  | 13 => .array .int
  | 14 => .array .int
  | _ => .array .int
theorem nmX9 : ∀ a, a < 16 → ∀ b, b < 16 → a ≠ b → (TX9 a).2.1 ≠ (TX9 b).2.1 := by decide +kernel
theorem tyX9_ok : ∀ k, k < 16 → parseFieldDescriptor (TX9 k).2.2.1 = some (tyX9 k) := by decide +kernel
abbrev cX9_init : ByteArray := prog_11_method_1_code
def yX9_init : MethodName := ⟨RX9, "<init>", "()V"⟩
abbrev cX9_adds : ByteArray := prog_11_method_2_code
def yX9_adds : MethodName := ⟨RX9, "adds", "(IIIIII)V"⟩
abbrev cX9_anew : ByteArray := prog_11_method_3_code
def yX9_anew : MethodName := ⟨RX9, "anew", "()V"⟩
abbrev cX9_in : ByteArray := prog_11_method_4_code
def yX9_in : MethodName := ⟨RX9, "in", "(JJJ)Z"⟩
abbrev cX9_write : ByteArray := prog_11_method_5_code
def yX9_write : MethodName := ⟨RX9, "write", "(I)I"⟩
abbrev cX9_wipe : ByteArray := prog_11_method_6_code
def yX9_wipe : MethodName := ⟨RX9, "wipe", "()I"⟩
abbrev cX9_byteAt : ByteArray := prog_11_method_7_code
def yX9_byteAt : MethodName := ⟨RX9, "byteAt", "(I)I"⟩
abbrev cX9_number : ByteArray := prog_11_method_8_code
def yX9_number : MethodName := ⟨RX9, "number", "(IIII)Z"⟩
abbrev cX9_word : ByteArray := prog_11_method_9_code
def yX9_word : MethodName := ⟨RX9, "word", "(JI)Z"⟩
abbrev cX9_word5 : ByteArray := prog_11_method_10_code
def yX9_word5 : MethodName := ⟨RX9, "word5", "(IIIII)J"⟩
abbrev cX9_word4 : ByteArray := prog_11_method_11_code
def yX9_word4 : MethodName := ⟨RX9, "word4", "(IIII)J"⟩
abbrev cX9_isApart : ByteArray := prog_11_method_12_code
def yX9_isApart : MethodName := ⟨RX9, "isApart", "(II)Z"⟩
abbrev cX9_holeItem : ByteArray := prog_11_method_13_code
def yX9_holeItem : MethodName := ⟨RX9, "holeItem", "()Z"⟩
abbrev cX9_item : ByteArray := prog_11_method_14_code
def yX9_item : MethodName := ⟨RX9, "item", "()Z"⟩
abbrev cX9_fault : ByteArray := prog_11_method_15_code
def yX9_fault : MethodName := ⟨RX9, "fault", "()I"⟩
abbrev cX9_lay : ByteArray := prog_11_method_16_code
def yX9_lay : MethodName := ⟨RX9, "lay", "()I"⟩
abbrev cX9_note : ByteArray := prog_11_method_17_code
def yX9_note : MethodName := ⟨RX9, "note", "()V"⟩
abbrev cX9_takesBack : ByteArray := prog_11_method_18_code
def yX9_takesBack : MethodName := ⟨RX9, "takesBack", "()V"⟩
abbrev cX9_undo : ByteArray := prog_11_method_19_code
def yX9_undo : MethodName := ⟨RX9, "undo", "()I"⟩
abbrev cX9_isCell : ByteArray := prog_11_method_20_code
def yX9_isCell : MethodName := ⟨RX9, "isCell", "(II)Z"⟩
abbrev cX9_isStation : ByteArray := prog_11_method_21_code
def yX9_isStation : MethodName := ⟨RX9, "isStation", "(I)Z"⟩
abbrev cX9_isHole : ByteArray := prog_11_method_22_code
def yX9_isHole : MethodName := ⟨RX9, "isHole", "(I)Z"⟩
abbrev cX9_holeAt : ByteArray := prog_11_method_23_code
def yX9_holeAt : MethodName := ⟨RX9, "holeAt", "(II)I"⟩
abbrev cX9_clampAt : ByteArray := prog_11_method_24_code
def yX9_clampAt : MethodName := ⟨RX9, "clampAt", "(II)I"⟩
abbrev cX9_wide : ByteArray := prog_11_method_25_code
def yX9_wide : MethodName := ⟨RX9, "wide", "(II)I"⟩
abbrev cX9_high : ByteArray := prog_11_method_26_code
def yX9_high : MethodName := ⟨RX9, "high", "(II)I"⟩
abbrev cX9_isDull : ByteArray := prog_11_method_27_code
def yX9_isDull : MethodName := ⟨RX9, "isDull", "(I)Z"⟩
abbrev cX9_ring : ByteArray := prog_11_method_28_code
def yX9_ring : MethodName := ⟨RX9, "ring", "(II)I"⟩
abbrev cX9_whyNot : ByteArray := prog_11_method_29_code
def yX9_whyNot : MethodName := ⟨RX9, "whyNot", "(IIII)I"⟩
abbrev cX9_why : ByteArray := prog_11_method_30_code
def yX9_why : MethodName := ⟨RX9, "why", "(IIII)I"⟩
abbrev cX9_strikes : ByteArray := prog_11_method_31_code
def yX9_strikes : MethodName := ⟨RX9, "strikes", "(IIII)I"⟩
abbrev cX9_hit : ByteArray := prog_11_method_32_code
def yX9_hit : MethodName := ⟨RX9, "hit", "(IIII)I"⟩
abbrev cX9_open : ByteArray := prog_11_method_33_code
def yX9_open : MethodName := ⟨RX9, "open", "(I)I"⟩
abbrev cX9_parts : ByteArray := prog_11_method_34_code
def yX9_parts : MethodName := ⟨RX9, "parts", "(II)I"⟩
abbrev cX9_nibbles : ByteArray := prog_11_method_35_code
def yX9_nibbles : MethodName := ⟨RX9, "nibbles", "(III)I"⟩
abbrev cX9_isCut : ByteArray := prog_11_method_36_code
def yX9_isCut : MethodName := ⟨RX9, "isCut", "(IIII)Z"⟩
abbrev cX9_nibble : ByteArray := prog_11_method_37_code
def yX9_nibble : MethodName := ⟨RX9, "nibble", "(III)I"⟩
abbrev cX9_swaps : ByteArray := prog_11_method_38_code
def yX9_swaps : MethodName := ⟨RX9, "swaps", "()V"⟩
abbrev cX9_clamp : ByteArray := prog_11_method_39_code
def yX9_clamp : MethodName := ⟨RX9, "clamp", "(II)I"⟩
abbrev cX9_sharpen : ByteArray := prog_11_method_40_code
def yX9_sharpen : MethodName := ⟨RX9, "sharpen", "(I)I"⟩
abbrev cX9_station : ByteArray := prog_11_method_41_code
def yX9_station : MethodName := ⟨RX9, "station", "(II)I"⟩
abbrev cX9_hole : ByteArray := prog_11_method_42_code
def yX9_hole : MethodName := ⟨RX9, "hole", "(II)I"⟩
abbrev cX9_hits : ByteArray := prog_11_method_43_code
def yX9_hits : MethodName := ⟨RX9, "hits", "(III)I"⟩
abbrev cX9_cell : ByteArray := prog_11_method_44_code
def yX9_cell : MethodName := ⟨RX9, "cell", "(III)I"⟩
abbrev cX9_column : ByteArray := prog_11_method_45_code
def yX9_column : MethodName := ⟨RX9, "column", "(I)I"⟩
abbrev cX9_round : ByteArray := prog_11_method_46_code
def yX9_round : MethodName := ⟨RX9, "round", "(I)I"⟩
abbrev cX9_plans : ByteArray := prog_11_method_47_code
def yX9_plans : MethodName := ⟨RX9, "plans", "()Z"⟩
abbrev cX9_looks : ByteArray := prog_11_method_48_code
def yX9_looks : MethodName := ⟨RX9, "looks", "()V"⟩
abbrev cX9_plan : ByteArray := prog_11_method_49_code
def yX9_plan : MethodName := ⟨RX9, "plan", "(I)I"⟩
abbrev cX9_drawn : ByteArray := prog_11_method_50_code
def yX9_drawn : MethodName := ⟨RX9, "drawn", "(I)I"⟩
abbrev cX9_count : ByteArray := prog_11_method_51_code
def yX9_count : MethodName := ⟨RX9, "count", "(I)I"⟩
def RJ6 : String := "java/lang/Integer"
abbrev cJ6_bitCount_0f7a4 : ByteArray := prog_12_method_49_code
def yJ6_bitCount_0f7a4 : MethodName := ⟨RJ6, "bitCount", "(I)I"⟩
def RJ9 : String := "java/lang/Math"
abbrev cJ9_abs_0f7a4 : ByteArray := prog_13_method_59_code
def yJ9_abs_0f7a4 : MethodName := ⟨RJ9, "abs", "(I)I"⟩
abbrev cJ9_min_7cf53 : ByteArray := prog_13_method_69_code
def yJ9_min_7cf53 : MethodName := ⟨RJ9, "min", "(II)I"⟩
def RJ0 : String := "java/lang/String"
abbrev cJ0_length_8abf5 : ByteArray := prog_14_method_54_code
def yJ0_length_8abf5 : MethodName := ⟨RJ0, "length", "()I"⟩
abbrev cJ0_charAt_5068e : ByteArray := prog_14_method_56_code
def yJ0_charAt_5068e : MethodName := ⟨RJ0, "charAt", "(I)C"⟩
abbrev cJ0_coder_7d493 : ByteArray := prog_14_method_152_code
def yJ0_coder_7d493 : MethodName := ⟨RJ0, "coder", "()B"⟩
abbrev cJ0_isLatin1_aae02 : ByteArray := prog_14_method_154_code
def yJ0_isLatin1_aae02 : MethodName := ⟨RJ0, "isLatin1", "()Z"⟩
abbrev cJ0_checkIndex_df160 : ByteArray := prog_14_method_155_code
def yJ0_checkIndex_df160 : MethodName := ⟨RJ0, "checkIndex", "(II)V"⟩
def RJ1 : String := "java/lang/StringLatin1"
abbrev cJ1_charAt_3b067 : ByteArray := prog_15_method_2_code
def yJ1_charAt_3b067 : MethodName := ⟨RJ1, "charAt", "([BI)C"⟩
def RJ10 : String := "java/lang/System"
def RJ7 : String := "java/util/Arrays"
abbrev cJ7_fill_53178 : ByteArray := prog_18_method_103_code
def yJ7_fill_53178 : MethodName := ⟨RJ7, "fill", "([II)V"⟩
def RJ3 : String := "jdk/internal/util/Preconditions"
abbrev cJ3_checkIndex_8e157 : ByteArray := prog_19_method_11_code
def yJ3_checkIndex_8e157 : MethodName := ⟨RJ3, "checkIndex", "(IILjava/util/function/BiFunction;)I"⟩
def RL : String := "TurretPunchLaw"
abbrev cL_law : ByteArray := code
def yL_law : MethodName := ⟨RL, "law", "([I)Z"⟩
abbrev vwCl : List vw_C := [(RX0, TX0, 4), (RX1, TX1, 3), (RX2, TX2, 7), (RX3, TX3, 8), (RX4, TX4, 2), (RX5, TX5, 7), (RX6, TX6, 2), (RX7, TX7, 4), (RX8, TX8, 9), (RX9, TX9, 16)]
def gTb : List Cond := lw_tbl.filter goodWord
theorem g_tb {w : Cond} (i : Nat) (h : tables_1[i]? = some w) (hg : goodWord w = true) : w ∈ gTb := List.mem_filter.mpr ⟨List.mem_append_right _ (List.mem_of_getElem? h), hg⟩
theorem g_tp {w : Cond} (i : Nat) (h : (k2_sels lw_privs)[i]? = some w) (hg : goodWord w = true) : w ∈ gTb := List.mem_filter.mpr ⟨List.mem_append_left _ (List.mem_of_getElem? h), hg⟩
theorem g_in0 : ∀ w ∈ u_ws RX0 TX0 4, w ∈ gTb := by decide +kernel
theorem g_in1 : ∀ w ∈ u_ws RX1 TX1 3, w ∈ gTb := by decide +kernel
theorem g_in2 : ∀ w ∈ u_ws RX2 TX2 7, w ∈ gTb := by decide +kernel
theorem g_in3 : ∀ w ∈ u_ws RX3 TX3 8, w ∈ gTb := by decide +kernel
theorem g_in4 : ∀ w ∈ u_ws RX4 TX4 2, w ∈ gTb := by decide +kernel
theorem g_in5 : ∀ w ∈ u_ws RX5 TX5 7, w ∈ gTb := by decide +kernel
theorem g_in6 : ∀ w ∈ u_ws RX6 TX6 2, w ∈ gTb := by decide +kernel
theorem g_in7 : ∀ w ∈ u_ws RX7 TX7 4, w ∈ gTb := by decide +kernel
theorem g_in8 : ∀ w ∈ u_ws RX8 TX8 9, w ∈ gTb := by decide +kernel
theorem g_in9 : ∀ w ∈ u_ws RX9 TX9 16, w ∈ gTb := by decide +kernel
end
section
theorem dX0_init_0 : decode cX0_init 0 = .ok (.aload_n 0, 1) := by decide +kernel
theorem dX0_init_1 : decode cX0_init 1 = .ok (.invokespecial 1, 3) := by decide +kernel
theorem dX0_init_4 : decode cX0_init 4 = .ok (.return_, 1) := by decide +kernel
theorem dX0_put_0 : decode cX0_put 0 = .ok (.aload_n 0, 1) := by decide +kernel
theorem dX0_put_1 : decode cX0_put 1 = .ok (.iload_n 1, 1) := by decide +kernel
theorem dX0_put_2 : decode cX0_put 2 = .ok (.putfield 7, 3) := by decide +kernel
theorem dX0_put_5 : decode cX0_put 5 = .ok (.aload_n 0, 1) := by decide +kernel
theorem dX0_put_6 : decode cX0_put 6 = .ok (.iload_n 2, 1) := by decide +kernel
theorem dX0_put_7 : decode cX0_put 7 = .ok (.putfield 13, 3) := by decide +kernel
theorem dX0_put_10 : decode cX0_put 10 = .ok (.aload_n 0, 1) := by decide +kernel
theorem dX0_put_11 : decode cX0_put 11 = .ok (.iload_n 3, 1) := by decide +kernel
theorem dX0_put_12 : decode cX0_put 12 = .ok (.putfield 16, 3) := by decide +kernel
theorem dX0_put_15 : decode cX0_put 15 = .ok (.aload_n 0, 1) := by decide +kernel
theorem dX0_put_16 : decode cX0_put 16 = .ok (.iload 4, 2) := by decide +kernel
theorem dX0_put_18 : decode cX0_put 18 = .ok (.putfield 19, 3) := by decide +kernel
theorem dX0_put_21 : decode cX0_put 21 = .ok (.return_, 1) := by decide +kernel
theorem dX0_has_0 : decode cX0_has 0 = .ok (.iload_n 1, 1) := by decide +kernel
theorem dX0_has_1 : decode cX0_has 1 = .ok (.aload_n 0, 1) := by decide +kernel
theorem dX0_has_2 : decode cX0_has 2 = .ok (.getfield 7, 3) := by decide +kernel
theorem dX0_has_5 : decode cX0_has 5 = .ok (.if_icmp .lt 41, 3) := by decide +kernel
theorem dX0_has_8 : decode cX0_has 8 = .ok (.iload_n 1, 1) := by decide +kernel
theorem dX0_has_9 : decode cX0_has 9 = .ok (.aload_n 0, 1) := by decide +kernel
theorem dX0_has_10 : decode cX0_has 10 = .ok (.getfield 7, 3) := by decide +kernel
theorem dX0_has_13 : decode cX0_has 13 = .ok (.aload_n 0, 1) := by decide +kernel
theorem dX0_has_14 : decode cX0_has 14 = .ok (.getfield 16, 3) := by decide +kernel
theorem dX0_has_17 : decode cX0_has 17 = .ok (.iadd, 1) := by decide +kernel
theorem dX0_has_18 : decode cX0_has 18 = .ok (.if_icmp .ge 28, 3) := by decide +kernel
theorem dX0_has_21 : decode cX0_has 21 = .ok (.iload_n 2, 1) := by decide +kernel
theorem dX0_has_22 : decode cX0_has 22 = .ok (.aload_n 0, 1) := by decide +kernel
theorem dX0_has_23 : decode cX0_has 23 = .ok (.getfield 13, 3) := by decide +kernel
theorem dX0_has_26 : decode cX0_has 26 = .ok (.if_icmp .lt 20, 3) := by decide +kernel
theorem dX0_has_29 : decode cX0_has 29 = .ok (.iload_n 2, 1) := by decide +kernel
theorem dX0_has_30 : decode cX0_has 30 = .ok (.aload_n 0, 1) := by decide +kernel
theorem dX0_has_31 : decode cX0_has 31 = .ok (.getfield 13, 3) := by decide +kernel
theorem dX0_has_34 : decode cX0_has 34 = .ok (.aload_n 0, 1) := by decide +kernel
theorem dX0_has_35 : decode cX0_has 35 = .ok (.getfield 19, 3) := by decide +kernel
theorem dX0_has_38 : decode cX0_has 38 = .ok (.iadd, 1) := by decide +kernel
theorem dX0_has_39 : decode cX0_has 39 = .ok (.if_icmp .ge 7, 3) := by decide +kernel
theorem dX0_has_42 : decode cX0_has 42 = .ok (.iconst 1, 1) := by decide +kernel
theorem dX0_has_43 : decode cX0_has 43 = .ok (.goto 4, 3) := by decide +kernel
theorem dX0_has_46 : decode cX0_has 46 = .ok (.iconst 0, 1) := by decide +kernel
theorem dX0_has_47 : decode cX0_has 47 = .ok (.ireturn, 1) := by decide +kernel
theorem dX0_covers_0 : decode cX0_covers 0 = .ok (.aload_n 1, 1) := by decide +kernel
theorem dX0_covers_1 : decode cX0_covers 1 = .ok (.getfield 7, 3) := by decide +kernel
theorem dX0_covers_4 : decode cX0_covers 4 = .ok (.aload_n 0, 1) := by decide +kernel
theorem dX0_covers_5 : decode cX0_covers 5 = .ok (.getfield 7, 3) := by decide +kernel
theorem dX0_covers_8 : decode cX0_covers 8 = .ok (.if_icmp .lt 60, 3) := by decide +kernel
theorem dX0_covers_11 : decode cX0_covers 11 = .ok (.aload_n 1, 1) := by decide +kernel
theorem dX0_covers_12 : decode cX0_covers 12 = .ok (.getfield 7, 3) := by decide +kernel
theorem dX0_covers_15 : decode cX0_covers 15 = .ok (.aload_n 1, 1) := by decide +kernel
theorem dX0_covers_16 : decode cX0_covers 16 = .ok (.getfield 16, 3) := by decide +kernel
theorem dX0_covers_19 : decode cX0_covers 19 = .ok (.iadd, 1) := by decide +kernel
theorem dX0_covers_20 : decode cX0_covers 20 = .ok (.aload_n 0, 1) := by decide +kernel
theorem dX0_covers_21 : decode cX0_covers 21 = .ok (.getfield 7, 3) := by decide +kernel
theorem dX0_covers_24 : decode cX0_covers 24 = .ok (.aload_n 0, 1) := by decide +kernel
theorem dX0_covers_25 : decode cX0_covers 25 = .ok (.getfield 16, 3) := by decide +kernel
theorem dX0_covers_28 : decode cX0_covers 28 = .ok (.iadd, 1) := by decide +kernel
theorem dX0_covers_29 : decode cX0_covers 29 = .ok (.if_icmp .gt 39, 3) := by decide +kernel
theorem dX0_covers_32 : decode cX0_covers 32 = .ok (.aload_n 1, 1) := by decide +kernel
theorem dX0_covers_33 : decode cX0_covers 33 = .ok (.getfield 13, 3) := by decide +kernel
theorem dX0_covers_36 : decode cX0_covers 36 = .ok (.aload_n 0, 1) := by decide +kernel
theorem dX0_covers_37 : decode cX0_covers 37 = .ok (.getfield 13, 3) := by decide +kernel
theorem dX0_covers_40 : decode cX0_covers 40 = .ok (.if_icmp .lt 28, 3) := by decide +kernel
theorem dX0_covers_43 : decode cX0_covers 43 = .ok (.aload_n 1, 1) := by decide +kernel
theorem dX0_covers_44 : decode cX0_covers 44 = .ok (.getfield 13, 3) := by decide +kernel
theorem dX0_covers_47 : decode cX0_covers 47 = .ok (.aload_n 1, 1) := by decide +kernel
theorem dX0_covers_48 : decode cX0_covers 48 = .ok (.getfield 19, 3) := by decide +kernel
theorem dX0_covers_51 : decode cX0_covers 51 = .ok (.iadd, 1) := by decide +kernel
theorem dX0_covers_52 : decode cX0_covers 52 = .ok (.aload_n 0, 1) := by decide +kernel
theorem dX0_covers_53 : decode cX0_covers 53 = .ok (.getfield 13, 3) := by decide +kernel
theorem dX0_covers_56 : decode cX0_covers 56 = .ok (.aload_n 0, 1) := by decide +kernel
theorem dX0_covers_57 : decode cX0_covers 57 = .ok (.getfield 19, 3) := by decide +kernel
theorem dX0_covers_60 : decode cX0_covers 60 = .ok (.iadd, 1) := by decide +kernel
theorem dX0_covers_61 : decode cX0_covers 61 = .ok (.if_icmp .gt 7, 3) := by decide +kernel
theorem dX0_covers_64 : decode cX0_covers 64 = .ok (.iconst 1, 1) := by decide +kernel
theorem dX0_covers_65 : decode cX0_covers 65 = .ok (.goto 4, 3) := by decide +kernel
theorem dX0_covers_68 : decode cX0_covers 68 = .ok (.iconst 0, 1) := by decide +kernel
theorem dX0_covers_69 : decode cX0_covers 69 = .ok (.ireturn, 1) := by decide +kernel
theorem dX0_meets_0 : decode cX0_meets 0 = .ok (.aload_n 1, 1) := by decide +kernel
theorem dX0_meets_1 : decode cX0_meets 1 = .ok (.getfield 7, 3) := by decide +kernel
theorem dX0_meets_4 : decode cX0_meets 4 = .ok (.aload_n 0, 1) := by decide +kernel
theorem dX0_meets_5 : decode cX0_meets 5 = .ok (.getfield 7, 3) := by decide +kernel
theorem dX0_meets_8 : decode cX0_meets 8 = .ok (.aload_n 0, 1) := by decide +kernel
theorem dX0_meets_9 : decode cX0_meets 9 = .ok (.getfield 16, 3) := by decide +kernel
theorem dX0_meets_12 : decode cX0_meets 12 = .ok (.iadd, 1) := by decide +kernel
theorem dX0_meets_13 : decode cX0_meets 13 = .ok (.if_icmp .ge 55, 3) := by decide +kernel
theorem dX0_meets_16 : decode cX0_meets 16 = .ok (.aload_n 0, 1) := by decide +kernel
theorem dX0_meets_17 : decode cX0_meets 17 = .ok (.getfield 7, 3) := by decide +kernel
theorem dX0_meets_20 : decode cX0_meets 20 = .ok (.aload_n 1, 1) := by decide +kernel
theorem dX0_meets_21 : decode cX0_meets 21 = .ok (.getfield 7, 3) := by decide +kernel
theorem dX0_meets_24 : decode cX0_meets 24 = .ok (.aload_n 1, 1) := by decide +kernel
theorem dX0_meets_25 : decode cX0_meets 25 = .ok (.getfield 16, 3) := by decide +kernel
theorem dX0_meets_28 : decode cX0_meets 28 = .ok (.iadd, 1) := by decide +kernel
theorem dX0_meets_29 : decode cX0_meets 29 = .ok (.if_icmp .ge 39, 3) := by decide +kernel
theorem dX0_meets_32 : decode cX0_meets 32 = .ok (.aload_n 1, 1) := by decide +kernel
theorem dX0_meets_33 : decode cX0_meets 33 = .ok (.getfield 13, 3) := by decide +kernel
theorem dX0_meets_36 : decode cX0_meets 36 = .ok (.aload_n 0, 1) := by decide +kernel
theorem dX0_meets_37 : decode cX0_meets 37 = .ok (.getfield 13, 3) := by decide +kernel
theorem dX0_meets_40 : decode cX0_meets 40 = .ok (.aload_n 0, 1) := by decide +kernel
theorem dX0_meets_41 : decode cX0_meets 41 = .ok (.getfield 19, 3) := by decide +kernel
theorem dX0_meets_44 : decode cX0_meets 44 = .ok (.iadd, 1) := by decide +kernel
theorem dX0_meets_45 : decode cX0_meets 45 = .ok (.if_icmp .ge 23, 3) := by decide +kernel
theorem dX0_meets_48 : decode cX0_meets 48 = .ok (.aload_n 0, 1) := by decide +kernel
theorem dX0_meets_49 : decode cX0_meets 49 = .ok (.getfield 13, 3) := by decide +kernel
theorem dX0_meets_52 : decode cX0_meets 52 = .ok (.aload_n 1, 1) := by decide +kernel
theorem dX0_meets_53 : decode cX0_meets 53 = .ok (.getfield 13, 3) := by decide +kernel
theorem dX0_meets_56 : decode cX0_meets 56 = .ok (.aload_n 1, 1) := by decide +kernel
theorem dX0_meets_57 : decode cX0_meets 57 = .ok (.getfield 19, 3) := by decide +kernel
theorem dX0_meets_60 : decode cX0_meets 60 = .ok (.iadd, 1) := by decide +kernel
theorem dX0_meets_61 : decode cX0_meets 61 = .ok (.if_icmp .ge 7, 3) := by decide +kernel
theorem dX0_meets_64 : decode cX0_meets 64 = .ok (.iconst 1, 1) := by decide +kernel
theorem dX0_meets_65 : decode cX0_meets 65 = .ok (.goto 4, 3) := by decide +kernel
theorem dX0_meets_68 : decode cX0_meets 68 = .ok (.iconst 0, 1) := by decide +kernel
theorem dX0_meets_69 : decode cX0_meets 69 = .ok (.ireturn, 1) := by decide +kernel
theorem dX0_rowBits_0 : decode cX0_rowBits 0 = .ok (.iconst 1, 1) := by decide +kernel
theorem dX0_rowBits_1 : decode cX0_rowBits 1 = .ok (.aload_n 0, 1) := by decide +kernel
theorem dX0_rowBits_2 : decode cX0_rowBits 2 = .ok (.getfield 16, 3) := by decide +kernel
theorem dX0_rowBits_5 : decode cX0_rowBits 5 = .ok (.ishl, 1) := by decide +kernel
theorem dX0_rowBits_6 : decode cX0_rowBits 6 = .ok (.iconst 1, 1) := by decide +kernel
theorem dX0_rowBits_7 : decode cX0_rowBits 7 = .ok (.isub, 1) := by decide +kernel
theorem dX0_rowBits_8 : decode cX0_rowBits 8 = .ok (.aload_n 0, 1) := by decide +kernel
theorem dX0_rowBits_9 : decode cX0_rowBits 9 = .ok (.getfield 7, 3) := by decide +kernel
theorem dX0_rowBits_12 : decode cX0_rowBits 12 = .ok (.ishl, 1) := by decide +kernel
theorem dX0_rowBits_13 : decode cX0_rowBits 13 = .ok (.ireturn, 1) := by decide +kernel
theorem dX1_init_0 : decode cX1_init 0 = .ok (.aload_n 0, 1) := by decide +kernel
theorem dX1_init_1 : decode cX1_init 1 = .ok (.invokespecial 3, 3) := by decide +kernel
theorem dX1_init_4 : decode cX1_init 4 = .ok (.aload_n 0, 1) := by decide +kernel
theorem dX1_init_5 : decode cX1_init 5 = .ok (.bipush 6, 2) := by decide +kernel
theorem dX1_init_7 : decode cX1_init 7 = .ok (.anewarray 9, 3) := by decide +kernel
theorem dX1_init_10 : decode cX1_init 10 = .ok (.putfield 11, 3) := by decide +kernel
theorem dX1_init_13 : decode cX1_init 13 = .ok (.iconst 0, 1) := by decide +kernel
theorem dX1_init_14 : decode cX1_init 14 = .ok (.istore_n 1, 1) := by decide +kernel
theorem dX1_init_15 : decode cX1_init 15 = .ok (.iload_n 1, 1) := by decide +kernel
theorem dX1_init_16 : decode cX1_init 16 = .ok (.bipush 6, 2) := by decide +kernel
theorem dX1_init_18 : decode cX1_init 18 = .ok (.if_icmp .ge 22, 3) := by decide +kernel
theorem dX1_init_21 : decode cX1_init 21 = .ok (.aload_n 0, 1) := by decide +kernel
theorem dX1_init_22 : decode cX1_init 22 = .ok (.getfield 11, 3) := by decide +kernel
theorem dX1_init_25 : decode cX1_init 25 = .ok (.iload_n 1, 1) := by decide +kernel
theorem dX1_init_26 : decode cX1_init 26 = .ok (.new 9, 3) := by decide +kernel
theorem dX1_init_29 : decode cX1_init 29 = .ok (.dup, 1) := by decide +kernel
theorem dX1_init_30 : decode cX1_init 30 = .ok (.invokespecial 17, 3) := by decide +kernel
theorem dX1_init_33 : decode cX1_init 33 = .ok (.aastore, 1) := by decide +kernel
theorem dX1_init_34 : decode cX1_init 34 = .ok (.iinc 1 1, 3) := by decide +kernel
theorem dX1_init_37 : decode cX1_init 37 = .ok (.goto (-22), 3) := by decide +kernel
theorem dX1_init_40 : decode cX1_init 40 = .ok (.return_, 1) := by decide +kernel
theorem dX1_forget_0 : decode cX1_forget 0 = .ok (.aload_n 0, 1) := by decide +kernel
theorem dX1_forget_1 : decode cX1_forget 1 = .ok (.iconst 0, 1) := by decide +kernel
theorem dX1_forget_2 : decode cX1_forget 2 = .ok (.putfield 18, 3) := by decide +kernel
theorem dX1_forget_5 : decode cX1_forget 5 = .ok (.return_, 1) := by decide +kernel
theorem dX1_keep_0 : decode cX1_keep 0 = .ok (.aload_n 0, 1) := by decide +kernel
theorem dX1_keep_1 : decode cX1_keep 1 = .ok (.getfield 11, 3) := by decide +kernel
theorem dX1_keep_4 : decode cX1_keep 4 = .ok (.aload_n 0, 1) := by decide +kernel
theorem dX1_keep_5 : decode cX1_keep 5 = .ok (.getfield 22, 3) := by decide +kernel
theorem dX1_keep_8 : decode cX1_keep 8 = .ok (.aaload, 1) := by decide +kernel
theorem dX1_keep_9 : decode cX1_keep 9 = .ok (.aload_n 1, 1) := by decide +kernel
theorem dX1_keep_10 : decode cX1_keep 10 = .ok (.invokevirtual 25, 3) := by decide +kernel
theorem dX1_keep_13 : decode cX1_keep 13 = .ok (.aload_n 0, 1) := by decide +kernel
theorem dX1_keep_14 : decode cX1_keep 14 = .ok (.aload_n 0, 1) := by decide +kernel
theorem dX1_keep_15 : decode cX1_keep 15 = .ok (.getfield 22, 3) := by decide +kernel
theorem dX1_keep_18 : decode cX1_keep 18 = .ok (.iconst 1, 1) := by decide +kernel
theorem dX1_keep_19 : decode cX1_keep 19 = .ok (.iadd, 1) := by decide +kernel
theorem dX1_keep_20 : decode cX1_keep 20 = .ok (.bipush 6, 2) := by decide +kernel
theorem dX1_keep_22 : decode cX1_keep 22 = .ok (.if_icmp .ge 12, 3) := by decide +kernel
theorem dX1_keep_25 : decode cX1_keep 25 = .ok (.aload_n 0, 1) := by decide +kernel
theorem dX1_keep_26 : decode cX1_keep 26 = .ok (.getfield 22, 3) := by decide +kernel
theorem dX1_keep_29 : decode cX1_keep 29 = .ok (.iconst 1, 1) := by decide +kernel
theorem dX1_keep_30 : decode cX1_keep 30 = .ok (.iadd, 1) := by decide +kernel
theorem dX1_keep_31 : decode cX1_keep 31 = .ok (.goto 4, 3) := by decide +kernel
theorem dX1_keep_34 : decode cX1_keep 34 = .ok (.iconst 0, 1) := by decide +kernel
theorem dX1_keep_35 : decode cX1_keep 35 = .ok (.putfield 22, 3) := by decide +kernel
theorem dX1_keep_38 : decode cX1_keep 38 = .ok (.aload_n 0, 1) := by decide +kernel
theorem dX1_keep_39 : decode cX1_keep 39 = .ok (.aload_n 0, 1) := by decide +kernel
theorem dX1_keep_40 : decode cX1_keep 40 = .ok (.getfield 18, 3) := by decide +kernel
theorem dX1_keep_43 : decode cX1_keep 43 = .ok (.iconst 1, 1) := by decide +kernel
theorem dX1_keep_44 : decode cX1_keep 44 = .ok (.iadd, 1) := by decide +kernel
theorem dX1_keep_45 : decode cX1_keep 45 = .ok (.bipush 6, 2) := by decide +kernel
theorem dX1_keep_47 : decode cX1_keep 47 = .ok (.invokestatic 29, 3) := by decide +kernel
theorem dX1_keep_50 : decode cX1_keep 50 = .ok (.putfield 18, 3) := by decide +kernel
theorem dX1_keep_53 : decode cX1_keep 53 = .ok (.return_, 1) := by decide +kernel
theorem dX1_giveBack_0 : decode cX1_giveBack 0 = .ok (.aload_n 0, 1) := by decide +kernel
theorem dX1_giveBack_1 : decode cX1_giveBack 1 = .ok (.getfield 18, 3) := by decide +kernel
theorem dX1_giveBack_4 : decode cX1_giveBack 4 = .ok (.ifCond .ne 5, 3) := by decide +kernel
theorem dX1_giveBack_7 : decode cX1_giveBack 7 = .ok (.iconst 0, 1) := by decide +kernel
theorem dX1_giveBack_8 : decode cX1_giveBack 8 = .ok (.ireturn, 1) := by decide +kernel
theorem dX1_giveBack_9 : decode cX1_giveBack 9 = .ok (.aload_n 0, 1) := by decide +kernel
theorem dX1_giveBack_10 : decode cX1_giveBack 10 = .ok (.aload_n 0, 1) := by decide +kernel
theorem dX1_giveBack_11 : decode cX1_giveBack 11 = .ok (.getfield 22, 3) := by decide +kernel
theorem dX1_giveBack_14 : decode cX1_giveBack 14 = .ok (.ifCond .le 12, 3) := by decide +kernel
theorem dX1_giveBack_17 : decode cX1_giveBack 17 = .ok (.aload_n 0, 1) := by decide +kernel
theorem dX1_giveBack_18 : decode cX1_giveBack 18 = .ok (.getfield 22, 3) := by decide +kernel
theorem dX1_giveBack_21 : decode cX1_giveBack 21 = .ok (.iconst 1, 1) := by decide +kernel
theorem dX1_giveBack_22 : decode cX1_giveBack 22 = .ok (.isub, 1) := by decide +kernel
theorem dX1_giveBack_23 : decode cX1_giveBack 23 = .ok (.goto 4, 3) := by decide +kernel
theorem dX1_giveBack_26 : decode cX1_giveBack 26 = .ok (.iconst 5, 1) := by decide +kernel
theorem dX1_giveBack_27 : decode cX1_giveBack 27 = .ok (.putfield 22, 3) := by decide +kernel
theorem dX1_giveBack_30 : decode cX1_giveBack 30 = .ok (.aload_n 0, 1) := by decide +kernel
theorem dX1_giveBack_31 : decode cX1_giveBack 31 = .ok (.dup, 1) := by decide +kernel
theorem dX1_giveBack_32 : decode cX1_giveBack 32 = .ok (.getfield 18, 3) := by decide +kernel
theorem dX1_giveBack_35 : decode cX1_giveBack 35 = .ok (.iconst 1, 1) := by decide +kernel
theorem dX1_giveBack_36 : decode cX1_giveBack 36 = .ok (.isub, 1) := by decide +kernel
theorem dX1_giveBack_37 : decode cX1_giveBack 37 = .ok (.putfield 18, 3) := by decide +kernel
theorem dX1_giveBack_40 : decode cX1_giveBack 40 = .ok (.aload_n 1, 1) := by decide +kernel
theorem dX1_giveBack_41 : decode cX1_giveBack 41 = .ok (.aload_n 0, 1) := by decide +kernel
theorem dX1_giveBack_42 : decode cX1_giveBack 42 = .ok (.getfield 11, 3) := by decide +kernel
theorem dX1_giveBack_45 : decode cX1_giveBack 45 = .ok (.aload_n 0, 1) := by decide +kernel
theorem dX1_giveBack_46 : decode cX1_giveBack 46 = .ok (.getfield 22, 3) := by decide +kernel
theorem dX1_giveBack_49 : decode cX1_giveBack 49 = .ok (.aaload, 1) := by decide +kernel
theorem dX1_giveBack_50 : decode cX1_giveBack 50 = .ok (.invokevirtual 25, 3) := by decide +kernel
theorem dX1_giveBack_53 : decode cX1_giveBack 53 = .ok (.iconst 1, 1) := by decide +kernel
theorem dX1_giveBack_54 : decode cX1_giveBack 54 = .ok (.ireturn, 1) := by decide +kernel
theorem dX2_init_0 : decode cX2_init 0 = .ok (.aload_n 0, 1) := by decide +kernel
theorem dX2_init_1 : decode cX2_init 1 = .ok (.invokespecial 3, 3) := by decide +kernel
theorem dX2_init_4 : decode cX2_init 4 = .ok (.aload_n 0, 1) := by decide +kernel
theorem dX2_init_5 : decode cX2_init 5 = .ok (.new 9, 3) := by decide +kernel
theorem dX2_init_8 : decode cX2_init 8 = .ok (.dup, 1) := by decide +kernel
theorem dX2_init_9 : decode cX2_init 9 = .ok (.invokespecial 11, 3) := by decide +kernel
theorem dX2_init_12 : decode cX2_init 12 = .ok (.putfield 12, 3) := by decide +kernel
theorem dX2_init_15 : decode cX2_init 15 = .ok (.aload_n 0, 1) := by decide +kernel
theorem dX2_init_16 : decode cX2_init 16 = .ok (.bipush 6, 2) := by decide +kernel
theorem dX2_init_18 : decode cX2_init 18 = .ok (.anewarray 18, 3) := by decide +kernel
theorem dX2_init_21 : decode cX2_init 21 = .ok (.putfield 20, 3) := by decide +kernel
theorem dX2_init_24 : decode cX2_init 24 = .ok (.aload_n 0, 1) := by decide +kernel
theorem dX2_init_25 : decode cX2_init 25 = .ok (.iconst 5, 1) := by decide +kernel
theorem dX2_init_26 : decode cX2_init 26 = .ok (.anewarray 9, 3) := by decide +kernel
theorem dX2_init_29 : decode cX2_init 29 = .ok (.putfield 24, 3) := by decide +kernel
theorem dX2_init_32 : decode cX2_init 32 = .ok (.aload_n 0, 1) := by decide +kernel
theorem dX2_init_33 : decode cX2_init 33 = .ok (.iconst 2, 1) := by decide +kernel
theorem dX2_init_34 : decode cX2_init 34 = .ok (.newarray .int, 2) := by decide +kernel
theorem dX2_init_36 : decode cX2_init 36 = .ok (.putfield 28, 3) := by decide +kernel
theorem dX2_init_39 : decode cX2_init 39 = .ok (.iconst 0, 1) := by decide +kernel
theorem dX2_init_40 : decode cX2_init 40 = .ok (.istore_n 1, 1) := by decide +kernel
theorem dX2_init_41 : decode cX2_init 41 = .ok (.iload_n 1, 1) := by decide +kernel
theorem dX2_init_42 : decode cX2_init 42 = .ok (.bipush 6, 2) := by decide +kernel
theorem dX2_init_44 : decode cX2_init 44 = .ok (.if_icmp .ge 22, 3) := by decide +kernel
theorem dX2_init_47 : decode cX2_init 47 = .ok (.aload_n 0, 1) := by decide +kernel
theorem dX2_init_48 : decode cX2_init 48 = .ok (.getfield 20, 3) := by decide +kernel
theorem dX2_init_51 : decode cX2_init 51 = .ok (.iload_n 1, 1) := by decide +kernel
theorem dX2_init_52 : decode cX2_init 52 = .ok (.new 18, 3) := by decide +kernel
theorem dX2_init_55 : decode cX2_init 55 = .ok (.dup, 1) := by decide +kernel
theorem dX2_init_56 : decode cX2_init 56 = .ok (.invokespecial 32, 3) := by decide +kernel
theorem dX2_init_59 : decode cX2_init 59 = .ok (.aastore, 1) := by decide +kernel
theorem dX2_init_60 : decode cX2_init 60 = .ok (.iinc 1 1, 3) := by decide +kernel
theorem dX2_init_63 : decode cX2_init 63 = .ok (.goto (-22), 3) := by decide +kernel
theorem dX2_init_66 : decode cX2_init 66 = .ok (.iconst 0, 1) := by decide +kernel
theorem dX2_init_67 : decode cX2_init 67 = .ok (.istore_n 1, 1) := by decide +kernel
theorem dX2_init_68 : decode cX2_init 68 = .ok (.iload_n 1, 1) := by decide +kernel
theorem dX2_init_69 : decode cX2_init 69 = .ok (.iconst 5, 1) := by decide +kernel
theorem dX2_init_70 : decode cX2_init 70 = .ok (.if_icmp .ge 22, 3) := by decide +kernel
theorem dX2_init_73 : decode cX2_init 73 = .ok (.aload_n 0, 1) := by decide +kernel
theorem dX2_init_74 : decode cX2_init 74 = .ok (.getfield 24, 3) := by decide +kernel
theorem dX2_init_77 : decode cX2_init 77 = .ok (.iload_n 1, 1) := by decide +kernel
theorem dX2_init_78 : decode cX2_init 78 = .ok (.new 9, 3) := by decide +kernel
theorem dX2_init_81 : decode cX2_init 81 = .ok (.dup, 1) := by decide +kernel
theorem dX2_init_82 : decode cX2_init 82 = .ok (.invokespecial 11, 3) := by decide +kernel
theorem dX2_init_85 : decode cX2_init 85 = .ok (.aastore, 1) := by decide +kernel
theorem dX2_init_86 : decode cX2_init 86 = .ok (.iinc 1 1, 3) := by decide +kernel
theorem dX2_init_89 : decode cX2_init 89 = .ok (.goto (-21), 3) := by decide +kernel
theorem dX2_init_92 : decode cX2_init 92 = .ok (.return_, 1) := by decide +kernel
theorem dX2_clear_0 : decode cX2_clear 0 = .ok (.aload_n 0, 1) := by decide +kernel
theorem dX2_clear_1 : decode cX2_clear 1 = .ok (.getfield 12, 3) := by decide +kernel
theorem dX2_clear_4 : decode cX2_clear 4 = .ok (.iconst 0, 1) := by decide +kernel
theorem dX2_clear_5 : decode cX2_clear 5 = .ok (.iconst 0, 1) := by decide +kernel
theorem dX2_clear_6 : decode cX2_clear 6 = .ok (.iconst 0, 1) := by decide +kernel
theorem dX2_clear_7 : decode cX2_clear 7 = .ok (.iconst 0, 1) := by decide +kernel
theorem dX2_clear_8 : decode cX2_clear 8 = .ok (.invokevirtual 33, 3) := by decide +kernel
theorem dX2_clear_11 : decode cX2_clear 11 = .ok (.aload_n 0, 1) := by decide +kernel
theorem dX2_clear_12 : decode cX2_clear 12 = .ok (.iconst 0, 1) := by decide +kernel
theorem dX2_clear_13 : decode cX2_clear 13 = .ok (.putfield 37, 3) := by decide +kernel
theorem dX2_clear_16 : decode cX2_clear 16 = .ok (.aload_n 0, 1) := by decide +kernel
theorem dX2_clear_17 : decode cX2_clear 17 = .ok (.iconst 0, 1) := by decide +kernel
theorem dX2_clear_18 : decode cX2_clear 18 = .ok (.putfield 41, 3) := by decide +kernel
theorem dX2_clear_21 : decode cX2_clear 21 = .ok (.aload_n 0, 1) := by decide +kernel
theorem dX2_clear_22 : decode cX2_clear 22 = .ok (.iconst 0, 1) := by decide +kernel
theorem dX2_clear_23 : decode cX2_clear 23 = .ok (.putfield 44, 3) := by decide +kernel
theorem dX2_clear_26 : decode cX2_clear 26 = .ok (.return_, 1) := by decide +kernel
theorem dX2_hasSheet_0 : decode cX2_hasSheet 0 = .ok (.aload_n 0, 1) := by decide +kernel
theorem dX2_hasSheet_1 : decode cX2_hasSheet 1 = .ok (.getfield 12, 3) := by decide +kernel
theorem dX2_hasSheet_4 : decode cX2_hasSheet 4 = .ok (.getfield 47, 3) := by decide +kernel
theorem dX2_hasSheet_7 : decode cX2_hasSheet 7 = .ok (.ifCond .le 7, 3) := by decide +kernel
theorem dX2_hasSheet_10 : decode cX2_hasSheet 10 = .ok (.iconst 1, 1) := by decide +kernel
theorem dX2_hasSheet_11 : decode cX2_hasSheet 11 = .ok (.goto 4, 3) := by decide +kernel
theorem dX2_hasSheet_14 : decode cX2_hasSheet 14 = .ok (.iconst 0, 1) := by decide +kernel
theorem dX2_hasSheet_15 : decode cX2_hasSheet 15 = .ok (.ireturn, 1) := by decide +kernel
theorem dX2_takeSheet_0 : decode cX2_takeSheet 0 = .ok (.aload_n 0, 1) := by decide +kernel
theorem dX2_takeSheet_1 : decode cX2_takeSheet 1 = .ok (.invokevirtual 50, 3) := by decide +kernel
theorem dX2_takeSheet_4 : decode cX2_takeSheet 4 = .ok (.ifCond .ne 23, 3) := by decide +kernel
theorem dX2_takeSheet_7 : decode cX2_takeSheet 7 = .ok (.iload_n 1, 1) := by decide +kernel
theorem dX2_takeSheet_8 : decode cX2_takeSheet 8 = .ok (.iconst 3, 1) := by decide +kernel
theorem dX2_takeSheet_9 : decode cX2_takeSheet 9 = .ok (.bipush 12, 2) := by decide +kernel
theorem dX2_takeSheet_11 : decode cX2_takeSheet 11 = .ok (.invokestatic 54, 3) := by decide +kernel
theorem dX2_takeSheet_14 : decode cX2_takeSheet 14 = .ok (.ifCond .eq 13, 3) := by decide +kernel
theorem dX2_takeSheet_17 : decode cX2_takeSheet 17 = .ok (.iload_n 2, 1) := by decide +kernel
theorem dX2_takeSheet_18 : decode cX2_takeSheet 18 = .ok (.iconst 3, 1) := by decide +kernel
theorem dX2_takeSheet_19 : decode cX2_takeSheet 19 = .ok (.bipush 12, 2) := by decide +kernel
theorem dX2_takeSheet_21 : decode cX2_takeSheet 21 = .ok (.invokestatic 54, 3) := by decide +kernel
theorem dX2_takeSheet_24 : decode cX2_takeSheet 24 = .ok (.ifCond .ne 5, 3) := by decide +kernel
theorem dX2_takeSheet_27 : decode cX2_takeSheet 27 = .ok (.iconst 0, 1) := by decide +kernel
theorem dX2_takeSheet_28 : decode cX2_takeSheet 28 = .ok (.ireturn, 1) := by decide +kernel
theorem dX2_takeSheet_29 : decode cX2_takeSheet 29 = .ok (.aload_n 0, 1) := by decide +kernel
theorem dX2_takeSheet_30 : decode cX2_takeSheet 30 = .ok (.getfield 12, 3) := by decide +kernel
theorem dX2_takeSheet_33 : decode cX2_takeSheet 33 = .ok (.iconst 0, 1) := by decide +kernel
theorem dX2_takeSheet_34 : decode cX2_takeSheet 34 = .ok (.iconst 0, 1) := by decide +kernel
theorem dX2_takeSheet_35 : decode cX2_takeSheet 35 = .ok (.iload_n 1, 1) := by decide +kernel
theorem dX2_takeSheet_36 : decode cX2_takeSheet 36 = .ok (.iload_n 2, 1) := by decide +kernel
theorem dX2_takeSheet_37 : decode cX2_takeSheet 37 = .ok (.invokevirtual 33, 3) := by decide +kernel
theorem dX2_takeSheet_40 : decode cX2_takeSheet 40 = .ok (.iconst 1, 1) := by decide +kernel
theorem dX2_takeSheet_41 : decode cX2_takeSheet 41 = .ok (.ireturn, 1) := by decide +kernel
theorem dX2_takeTool_0 : decode cX2_takeTool 0 = .ok (.aload_n 0, 1) := by decide +kernel
theorem dX2_takeTool_1 : decode cX2_takeTool 1 = .ok (.invokevirtual 50, 3) := by decide +kernel
theorem dX2_takeTool_4 : decode cX2_takeTool 4 = .ok (.ifCond .eq 50, 3) := by decide +kernel
theorem dX2_takeTool_7 : decode cX2_takeTool 7 = .ok (.aload_n 0, 1) := by decide +kernel
theorem dX2_takeTool_8 : decode cX2_takeTool 8 = .ok (.getfield 37, 3) := by decide +kernel
theorem dX2_takeTool_11 : decode cX2_takeTool 11 = .ok (.bipush 6, 2) := by decide +kernel
theorem dX2_takeTool_13 : decode cX2_takeTool 13 = .ok (.if_icmp .ge 41, 3) := by decide +kernel
theorem dX2_takeTool_16 : decode cX2_takeTool 16 = .ok (.iload_n 3, 1) := by decide +kernel
theorem dX2_takeTool_17 : decode cX2_takeTool 17 = .ok (.invokestatic 58, 3) := by decide +kernel
theorem dX2_takeTool_20 : decode cX2_takeTool 20 = .ok (.ifCond .eq 34, 3) := by decide +kernel
theorem dX2_takeTool_23 : decode cX2_takeTool 23 = .ok (.iload_n 1, 1) := by decide +kernel
theorem dX2_takeTool_24 : decode cX2_takeTool 24 = .ok (.iconst 1, 1) := by decide +kernel
theorem dX2_takeTool_25 : decode cX2_takeTool 25 = .ok (.bipush 6, 2) := by decide +kernel
theorem dX2_takeTool_27 : decode cX2_takeTool 27 = .ok (.invokestatic 54, 3) := by decide +kernel
theorem dX2_takeTool_30 : decode cX2_takeTool 30 = .ok (.ifCond .eq 24, 3) := by decide +kernel
theorem dX2_takeTool_33 : decode cX2_takeTool 33 = .ok (.iload_n 2, 1) := by decide +kernel
theorem dX2_takeTool_34 : decode cX2_takeTool 34 = .ok (.iconst 1, 1) := by decide +kernel
theorem dX2_takeTool_35 : decode cX2_takeTool 35 = .ok (.bipush 6, 2) := by decide +kernel
theorem dX2_takeTool_37 : decode cX2_takeTool 37 = .ok (.invokestatic 54, 3) := by decide +kernel
theorem dX2_takeTool_40 : decode cX2_takeTool 40 = .ok (.ifCond .eq 14, 3) := by decide +kernel
theorem dX2_takeTool_43 : decode cX2_takeTool 43 = .ok (.iload 4, 2) := by decide +kernel
theorem dX2_takeTool_45 : decode cX2_takeTool 45 = .ok (.iconst 1, 1) := by decide +kernel
theorem dX2_takeTool_46 : decode cX2_takeTool 46 = .ok (.bipush 99, 2) := by decide +kernel
theorem dX2_takeTool_48 : decode cX2_takeTool 48 = .ok (.invokestatic 54, 3) := by decide +kernel
theorem dX2_takeTool_51 : decode cX2_takeTool 51 = .ok (.ifCond .ne 5, 3) := by decide +kernel
theorem dX2_takeTool_54 : decode cX2_takeTool 54 = .ok (.iconst 0, 1) := by decide +kernel
theorem dX2_takeTool_55 : decode cX2_takeTool 55 = .ok (.ireturn, 1) := by decide +kernel
theorem dX2_takeTool_56 : decode cX2_takeTool 56 = .ok (.aload_n 0, 1) := by decide +kernel
theorem dX2_takeTool_57 : decode cX2_takeTool 57 = .ok (.getfield 20, 3) := by decide +kernel
theorem dX2_takeTool_60 : decode cX2_takeTool 60 = .ok (.aload_n 0, 1) := by decide +kernel
theorem dX2_takeTool_61 : decode cX2_takeTool 61 = .ok (.getfield 37, 3) := by decide +kernel
theorem dX2_takeTool_64 : decode cX2_takeTool 64 = .ok (.aaload, 1) := by decide +kernel
theorem dX2_takeTool_65 : decode cX2_takeTool 65 = .ok (.astore 5, 2) := by decide +kernel
theorem dX2_takeTool_67 : decode cX2_takeTool 67 = .ok (.aload 5, 2) := by decide +kernel
theorem dX2_takeTool_69 : decode cX2_takeTool 69 = .ok (.iload_n 1, 1) := by decide +kernel
theorem dX2_takeTool_70 : decode cX2_takeTool 70 = .ok (.putfield 62, 3) := by decide +kernel
theorem dX2_takeTool_73 : decode cX2_takeTool 73 = .ok (.aload 5, 2) := by decide +kernel
theorem dX2_takeTool_75 : decode cX2_takeTool 75 = .ok (.iload_n 2, 1) := by decide +kernel
theorem dX2_takeTool_76 : decode cX2_takeTool 76 = .ok (.putfield 63, 3) := by decide +kernel
theorem dX2_takeTool_79 : decode cX2_takeTool 79 = .ok (.aload 5, 2) := by decide +kernel
theorem dX2_takeTool_81 : decode cX2_takeTool 81 = .ok (.iload_n 3, 1) := by decide +kernel
theorem dX2_takeTool_82 : decode cX2_takeTool 82 = .ok (.iconst 1, 1) := by decide +kernel
theorem dX2_takeTool_83 : decode cX2_takeTool 83 = .ok (.if_icmp .ne 7, 3) := by decide +kernel
theorem dX2_takeTool_86 : decode cX2_takeTool 86 = .ok (.iconst 1, 1) := by decide +kernel
theorem dX2_takeTool_87 : decode cX2_takeTool 87 = .ok (.goto 4, 3) := by decide +kernel
theorem dX2_takeTool_90 : decode cX2_takeTool 90 = .ok (.iconst 0, 1) := by decide +kernel
theorem dX2_takeTool_91 : decode cX2_takeTool 91 = .ok (.putfield 66, 3) := by decide +kernel
theorem dX2_takeTool_94 : decode cX2_takeTool 94 = .ok (.aload 5, 2) := by decide +kernel
theorem dX2_takeTool_96 : decode cX2_takeTool 96 = .ok (.iload 4, 2) := by decide +kernel
theorem dX2_takeTool_98 : decode cX2_takeTool 98 = .ok (.putfield 70, 3) := by decide +kernel
theorem dX2_takeTool_101 : decode cX2_takeTool 101 = .ok (.aload_n 0, 1) := by decide +kernel
theorem dX2_takeTool_102 : decode cX2_takeTool 102 = .ok (.dup, 1) := by decide +kernel
theorem dX2_takeTool_103 : decode cX2_takeTool 103 = .ok (.getfield 37, 3) := by decide +kernel
theorem dX2_takeTool_106 : decode cX2_takeTool 106 = .ok (.iconst 1, 1) := by decide +kernel
theorem dX2_takeTool_107 : decode cX2_takeTool 107 = .ok (.iadd, 1) := by decide +kernel
theorem dX2_takeTool_108 : decode cX2_takeTool 108 = .ok (.putfield 37, 3) := by decide +kernel
theorem dX2_takeTool_111 : decode cX2_takeTool 111 = .ok (.iconst 1, 1) := by decide +kernel
theorem dX2_takeTool_112 : decode cX2_takeTool 112 = .ok (.ireturn, 1) := by decide +kernel
theorem dX2_takeHole_0 : decode cX2_takeHole 0 = .ok (.aload_n 0, 1) := by decide +kernel
theorem dX2_takeHole_1 : decode cX2_takeHole 1 = .ok (.invokevirtual 50, 3) := by decide +kernel
theorem dX2_takeHole_4 : decode cX2_takeHole 4 = .ok (.ifCond .eq 22, 3) := by decide +kernel
theorem dX2_takeHole_7 : decode cX2_takeHole 7 = .ok (.aload_n 0, 1) := by decide +kernel
theorem dX2_takeHole_8 : decode cX2_takeHole 8 = .ok (.getfield 41, 3) := by decide +kernel
theorem dX2_takeHole_11 : decode cX2_takeHole 11 = .ok (.iconst 5, 1) := by decide +kernel
theorem dX2_takeHole_12 : decode cX2_takeHole 12 = .ok (.if_icmp .ge 14, 3) := by decide +kernel
theorem dX2_takeHole_15 : decode cX2_takeHole 15 = .ok (.iload_n 3, 1) := by decide +kernel
theorem dX2_takeHole_16 : decode cX2_takeHole 16 = .ok (.iconst 1, 1) := by decide +kernel
theorem dX2_takeHole_17 : decode cX2_takeHole 17 = .ok (.if_icmp .lt 9, 3) := by decide +kernel
theorem dX2_takeHole_20 : decode cX2_takeHole 20 = .ok (.iload 4, 2) := by decide +kernel
theorem dX2_takeHole_22 : decode cX2_takeHole 22 = .ok (.iconst 1, 1) := by decide +kernel
theorem dX2_takeHole_23 : decode cX2_takeHole 23 = .ok (.if_icmp .ge 5, 3) := by decide +kernel
theorem dX2_takeHole_26 : decode cX2_takeHole 26 = .ok (.iconst 0, 1) := by decide +kernel
theorem dX2_takeHole_27 : decode cX2_takeHole 27 = .ok (.ireturn, 1) := by decide +kernel
theorem dX2_takeHole_28 : decode cX2_takeHole 28 = .ok (.aload_n 0, 1) := by decide +kernel
theorem dX2_takeHole_29 : decode cX2_takeHole 29 = .ok (.getfield 24, 3) := by decide +kernel
theorem dX2_takeHole_32 : decode cX2_takeHole 32 = .ok (.aload_n 0, 1) := by decide +kernel
theorem dX2_takeHole_33 : decode cX2_takeHole 33 = .ok (.getfield 41, 3) := by decide +kernel
theorem dX2_takeHole_36 : decode cX2_takeHole 36 = .ok (.aaload, 1) := by decide +kernel
theorem dX2_takeHole_37 : decode cX2_takeHole 37 = .ok (.astore 5, 2) := by decide +kernel
theorem dX2_takeHole_39 : decode cX2_takeHole 39 = .ok (.aload 5, 2) := by decide +kernel
theorem dX2_takeHole_41 : decode cX2_takeHole 41 = .ok (.iload_n 1, 1) := by decide +kernel
theorem dX2_takeHole_42 : decode cX2_takeHole 42 = .ok (.iload_n 2, 1) := by decide +kernel
theorem dX2_takeHole_43 : decode cX2_takeHole 43 = .ok (.iload_n 3, 1) := by decide +kernel
theorem dX2_takeHole_44 : decode cX2_takeHole 44 = .ok (.iload 4, 2) := by decide +kernel
theorem dX2_takeHole_46 : decode cX2_takeHole 46 = .ok (.invokevirtual 33, 3) := by decide +kernel
theorem dX2_takeHole_49 : decode cX2_takeHole 49 = .ok (.aload_n 0, 1) := by decide +kernel
theorem dX2_takeHole_50 : decode cX2_takeHole 50 = .ok (.getfield 12, 3) := by decide +kernel
theorem dX2_takeHole_53 : decode cX2_takeHole 53 = .ok (.aload 5, 2) := by decide +kernel
theorem dX2_takeHole_55 : decode cX2_takeHole 55 = .ok (.invokevirtual 73, 3) := by decide +kernel
theorem dX2_takeHole_58 : decode cX2_takeHole 58 = .ok (.ifCond .ne 5, 3) := by decide +kernel
theorem dX2_takeHole_61 : decode cX2_takeHole 61 = .ok (.iconst 0, 1) := by decide +kernel
theorem dX2_takeHole_62 : decode cX2_takeHole 62 = .ok (.ireturn, 1) := by decide +kernel
theorem dX2_takeHole_63 : decode cX2_takeHole 63 = .ok (.iconst 0, 1) := by decide +kernel
theorem dX2_takeHole_64 : decode cX2_takeHole 64 = .ok (.istore 6, 2) := by decide +kernel
theorem dX2_takeHole_66 : decode cX2_takeHole 66 = .ok (.iload 6, 2) := by decide +kernel
theorem dX2_takeHole_68 : decode cX2_takeHole 68 = .ok (.aload_n 0, 1) := by decide +kernel
theorem dX2_takeHole_69 : decode cX2_takeHole 69 = .ok (.getfield 41, 3) := by decide +kernel
theorem dX2_takeHole_72 : decode cX2_takeHole 72 = .ok (.if_icmp .ge 26, 3) := by decide +kernel
theorem dX2_takeHole_75 : decode cX2_takeHole 75 = .ok (.aload_n 0, 1) := by decide +kernel
theorem dX2_takeHole_76 : decode cX2_takeHole 76 = .ok (.getfield 24, 3) := by decide +kernel
theorem dX2_takeHole_79 : decode cX2_takeHole 79 = .ok (.iload 6, 2) := by decide +kernel
theorem dX2_takeHole_81 : decode cX2_takeHole 81 = .ok (.aaload, 1) := by decide +kernel
theorem dX2_takeHole_82 : decode cX2_takeHole 82 = .ok (.aload 5, 2) := by decide +kernel
theorem dX2_takeHole_84 : decode cX2_takeHole 84 = .ok (.invokevirtual 77, 3) := by decide +kernel
theorem dX2_takeHole_87 : decode cX2_takeHole 87 = .ok (.ifCond .eq 5, 3) := by decide +kernel
theorem dX2_takeHole_90 : decode cX2_takeHole 90 = .ok (.iconst 0, 1) := by decide +kernel
theorem dX2_takeHole_91 : decode cX2_takeHole 91 = .ok (.ireturn, 1) := by decide +kernel
theorem dX2_takeHole_92 : decode cX2_takeHole 92 = .ok (.iinc 6 1, 3) := by decide +kernel
theorem dX2_takeHole_95 : decode cX2_takeHole 95 = .ok (.goto (-29), 3) := by decide +kernel
theorem dX2_takeHole_98 : decode cX2_takeHole 98 = .ok (.aload_n 0, 1) := by decide +kernel
theorem dX2_takeHole_99 : decode cX2_takeHole 99 = .ok (.dup, 1) := by decide +kernel
theorem dX2_takeHole_100 : decode cX2_takeHole 100 = .ok (.getfield 41, 3) := by decide +kernel
theorem dX2_takeHole_103 : decode cX2_takeHole 103 = .ok (.iconst 1, 1) := by decide +kernel
theorem dX2_takeHole_104 : decode cX2_takeHole 104 = .ok (.iadd, 1) := by decide +kernel
theorem dX2_takeHole_105 : decode cX2_takeHole 105 = .ok (.putfield 41, 3) := by decide +kernel
theorem dX2_takeHole_108 : decode cX2_takeHole 108 = .ok (.iconst 1, 1) := by decide +kernel
theorem dX2_takeHole_109 : decode cX2_takeHole 109 = .ok (.ireturn, 1) := by decide +kernel
theorem dX2_takeClamp_0 : decode cX2_takeClamp 0 = .ok (.aload_n 0, 1) := by decide +kernel
theorem dX2_takeClamp_1 : decode cX2_takeClamp 1 = .ok (.invokevirtual 50, 3) := by decide +kernel
theorem dX2_takeClamp_4 : decode cX2_takeClamp 4 = .ok (.ifCond .eq 19, 3) := by decide +kernel
theorem dX2_takeClamp_7 : decode cX2_takeClamp 7 = .ok (.aload_n 0, 1) := by decide +kernel
theorem dX2_takeClamp_8 : decode cX2_takeClamp 8 = .ok (.getfield 44, 3) := by decide +kernel
theorem dX2_takeClamp_11 : decode cX2_takeClamp 11 = .ok (.iconst 2, 1) := by decide +kernel
theorem dX2_takeClamp_12 : decode cX2_takeClamp 12 = .ok (.if_icmp .ge 11, 3) := by decide +kernel
theorem dX2_takeClamp_15 : decode cX2_takeClamp 15 = .ok (.aload_n 0, 1) := by decide +kernel
theorem dX2_takeClamp_16 : decode cX2_takeClamp 16 = .ok (.iload_n 1, 1) := by decide +kernel
theorem dX2_takeClamp_17 : decode cX2_takeClamp 17 = .ok (.invokevirtual 80, 3) := by decide +kernel
theorem dX2_takeClamp_20 : decode cX2_takeClamp 20 = .ok (.ifCond .ne 5, 3) := by decide +kernel
theorem dX2_takeClamp_23 : decode cX2_takeClamp 23 = .ok (.iconst 0, 1) := by decide +kernel
theorem dX2_takeClamp_24 : decode cX2_takeClamp 24 = .ok (.ireturn, 1) := by decide +kernel
theorem dX2_takeClamp_25 : decode cX2_takeClamp 25 = .ok (.iconst 0, 1) := by decide +kernel
theorem dX2_takeClamp_26 : decode cX2_takeClamp 26 = .ok (.istore_n 2, 1) := by decide +kernel
theorem dX2_takeClamp_27 : decode cX2_takeClamp 27 = .ok (.iload_n 2, 1) := by decide +kernel
theorem dX2_takeClamp_28 : decode cX2_takeClamp 28 = .ok (.aload_n 0, 1) := by decide +kernel
theorem dX2_takeClamp_29 : decode cX2_takeClamp 29 = .ok (.getfield 44, 3) := by decide +kernel
theorem dX2_takeClamp_32 : decode cX2_takeClamp 32 = .ok (.if_icmp .ge 24, 3) := by decide +kernel
theorem dX2_takeClamp_35 : decode cX2_takeClamp 35 = .ok (.aload_n 0, 1) := by decide +kernel
theorem dX2_takeClamp_36 : decode cX2_takeClamp 36 = .ok (.getfield 28, 3) := by decide +kernel
theorem dX2_takeClamp_39 : decode cX2_takeClamp 39 = .ok (.iload_n 2, 1) := by decide +kernel
theorem dX2_takeClamp_40 : decode cX2_takeClamp 40 = .ok (.iaload, 1) := by decide +kernel
theorem dX2_takeClamp_41 : decode cX2_takeClamp 41 = .ok (.iload_n 1, 1) := by decide +kernel
theorem dX2_takeClamp_42 : decode cX2_takeClamp 42 = .ok (.invokestatic 83, 3) := by decide +kernel
theorem dX2_takeClamp_45 : decode cX2_takeClamp 45 = .ok (.ifCond .eq 5, 3) := by decide +kernel
theorem dX2_takeClamp_48 : decode cX2_takeClamp 48 = .ok (.iconst 0, 1) := by decide +kernel
theorem dX2_takeClamp_49 : decode cX2_takeClamp 49 = .ok (.ireturn, 1) := by decide +kernel
theorem dX2_takeClamp_50 : decode cX2_takeClamp 50 = .ok (.iinc 2 1, 3) := by decide +kernel
theorem dX2_takeClamp_53 : decode cX2_takeClamp 53 = .ok (.goto (-26), 3) := by decide +kernel
theorem dX2_takeClamp_56 : decode cX2_takeClamp 56 = .ok (.aload_n 0, 1) := by decide +kernel
theorem dX2_takeClamp_57 : decode cX2_takeClamp 57 = .ok (.getfield 28, 3) := by decide +kernel
theorem dX2_takeClamp_60 : decode cX2_takeClamp 60 = .ok (.aload_n 0, 1) := by decide +kernel
theorem dX2_takeClamp_61 : decode cX2_takeClamp 61 = .ok (.getfield 44, 3) := by decide +kernel
theorem dX2_takeClamp_64 : decode cX2_takeClamp 64 = .ok (.iload_n 1, 1) := by decide +kernel
theorem dX2_takeClamp_65 : decode cX2_takeClamp 65 = .ok (.iastore, 1) := by decide +kernel
theorem dX2_takeClamp_66 : decode cX2_takeClamp 66 = .ok (.aload_n 0, 1) := by decide +kernel
theorem dX2_takeClamp_67 : decode cX2_takeClamp 67 = .ok (.dup, 1) := by decide +kernel
theorem dX2_takeClamp_68 : decode cX2_takeClamp 68 = .ok (.getfield 44, 3) := by decide +kernel
theorem dX2_takeClamp_71 : decode cX2_takeClamp 71 = .ok (.iconst 1, 1) := by decide +kernel
theorem dX2_takeClamp_72 : decode cX2_takeClamp 72 = .ok (.iadd, 1) := by decide +kernel
theorem dX2_takeClamp_73 : decode cX2_takeClamp 73 = .ok (.putfield 44, 3) := by decide +kernel
theorem dX2_takeClamp_76 : decode cX2_takeClamp 76 = .ok (.iconst 1, 1) := by decide +kernel
theorem dX2_takeClamp_77 : decode cX2_takeClamp 77 = .ok (.ireturn, 1) := by decide +kernel
theorem dX2_isColumn_0 : decode cX2_isColumn 0 = .ok (.iload_n 1, 1) := by decide +kernel
theorem dX2_isColumn_1 : decode cX2_isColumn 1 = .ok (.iconst 0, 1) := by decide +kernel
theorem dX2_isColumn_2 : decode cX2_isColumn 2 = .ok (.aload_n 0, 1) := by decide +kernel
theorem dX2_isColumn_3 : decode cX2_isColumn 3 = .ok (.getfield 12, 3) := by decide +kernel
theorem dX2_isColumn_6 : decode cX2_isColumn 6 = .ok (.getfield 47, 3) := by decide +kernel
theorem dX2_isColumn_9 : decode cX2_isColumn 9 = .ok (.iconst 2, 1) := by decide +kernel
theorem dX2_isColumn_10 : decode cX2_isColumn 10 = .ok (.isub, 1) := by decide +kernel
theorem dX2_isColumn_11 : decode cX2_isColumn 11 = .ok (.invokestatic 54, 3) := by decide +kernel
theorem dX2_isColumn_14 : decode cX2_isColumn 14 = .ok (.ireturn, 1) := by decide +kernel
theorem dX2_areTooNear_0 : decode cX2_areTooNear 0 = .ok (.iload_n 0, 1) := by decide +kernel
theorem dX2_areTooNear_1 : decode cX2_areTooNear 1 = .ok (.iload_n 1, 1) := by decide +kernel
theorem dX2_areTooNear_2 : decode cX2_areTooNear 2 = .ok (.isub, 1) := by decide +kernel
theorem dX2_areTooNear_3 : decode cX2_areTooNear 3 = .ok (.iconst (-1), 1) := by decide +kernel
theorem dX2_areTooNear_4 : decode cX2_areTooNear 4 = .ok (.iconst 1, 1) := by decide +kernel
theorem dX2_areTooNear_5 : decode cX2_areTooNear 5 = .ok (.invokestatic 54, 3) := by decide +kernel
theorem dX2_areTooNear_8 : decode cX2_areTooNear 8 = .ok (.ireturn, 1) := by decide +kernel
theorem dX2_holeAt_0 : decode cX2_holeAt 0 = .ok (.iconst 0, 1) := by decide +kernel
theorem dX2_holeAt_1 : decode cX2_holeAt 1 = .ok (.istore_n 3, 1) := by decide +kernel
theorem dX2_holeAt_2 : decode cX2_holeAt 2 = .ok (.iload_n 3, 1) := by decide +kernel
theorem dX2_holeAt_3 : decode cX2_holeAt 3 = .ok (.aload_n 0, 1) := by decide +kernel
theorem dX2_holeAt_4 : decode cX2_holeAt 4 = .ok (.getfield 41, 3) := by decide +kernel
theorem dX2_holeAt_7 : decode cX2_holeAt 7 = .ok (.if_icmp .ge 25, 3) := by decide +kernel
theorem dX2_holeAt_10 : decode cX2_holeAt 10 = .ok (.aload_n 0, 1) := by decide +kernel
theorem dX2_holeAt_11 : decode cX2_holeAt 11 = .ok (.getfield 24, 3) := by decide +kernel
theorem dX2_holeAt_14 : decode cX2_holeAt 14 = .ok (.iload_n 3, 1) := by decide +kernel
theorem dX2_holeAt_15 : decode cX2_holeAt 15 = .ok (.aaload, 1) := by decide +kernel
theorem dX2_holeAt_16 : decode cX2_holeAt 16 = .ok (.iload_n 1, 1) := by decide +kernel
theorem dX2_holeAt_17 : decode cX2_holeAt 17 = .ok (.iload_n 2, 1) := by decide +kernel
theorem dX2_holeAt_18 : decode cX2_holeAt 18 = .ok (.invokevirtual 87, 3) := by decide +kernel
theorem dX2_holeAt_21 : decode cX2_holeAt 21 = .ok (.ifCond .eq 5, 3) := by decide +kernel
theorem dX2_holeAt_24 : decode cX2_holeAt 24 = .ok (.iload_n 3, 1) := by decide +kernel
theorem dX2_holeAt_25 : decode cX2_holeAt 25 = .ok (.ireturn, 1) := by decide +kernel
theorem dX2_holeAt_26 : decode cX2_holeAt 26 = .ok (.iinc 3 1, 3) := by decide +kernel
theorem dX2_holeAt_29 : decode cX2_holeAt 29 = .ok (.goto (-27), 3) := by decide +kernel
theorem dX2_holeAt_32 : decode cX2_holeAt 32 = .ok (.bipush (-4), 2) := by decide +kernel
theorem dX2_holeAt_34 : decode cX2_holeAt 34 = .ok (.ireturn, 1) := by decide +kernel
theorem dX2_isOfOneHole_0 : decode cX2_isOfOneHole 0 = .ok (.iconst 0, 1) := by decide +kernel
theorem dX2_isOfOneHole_1 : decode cX2_isOfOneHole 1 = .ok (.istore_n 2, 1) := by decide +kernel
theorem dX2_isOfOneHole_2 : decode cX2_isOfOneHole 2 = .ok (.iload_n 2, 1) := by decide +kernel
theorem dX2_isOfOneHole_3 : decode cX2_isOfOneHole 3 = .ok (.aload_n 0, 1) := by decide +kernel
theorem dX2_isOfOneHole_4 : decode cX2_isOfOneHole 4 = .ok (.getfield 41, 3) := by decide +kernel
theorem dX2_isOfOneHole_7 : decode cX2_isOfOneHole 7 = .ok (.if_icmp .ge 24, 3) := by decide +kernel
theorem dX2_isOfOneHole_10 : decode cX2_isOfOneHole 10 = .ok (.aload_n 0, 1) := by decide +kernel
theorem dX2_isOfOneHole_11 : decode cX2_isOfOneHole 11 = .ok (.getfield 24, 3) := by decide +kernel
theorem dX2_isOfOneHole_14 : decode cX2_isOfOneHole 14 = .ok (.iload_n 2, 1) := by decide +kernel
theorem dX2_isOfOneHole_15 : decode cX2_isOfOneHole 15 = .ok (.aaload, 1) := by decide +kernel
theorem dX2_isOfOneHole_16 : decode cX2_isOfOneHole 16 = .ok (.aload_n 1, 1) := by decide +kernel
theorem dX2_isOfOneHole_17 : decode cX2_isOfOneHole 17 = .ok (.invokevirtual 73, 3) := by decide +kernel
theorem dX2_isOfOneHole_20 : decode cX2_isOfOneHole 20 = .ok (.ifCond .eq 5, 3) := by decide +kernel
theorem dX2_isOfOneHole_23 : decode cX2_isOfOneHole 23 = .ok (.iconst 1, 1) := by decide +kernel
theorem dX2_isOfOneHole_24 : decode cX2_isOfOneHole 24 = .ok (.ireturn, 1) := by decide +kernel
theorem dX2_isOfOneHole_25 : decode cX2_isOfOneHole 25 = .ok (.iinc 2 1, 3) := by decide +kernel
theorem dX2_isOfOneHole_28 : decode cX2_isOfOneHole 28 = .ok (.goto (-26), 3) := by decide +kernel
theorem dX2_isOfOneHole_31 : decode cX2_isOfOneHole 31 = .ok (.iconst 0, 1) := by decide +kernel
theorem dX2_isOfOneHole_32 : decode cX2_isOfOneHole 32 = .ok (.ireturn, 1) := by decide +kernel
theorem dX2_turnsBetween_0 : decode cX2_turnsBetween 0 = .ok (.iload_n 1, 1) := by decide +kernel
theorem dX2_turnsBetween_1 : decode cX2_turnsBetween 1 = .ok (.iload_n 2, 1) := by decide +kernel
theorem dX2_turnsBetween_2 : decode cX2_turnsBetween 2 = .ok (.isub, 1) := by decide +kernel
theorem dX2_turnsBetween_3 : decode cX2_turnsBetween 3 = .ok (.invokestatic 90, 3) := by decide +kernel
theorem dX2_turnsBetween_6 : decode cX2_turnsBetween 6 = .ok (.istore_n 3, 1) := by decide +kernel
theorem dX2_turnsBetween_7 : decode cX2_turnsBetween 7 = .ok (.iload_n 3, 1) := by decide +kernel
theorem dX2_turnsBetween_8 : decode cX2_turnsBetween 8 = .ok (.aload_n 0, 1) := by decide +kernel
theorem dX2_turnsBetween_9 : decode cX2_turnsBetween 9 = .ok (.getfield 37, 3) := by decide +kernel
theorem dX2_turnsBetween_12 : decode cX2_turnsBetween 12 = .ok (.iload_n 3, 1) := by decide +kernel
theorem dX2_turnsBetween_13 : decode cX2_turnsBetween 13 = .ok (.isub, 1) := by decide +kernel
theorem dX2_turnsBetween_14 : decode cX2_turnsBetween 14 = .ok (.invokestatic 96, 3) := by decide +kernel
theorem dX2_turnsBetween_17 : decode cX2_turnsBetween 17 = .ok (.ireturn, 1) := by decide +kernel
theorem dX2_turnsThrough_0 : decode cX2_turnsThrough 0 = .ok (.aload_n 0, 1) := by decide +kernel
theorem dX2_turnsThrough_1 : decode cX2_turnsThrough 1 = .ok (.getfield 37, 3) := by decide +kernel
theorem dX2_turnsThrough_4 : decode cX2_turnsThrough 4 = .ok (.istore_n 3, 1) := by decide +kernel
theorem dX2_turnsThrough_5 : decode cX2_turnsThrough 5 = .ok (.iconst 0, 1) := by decide +kernel
theorem dX2_turnsThrough_6 : decode cX2_turnsThrough 6 = .ok (.istore 4, 2) := by decide +kernel
theorem dX2_turnsThrough_8 : decode cX2_turnsThrough 8 = .ok (.iload 4, 2) := by decide +kernel
theorem dX2_turnsThrough_10 : decode cX2_turnsThrough 10 = .ok (.aload_n 0, 1) := by decide +kernel
theorem dX2_turnsThrough_11 : decode cX2_turnsThrough 11 = .ok (.getfield 37, 3) := by decide +kernel
theorem dX2_turnsThrough_14 : decode cX2_turnsThrough 14 = .ok (.if_icmp .ge 37, 3) := by decide +kernel
theorem dX2_turnsThrough_17 : decode cX2_turnsThrough 17 = .ok (.aload_n 0, 1) := by decide +kernel
theorem dX2_turnsThrough_18 : decode cX2_turnsThrough 18 = .ok (.iload_n 1, 1) := by decide +kernel
theorem dX2_turnsThrough_19 : decode cX2_turnsThrough 19 = .ok (.iload_n 2, 1) := by decide +kernel
theorem dX2_turnsThrough_20 : decode cX2_turnsThrough 20 = .ok (.iload 4, 2) := by decide +kernel
theorem dX2_turnsThrough_22 : decode cX2_turnsThrough 22 = .ok (.invokevirtual 100, 3) := by decide +kernel
theorem dX2_turnsThrough_25 : decode cX2_turnsThrough 25 = .ok (.istore 5, 2) := by decide +kernel
theorem dX2_turnsThrough_27 : decode cX2_turnsThrough 27 = .ok (.iload_n 3, 1) := by decide +kernel
theorem dX2_turnsThrough_28 : decode cX2_turnsThrough 28 = .ok (.iload 4, 2) := by decide +kernel
theorem dX2_turnsThrough_30 : decode cX2_turnsThrough 30 = .ok (.iload 5, 2) := by decide +kernel
theorem dX2_turnsThrough_32 : decode cX2_turnsThrough 32 = .ok (.iadd, 1) := by decide +kernel
theorem dX2_turnsThrough_33 : decode cX2_turnsThrough 33 = .ok (.iload 4, 2) := by decide +kernel
theorem dX2_turnsThrough_35 : decode cX2_turnsThrough 35 = .ok (.iload 5, 2) := by decide +kernel
theorem dX2_turnsThrough_37 : decode cX2_turnsThrough 37 = .ok (.invokestatic 96, 3) := by decide +kernel
theorem dX2_turnsThrough_40 : decode cX2_turnsThrough 40 = .ok (.iadd, 1) := by decide +kernel
theorem dX2_turnsThrough_41 : decode cX2_turnsThrough 41 = .ok (.invokestatic 96, 3) := by decide +kernel
theorem dX2_turnsThrough_44 : decode cX2_turnsThrough 44 = .ok (.istore_n 3, 1) := by decide +kernel
theorem dX2_turnsThrough_45 : decode cX2_turnsThrough 45 = .ok (.iinc 4 1, 3) := by decide +kernel
theorem dX2_turnsThrough_48 : decode cX2_turnsThrough 48 = .ok (.goto (-40), 3) := by decide +kernel
theorem dX2_turnsThrough_51 : decode cX2_turnsThrough 51 = .ok (.iload_n 3, 1) := by decide +kernel
theorem dX2_turnsThrough_52 : decode cX2_turnsThrough 52 = .ok (.ireturn, 1) := by decide +kernel
theorem dX2_downBeyond_0 : decode cX2_downBeyond 0 = .ok (.iload_n 3, 1) := by decide +kernel
theorem dX2_downBeyond_1 : decode cX2_downBeyond 1 = .ok (.iconst 1, 1) := by decide +kernel
theorem dX2_downBeyond_2 : decode cX2_downBeyond 2 = .ok (.iadd, 1) := by decide +kernel
theorem dX2_downBeyond_3 : decode cX2_downBeyond 3 = .ok (.istore 4, 2) := by decide +kernel
theorem dX2_downBeyond_5 : decode cX2_downBeyond 5 = .ok (.iload 4, 2) := by decide +kernel
theorem dX2_downBeyond_7 : decode cX2_downBeyond 7 = .ok (.aload_n 0, 1) := by decide +kernel
theorem dX2_downBeyond_8 : decode cX2_downBeyond 8 = .ok (.getfield 37, 3) := by decide +kernel
theorem dX2_downBeyond_11 : decode cX2_downBeyond 11 = .ok (.if_icmp .ge 55, 3) := by decide +kernel
theorem dX2_downBeyond_14 : decode cX2_downBeyond 14 = .ok (.iload_n 1, 1) := by decide +kernel
theorem dX2_downBeyond_15 : decode cX2_downBeyond 15 = .ok (.iload 4, 2) := by decide +kernel
theorem dX2_downBeyond_17 : decode cX2_downBeyond 17 = .ok (.iadd, 1) := by decide +kernel
theorem dX2_downBeyond_18 : decode cX2_downBeyond 18 = .ok (.aload_n 0, 1) := by decide +kernel
theorem dX2_downBeyond_19 : decode cX2_downBeyond 19 = .ok (.getfield 37, 3) := by decide +kernel
theorem dX2_downBeyond_22 : decode cX2_downBeyond 22 = .ok (.if_icmp .ge 10, 3) := by decide +kernel
theorem dX2_downBeyond_25 : decode cX2_downBeyond 25 = .ok (.iload_n 1, 1) := by decide +kernel
theorem dX2_downBeyond_26 : decode cX2_downBeyond 26 = .ok (.iload 4, 2) := by decide +kernel
theorem dX2_downBeyond_28 : decode cX2_downBeyond 28 = .ok (.iadd, 1) := by decide +kernel
theorem dX2_downBeyond_29 : decode cX2_downBeyond 29 = .ok (.goto 12, 3) := by decide +kernel
theorem dX2_downBeyond_32 : decode cX2_downBeyond 32 = .ok (.iload_n 1, 1) := by decide +kernel
theorem dX2_downBeyond_33 : decode cX2_downBeyond 33 = .ok (.iload 4, 2) := by decide +kernel
theorem dX2_downBeyond_35 : decode cX2_downBeyond 35 = .ok (.iadd, 1) := by decide +kernel
theorem dX2_downBeyond_36 : decode cX2_downBeyond 36 = .ok (.aload_n 0, 1) := by decide +kernel
theorem dX2_downBeyond_37 : decode cX2_downBeyond 37 = .ok (.getfield 37, 3) := by decide +kernel
theorem dX2_downBeyond_40 : decode cX2_downBeyond 40 = .ok (.isub, 1) := by decide +kernel
theorem dX2_downBeyond_41 : decode cX2_downBeyond 41 = .ok (.istore 5, 2) := by decide +kernel
theorem dX2_downBeyond_43 : decode cX2_downBeyond 43 = .ok (.iload_n 2, 1) := by decide +kernel
theorem dX2_downBeyond_44 : decode cX2_downBeyond 44 = .ok (.iconst 1, 1) := by decide +kernel
theorem dX2_downBeyond_45 : decode cX2_downBeyond 45 = .ok (.iload 5, 2) := by decide +kernel
theorem dX2_downBeyond_47 : decode cX2_downBeyond 47 = .ok (.ishl, 1) := by decide +kernel
theorem dX2_downBeyond_48 : decode cX2_downBeyond 48 = .ok (.iand, 1) := by decide +kernel
theorem dX2_downBeyond_49 : decode cX2_downBeyond 49 = .ok (.ifCond .eq 11, 3) := by decide +kernel
theorem dX2_downBeyond_52 : decode cX2_downBeyond 52 = .ok (.aload_n 0, 1) := by decide +kernel
theorem dX2_downBeyond_53 : decode cX2_downBeyond 53 = .ok (.getfield 37, 3) := by decide +kernel
theorem dX2_downBeyond_56 : decode cX2_downBeyond 56 = .ok (.iload 4, 2) := by decide +kernel
theorem dX2_downBeyond_58 : decode cX2_downBeyond 58 = .ok (.isub, 1) := by decide +kernel
theorem dX2_downBeyond_59 : decode cX2_downBeyond 59 = .ok (.ireturn, 1) := by decide +kernel
end
section
theorem dX2_downBeyond_60 : decode cX2_downBeyond 60 = .ok (.iinc 4 1, 3) := by decide +kernel
theorem dX2_downBeyond_63 : decode cX2_downBeyond 63 = .ok (.goto (-58), 3) := by decide +kernel
theorem dX2_downBeyond_66 : decode cX2_downBeyond 66 = .ok (.iconst 0, 1) := by decide +kernel
theorem dX2_downBeyond_67 : decode cX2_downBeyond 67 = .ok (.ireturn, 1) := by decide +kernel
theorem dX3_init_0 : decode cX3_init 0 = .ok (.aload_n 0, 1) := by decide +kernel
theorem dX3_init_1 : decode cX3_init 1 = .ok (.invokespecial 3, 3) := by decide +kernel
theorem dX3_init_4 : decode cX3_init 4 = .ok (.aload_n 0, 1) := by decide +kernel
theorem dX3_init_5 : decode cX3_init 5 = .ok (.bipush 30, 2) := by decide +kernel
theorem dX3_init_7 : decode cX3_init 7 = .ok (.newarray .int, 2) := by decide +kernel
theorem dX3_init_9 : decode cX3_init 9 = .ok (.putfield 9, 3) := by decide +kernel
theorem dX3_init_12 : decode cX3_init 12 = .ok (.aload_n 0, 1) := by decide +kernel
theorem dX3_init_13 : decode cX3_init 13 = .ok (.bipush 30, 2) := by decide +kernel
theorem dX3_init_15 : decode cX3_init 15 = .ok (.newarray .int, 2) := by decide +kernel
theorem dX3_init_17 : decode cX3_init 17 = .ok (.putfield 15, 3) := by decide +kernel
theorem dX3_init_20 : decode cX3_init 20 = .ok (.aload_n 0, 1) := by decide +kernel
theorem dX3_init_21 : decode cX3_init 21 = .ok (.iconst 5, 1) := by decide +kernel
theorem dX3_init_22 : decode cX3_init 22 = .ok (.newarray .int, 2) := by decide +kernel
theorem dX3_init_24 : decode cX3_init 24 = .ok (.putfield 18, 3) := by decide +kernel
theorem dX3_init_27 : decode cX3_init 27 = .ok (.aload_n 0, 1) := by decide +kernel
theorem dX3_init_28 : decode cX3_init 28 = .ok (.iconst 5, 1) := by decide +kernel
theorem dX3_init_29 : decode cX3_init 29 = .ok (.newarray .int, 2) := by decide +kernel
theorem dX3_init_31 : decode cX3_init 31 = .ok (.putfield 21, 3) := by decide +kernel
theorem dX3_init_34 : decode cX3_init 34 = .ok (.return_, 1) := by decide +kernel
theorem dX3_work_0 : decode cX3_work 0 = .ok (.aload_n 0, 1) := by decide +kernel
theorem dX3_work_1 : decode cX3_work 1 = .ok (.iconst 0, 1) := by decide +kernel
theorem dX3_work_2 : decode cX3_work 2 = .ok (.putfield 24, 3) := by decide +kernel
theorem dX3_work_5 : decode cX3_work 5 = .ok (.aload_n 0, 1) := by decide +kernel
theorem dX3_work_6 : decode cX3_work 6 = .ok (.aload_n 1, 1) := by decide +kernel
theorem dX3_work_7 : decode cX3_work 7 = .ok (.invokevirtual 28, 3) := by decide +kernel
theorem dX3_work_10 : decode cX3_work 10 = .ok (.iconst 0, 1) := by decide +kernel
theorem dX3_work_11 : decode cX3_work 11 = .ok (.istore_n 3, 1) := by decide +kernel
theorem dX3_work_12 : decode cX3_work 12 = .ok (.iload_n 3, 1) := by decide +kernel
theorem dX3_work_13 : decode cX3_work 13 = .ok (.iconst 1, 1) := by decide +kernel
theorem dX3_work_14 : decode cX3_work 14 = .ok (.aload_n 1, 1) := by decide +kernel
theorem dX3_work_15 : decode cX3_work 15 = .ok (.getfield 32, 3) := by decide +kernel
theorem dX3_work_18 : decode cX3_work 18 = .ok (.ishl, 1) := by decide +kernel
theorem dX3_work_19 : decode cX3_work 19 = .ok (.if_icmp .ge 59, 3) := by decide +kernel
theorem dX3_work_22 : decode cX3_work 22 = .ok (.aload_n 0, 1) := by decide +kernel
theorem dX3_work_23 : decode cX3_work 23 = .ok (.aload_n 1, 1) := by decide +kernel
theorem dX3_work_24 : decode cX3_work 24 = .ok (.aload_n 2, 1) := by decide +kernel
theorem dX3_work_25 : decode cX3_work 25 = .ok (.iload_n 3, 1) := by decide +kernel
theorem dX3_work_26 : decode cX3_work 26 = .ok (.invokevirtual 38, 3) := by decide +kernel
theorem dX3_work_29 : decode cX3_work 29 = .ok (.ifCond .ne 6, 3) := by decide +kernel
theorem dX3_work_32 : decode cX3_work 32 = .ok (.goto 40, 3) := by decide +kernel
theorem dX3_work_35 : decode cX3_work 35 = .ok (.aload_n 1, 1) := by decide +kernel
theorem dX3_work_36 : decode cX3_work 36 = .ok (.aload_n 2, 1) := by decide +kernel
theorem dX3_work_37 : decode cX3_work 37 = .ok (.getfield 42, 3) := by decide +kernel
theorem dX3_work_40 : decode cX3_work 40 = .ok (.iload_n 3, 1) := by decide +kernel
theorem dX3_work_41 : decode cX3_work 41 = .ok (.invokevirtual 47, 3) := by decide +kernel
theorem dX3_work_44 : decode cX3_work 44 = .ok (.istore 4, 2) := by decide +kernel
theorem dX3_work_46 : decode cX3_work 46 = .ok (.aload_n 0, 1) := by decide +kernel
theorem dX3_work_47 : decode cX3_work 47 = .ok (.getfield 24, 3) := by decide +kernel
theorem dX3_work_50 : decode cX3_work 50 = .ok (.ifCond .eq 16, 3) := by decide +kernel
theorem dX3_work_53 : decode cX3_work 53 = .ok (.aload_n 0, 1) := by decide +kernel
theorem dX3_work_54 : decode cX3_work 54 = .ok (.aload_n 1, 1) := by decide +kernel
theorem dX3_work_55 : decode cX3_work 55 = .ok (.getfield 51, 3) := by decide +kernel
theorem dX3_work_58 : decode cX3_work 58 = .ok (.iload 4, 2) := by decide +kernel
theorem dX3_work_60 : decode cX3_work 60 = .ok (.invokevirtual 54, 3) := by decide +kernel
theorem dX3_work_63 : decode cX3_work 63 = .ok (.ifCond .eq 9, 3) := by decide +kernel
theorem dX3_work_66 : decode cX3_work 66 = .ok (.aload_n 0, 1) := by decide +kernel
theorem dX3_work_67 : decode cX3_work 67 = .ok (.iload 4, 2) := by decide +kernel
theorem dX3_work_69 : decode cX3_work 69 = .ok (.invokevirtual 58, 3) := by decide +kernel
theorem dX3_work_72 : decode cX3_work 72 = .ok (.iinc 3 1, 3) := by decide +kernel
theorem dX3_work_75 : decode cX3_work 75 = .ok (.goto (-63), 3) := by decide +kernel
theorem dX3_work_78 : decode cX3_work 78 = .ok (.return_, 1) := by decide +kernel
theorem dX3_weighWays_0 : decode cX3_weighWays 0 = .ok (.iconst 0, 1) := by decide +kernel
theorem dX3_weighWays_1 : decode cX3_weighWays 1 = .ok (.istore_n 2, 1) := by decide +kernel
theorem dX3_weighWays_2 : decode cX3_weighWays 2 = .ok (.iload_n 2, 1) := by decide +kernel
theorem dX3_weighWays_3 : decode cX3_weighWays 3 = .ok (.aload_n 1, 1) := by decide +kernel
theorem dX3_weighWays_4 : decode cX3_weighWays 4 = .ok (.getfield 51, 3) := by decide +kernel
theorem dX3_weighWays_7 : decode cX3_weighWays 7 = .ok (.if_icmp .ge 128, 3) := by decide +kernel
theorem dX3_weighWays_10 : decode cX3_weighWays 10 = .ok (.iconst 0, 1) := by decide +kernel
theorem dX3_weighWays_11 : decode cX3_weighWays 11 = .ok (.istore_n 3, 1) := by decide +kernel
theorem dX3_weighWays_12 : decode cX3_weighWays 12 = .ok (.iload_n 3, 1) := by decide +kernel
theorem dX3_weighWays_13 : decode cX3_weighWays 13 = .ok (.aload_n 1, 1) := by decide +kernel
theorem dX3_weighWays_14 : decode cX3_weighWays 14 = .ok (.getfield 32, 3) := by decide +kernel
theorem dX3_weighWays_17 : decode cX3_weighWays 17 = .ok (.if_icmp .ge 112, 3) := by decide +kernel
theorem dX3_weighWays_20 : decode cX3_weighWays 20 = .ok (.aload_n 1, 1) := by decide +kernel
theorem dX3_weighWays_21 : decode cX3_weighWays 21 = .ok (.getfield 62, 3) := by decide +kernel
theorem dX3_weighWays_24 : decode cX3_weighWays 24 = .ok (.iload_n 3, 1) := by decide +kernel
theorem dX3_weighWays_25 : decode cX3_weighWays 25 = .ok (.aaload, 1) := by decide +kernel
theorem dX3_weighWays_26 : decode cX3_weighWays 26 = .ok (.aload_n 1, 1) := by decide +kernel
theorem dX3_weighWays_27 : decode cX3_weighWays 27 = .ok (.getfield 66, 3) := by decide +kernel
theorem dX3_weighWays_30 : decode cX3_weighWays 30 = .ok (.iload_n 2, 1) := by decide +kernel
theorem dX3_weighWays_31 : decode cX3_weighWays 31 = .ok (.aaload, 1) := by decide +kernel
theorem dX3_weighWays_32 : decode cX3_weighWays 32 = .ok (.iconst 0, 1) := by decide +kernel
theorem dX3_weighWays_33 : decode cX3_weighWays 33 = .ok (.invokevirtual 70, 3) := by decide +kernel
theorem dX3_weighWays_36 : decode cX3_weighWays 36 = .ok (.istore 4, 2) := by decide +kernel
theorem dX3_weighWays_38 : decode cX3_weighWays 38 = .ok (.aload_n 1, 1) := by decide +kernel
theorem dX3_weighWays_39 : decode cX3_weighWays 39 = .ok (.getfield 62, 3) := by decide +kernel
theorem dX3_weighWays_42 : decode cX3_weighWays 42 = .ok (.iload_n 3, 1) := by decide +kernel
theorem dX3_weighWays_43 : decode cX3_weighWays 43 = .ok (.aaload, 1) := by decide +kernel
theorem dX3_weighWays_44 : decode cX3_weighWays 44 = .ok (.aload_n 1, 1) := by decide +kernel
theorem dX3_weighWays_45 : decode cX3_weighWays 45 = .ok (.getfield 66, 3) := by decide +kernel
theorem dX3_weighWays_48 : decode cX3_weighWays 48 = .ok (.iload_n 2, 1) := by decide +kernel
theorem dX3_weighWays_49 : decode cX3_weighWays 49 = .ok (.aaload, 1) := by decide +kernel
theorem dX3_weighWays_50 : decode cX3_weighWays 50 = .ok (.iconst 1, 1) := by decide +kernel
theorem dX3_weighWays_51 : decode cX3_weighWays 51 = .ok (.invokevirtual 70, 3) := by decide +kernel
theorem dX3_weighWays_54 : decode cX3_weighWays 54 = .ok (.istore 5, 2) := by decide +kernel
theorem dX3_weighWays_56 : decode cX3_weighWays 56 = .ok (.iload 5, 2) := by decide +kernel
theorem dX3_weighWays_58 : decode cX3_weighWays 58 = .ok (.ifCond .eq 19, 3) := by decide +kernel
theorem dX3_weighWays_61 : decode cX3_weighWays 61 = .ok (.iload 4, 2) := by decide +kernel
theorem dX3_weighWays_63 : decode cX3_weighWays 63 = .ok (.ifCond .eq 10, 3) := by decide +kernel
theorem dX3_weighWays_66 : decode cX3_weighWays 66 = .ok (.iload 5, 2) := by decide +kernel
theorem dX3_weighWays_68 : decode cX3_weighWays 68 = .ok (.iload 4, 2) := by decide +kernel
theorem dX3_weighWays_70 : decode cX3_weighWays 70 = .ok (.if_icmp .ge 7, 3) := by decide +kernel
theorem dX3_weighWays_73 : decode cX3_weighWays 73 = .ok (.iconst 1, 1) := by decide +kernel
theorem dX3_weighWays_74 : decode cX3_weighWays 74 = .ok (.goto 4, 3) := by decide +kernel
theorem dX3_weighWays_77 : decode cX3_weighWays 77 = .ok (.iconst 0, 1) := by decide +kernel
theorem dX3_weighWays_78 : decode cX3_weighWays 78 = .ok (.istore 6, 2) := by decide +kernel
theorem dX3_weighWays_80 : decode cX3_weighWays 80 = .ok (.aload_n 0, 1) := by decide +kernel
theorem dX3_weighWays_81 : decode cX3_weighWays 81 = .ok (.getfield 9, 3) := by decide +kernel
theorem dX3_weighWays_84 : decode cX3_weighWays 84 = .ok (.iload_n 2, 1) := by decide +kernel
theorem dX3_weighWays_85 : decode cX3_weighWays 85 = .ok (.bipush 6, 2) := by decide +kernel
theorem dX3_weighWays_87 : decode cX3_weighWays 87 = .ok (.imul, 1) := by decide +kernel
theorem dX3_weighWays_88 : decode cX3_weighWays 88 = .ok (.iload_n 3, 1) := by decide +kernel
theorem dX3_weighWays_89 : decode cX3_weighWays 89 = .ok (.iadd, 1) := by decide +kernel
theorem dX3_weighWays_90 : decode cX3_weighWays 90 = .ok (.iload 6, 2) := by decide +kernel
theorem dX3_weighWays_92 : decode cX3_weighWays 92 = .ok (.ifCond .eq 8, 3) := by decide +kernel
theorem dX3_weighWays_95 : decode cX3_weighWays 95 = .ok (.iload 5, 2) := by decide +kernel
theorem dX3_weighWays_97 : decode cX3_weighWays 97 = .ok (.goto 5, 3) := by decide +kernel
theorem dX3_weighWays_100 : decode cX3_weighWays 100 = .ok (.iload 4, 2) := by decide +kernel
theorem dX3_weighWays_102 : decode cX3_weighWays 102 = .ok (.iastore, 1) := by decide +kernel
theorem dX3_weighWays_103 : decode cX3_weighWays 103 = .ok (.aload_n 0, 1) := by decide +kernel
theorem dX3_weighWays_104 : decode cX3_weighWays 104 = .ok (.getfield 15, 3) := by decide +kernel
theorem dX3_weighWays_107 : decode cX3_weighWays 107 = .ok (.iload_n 2, 1) := by decide +kernel
theorem dX3_weighWays_108 : decode cX3_weighWays 108 = .ok (.bipush 6, 2) := by decide +kernel
theorem dX3_weighWays_110 : decode cX3_weighWays 110 = .ok (.imul, 1) := by decide +kernel
theorem dX3_weighWays_111 : decode cX3_weighWays 111 = .ok (.iload_n 3, 1) := by decide +kernel
theorem dX3_weighWays_112 : decode cX3_weighWays 112 = .ok (.iadd, 1) := by decide +kernel
theorem dX3_weighWays_113 : decode cX3_weighWays 113 = .ok (.iconst 2, 1) := by decide +kernel
theorem dX3_weighWays_114 : decode cX3_weighWays 114 = .ok (.iload_n 3, 1) := by decide +kernel
theorem dX3_weighWays_115 : decode cX3_weighWays 115 = .ok (.imul, 1) := by decide +kernel
theorem dX3_weighWays_116 : decode cX3_weighWays 116 = .ok (.iload 6, 2) := by decide +kernel
theorem dX3_weighWays_118 : decode cX3_weighWays 118 = .ok (.invokestatic 76, 3) := by decide +kernel
theorem dX3_weighWays_121 : decode cX3_weighWays 121 = .ok (.iadd, 1) := by decide +kernel
theorem dX3_weighWays_122 : decode cX3_weighWays 122 = .ok (.iastore, 1) := by decide +kernel
theorem dX3_weighWays_123 : decode cX3_weighWays 123 = .ok (.iinc 3 1, 3) := by decide +kernel
theorem dX3_weighWays_126 : decode cX3_weighWays 126 = .ok (.goto (-114), 3) := by decide +kernel
theorem dX3_weighWays_129 : decode cX3_weighWays 129 = .ok (.iinc 2 1, 3) := by decide +kernel
theorem dX3_weighWays_132 : decode cX3_weighWays 132 = .ok (.goto (-130), 3) := by decide +kernel
theorem dX3_weighWays_135 : decode cX3_weighWays 135 = .ok (.return_, 1) := by decide +kernel
theorem dX3_triesSet_0 : decode cX3_triesSet 0 = .ok (.aload_n 0, 1) := by decide +kernel
theorem dX3_triesSet_1 : decode cX3_triesSet 1 = .ok (.iconst 0, 1) := by decide +kernel
theorem dX3_triesSet_2 : decode cX3_triesSet 2 = .ok (.putfield 80, 3) := by decide +kernel
theorem dX3_triesSet_5 : decode cX3_triesSet 5 = .ok (.iconst 0, 1) := by decide +kernel
theorem dX3_triesSet_6 : decode cX3_triesSet 6 = .ok (.istore 4, 2) := by decide +kernel
theorem dX3_triesSet_8 : decode cX3_triesSet 8 = .ok (.iload 4, 2) := by decide +kernel
theorem dX3_triesSet_10 : decode cX3_triesSet 10 = .ok (.aload_n 1, 1) := by decide +kernel
theorem dX3_triesSet_11 : decode cX3_triesSet 11 = .ok (.getfield 51, 3) := by decide +kernel
theorem dX3_triesSet_14 : decode cX3_triesSet 14 = .ok (.if_icmp .ge 66, 3) := by decide +kernel
theorem dX3_triesSet_17 : decode cX3_triesSet 17 = .ok (.aload_n 0, 1) := by decide +kernel
theorem dX3_triesSet_18 : decode cX3_triesSet 18 = .ok (.getfield 18, 3) := by decide +kernel
theorem dX3_triesSet_21 : decode cX3_triesSet 21 = .ok (.iload 4, 2) := by decide +kernel
theorem dX3_triesSet_23 : decode cX3_triesSet 23 = .ok (.bipush (-4), 2) := by decide +kernel
theorem dX3_triesSet_25 : decode cX3_triesSet 25 = .ok (.iastore, 1) := by decide +kernel
theorem dX3_triesSet_26 : decode cX3_triesSet 26 = .ok (.aload_n 2, 1) := by decide +kernel
theorem dX3_triesSet_27 : decode cX3_triesSet 27 = .ok (.aload_n 1, 1) := by decide +kernel
theorem dX3_triesSet_28 : decode cX3_triesSet 28 = .ok (.getfield 66, 3) := by decide +kernel
theorem dX3_triesSet_31 : decode cX3_triesSet 31 = .ok (.iload 4, 2) := by decide +kernel
theorem dX3_triesSet_33 : decode cX3_triesSet 33 = .ok (.aaload, 1) := by decide +kernel
theorem dX3_triesSet_34 : decode cX3_triesSet 34 = .ok (.invokevirtual 83, 3) := by decide +kernel
theorem dX3_triesSet_37 : decode cX3_triesSet 37 = .ok (.ifCond .eq 6, 3) := by decide +kernel
theorem dX3_triesSet_40 : decode cX3_triesSet 40 = .ok (.goto 34, 3) := by decide +kernel
theorem dX3_triesSet_43 : decode cX3_triesSet 43 = .ok (.aload_n 0, 1) := by decide +kernel
theorem dX3_triesSet_44 : decode cX3_triesSet 44 = .ok (.iload 4, 2) := by decide +kernel
theorem dX3_triesSet_46 : decode cX3_triesSet 46 = .ok (.aload_n 1, 1) := by decide +kernel
theorem dX3_triesSet_47 : decode cX3_triesSet 47 = .ok (.getfield 32, 3) := by decide +kernel
theorem dX3_triesSet_50 : decode cX3_triesSet 50 = .ok (.iload_n 3, 1) := by decide +kernel
theorem dX3_triesSet_51 : decode cX3_triesSet 51 = .ok (.invokevirtual 87, 3) := by decide +kernel
theorem dX3_triesSet_54 : decode cX3_triesSet 54 = .ok (.istore 5, 2) := by decide +kernel
theorem dX3_triesSet_56 : decode cX3_triesSet 56 = .ok (.iload 5, 2) := by decide +kernel
theorem dX3_triesSet_58 : decode cX3_triesSet 58 = .ok (.ifCond .ne 5, 3) := by decide +kernel
theorem dX3_triesSet_61 : decode cX3_triesSet 61 = .ok (.iconst 0, 1) := by decide +kernel
theorem dX3_triesSet_62 : decode cX3_triesSet 62 = .ok (.ireturn, 1) := by decide +kernel
theorem dX3_triesSet_63 : decode cX3_triesSet 63 = .ok (.aload_n 0, 1) := by decide +kernel
theorem dX3_triesSet_64 : decode cX3_triesSet 64 = .ok (.dup, 1) := by decide +kernel
theorem dX3_triesSet_65 : decode cX3_triesSet 65 = .ok (.getfield 80, 3) := by decide +kernel
theorem dX3_triesSet_68 : decode cX3_triesSet 68 = .ok (.iload 5, 2) := by decide +kernel
theorem dX3_triesSet_70 : decode cX3_triesSet 70 = .ok (.iadd, 1) := by decide +kernel
theorem dX3_triesSet_71 : decode cX3_triesSet 71 = .ok (.putfield 80, 3) := by decide +kernel
theorem dX3_triesSet_74 : decode cX3_triesSet 74 = .ok (.iinc 4 1, 3) := by decide +kernel
theorem dX3_triesSet_77 : decode cX3_triesSet 77 = .ok (.goto (-69), 3) := by decide +kernel
theorem dX3_triesSet_80 : decode cX3_triesSet 80 = .ok (.iconst 1, 1) := by decide +kernel
theorem dX3_triesSet_81 : decode cX3_triesSet 81 = .ok (.ireturn, 1) := by decide +kernel
theorem dX3_takeFirstFewest_0 : decode cX3_takeFirstFewest 0 = .ok (.iconst 0, 1) := by decide +kernel
theorem dX3_takeFirstFewest_1 : decode cX3_takeFirstFewest 1 = .ok (.istore 4, 2) := by decide +kernel
theorem dX3_takeFirstFewest_3 : decode cX3_takeFirstFewest 3 = .ok (.iconst 0, 1) := by decide +kernel
theorem dX3_takeFirstFewest_4 : decode cX3_takeFirstFewest 4 = .ok (.istore 5, 2) := by decide +kernel
theorem dX3_takeFirstFewest_6 : decode cX3_takeFirstFewest 6 = .ok (.iload 5, 2) := by decide +kernel
theorem dX3_takeFirstFewest_8 : decode cX3_takeFirstFewest 8 = .ok (.iload_n 2, 1) := by decide +kernel
theorem dX3_takeFirstFewest_9 : decode cX3_takeFirstFewest 9 = .ok (.if_icmp .ge 71, 3) := by decide +kernel
theorem dX3_takeFirstFewest_12 : decode cX3_takeFirstFewest 12 = .ok (.aload_n 0, 1) := by decide +kernel
theorem dX3_takeFirstFewest_13 : decode cX3_takeFirstFewest 13 = .ok (.getfield 9, 3) := by decide +kernel
theorem dX3_takeFirstFewest_16 : decode cX3_takeFirstFewest 16 = .ok (.iload_n 1, 1) := by decide +kernel
theorem dX3_takeFirstFewest_17 : decode cX3_takeFirstFewest 17 = .ok (.bipush 6, 2) := by decide +kernel
theorem dX3_takeFirstFewest_19 : decode cX3_takeFirstFewest 19 = .ok (.imul, 1) := by decide +kernel
theorem dX3_takeFirstFewest_20 : decode cX3_takeFirstFewest 20 = .ok (.iload 5, 2) := by decide +kernel
theorem dX3_takeFirstFewest_22 : decode cX3_takeFirstFewest 22 = .ok (.iadd, 1) := by decide +kernel
theorem dX3_takeFirstFewest_23 : decode cX3_takeFirstFewest 23 = .ok (.iaload, 1) := by decide +kernel
theorem dX3_takeFirstFewest_24 : decode cX3_takeFirstFewest 24 = .ok (.istore 6, 2) := by decide +kernel
theorem dX3_takeFirstFewest_26 : decode cX3_takeFirstFewest 26 = .ok (.iload_n 3, 1) := by decide +kernel
theorem dX3_takeFirstFewest_27 : decode cX3_takeFirstFewest 27 = .ok (.iconst 1, 1) := by decide +kernel
theorem dX3_takeFirstFewest_28 : decode cX3_takeFirstFewest 28 = .ok (.iload 5, 2) := by decide +kernel
theorem dX3_takeFirstFewest_30 : decode cX3_takeFirstFewest 30 = .ok (.ishl, 1) := by decide +kernel
theorem dX3_takeFirstFewest_31 : decode cX3_takeFirstFewest 31 = .ok (.iand, 1) := by decide +kernel
theorem dX3_takeFirstFewest_32 : decode cX3_takeFirstFewest 32 = .ok (.ifCond .eq 42, 3) := by decide +kernel
theorem dX3_takeFirstFewest_35 : decode cX3_takeFirstFewest 35 = .ok (.iload 6, 2) := by decide +kernel
theorem dX3_takeFirstFewest_37 : decode cX3_takeFirstFewest 37 = .ok (.ifCond .eq 37, 3) := by decide +kernel
theorem dX3_takeFirstFewest_40 : decode cX3_takeFirstFewest 40 = .ok (.iload 4, 2) := by decide +kernel
theorem dX3_takeFirstFewest_42 : decode cX3_takeFirstFewest 42 = .ok (.ifCond .eq 10, 3) := by decide +kernel
theorem dX3_takeFirstFewest_45 : decode cX3_takeFirstFewest 45 = .ok (.iload 6, 2) := by decide +kernel
theorem dX3_takeFirstFewest_47 : decode cX3_takeFirstFewest 47 = .ok (.iload 4, 2) := by decide +kernel
theorem dX3_takeFirstFewest_49 : decode cX3_takeFirstFewest 49 = .ok (.if_icmp .ge 25, 3) := by decide +kernel
theorem dX3_takeFirstFewest_52 : decode cX3_takeFirstFewest 52 = .ok (.iload 6, 2) := by decide +kernel
theorem dX3_takeFirstFewest_54 : decode cX3_takeFirstFewest 54 = .ok (.istore 4, 2) := by decide +kernel
theorem dX3_takeFirstFewest_56 : decode cX3_takeFirstFewest 56 = .ok (.aload_n 0, 1) := by decide +kernel
theorem dX3_takeFirstFewest_57 : decode cX3_takeFirstFewest 57 = .ok (.getfield 18, 3) := by decide +kernel
theorem dX3_takeFirstFewest_60 : decode cX3_takeFirstFewest 60 = .ok (.iload_n 1, 1) := by decide +kernel
theorem dX3_takeFirstFewest_61 : decode cX3_takeFirstFewest 61 = .ok (.aload_n 0, 1) := by decide +kernel
theorem dX3_takeFirstFewest_62 : decode cX3_takeFirstFewest 62 = .ok (.getfield 15, 3) := by decide +kernel
theorem dX3_takeFirstFewest_65 : decode cX3_takeFirstFewest 65 = .ok (.iload_n 1, 1) := by decide +kernel
theorem dX3_takeFirstFewest_66 : decode cX3_takeFirstFewest 66 = .ok (.bipush 6, 2) := by decide +kernel
theorem dX3_takeFirstFewest_68 : decode cX3_takeFirstFewest 68 = .ok (.imul, 1) := by decide +kernel
theorem dX3_takeFirstFewest_69 : decode cX3_takeFirstFewest 69 = .ok (.iload 5, 2) := by decide +kernel
theorem dX3_takeFirstFewest_71 : decode cX3_takeFirstFewest 71 = .ok (.iadd, 1) := by decide +kernel
theorem dX3_takeFirstFewest_72 : decode cX3_takeFirstFewest 72 = .ok (.iaload, 1) := by decide +kernel
theorem dX3_takeFirstFewest_73 : decode cX3_takeFirstFewest 73 = .ok (.iastore, 1) := by decide +kernel
theorem dX3_takeFirstFewest_74 : decode cX3_takeFirstFewest 74 = .ok (.iinc 5 1, 3) := by decide +kernel
theorem dX3_takeFirstFewest_77 : decode cX3_takeFirstFewest 77 = .ok (.goto (-71), 3) := by decide +kernel
theorem dX3_takeFirstFewest_80 : decode cX3_takeFirstFewest 80 = .ok (.iload 4, 2) := by decide +kernel
theorem dX3_takeFirstFewest_82 : decode cX3_takeFirstFewest 82 = .ok (.ireturn, 1) := by decide +kernel
theorem dX3_isBetter_0 : decode cX3_isBetter 0 = .ok (.aload_n 0, 1) := by decide +kernel
theorem dX3_isBetter_1 : decode cX3_isBetter 1 = .ok (.getfield 80, 3) := by decide +kernel
theorem dX3_isBetter_4 : decode cX3_isBetter 4 = .ok (.iload_n 2, 1) := by decide +kernel
theorem dX3_isBetter_5 : decode cX3_isBetter 5 = .ok (.iadd, 1) := by decide +kernel
theorem dX3_isBetter_6 : decode cX3_isBetter 6 = .ok (.aload_n 0, 1) := by decide +kernel
theorem dX3_isBetter_7 : decode cX3_isBetter 7 = .ok (.getfield 91, 3) := by decide +kernel
theorem dX3_isBetter_10 : decode cX3_isBetter 10 = .ok (.aload_n 0, 1) := by decide +kernel
theorem dX3_isBetter_11 : decode cX3_isBetter 11 = .ok (.getfield 94, 3) := by decide +kernel
theorem dX3_isBetter_14 : decode cX3_isBetter 14 = .ok (.iadd, 1) := by decide +kernel
theorem dX3_isBetter_15 : decode cX3_isBetter 15 = .ok (.if_icmp .eq 27, 3) := by decide +kernel
theorem dX3_isBetter_18 : decode cX3_isBetter 18 = .ok (.aload_n 0, 1) := by decide +kernel
theorem dX3_isBetter_19 : decode cX3_isBetter 19 = .ok (.getfield 80, 3) := by decide +kernel
theorem dX3_isBetter_22 : decode cX3_isBetter 22 = .ok (.iload_n 2, 1) := by decide +kernel
theorem dX3_isBetter_23 : decode cX3_isBetter 23 = .ok (.iadd, 1) := by decide +kernel
theorem dX3_isBetter_24 : decode cX3_isBetter 24 = .ok (.aload_n 0, 1) := by decide +kernel
theorem dX3_isBetter_25 : decode cX3_isBetter 25 = .ok (.getfield 91, 3) := by decide +kernel
theorem dX3_isBetter_28 : decode cX3_isBetter 28 = .ok (.aload_n 0, 1) := by decide +kernel
theorem dX3_isBetter_29 : decode cX3_isBetter 29 = .ok (.getfield 94, 3) := by decide +kernel
theorem dX3_isBetter_32 : decode cX3_isBetter 32 = .ok (.iadd, 1) := by decide +kernel
theorem dX3_isBetter_33 : decode cX3_isBetter 33 = .ok (.if_icmp .ge 7, 3) := by decide +kernel
theorem dX3_isBetter_36 : decode cX3_isBetter 36 = .ok (.iconst 1, 1) := by decide +kernel
theorem dX3_isBetter_37 : decode cX3_isBetter 37 = .ok (.goto 4, 3) := by decide +kernel
theorem dX3_isBetter_40 : decode cX3_isBetter 40 = .ok (.iconst 0, 1) := by decide +kernel
theorem dX3_isBetter_41 : decode cX3_isBetter 41 = .ok (.ireturn, 1) := by decide +kernel
theorem dX3_isBetter_42 : decode cX3_isBetter 42 = .ok (.iload_n 2, 1) := by decide +kernel
theorem dX3_isBetter_43 : decode cX3_isBetter 43 = .ok (.aload_n 0, 1) := by decide +kernel
theorem dX3_isBetter_44 : decode cX3_isBetter 44 = .ok (.getfield 94, 3) := by decide +kernel
theorem dX3_isBetter_47 : decode cX3_isBetter 47 = .ok (.if_icmp .eq 17, 3) := by decide +kernel
theorem dX3_isBetter_50 : decode cX3_isBetter 50 = .ok (.iload_n 2, 1) := by decide +kernel
theorem dX3_isBetter_51 : decode cX3_isBetter 51 = .ok (.aload_n 0, 1) := by decide +kernel
theorem dX3_isBetter_52 : decode cX3_isBetter 52 = .ok (.getfield 94, 3) := by decide +kernel
theorem dX3_isBetter_55 : decode cX3_isBetter 55 = .ok (.if_icmp .ge 7, 3) := by decide +kernel
theorem dX3_isBetter_58 : decode cX3_isBetter 58 = .ok (.iconst 1, 1) := by decide +kernel
theorem dX3_isBetter_59 : decode cX3_isBetter 59 = .ok (.goto 4, 3) := by decide +kernel
theorem dX3_isBetter_62 : decode cX3_isBetter 62 = .ok (.iconst 0, 1) := by decide +kernel
theorem dX3_isBetter_63 : decode cX3_isBetter 63 = .ok (.ireturn, 1) := by decide +kernel
theorem dX3_isBetter_64 : decode cX3_isBetter 64 = .ok (.iconst 0, 1) := by decide +kernel
theorem dX3_isBetter_65 : decode cX3_isBetter 65 = .ok (.istore_n 3, 1) := by decide +kernel
theorem dX3_isBetter_66 : decode cX3_isBetter 66 = .ok (.iload_n 3, 1) := by decide +kernel
theorem dX3_isBetter_67 : decode cX3_isBetter 67 = .ok (.iload_n 1, 1) := by decide +kernel
theorem dX3_isBetter_68 : decode cX3_isBetter 68 = .ok (.if_icmp .ge 45, 3) := by decide +kernel
theorem dX3_isBetter_71 : decode cX3_isBetter 71 = .ok (.aload_n 0, 1) := by decide +kernel
theorem dX3_isBetter_72 : decode cX3_isBetter 72 = .ok (.getfield 18, 3) := by decide +kernel
theorem dX3_isBetter_75 : decode cX3_isBetter 75 = .ok (.iload_n 3, 1) := by decide +kernel
theorem dX3_isBetter_76 : decode cX3_isBetter 76 = .ok (.iaload, 1) := by decide +kernel
theorem dX3_isBetter_77 : decode cX3_isBetter 77 = .ok (.aload_n 0, 1) := by decide +kernel
theorem dX3_isBetter_78 : decode cX3_isBetter 78 = .ok (.getfield 21, 3) := by decide +kernel
theorem dX3_isBetter_81 : decode cX3_isBetter 81 = .ok (.iload_n 3, 1) := by decide +kernel
theorem dX3_isBetter_82 : decode cX3_isBetter 82 = .ok (.iaload, 1) := by decide +kernel
theorem dX3_isBetter_83 : decode cX3_isBetter 83 = .ok (.if_icmp .eq 24, 3) := by decide +kernel
theorem dX3_isBetter_86 : decode cX3_isBetter 86 = .ok (.aload_n 0, 1) := by decide +kernel
theorem dX3_isBetter_87 : decode cX3_isBetter 87 = .ok (.getfield 18, 3) := by decide +kernel
theorem dX3_isBetter_90 : decode cX3_isBetter 90 = .ok (.iload_n 3, 1) := by decide +kernel
theorem dX3_isBetter_91 : decode cX3_isBetter 91 = .ok (.iaload, 1) := by decide +kernel
theorem dX3_isBetter_92 : decode cX3_isBetter 92 = .ok (.aload_n 0, 1) := by decide +kernel
theorem dX3_isBetter_93 : decode cX3_isBetter 93 = .ok (.getfield 21, 3) := by decide +kernel
theorem dX3_isBetter_96 : decode cX3_isBetter 96 = .ok (.iload_n 3, 1) := by decide +kernel
theorem dX3_isBetter_97 : decode cX3_isBetter 97 = .ok (.iaload, 1) := by decide +kernel
theorem dX3_isBetter_98 : decode cX3_isBetter 98 = .ok (.if_icmp .ge 7, 3) := by decide +kernel
theorem dX3_isBetter_101 : decode cX3_isBetter 101 = .ok (.iconst 1, 1) := by decide +kernel
theorem dX3_isBetter_102 : decode cX3_isBetter 102 = .ok (.goto 4, 3) := by decide +kernel
theorem dX3_isBetter_105 : decode cX3_isBetter 105 = .ok (.iconst 0, 1) := by decide +kernel
theorem dX3_isBetter_106 : decode cX3_isBetter 106 = .ok (.ireturn, 1) := by decide +kernel
theorem dX3_isBetter_107 : decode cX3_isBetter 107 = .ok (.iinc 3 1, 3) := by decide +kernel
theorem dX3_isBetter_110 : decode cX3_isBetter 110 = .ok (.goto (-44), 3) := by decide +kernel
theorem dX3_isBetter_113 : decode cX3_isBetter 113 = .ok (.iconst 0, 1) := by decide +kernel
theorem dX3_isBetter_114 : decode cX3_isBetter 114 = .ok (.ireturn, 1) := by decide +kernel
theorem dX3_keepTried_0 : decode cX3_keepTried 0 = .ok (.aload_n 0, 1) := by decide +kernel
theorem dX3_keepTried_1 : decode cX3_keepTried 1 = .ok (.iconst 1, 1) := by decide +kernel
theorem dX3_keepTried_2 : decode cX3_keepTried 2 = .ok (.putfield 24, 3) := by decide +kernel
theorem dX3_keepTried_5 : decode cX3_keepTried 5 = .ok (.aload_n 0, 1) := by decide +kernel
theorem dX3_keepTried_6 : decode cX3_keepTried 6 = .ok (.aload_n 0, 1) := by decide +kernel
theorem dX3_keepTried_7 : decode cX3_keepTried 7 = .ok (.getfield 80, 3) := by decide +kernel
theorem dX3_keepTried_10 : decode cX3_keepTried 10 = .ok (.putfield 91, 3) := by decide +kernel
theorem dX3_keepTried_13 : decode cX3_keepTried 13 = .ok (.aload_n 0, 1) := by decide +kernel
theorem dX3_keepTried_14 : decode cX3_keepTried 14 = .ok (.iload_n 1, 1) := by decide +kernel
theorem dX3_keepTried_15 : decode cX3_keepTried 15 = .ok (.putfield 94, 3) := by decide +kernel
theorem dX3_keepTried_18 : decode cX3_keepTried 18 = .ok (.aload_n 0, 1) := by decide +kernel
theorem dX3_keepTried_19 : decode cX3_keepTried 19 = .ok (.getfield 18, 3) := by decide +kernel
theorem dX3_keepTried_22 : decode cX3_keepTried 22 = .ok (.iconst 0, 1) := by decide +kernel
theorem dX3_keepTried_23 : decode cX3_keepTried 23 = .ok (.aload_n 0, 1) := by decide +kernel
theorem dX3_keepTried_24 : decode cX3_keepTried 24 = .ok (.getfield 21, 3) := by decide +kernel
theorem dX3_keepTried_27 : decode cX3_keepTried 27 = .ok (.iconst 0, 1) := by decide +kernel
theorem dX3_keepTried_28 : decode cX3_keepTried 28 = .ok (.iconst 5, 1) := by decide +kernel
theorem dX3_keepTried_29 : decode cX3_keepTried 29 = .ok (.invokestatic 97, 3) := by decide +kernel
theorem dX3_keepTried_32 : decode cX3_keepTried 32 = .ok (.return_, 1) := by decide +kernel
theorem dX4_init_0 : decode cX4_init 0 = .ok (.aload_n 0, 1) := by decide +kernel
theorem dX4_init_1 : decode cX4_init 1 = .ok (.invokespecial 3, 3) := by decide +kernel
theorem dX4_init_4 : decode cX4_init 4 = .ok (.aload_n 0, 1) := by decide +kernel
theorem dX4_init_5 : decode cX4_init 5 = .ok (.iconst 4, 1) := by decide +kernel
theorem dX4_init_6 : decode cX4_init 6 = .ok (.newarray .int, 2) := by decide +kernel
theorem dX4_init_8 : decode cX4_init 8 = .ok (.putfield 9, 3) := by decide +kernel
theorem dX4_init_11 : decode cX4_init 11 = .ok (.return_, 1) := by decide +kernel
theorem dX4_firstFault_0 : decode cX4_firstFault 0 = .ok (.aload_n 2, 1) := by decide +kernel
theorem dX4_firstFault_1 : decode cX4_firstFault 1 = .ok (.invokevirtual 15, 3) := by decide +kernel
theorem dX4_firstFault_4 : decode cX4_firstFault 4 = .ok (.aload_n 0, 1) := by decide +kernel
theorem dX4_firstFault_5 : decode cX4_firstFault 5 = .ok (.iconst 0, 1) := by decide +kernel
theorem dX4_firstFault_6 : decode cX4_firstFault 6 = .ok (.putfield 20, 3) := by decide +kernel
theorem dX4_firstFault_9 : decode cX4_firstFault 9 = .ok (.iconst 0, 1) := by decide +kernel
theorem dX4_firstFault_10 : decode cX4_firstFault 10 = .ok (.istore_n 3, 1) := by decide +kernel
theorem dX4_firstFault_11 : decode cX4_firstFault 11 = .ok (.iload_n 3, 1) := by decide +kernel
theorem dX4_firstFault_12 : decode cX4_firstFault 12 = .ok (.sipush 200, 3) := by decide +kernel
theorem dX4_firstFault_15 : decode cX4_firstFault 15 = .ok (.if_icmp .ge 38, 3) := by decide +kernel
theorem dX4_firstFault_18 : decode cX4_firstFault 18 = .ok (.aload_n 0, 1) := by decide +kernel
theorem dX4_firstFault_19 : decode cX4_firstFault 19 = .ok (.getfield 20, 3) := by decide +kernel
theorem dX4_firstFault_22 : decode cX4_firstFault 22 = .ok (.aload_n 1, 1) := by decide +kernel
theorem dX4_firstFault_23 : decode cX4_firstFault 23 = .ok (.getfield 24, 3) := by decide +kernel
theorem dX4_firstFault_26 : decode cX4_firstFault 26 = .ok (.if_icmp .ge 27, 3) := by decide +kernel
theorem dX4_firstFault_29 : decode cX4_firstFault 29 = .ok (.aload_n 0, 1) := by decide +kernel
theorem dX4_firstFault_30 : decode cX4_firstFault 30 = .ok (.getfield 20, 3) := by decide +kernel
theorem dX4_firstFault_33 : decode cX4_firstFault 33 = .ok (.istore 4, 2) := by decide +kernel
theorem dX4_firstFault_35 : decode cX4_firstFault 35 = .ok (.aload_n 0, 1) := by decide +kernel
theorem dX4_firstFault_36 : decode cX4_firstFault 36 = .ok (.aload_n 1, 1) := by decide +kernel
theorem dX4_firstFault_37 : decode cX4_firstFault 37 = .ok (.aload_n 2, 1) := by decide +kernel
theorem dX4_firstFault_38 : decode cX4_firstFault 38 = .ok (.invokevirtual 29, 3) := by decide +kernel
theorem dX4_firstFault_41 : decode cX4_firstFault 41 = .ok (.ifCond .ne 6, 3) := by decide +kernel
theorem dX4_firstFault_44 : decode cX4_firstFault 44 = .ok (.iload 4, 2) := by decide +kernel
theorem dX4_firstFault_46 : decode cX4_firstFault 46 = .ok (.ireturn, 1) := by decide +kernel
theorem dX4_firstFault_47 : decode cX4_firstFault 47 = .ok (.iinc 3 1, 3) := by decide +kernel
theorem dX4_firstFault_50 : decode cX4_firstFault 50 = .ok (.goto (-39), 3) := by decide +kernel
theorem dX4_firstFault_53 : decode cX4_firstFault 53 = .ok (.bipush (-4), 2) := by decide +kernel
theorem dX4_firstFault_55 : decode cX4_firstFault 55 = .ok (.ireturn, 1) := by decide +kernel
theorem dX4_takesItem_0 : decode cX4_takesItem 0 = .ok (.aload_n 0, 1) := by decide +kernel
theorem dX4_takesItem_1 : decode cX4_takesItem 1 = .ok (.aload_n 1, 1) := by decide +kernel
theorem dX4_takesItem_2 : decode cX4_takesItem 2 = .ok (.ldc 33, 2) := by decide +kernel
theorem dX4_takesItem_4 : decode cX4_takesItem 4 = .ok (.invokevirtual 35, 3) := by decide +kernel
theorem dX4_takesItem_7 : decode cX4_takesItem 7 = .ok (.ifCond .eq 37, 3) := by decide +kernel
theorem dX4_takesItem_10 : decode cX4_takesItem 10 = .ok (.aload_n 0, 1) := by decide +kernel
theorem dX4_takesItem_11 : decode cX4_takesItem 11 = .ok (.aload_n 1, 1) := by decide +kernel
theorem dX4_takesItem_12 : decode cX4_takesItem 12 = .ok (.iconst 2, 1) := by decide +kernel
theorem dX4_takesItem_13 : decode cX4_takesItem 13 = .ok (.invokevirtual 39, 3) := by decide +kernel
theorem dX4_takesItem_16 : decode cX4_takesItem 16 = .ok (.ifCond .eq 26, 3) := by decide +kernel
theorem dX4_takesItem_19 : decode cX4_takesItem 19 = .ok (.aload_n 2, 1) := by decide +kernel
theorem dX4_takesItem_20 : decode cX4_takesItem 20 = .ok (.aload_n 0, 1) := by decide +kernel
theorem dX4_takesItem_21 : decode cX4_takesItem 21 = .ok (.getfield 9, 3) := by decide +kernel
theorem dX4_takesItem_24 : decode cX4_takesItem 24 = .ok (.iconst 0, 1) := by decide +kernel
theorem dX4_takesItem_25 : decode cX4_takesItem 25 = .ok (.iaload, 1) := by decide +kernel
theorem dX4_takesItem_26 : decode cX4_takesItem 26 = .ok (.aload_n 0, 1) := by decide +kernel
theorem dX4_takesItem_27 : decode cX4_takesItem 27 = .ok (.getfield 9, 3) := by decide +kernel
theorem dX4_takesItem_30 : decode cX4_takesItem 30 = .ok (.iconst 1, 1) := by decide +kernel
theorem dX4_takesItem_31 : decode cX4_takesItem 31 = .ok (.iaload, 1) := by decide +kernel
theorem dX4_takesItem_32 : decode cX4_takesItem 32 = .ok (.invokevirtual 43, 3) := by decide +kernel
theorem dX4_takesItem_35 : decode cX4_takesItem 35 = .ok (.ifCond .eq 7, 3) := by decide +kernel
theorem dX4_takesItem_38 : decode cX4_takesItem 38 = .ok (.iconst 1, 1) := by decide +kernel
theorem dX4_takesItem_39 : decode cX4_takesItem 39 = .ok (.goto 4, 3) := by decide +kernel
theorem dX4_takesItem_42 : decode cX4_takesItem 42 = .ok (.iconst 0, 1) := by decide +kernel
theorem dX4_takesItem_43 : decode cX4_takesItem 43 = .ok (.ireturn, 1) := by decide +kernel
theorem dX4_takesItem_44 : decode cX4_takesItem 44 = .ok (.aload_n 0, 1) := by decide +kernel
theorem dX4_takesItem_45 : decode cX4_takesItem 45 = .ok (.aload_n 1, 1) := by decide +kernel
theorem dX4_takesItem_46 : decode cX4_takesItem 46 = .ok (.ldc 47, 2) := by decide +kernel
theorem dX4_takesItem_48 : decode cX4_takesItem 48 = .ok (.invokevirtual 35, 3) := by decide +kernel
theorem dX4_takesItem_51 : decode cX4_takesItem 51 = .ok (.ifCond .eq 49, 3) := by decide +kernel
theorem dX4_takesItem_54 : decode cX4_takesItem 54 = .ok (.aload_n 0, 1) := by decide +kernel
theorem dX4_takesItem_55 : decode cX4_takesItem 55 = .ok (.aload_n 1, 1) := by decide +kernel
theorem dX4_takesItem_56 : decode cX4_takesItem 56 = .ok (.iconst 4, 1) := by decide +kernel
theorem dX4_takesItem_57 : decode cX4_takesItem 57 = .ok (.invokevirtual 39, 3) := by decide +kernel
theorem dX4_takesItem_60 : decode cX4_takesItem 60 = .ok (.ifCond .eq 38, 3) := by decide +kernel
theorem dX4_takesItem_63 : decode cX4_takesItem 63 = .ok (.aload_n 2, 1) := by decide +kernel
theorem dX4_takesItem_64 : decode cX4_takesItem 64 = .ok (.aload_n 0, 1) := by decide +kernel
theorem dX4_takesItem_65 : decode cX4_takesItem 65 = .ok (.getfield 9, 3) := by decide +kernel
theorem dX4_takesItem_68 : decode cX4_takesItem 68 = .ok (.iconst 0, 1) := by decide +kernel
theorem dX4_takesItem_69 : decode cX4_takesItem 69 = .ok (.iaload, 1) := by decide +kernel
theorem dX4_takesItem_70 : decode cX4_takesItem 70 = .ok (.aload_n 0, 1) := by decide +kernel
theorem dX4_takesItem_71 : decode cX4_takesItem 71 = .ok (.getfield 9, 3) := by decide +kernel
theorem dX4_takesItem_74 : decode cX4_takesItem 74 = .ok (.iconst 1, 1) := by decide +kernel
theorem dX4_takesItem_75 : decode cX4_takesItem 75 = .ok (.iaload, 1) := by decide +kernel
theorem dX4_takesItem_76 : decode cX4_takesItem 76 = .ok (.aload_n 0, 1) := by decide +kernel
theorem dX4_takesItem_77 : decode cX4_takesItem 77 = .ok (.getfield 9, 3) := by decide +kernel
theorem dX4_takesItem_80 : decode cX4_takesItem 80 = .ok (.iconst 2, 1) := by decide +kernel
theorem dX4_takesItem_81 : decode cX4_takesItem 81 = .ok (.iaload, 1) := by decide +kernel
theorem dX4_takesItem_82 : decode cX4_takesItem 82 = .ok (.aload_n 0, 1) := by decide +kernel
theorem dX4_takesItem_83 : decode cX4_takesItem 83 = .ok (.getfield 9, 3) := by decide +kernel
theorem dX4_takesItem_86 : decode cX4_takesItem 86 = .ok (.iconst 3, 1) := by decide +kernel
theorem dX4_takesItem_87 : decode cX4_takesItem 87 = .ok (.iaload, 1) := by decide +kernel
theorem dX4_takesItem_88 : decode cX4_takesItem 88 = .ok (.invokevirtual 49, 3) := by decide +kernel
theorem dX4_takesItem_91 : decode cX4_takesItem 91 = .ok (.ifCond .eq 7, 3) := by decide +kernel
theorem dX4_takesItem_94 : decode cX4_takesItem 94 = .ok (.iconst 1, 1) := by decide +kernel
theorem dX4_takesItem_95 : decode cX4_takesItem 95 = .ok (.goto 4, 3) := by decide +kernel
theorem dX4_takesItem_98 : decode cX4_takesItem 98 = .ok (.iconst 0, 1) := by decide +kernel
theorem dX4_takesItem_99 : decode cX4_takesItem 99 = .ok (.ireturn, 1) := by decide +kernel
theorem dX4_takesItem_100 : decode cX4_takesItem 100 = .ok (.aload_n 0, 1) := by decide +kernel
theorem dX4_takesItem_101 : decode cX4_takesItem 101 = .ok (.aload_n 1, 1) := by decide +kernel
theorem dX4_takesItem_102 : decode cX4_takesItem 102 = .ok (.ldc 53, 2) := by decide +kernel
theorem dX4_takesItem_104 : decode cX4_takesItem 104 = .ok (.invokevirtual 35, 3) := by decide +kernel
theorem dX4_takesItem_107 : decode cX4_takesItem 107 = .ok (.ifCond .eq 49, 3) := by decide +kernel
theorem dX4_takesItem_110 : decode cX4_takesItem 110 = .ok (.aload_n 0, 1) := by decide +kernel
theorem dX4_takesItem_111 : decode cX4_takesItem 111 = .ok (.aload_n 1, 1) := by decide +kernel
theorem dX4_takesItem_112 : decode cX4_takesItem 112 = .ok (.iconst 4, 1) := by decide +kernel
theorem dX4_takesItem_113 : decode cX4_takesItem 113 = .ok (.invokevirtual 39, 3) := by decide +kernel
theorem dX4_takesItem_116 : decode cX4_takesItem 116 = .ok (.ifCond .eq 38, 3) := by decide +kernel
theorem dX4_takesItem_119 : decode cX4_takesItem 119 = .ok (.aload_n 2, 1) := by decide +kernel
theorem dX4_takesItem_120 : decode cX4_takesItem 120 = .ok (.aload_n 0, 1) := by decide +kernel
theorem dX4_takesItem_121 : decode cX4_takesItem 121 = .ok (.getfield 9, 3) := by decide +kernel
theorem dX4_takesItem_124 : decode cX4_takesItem 124 = .ok (.iconst 0, 1) := by decide +kernel
theorem dX4_takesItem_125 : decode cX4_takesItem 125 = .ok (.iaload, 1) := by decide +kernel
theorem dX4_takesItem_126 : decode cX4_takesItem 126 = .ok (.aload_n 0, 1) := by decide +kernel
theorem dX4_takesItem_127 : decode cX4_takesItem 127 = .ok (.getfield 9, 3) := by decide +kernel
theorem dX4_takesItem_130 : decode cX4_takesItem 130 = .ok (.iconst 1, 1) := by decide +kernel
theorem dX4_takesItem_131 : decode cX4_takesItem 131 = .ok (.iaload, 1) := by decide +kernel
theorem dX4_takesItem_132 : decode cX4_takesItem 132 = .ok (.aload_n 0, 1) := by decide +kernel
theorem dX4_takesItem_133 : decode cX4_takesItem 133 = .ok (.getfield 9, 3) := by decide +kernel
theorem dX4_takesItem_136 : decode cX4_takesItem 136 = .ok (.iconst 2, 1) := by decide +kernel
theorem dX4_takesItem_137 : decode cX4_takesItem 137 = .ok (.iaload, 1) := by decide +kernel
theorem dX4_takesItem_138 : decode cX4_takesItem 138 = .ok (.aload_n 0, 1) := by decide +kernel
theorem dX4_takesItem_139 : decode cX4_takesItem 139 = .ok (.getfield 9, 3) := by decide +kernel
theorem dX4_takesItem_142 : decode cX4_takesItem 142 = .ok (.iconst 3, 1) := by decide +kernel
theorem dX4_takesItem_143 : decode cX4_takesItem 143 = .ok (.iaload, 1) := by decide +kernel
theorem dX4_takesItem_144 : decode cX4_takesItem 144 = .ok (.invokevirtual 55, 3) := by decide +kernel
theorem dX4_takesItem_147 : decode cX4_takesItem 147 = .ok (.ifCond .eq 7, 3) := by decide +kernel
theorem dX4_takesItem_150 : decode cX4_takesItem 150 = .ok (.iconst 1, 1) := by decide +kernel
theorem dX4_takesItem_151 : decode cX4_takesItem 151 = .ok (.goto 4, 3) := by decide +kernel
theorem dX4_takesItem_154 : decode cX4_takesItem 154 = .ok (.iconst 0, 1) := by decide +kernel
theorem dX4_takesItem_155 : decode cX4_takesItem 155 = .ok (.ireturn, 1) := by decide +kernel
theorem dX4_takesItem_156 : decode cX4_takesItem 156 = .ok (.aload_n 0, 1) := by decide +kernel
theorem dX4_takesItem_157 : decode cX4_takesItem 157 = .ok (.aload_n 1, 1) := by decide +kernel
theorem dX4_takesItem_158 : decode cX4_takesItem 158 = .ok (.ldc 58, 2) := by decide +kernel
theorem dX4_takesItem_160 : decode cX4_takesItem 160 = .ok (.invokevirtual 35, 3) := by decide +kernel
theorem dX4_takesItem_163 : decode cX4_takesItem 163 = .ok (.ifCond .eq 31, 3) := by decide +kernel
theorem dX4_takesItem_166 : decode cX4_takesItem 166 = .ok (.aload_n 0, 1) := by decide +kernel
theorem dX4_takesItem_167 : decode cX4_takesItem 167 = .ok (.aload_n 1, 1) := by decide +kernel
theorem dX4_takesItem_168 : decode cX4_takesItem 168 = .ok (.iconst 1, 1) := by decide +kernel
theorem dX4_takesItem_169 : decode cX4_takesItem 169 = .ok (.invokevirtual 39, 3) := by decide +kernel
theorem dX4_takesItem_172 : decode cX4_takesItem 172 = .ok (.ifCond .eq 20, 3) := by decide +kernel
theorem dX4_takesItem_175 : decode cX4_takesItem 175 = .ok (.aload_n 2, 1) := by decide +kernel
theorem dX4_takesItem_176 : decode cX4_takesItem 176 = .ok (.aload_n 0, 1) := by decide +kernel
theorem dX4_takesItem_177 : decode cX4_takesItem 177 = .ok (.getfield 9, 3) := by decide +kernel
theorem dX4_takesItem_180 : decode cX4_takesItem 180 = .ok (.iconst 0, 1) := by decide +kernel
theorem dX4_takesItem_181 : decode cX4_takesItem 181 = .ok (.iaload, 1) := by decide +kernel
theorem dX4_takesItem_182 : decode cX4_takesItem 182 = .ok (.invokevirtual 60, 3) := by decide +kernel
theorem dX4_takesItem_185 : decode cX4_takesItem 185 = .ok (.ifCond .eq 7, 3) := by decide +kernel
theorem dX4_takesItem_188 : decode cX4_takesItem 188 = .ok (.iconst 1, 1) := by decide +kernel
theorem dX4_takesItem_189 : decode cX4_takesItem 189 = .ok (.goto 4, 3) := by decide +kernel
theorem dX4_takesItem_192 : decode cX4_takesItem 192 = .ok (.iconst 0, 1) := by decide +kernel
theorem dX4_takesItem_193 : decode cX4_takesItem 193 = .ok (.ireturn, 1) := by decide +kernel
theorem dX4_takesItem_194 : decode cX4_takesItem 194 = .ok (.iconst 0, 1) := by decide +kernel
theorem dX4_takesItem_195 : decode cX4_takesItem 195 = .ok (.ireturn, 1) := by decide +kernel
theorem dX4_takesWord_0 : decode cX4_takesWord 0 = .ok (.iconst 0, 1) := by decide +kernel
theorem dX4_takesWord_1 : decode cX4_takesWord 1 = .ok (.istore_n 3, 1) := by decide +kernel
theorem dX4_takesWord_2 : decode cX4_takesWord 2 = .ok (.iload_n 3, 1) := by decide +kernel
theorem dX4_takesWord_3 : decode cX4_takesWord 3 = .ok (.aload_n 2, 1) := by decide +kernel
theorem dX4_takesWord_4 : decode cX4_takesWord 4 = .ok (.invokevirtual 64, 3) := by decide +kernel
theorem dX4_takesWord_7 : decode cX4_takesWord 7 = .ok (.if_icmp .ge 29, 3) := by decide +kernel
theorem dX4_takesWord_10 : decode cX4_takesWord 10 = .ok (.aload_n 1, 1) := by decide +kernel
theorem dX4_takesWord_11 : decode cX4_takesWord 11 = .ok (.aload_n 0, 1) := by decide +kernel
theorem dX4_takesWord_12 : decode cX4_takesWord 12 = .ok (.getfield 20, 3) := by decide +kernel
theorem dX4_takesWord_15 : decode cX4_takesWord 15 = .ok (.iload_n 3, 1) := by decide +kernel
theorem dX4_takesWord_16 : decode cX4_takesWord 16 = .ok (.iadd, 1) := by decide +kernel
theorem dX4_takesWord_17 : decode cX4_takesWord 17 = .ok (.invokevirtual 69, 3) := by decide +kernel
theorem dX4_takesWord_20 : decode cX4_takesWord 20 = .ok (.aload_n 2, 1) := by decide +kernel
theorem dX4_takesWord_21 : decode cX4_takesWord 21 = .ok (.iload_n 3, 1) := by decide +kernel
theorem dX4_takesWord_22 : decode cX4_takesWord 22 = .ok (.invokevirtual 73, 3) := by decide +kernel
theorem dX4_takesWord_25 : decode cX4_takesWord 25 = .ok (.if_icmp .eq 5, 3) := by decide +kernel
theorem dX4_takesWord_28 : decode cX4_takesWord 28 = .ok (.iconst 0, 1) := by decide +kernel
theorem dX4_takesWord_29 : decode cX4_takesWord 29 = .ok (.ireturn, 1) := by decide +kernel
theorem dX4_takesWord_30 : decode cX4_takesWord 30 = .ok (.iinc 3 1, 3) := by decide +kernel
theorem dX4_takesWord_33 : decode cX4_takesWord 33 = .ok (.goto (-31), 3) := by decide +kernel
theorem dX4_takesWord_36 : decode cX4_takesWord 36 = .ok (.aload_n 0, 1) := by decide +kernel
theorem dX4_takesWord_37 : decode cX4_takesWord 37 = .ok (.dup, 1) := by decide +kernel
theorem dX4_takesWord_38 : decode cX4_takesWord 38 = .ok (.getfield 20, 3) := by decide +kernel
theorem dX4_takesWord_41 : decode cX4_takesWord 41 = .ok (.aload_n 2, 1) := by decide +kernel
theorem dX4_takesWord_42 : decode cX4_takesWord 42 = .ok (.invokevirtual 64, 3) := by decide +kernel
theorem dX4_takesWord_45 : decode cX4_takesWord 45 = .ok (.iadd, 1) := by decide +kernel
theorem dX4_takesWord_46 : decode cX4_takesWord 46 = .ok (.putfield 20, 3) := by decide +kernel
theorem dX4_takesWord_49 : decode cX4_takesWord 49 = .ok (.iconst 1, 1) := by decide +kernel
theorem dX4_takesWord_50 : decode cX4_takesWord 50 = .ok (.ireturn, 1) := by decide +kernel
theorem dX4_takesNumbers_0 : decode cX4_takesNumbers 0 = .ok (.iconst 0, 1) := by decide +kernel
theorem dX4_takesNumbers_1 : decode cX4_takesNumbers 1 = .ok (.istore_n 3, 1) := by decide +kernel
theorem dX4_takesNumbers_2 : decode cX4_takesNumbers 2 = .ok (.iload_n 3, 1) := by decide +kernel
theorem dX4_takesNumbers_3 : decode cX4_takesNumbers 3 = .ok (.iload_n 2, 1) := by decide +kernel
theorem dX4_takesNumbers_4 : decode cX4_takesNumbers 4 = .ok (.if_icmp .ge 78, 3) := by decide +kernel
theorem dX4_takesNumbers_7 : decode cX4_takesNumbers 7 = .ok (.iload_n 3, 1) := by decide +kernel
theorem dX4_takesNumbers_8 : decode cX4_takesNumbers 8 = .ok (.iconst 4, 1) := by decide +kernel
theorem dX4_takesNumbers_9 : decode cX4_takesNumbers 9 = .ok (.if_icmp .ge 73, 3) := by decide +kernel
theorem dX4_takesNumbers_12 : decode cX4_takesNumbers 12 = .ok (.aload_n 1, 1) := by decide +kernel
theorem dX4_takesNumbers_13 : decode cX4_takesNumbers 13 = .ok (.aload_n 0, 1) := by decide +kernel
theorem dX4_takesNumbers_14 : decode cX4_takesNumbers 14 = .ok (.getfield 20, 3) := by decide +kernel
theorem dX4_takesNumbers_17 : decode cX4_takesNumbers 17 = .ok (.invokevirtual 69, 3) := by decide +kernel
theorem dX4_takesNumbers_20 : decode cX4_takesNumbers 20 = .ok (.invokestatic 76, 3) := by decide +kernel
theorem dX4_takesNumbers_23 : decode cX4_takesNumbers 23 = .ok (.ifCond .ne 5, 3) := by decide +kernel
theorem dX4_takesNumbers_26 : decode cX4_takesNumbers 26 = .ok (.iconst 0, 1) := by decide +kernel
theorem dX4_takesNumbers_27 : decode cX4_takesNumbers 27 = .ok (.ireturn, 1) := by decide +kernel
theorem dX4_takesNumbers_28 : decode cX4_takesNumbers 28 = .ok (.aload_n 0, 1) := by decide +kernel
theorem dX4_takesNumbers_29 : decode cX4_takesNumbers 29 = .ok (.getfield 9, 3) := by decide +kernel
theorem dX4_takesNumbers_32 : decode cX4_takesNumbers 32 = .ok (.iload_n 3, 1) := by decide +kernel
theorem dX4_takesNumbers_33 : decode cX4_takesNumbers 33 = .ok (.aload_n 0, 1) := by decide +kernel
theorem dX4_takesNumbers_34 : decode cX4_takesNumbers 34 = .ok (.aload_n 1, 1) := by decide +kernel
theorem dX4_takesNumbers_35 : decode cX4_takesNumbers 35 = .ok (.invokevirtual 80, 3) := by decide +kernel
theorem dX4_takesNumbers_38 : decode cX4_takesNumbers 38 = .ok (.iastore, 1) := by decide +kernel
theorem dX4_takesNumbers_39 : decode cX4_takesNumbers 39 = .ok (.aload_n 1, 1) := by decide +kernel
theorem dX4_takesNumbers_40 : decode cX4_takesNumbers 40 = .ok (.aload_n 0, 1) := by decide +kernel
theorem dX4_takesNumbers_41 : decode cX4_takesNumbers 41 = .ok (.getfield 20, 3) := by decide +kernel
theorem dX4_takesNumbers_44 : decode cX4_takesNumbers 44 = .ok (.invokevirtual 69, 3) := by decide +kernel
theorem dX4_takesNumbers_47 : decode cX4_takesNumbers 47 = .ok (.iload_n 3, 1) := by decide +kernel
theorem dX4_takesNumbers_48 : decode cX4_takesNumbers 48 = .ok (.iload_n 2, 1) := by decide +kernel
theorem dX4_takesNumbers_49 : decode cX4_takesNumbers 49 = .ok (.iconst 1, 1) := by decide +kernel
theorem dX4_takesNumbers_50 : decode cX4_takesNumbers 50 = .ok (.isub, 1) := by decide +kernel
theorem dX4_takesNumbers_51 : decode cX4_takesNumbers 51 = .ok (.if_icmp .ne 8, 3) := by decide +kernel
theorem dX4_takesNumbers_54 : decode cX4_takesNumbers 54 = .ok (.bipush 59, 2) := by decide +kernel
theorem dX4_takesNumbers_56 : decode cX4_takesNumbers 56 = .ok (.goto 5, 3) := by decide +kernel
theorem dX4_takesNumbers_59 : decode cX4_takesNumbers 59 = .ok (.bipush 44, 2) := by decide +kernel
theorem dX4_takesNumbers_61 : decode cX4_takesNumbers 61 = .ok (.if_icmp .eq 5, 3) := by decide +kernel
theorem dX4_takesNumbers_64 : decode cX4_takesNumbers 64 = .ok (.iconst 0, 1) := by decide +kernel
theorem dX4_takesNumbers_65 : decode cX4_takesNumbers 65 = .ok (.ireturn, 1) := by decide +kernel
theorem dX4_takesNumbers_66 : decode cX4_takesNumbers 66 = .ok (.aload_n 0, 1) := by decide +kernel
theorem dX4_takesNumbers_67 : decode cX4_takesNumbers 67 = .ok (.dup, 1) := by decide +kernel
theorem dX4_takesNumbers_68 : decode cX4_takesNumbers 68 = .ok (.getfield 20, 3) := by decide +kernel
theorem dX4_takesNumbers_71 : decode cX4_takesNumbers 71 = .ok (.iconst 1, 1) := by decide +kernel
theorem dX4_takesNumbers_72 : decode cX4_takesNumbers 72 = .ok (.iadd, 1) := by decide +kernel
theorem dX4_takesNumbers_73 : decode cX4_takesNumbers 73 = .ok (.putfield 20, 3) := by decide +kernel
theorem dX4_takesNumbers_76 : decode cX4_takesNumbers 76 = .ok (.iinc 3 1, 3) := by decide +kernel
theorem dX4_takesNumbers_79 : decode cX4_takesNumbers 79 = .ok (.goto (-77), 3) := by decide +kernel
theorem dX4_takesNumbers_82 : decode cX4_takesNumbers 82 = .ok (.iconst 1, 1) := by decide +kernel
theorem dX4_takesNumbers_83 : decode cX4_takesNumbers 83 = .ok (.ireturn, 1) := by decide +kernel
theorem dX4_takeNumber_0 : decode cX4_takeNumber 0 = .ok (.aload_n 1, 1) := by decide +kernel
theorem dX4_takeNumber_1 : decode cX4_takeNumber 1 = .ok (.aload_n 0, 1) := by decide +kernel
theorem dX4_takeNumber_2 : decode cX4_takeNumber 2 = .ok (.getfield 20, 3) := by decide +kernel
theorem dX4_takeNumber_5 : decode cX4_takeNumber 5 = .ok (.invokevirtual 69, 3) := by decide +kernel
theorem dX4_takeNumber_8 : decode cX4_takeNumber 8 = .ok (.bipush 48, 2) := by decide +kernel
theorem dX4_takeNumber_10 : decode cX4_takeNumber 10 = .ok (.isub, 1) := by decide +kernel
theorem dX4_takeNumber_11 : decode cX4_takeNumber 11 = .ok (.istore_n 2, 1) := by decide +kernel
theorem dX4_takeNumber_12 : decode cX4_takeNumber 12 = .ok (.aload_n 0, 1) := by decide +kernel
theorem dX4_takeNumber_13 : decode cX4_takeNumber 13 = .ok (.dup, 1) := by decide +kernel
theorem dX4_takeNumber_14 : decode cX4_takeNumber 14 = .ok (.getfield 20, 3) := by decide +kernel
theorem dX4_takeNumber_17 : decode cX4_takeNumber 17 = .ok (.iconst 1, 1) := by decide +kernel
theorem dX4_takeNumber_18 : decode cX4_takeNumber 18 = .ok (.iadd, 1) := by decide +kernel
theorem dX4_takeNumber_19 : decode cX4_takeNumber 19 = .ok (.putfield 20, 3) := by decide +kernel
theorem dX4_takeNumber_22 : decode cX4_takeNumber 22 = .ok (.aload_n 1, 1) := by decide +kernel
theorem dX4_takeNumber_23 : decode cX4_takeNumber 23 = .ok (.aload_n 0, 1) := by decide +kernel
theorem dX4_takeNumber_24 : decode cX4_takeNumber 24 = .ok (.getfield 20, 3) := by decide +kernel
theorem dX4_takeNumber_27 : decode cX4_takeNumber 27 = .ok (.invokevirtual 69, 3) := by decide +kernel
theorem dX4_takeNumber_30 : decode cX4_takeNumber 30 = .ok (.invokestatic 76, 3) := by decide +kernel
theorem dX4_takeNumber_33 : decode cX4_takeNumber 33 = .ok (.ifCond .eq 30, 3) := by decide +kernel
theorem dX4_takeNumber_36 : decode cX4_takeNumber 36 = .ok (.iload_n 2, 1) := by decide +kernel
theorem dX4_takeNumber_37 : decode cX4_takeNumber 37 = .ok (.bipush 10, 2) := by decide +kernel
theorem dX4_takeNumber_39 : decode cX4_takeNumber 39 = .ok (.imul, 1) := by decide +kernel
theorem dX4_takeNumber_40 : decode cX4_takeNumber 40 = .ok (.aload_n 1, 1) := by decide +kernel
theorem dX4_takeNumber_41 : decode cX4_takeNumber 41 = .ok (.aload_n 0, 1) := by decide +kernel
theorem dX4_takeNumber_42 : decode cX4_takeNumber 42 = .ok (.getfield 20, 3) := by decide +kernel
theorem dX4_takeNumber_45 : decode cX4_takeNumber 45 = .ok (.invokevirtual 69, 3) := by decide +kernel
theorem dX4_takeNumber_48 : decode cX4_takeNumber 48 = .ok (.iadd, 1) := by decide +kernel
theorem dX4_takeNumber_49 : decode cX4_takeNumber 49 = .ok (.bipush 48, 2) := by decide +kernel
theorem dX4_takeNumber_51 : decode cX4_takeNumber 51 = .ok (.isub, 1) := by decide +kernel
theorem dX4_takeNumber_52 : decode cX4_takeNumber 52 = .ok (.istore_n 2, 1) := by decide +kernel
theorem dX4_takeNumber_53 : decode cX4_takeNumber 53 = .ok (.aload_n 0, 1) := by decide +kernel
theorem dX4_takeNumber_54 : decode cX4_takeNumber 54 = .ok (.dup, 1) := by decide +kernel
theorem dX4_takeNumber_55 : decode cX4_takeNumber 55 = .ok (.getfield 20, 3) := by decide +kernel
theorem dX4_takeNumber_58 : decode cX4_takeNumber 58 = .ok (.iconst 1, 1) := by decide +kernel
theorem dX4_takeNumber_59 : decode cX4_takeNumber 59 = .ok (.iadd, 1) := by decide +kernel
theorem dX4_takeNumber_60 : decode cX4_takeNumber 60 = .ok (.putfield 20, 3) := by decide +kernel
theorem dX4_takeNumber_63 : decode cX4_takeNumber 63 = .ok (.iload_n 2, 1) := by decide +kernel
theorem dX4_takeNumber_64 : decode cX4_takeNumber 64 = .ok (.ireturn, 1) := by decide +kernel
theorem dX4_isFigure_0 : decode cX4_isFigure 0 = .ok (.iload_n 0, 1) := by decide +kernel
theorem dX4_isFigure_1 : decode cX4_isFigure 1 = .ok (.bipush 48, 2) := by decide +kernel
theorem dX4_isFigure_3 : decode cX4_isFigure 3 = .ok (.if_icmp .lt 13, 3) := by decide +kernel
theorem dX4_isFigure_6 : decode cX4_isFigure 6 = .ok (.iload_n 0, 1) := by decide +kernel
theorem dX4_isFigure_7 : decode cX4_isFigure 7 = .ok (.bipush 57, 2) := by decide +kernel
theorem dX4_isFigure_9 : decode cX4_isFigure 9 = .ok (.if_icmp .gt 7, 3) := by decide +kernel
theorem dX4_isFigure_12 : decode cX4_isFigure 12 = .ok (.iconst 1, 1) := by decide +kernel
theorem dX4_isFigure_13 : decode cX4_isFigure 13 = .ok (.goto 4, 3) := by decide +kernel
theorem dX4_isFigure_16 : decode cX4_isFigure 16 = .ok (.iconst 0, 1) := by decide +kernel
theorem dX4_isFigure_17 : decode cX4_isFigure 17 = .ok (.ireturn, 1) := by decide +kernel
theorem dX5_init_0 : decode cX5_init 0 = .ok (.aload_n 0, 1) := by decide +kernel
theorem dX5_init_1 : decode cX5_init 1 = .ok (.invokespecial 3, 3) := by decide +kernel
theorem dX5_init_4 : decode cX5_init 4 = .ok (.aload_n 0, 1) := by decide +kernel
theorem dX5_init_5 : decode cX5_init 5 = .ok (.bipush 12, 2) := by decide +kernel
theorem dX5_init_7 : decode cX5_init 7 = .ok (.newarray .int, 2) := by decide +kernel
theorem dX5_init_9 : decode cX5_init 9 = .ok (.putfield 9, 3) := by decide +kernel
theorem dX5_init_12 : decode cX5_init 12 = .ok (.aload_n 0, 1) := by decide +kernel
end
section
theorem dX5_init_13 : decode cX5_init 13 = .ok (.bipush 6, 2) := by decide +kernel
theorem dX5_init_15 : decode cX5_init 15 = .ok (.newarray .int, 2) := by decide +kernel
theorem dX5_init_17 : decode cX5_init 17 = .ok (.putfield 15, 3) := by decide +kernel
theorem dX5_init_20 : decode cX5_init 20 = .ok (.aload_n 0, 1) := by decide +kernel
theorem dX5_init_21 : decode cX5_init 21 = .ok (.iconst 2, 1) := by decide +kernel
theorem dX5_init_22 : decode cX5_init 22 = .ok (.newarray .int, 2) := by decide +kernel
theorem dX5_init_24 : decode cX5_init 24 = .ok (.putfield 18, 3) := by decide +kernel
theorem dX5_init_27 : decode cX5_init 27 = .ok (.return_, 1) := by decide +kernel
theorem dX5_begin_0 : decode cX5_begin 0 = .ok (.aload_n 0, 1) := by decide +kernel
theorem dX5_begin_1 : decode cX5_begin 1 = .ok (.getfield 9, 3) := by decide +kernel
theorem dX5_begin_4 : decode cX5_begin 4 = .ok (.iconst 0, 1) := by decide +kernel
theorem dX5_begin_5 : decode cX5_begin 5 = .ok (.invokestatic 21, 3) := by decide +kernel
theorem dX5_begin_8 : decode cX5_begin 8 = .ok (.aload_n 0, 1) := by decide +kernel
theorem dX5_begin_9 : decode cX5_begin 9 = .ok (.getfield 15, 3) := by decide +kernel
theorem dX5_begin_12 : decode cX5_begin 12 = .ok (.iconst 0, 1) := by decide +kernel
theorem dX5_begin_13 : decode cX5_begin 13 = .ok (.invokestatic 21, 3) := by decide +kernel
theorem dX5_begin_16 : decode cX5_begin 16 = .ok (.aload_n 1, 1) := by decide +kernel
theorem dX5_begin_17 : decode cX5_begin 17 = .ok (.getfield 27, 3) := by decide +kernel
theorem dX5_begin_20 : decode cX5_begin 20 = .ok (.iconst 0, 1) := by decide +kernel
theorem dX5_begin_21 : decode cX5_begin 21 = .ok (.aload_n 0, 1) := by decide +kernel
theorem dX5_begin_22 : decode cX5_begin 22 = .ok (.getfield 18, 3) := by decide +kernel
theorem dX5_begin_25 : decode cX5_begin 25 = .ok (.iconst 0, 1) := by decide +kernel
theorem dX5_begin_26 : decode cX5_begin 26 = .ok (.iconst 2, 1) := by decide +kernel
theorem dX5_begin_27 : decode cX5_begin 27 = .ok (.invokestatic 30, 3) := by decide +kernel
theorem dX5_begin_30 : decode cX5_begin 30 = .ok (.aload_n 0, 1) := by decide +kernel
theorem dX5_begin_31 : decode cX5_begin 31 = .ok (.iconst 0, 1) := by decide +kernel
theorem dX5_begin_32 : decode cX5_begin 32 = .ok (.putfield 36, 3) := by decide +kernel
theorem dX5_begin_35 : decode cX5_begin 35 = .ok (.aload_n 0, 1) := by decide +kernel
theorem dX5_begin_36 : decode cX5_begin 36 = .ok (.iconst 0, 1) := by decide +kernel
theorem dX5_begin_37 : decode cX5_begin 37 = .ok (.putfield 40, 3) := by decide +kernel
theorem dX5_begin_40 : decode cX5_begin 40 = .ok (.aload_n 0, 1) := by decide +kernel
theorem dX5_begin_41 : decode cX5_begin 41 = .ok (.iconst 0, 1) := by decide +kernel
theorem dX5_begin_42 : decode cX5_begin 42 = .ok (.putfield 43, 3) := by decide +kernel
theorem dX5_begin_45 : decode cX5_begin 45 = .ok (.aload_n 0, 1) := by decide +kernel
theorem dX5_begin_46 : decode cX5_begin 46 = .ok (.iconst 0, 1) := by decide +kernel
theorem dX5_begin_47 : decode cX5_begin 47 = .ok (.putfield 46, 3) := by decide +kernel
theorem dX5_begin_50 : decode cX5_begin 50 = .ok (.return_, 1) := by decide +kernel
theorem dX5_copyFrom_0 : decode cX5_copyFrom 0 = .ok (.aload_n 1, 1) := by decide +kernel
theorem dX5_copyFrom_1 : decode cX5_copyFrom 1 = .ok (.getfield 9, 3) := by decide +kernel
theorem dX5_copyFrom_4 : decode cX5_copyFrom 4 = .ok (.iconst 0, 1) := by decide +kernel
theorem dX5_copyFrom_5 : decode cX5_copyFrom 5 = .ok (.aload_n 0, 1) := by decide +kernel
theorem dX5_copyFrom_6 : decode cX5_copyFrom 6 = .ok (.getfield 9, 3) := by decide +kernel
theorem dX5_copyFrom_9 : decode cX5_copyFrom 9 = .ok (.iconst 0, 1) := by decide +kernel
theorem dX5_copyFrom_10 : decode cX5_copyFrom 10 = .ok (.bipush 12, 2) := by decide +kernel
theorem dX5_copyFrom_12 : decode cX5_copyFrom 12 = .ok (.invokestatic 30, 3) := by decide +kernel
theorem dX5_copyFrom_15 : decode cX5_copyFrom 15 = .ok (.aload_n 1, 1) := by decide +kernel
theorem dX5_copyFrom_16 : decode cX5_copyFrom 16 = .ok (.getfield 15, 3) := by decide +kernel
theorem dX5_copyFrom_19 : decode cX5_copyFrom 19 = .ok (.iconst 0, 1) := by decide +kernel
theorem dX5_copyFrom_20 : decode cX5_copyFrom 20 = .ok (.aload_n 0, 1) := by decide +kernel
theorem dX5_copyFrom_21 : decode cX5_copyFrom 21 = .ok (.getfield 15, 3) := by decide +kernel
theorem dX5_copyFrom_24 : decode cX5_copyFrom 24 = .ok (.iconst 0, 1) := by decide +kernel
theorem dX5_copyFrom_25 : decode cX5_copyFrom 25 = .ok (.bipush 6, 2) := by decide +kernel
theorem dX5_copyFrom_27 : decode cX5_copyFrom 27 = .ok (.invokestatic 30, 3) := by decide +kernel
theorem dX5_copyFrom_30 : decode cX5_copyFrom 30 = .ok (.aload_n 1, 1) := by decide +kernel
theorem dX5_copyFrom_31 : decode cX5_copyFrom 31 = .ok (.getfield 18, 3) := by decide +kernel
theorem dX5_copyFrom_34 : decode cX5_copyFrom 34 = .ok (.iconst 0, 1) := by decide +kernel
theorem dX5_copyFrom_35 : decode cX5_copyFrom 35 = .ok (.aload_n 0, 1) := by decide +kernel
theorem dX5_copyFrom_36 : decode cX5_copyFrom 36 = .ok (.getfield 18, 3) := by decide +kernel
theorem dX5_copyFrom_39 : decode cX5_copyFrom 39 = .ok (.iconst 0, 1) := by decide +kernel
theorem dX5_copyFrom_40 : decode cX5_copyFrom 40 = .ok (.iconst 2, 1) := by decide +kernel
theorem dX5_copyFrom_41 : decode cX5_copyFrom 41 = .ok (.invokestatic 30, 3) := by decide +kernel
theorem dX5_copyFrom_44 : decode cX5_copyFrom 44 = .ok (.aload_n 0, 1) := by decide +kernel
theorem dX5_copyFrom_45 : decode cX5_copyFrom 45 = .ok (.aload_n 1, 1) := by decide +kernel
theorem dX5_copyFrom_46 : decode cX5_copyFrom 46 = .ok (.getfield 36, 3) := by decide +kernel
theorem dX5_copyFrom_49 : decode cX5_copyFrom 49 = .ok (.putfield 36, 3) := by decide +kernel
theorem dX5_copyFrom_52 : decode cX5_copyFrom 52 = .ok (.aload_n 0, 1) := by decide +kernel
theorem dX5_copyFrom_53 : decode cX5_copyFrom 53 = .ok (.aload_n 1, 1) := by decide +kernel
theorem dX5_copyFrom_54 : decode cX5_copyFrom 54 = .ok (.getfield 40, 3) := by decide +kernel
theorem dX5_copyFrom_57 : decode cX5_copyFrom 57 = .ok (.putfield 40, 3) := by decide +kernel
theorem dX5_copyFrom_60 : decode cX5_copyFrom 60 = .ok (.aload_n 0, 1) := by decide +kernel
theorem dX5_copyFrom_61 : decode cX5_copyFrom 61 = .ok (.aload_n 1, 1) := by decide +kernel
theorem dX5_copyFrom_62 : decode cX5_copyFrom 62 = .ok (.getfield 43, 3) := by decide +kernel
theorem dX5_copyFrom_65 : decode cX5_copyFrom 65 = .ok (.putfield 43, 3) := by decide +kernel
theorem dX5_copyFrom_68 : decode cX5_copyFrom 68 = .ok (.aload_n 0, 1) := by decide +kernel
theorem dX5_copyFrom_69 : decode cX5_copyFrom 69 = .ok (.aload_n 1, 1) := by decide +kernel
theorem dX5_copyFrom_70 : decode cX5_copyFrom 70 = .ok (.getfield 46, 3) := by decide +kernel
theorem dX5_copyFrom_73 : decode cX5_copyFrom 73 = .ok (.putfield 46, 3) := by decide +kernel
theorem dX5_copyFrom_76 : decode cX5_copyFrom 76 = .ok (.return_, 1) := by decide +kernel
theorem dX5_refusal_0 : decode cX5_refusal 0 = .ok (.iload_n 3, 1) := by decide +kernel
theorem dX5_refusal_1 : decode cX5_refusal 1 = .ok (.ifCond .eq 17, 3) := by decide +kernel
theorem dX5_refusal_4 : decode cX5_refusal 4 = .ok (.aload_n 1, 1) := by decide +kernel
theorem dX5_refusal_5 : decode cX5_refusal 5 = .ok (.getfield 49, 3) := by decide +kernel
theorem dX5_refusal_8 : decode cX5_refusal 8 = .ok (.iload_n 2, 1) := by decide +kernel
theorem dX5_refusal_9 : decode cX5_refusal 9 = .ok (.aaload, 1) := by decide +kernel
theorem dX5_refusal_10 : decode cX5_refusal 10 = .ok (.getfield 53, 3) := by decide +kernel
theorem dX5_refusal_13 : decode cX5_refusal 13 = .ok (.ifCond .ne 5, 3) := by decide +kernel
theorem dX5_refusal_16 : decode cX5_refusal 16 = .ok (.iconst 1, 1) := by decide +kernel
theorem dX5_refusal_17 : decode cX5_refusal 17 = .ok (.ireturn, 1) := by decide +kernel
theorem dX5_refusal_18 : decode cX5_refusal 18 = .ok (.aload_n 1, 1) := by decide +kernel
theorem dX5_refusal_19 : decode cX5_refusal 19 = .ok (.getfield 59, 3) := by decide +kernel
theorem dX5_refusal_22 : decode cX5_refusal 22 = .ok (.aload 4, 2) := by decide +kernel
theorem dX5_refusal_24 : decode cX5_refusal 24 = .ok (.invokevirtual 63, 3) := by decide +kernel
theorem dX5_refusal_27 : decode cX5_refusal 27 = .ok (.ifCond .ne 5, 3) := by decide +kernel
theorem dX5_refusal_30 : decode cX5_refusal 30 = .ok (.iconst 2, 1) := by decide +kernel
theorem dX5_refusal_31 : decode cX5_refusal 31 = .ok (.ireturn, 1) := by decide +kernel
theorem dX5_refusal_32 : decode cX5_refusal 32 = .ok (.aload_n 1, 1) := by decide +kernel
theorem dX5_refusal_33 : decode cX5_refusal 33 = .ok (.aload 4, 2) := by decide +kernel
theorem dX5_refusal_35 : decode cX5_refusal 35 = .ok (.invokevirtual 69, 3) := by decide +kernel
theorem dX5_refusal_38 : decode cX5_refusal 38 = .ok (.ifCond .ne 5, 3) := by decide +kernel
theorem dX5_refusal_41 : decode cX5_refusal 41 = .ok (.iconst 3, 1) := by decide +kernel
theorem dX5_refusal_42 : decode cX5_refusal 42 = .ok (.ireturn, 1) := by decide +kernel
theorem dX5_refusal_43 : decode cX5_refusal 43 = .ok (.aload_n 0, 1) := by decide +kernel
theorem dX5_refusal_44 : decode cX5_refusal 44 = .ok (.aload_n 1, 1) := by decide +kernel
theorem dX5_refusal_45 : decode cX5_refusal 45 = .ok (.aload 4, 2) := by decide +kernel
theorem dX5_refusal_47 : decode cX5_refusal 47 = .ok (.invokevirtual 72, 3) := by decide +kernel
theorem dX5_refusal_50 : decode cX5_refusal 50 = .ok (.ifCond .eq 5, 3) := by decide +kernel
theorem dX5_refusal_53 : decode cX5_refusal 53 = .ok (.iconst 4, 1) := by decide +kernel
theorem dX5_refusal_54 : decode cX5_refusal 54 = .ok (.ireturn, 1) := by decide +kernel
theorem dX5_refusal_55 : decode cX5_refusal 55 = .ok (.aload_n 0, 1) := by decide +kernel
theorem dX5_refusal_56 : decode cX5_refusal 56 = .ok (.aload 4, 2) := by decide +kernel
theorem dX5_refusal_58 : decode cX5_refusal 58 = .ok (.invokevirtual 76, 3) := by decide +kernel
theorem dX5_refusal_61 : decode cX5_refusal 61 = .ok (.ifCond .eq 5, 3) := by decide +kernel
theorem dX5_refusal_64 : decode cX5_refusal 64 = .ok (.iconst 5, 1) := by decide +kernel
theorem dX5_refusal_65 : decode cX5_refusal 65 = .ok (.ireturn, 1) := by decide +kernel
theorem dX5_refusal_66 : decode cX5_refusal 66 = .ok (.aload_n 0, 1) := by decide +kernel
theorem dX5_refusal_67 : decode cX5_refusal 67 = .ok (.aload_n 1, 1) := by decide +kernel
theorem dX5_refusal_68 : decode cX5_refusal 68 = .ok (.iload_n 2, 1) := by decide +kernel
theorem dX5_refusal_69 : decode cX5_refusal 69 = .ok (.invokevirtual 79, 3) := by decide +kernel
theorem dX5_refusal_72 : decode cX5_refusal 72 = .ok (.ifCond .eq 8, 3) := by decide +kernel
theorem dX5_refusal_75 : decode cX5_refusal 75 = .ok (.bipush 6, 2) := by decide +kernel
theorem dX5_refusal_77 : decode cX5_refusal 77 = .ok (.goto 4, 3) := by decide +kernel
theorem dX5_refusal_80 : decode cX5_refusal 80 = .ok (.iconst 0, 1) := by decide +kernel
theorem dX5_refusal_81 : decode cX5_refusal 81 = .ok (.ireturn, 1) := by decide +kernel
theorem dX5_punch_0 : decode cX5_punch 0 = .ok (.aload_n 0, 1) := by decide +kernel
theorem dX5_punch_1 : decode cX5_punch 1 = .ok (.aload_n 3, 1) := by decide +kernel
theorem dX5_punch_2 : decode cX5_punch 2 = .ok (.invokevirtual 83, 3) := by decide +kernel
theorem dX5_punch_5 : decode cX5_punch 5 = .ok (.istore 4, 2) := by decide +kernel
theorem dX5_punch_7 : decode cX5_punch 7 = .ok (.aload_n 3, 1) := by decide +kernel
theorem dX5_punch_8 : decode cX5_punch 8 = .ok (.getfield 87, 3) := by decide +kernel
theorem dX5_punch_11 : decode cX5_punch 11 = .ok (.istore 5, 2) := by decide +kernel
theorem dX5_punch_13 : decode cX5_punch 13 = .ok (.iload 5, 2) := by decide +kernel
theorem dX5_punch_15 : decode cX5_punch 15 = .ok (.aload_n 3, 1) := by decide +kernel
theorem dX5_punch_16 : decode cX5_punch 16 = .ok (.getfield 87, 3) := by decide +kernel
theorem dX5_punch_19 : decode cX5_punch 19 = .ok (.aload_n 3, 1) := by decide +kernel
theorem dX5_punch_20 : decode cX5_punch 20 = .ok (.getfield 90, 3) := by decide +kernel
theorem dX5_punch_23 : decode cX5_punch 23 = .ok (.iadd, 1) := by decide +kernel
theorem dX5_punch_24 : decode cX5_punch 24 = .ok (.if_icmp .ge 30, 3) := by decide +kernel
theorem dX5_punch_27 : decode cX5_punch 27 = .ok (.iload 5, 2) := by decide +kernel
theorem dX5_punch_29 : decode cX5_punch 29 = .ok (.bipush 12, 2) := by decide +kernel
theorem dX5_punch_31 : decode cX5_punch 31 = .ok (.if_icmp .ge 23, 3) := by decide +kernel
theorem dX5_punch_34 : decode cX5_punch 34 = .ok (.aload_n 0, 1) := by decide +kernel
theorem dX5_punch_35 : decode cX5_punch 35 = .ok (.getfield 9, 3) := by decide +kernel
theorem dX5_punch_38 : decode cX5_punch 38 = .ok (.iload 5, 2) := by decide +kernel
theorem dX5_punch_40 : decode cX5_punch 40 = .ok (.dup2, 1) := by decide +kernel
theorem dX5_punch_41 : decode cX5_punch 41 = .ok (.iaload, 1) := by decide +kernel
theorem dX5_punch_42 : decode cX5_punch 42 = .ok (.aload_n 3, 1) := by decide +kernel
theorem dX5_punch_43 : decode cX5_punch 43 = .ok (.invokevirtual 93, 3) := by decide +kernel
theorem dX5_punch_46 : decode cX5_punch 46 = .ok (.ior, 1) := by decide +kernel
theorem dX5_punch_47 : decode cX5_punch 47 = .ok (.iastore, 1) := by decide +kernel
theorem dX5_punch_48 : decode cX5_punch 48 = .ok (.iinc 5 1, 3) := by decide +kernel
theorem dX5_punch_51 : decode cX5_punch 51 = .ok (.goto (-38), 3) := by decide +kernel
theorem dX5_punch_54 : decode cX5_punch 54 = .ok (.aload_n 0, 1) := by decide +kernel
theorem dX5_punch_55 : decode cX5_punch 55 = .ok (.getfield 15, 3) := by decide +kernel
theorem dX5_punch_58 : decode cX5_punch 58 = .ok (.iload_n 2, 1) := by decide +kernel
theorem dX5_punch_59 : decode cX5_punch 59 = .ok (.dup2, 1) := by decide +kernel
theorem dX5_punch_60 : decode cX5_punch 60 = .ok (.iaload, 1) := by decide +kernel
theorem dX5_punch_61 : decode cX5_punch 61 = .ok (.iconst 1, 1) := by decide +kernel
theorem dX5_punch_62 : decode cX5_punch 62 = .ok (.iadd, 1) := by decide +kernel
theorem dX5_punch_63 : decode cX5_punch 63 = .ok (.iastore, 1) := by decide +kernel
theorem dX5_punch_64 : decode cX5_punch 64 = .ok (.aload_n 0, 1) := by decide +kernel
theorem dX5_punch_65 : decode cX5_punch 65 = .ok (.dup, 1) := by decide +kernel
theorem dX5_punch_66 : decode cX5_punch 66 = .ok (.getfield 40, 3) := by decide +kernel
theorem dX5_punch_69 : decode cX5_punch 69 = .ok (.iconst 1, 1) := by decide +kernel
theorem dX5_punch_70 : decode cX5_punch 70 = .ok (.iadd, 1) := by decide +kernel
theorem dX5_punch_71 : decode cX5_punch 71 = .ok (.putfield 40, 3) := by decide +kernel
theorem dX5_punch_74 : decode cX5_punch 74 = .ok (.aload_n 0, 1) := by decide +kernel
theorem dX5_punch_75 : decode cX5_punch 75 = .ok (.dup, 1) := by decide +kernel
theorem dX5_punch_76 : decode cX5_punch 76 = .ok (.getfield 43, 3) := by decide +kernel
theorem dX5_punch_79 : decode cX5_punch 79 = .ok (.aload_n 1, 1) := by decide +kernel
theorem dX5_punch_80 : decode cX5_punch 80 = .ok (.aload_n 0, 1) := by decide +kernel
theorem dX5_punch_81 : decode cX5_punch 81 = .ok (.getfield 36, 3) := by decide +kernel
theorem dX5_punch_84 : decode cX5_punch 84 = .ok (.iload_n 2, 1) := by decide +kernel
theorem dX5_punch_85 : decode cX5_punch 85 = .ok (.invokevirtual 97, 3) := by decide +kernel
theorem dX5_punch_88 : decode cX5_punch 88 = .ok (.iadd, 1) := by decide +kernel
theorem dX5_punch_89 : decode cX5_punch 89 = .ok (.putfield 43, 3) := by decide +kernel
theorem dX5_punch_92 : decode cX5_punch 92 = .ok (.aload_n 0, 1) := by decide +kernel
theorem dX5_punch_93 : decode cX5_punch 93 = .ok (.iload_n 2, 1) := by decide +kernel
theorem dX5_punch_94 : decode cX5_punch 94 = .ok (.putfield 36, 3) := by decide +kernel
theorem dX5_punch_97 : decode cX5_punch 97 = .ok (.iload 4, 2) := by decide +kernel
theorem dX5_punch_99 : decode cX5_punch 99 = .ok (.ireturn, 1) := by decide +kernel
theorem dX5_isDull_0 : decode cX5_isDull 0 = .ok (.aload_n 0, 1) := by decide +kernel
theorem dX5_isDull_1 : decode cX5_isDull 1 = .ok (.getfield 15, 3) := by decide +kernel
theorem dX5_isDull_4 : decode cX5_isDull 4 = .ok (.iload_n 2, 1) := by decide +kernel
theorem dX5_isDull_5 : decode cX5_isDull 5 = .ok (.iaload, 1) := by decide +kernel
theorem dX5_isDull_6 : decode cX5_isDull 6 = .ok (.aload_n 1, 1) := by decide +kernel
theorem dX5_isDull_7 : decode cX5_isDull 7 = .ok (.getfield 49, 3) := by decide +kernel
theorem dX5_isDull_10 : decode cX5_isDull 10 = .ok (.iload_n 2, 1) := by decide +kernel
theorem dX5_isDull_11 : decode cX5_isDull 11 = .ok (.aaload, 1) := by decide +kernel
theorem dX5_isDull_12 : decode cX5_isDull 12 = .ok (.getfield 101, 3) := by decide +kernel
theorem dX5_isDull_15 : decode cX5_isDull 15 = .ok (.if_icmp .lt 7, 3) := by decide +kernel
theorem dX5_isDull_18 : decode cX5_isDull 18 = .ok (.iconst 1, 1) := by decide +kernel
theorem dX5_isDull_19 : decode cX5_isDull 19 = .ok (.goto 4, 3) := by decide +kernel
theorem dX5_isDull_22 : decode cX5_isDull 22 = .ok (.iconst 0, 1) := by decide +kernel
theorem dX5_isDull_23 : decode cX5_isDull 23 = .ok (.ireturn, 1) := by decide +kernel
theorem dX5_uncutIn_0 : decode cX5_uncutIn 0 = .ok (.iconst 0, 1) := by decide +kernel
theorem dX5_uncutIn_1 : decode cX5_uncutIn 1 = .ok (.istore_n 2, 1) := by decide +kernel
theorem dX5_uncutIn_2 : decode cX5_uncutIn 2 = .ok (.aload_n 1, 1) := by decide +kernel
theorem dX5_uncutIn_3 : decode cX5_uncutIn 3 = .ok (.getfield 87, 3) := by decide +kernel
theorem dX5_uncutIn_6 : decode cX5_uncutIn 6 = .ok (.istore_n 3, 1) := by decide +kernel
theorem dX5_uncutIn_7 : decode cX5_uncutIn 7 = .ok (.iload_n 3, 1) := by decide +kernel
theorem dX5_uncutIn_8 : decode cX5_uncutIn 8 = .ok (.aload_n 1, 1) := by decide +kernel
theorem dX5_uncutIn_9 : decode cX5_uncutIn 9 = .ok (.getfield 87, 3) := by decide +kernel
theorem dX5_uncutIn_12 : decode cX5_uncutIn 12 = .ok (.aload_n 1, 1) := by decide +kernel
theorem dX5_uncutIn_13 : decode cX5_uncutIn 13 = .ok (.getfield 90, 3) := by decide +kernel
theorem dX5_uncutIn_16 : decode cX5_uncutIn 16 = .ok (.iadd, 1) := by decide +kernel
theorem dX5_uncutIn_17 : decode cX5_uncutIn 17 = .ok (.if_icmp .ge 34, 3) := by decide +kernel
theorem dX5_uncutIn_20 : decode cX5_uncutIn 20 = .ok (.iload_n 3, 1) := by decide +kernel
theorem dX5_uncutIn_21 : decode cX5_uncutIn 21 = .ok (.bipush 12, 2) := by decide +kernel
theorem dX5_uncutIn_23 : decode cX5_uncutIn 23 = .ok (.if_icmp .ge 28, 3) := by decide +kernel
theorem dX5_uncutIn_26 : decode cX5_uncutIn 26 = .ok (.iload_n 2, 1) := by decide +kernel
theorem dX5_uncutIn_27 : decode cX5_uncutIn 27 = .ok (.aload_n 1, 1) := by decide +kernel
theorem dX5_uncutIn_28 : decode cX5_uncutIn 28 = .ok (.invokevirtual 93, 3) := by decide +kernel
theorem dX5_uncutIn_31 : decode cX5_uncutIn 31 = .ok (.aload_n 0, 1) := by decide +kernel
theorem dX5_uncutIn_32 : decode cX5_uncutIn 32 = .ok (.getfield 9, 3) := by decide +kernel
theorem dX5_uncutIn_35 : decode cX5_uncutIn 35 = .ok (.iload_n 3, 1) := by decide +kernel
theorem dX5_uncutIn_36 : decode cX5_uncutIn 36 = .ok (.iaload, 1) := by decide +kernel
theorem dX5_uncutIn_37 : decode cX5_uncutIn 37 = .ok (.iconst (-1), 1) := by decide +kernel
theorem dX5_uncutIn_38 : decode cX5_uncutIn 38 = .ok (.ixor, 1) := by decide +kernel
theorem dX5_uncutIn_39 : decode cX5_uncutIn 39 = .ok (.iand, 1) := by decide +kernel
theorem dX5_uncutIn_40 : decode cX5_uncutIn 40 = .ok (.invokestatic 104, 3) := by decide +kernel
theorem dX5_uncutIn_43 : decode cX5_uncutIn 43 = .ok (.iadd, 1) := by decide +kernel
theorem dX5_uncutIn_44 : decode cX5_uncutIn 44 = .ok (.istore_n 2, 1) := by decide +kernel
theorem dX5_uncutIn_45 : decode cX5_uncutIn 45 = .ok (.iinc 3 1, 3) := by decide +kernel
theorem dX5_uncutIn_48 : decode cX5_uncutIn 48 = .ok (.goto (-41), 3) := by decide +kernel
theorem dX5_uncutIn_51 : decode cX5_uncutIn 51 = .ok (.iload_n 2, 1) := by decide +kernel
theorem dX5_uncutIn_52 : decode cX5_uncutIn 52 = .ok (.ireturn, 1) := by decide +kernel
theorem dX5_isCut_0 : decode cX5_isCut 0 = .ok (.aload_n 0, 1) := by decide +kernel
theorem dX5_isCut_1 : decode cX5_isCut 1 = .ok (.aload_n 1, 1) := by decide +kernel
theorem dX5_isCut_2 : decode cX5_isCut 2 = .ok (.invokevirtual 83, 3) := by decide +kernel
theorem dX5_isCut_5 : decode cX5_isCut 5 = .ok (.ifCond .ne 7, 3) := by decide +kernel
theorem dX5_isCut_8 : decode cX5_isCut 8 = .ok (.iconst 1, 1) := by decide +kernel
theorem dX5_isCut_9 : decode cX5_isCut 9 = .ok (.goto 4, 3) := by decide +kernel
theorem dX5_isCut_12 : decode cX5_isCut 12 = .ok (.iconst 0, 1) := by decide +kernel
theorem dX5_isCut_13 : decode cX5_isCut 13 = .ok (.ireturn, 1) := by decide +kernel
theorem dX5_isCellCut_0 : decode cX5_isCellCut 0 = .ok (.aload_n 0, 1) := by decide +kernel
theorem dX5_isCellCut_1 : decode cX5_isCellCut 1 = .ok (.getfield 9, 3) := by decide +kernel
theorem dX5_isCellCut_4 : decode cX5_isCellCut 4 = .ok (.iload_n 2, 1) := by decide +kernel
theorem dX5_isCellCut_5 : decode cX5_isCellCut 5 = .ok (.iaload, 1) := by decide +kernel
theorem dX5_isCellCut_6 : decode cX5_isCellCut 6 = .ok (.iconst 1, 1) := by decide +kernel
theorem dX5_isCellCut_7 : decode cX5_isCellCut 7 = .ok (.iload_n 1, 1) := by decide +kernel
theorem dX5_isCellCut_8 : decode cX5_isCellCut 8 = .ok (.ishl, 1) := by decide +kernel
theorem dX5_isCellCut_9 : decode cX5_isCellCut 9 = .ok (.iand, 1) := by decide +kernel
theorem dX5_isCellCut_10 : decode cX5_isCellCut 10 = .ok (.ifCond .eq 7, 3) := by decide +kernel
theorem dX5_isCellCut_13 : decode cX5_isCellCut 13 = .ok (.iconst 1, 1) := by decide +kernel
theorem dX5_isCellCut_14 : decode cX5_isCellCut 14 = .ok (.goto 4, 3) := by decide +kernel
theorem dX5_isCellCut_17 : decode cX5_isCellCut 17 = .ok (.iconst 0, 1) := by decide +kernel
theorem dX5_isCellCut_18 : decode cX5_isCellCut 18 = .ok (.ireturn, 1) := by decide +kernel
theorem dX5_cutCells_0 : decode cX5_cutCells 0 = .ok (.iconst 0, 1) := by decide +kernel
theorem dX5_cutCells_1 : decode cX5_cutCells 1 = .ok (.istore_n 1, 1) := by decide +kernel
theorem dX5_cutCells_2 : decode cX5_cutCells 2 = .ok (.iconst 0, 1) := by decide +kernel
theorem dX5_cutCells_3 : decode cX5_cutCells 3 = .ok (.istore_n 2, 1) := by decide +kernel
theorem dX5_cutCells_4 : decode cX5_cutCells 4 = .ok (.iload_n 2, 1) := by decide +kernel
theorem dX5_cutCells_5 : decode cX5_cutCells 5 = .ok (.bipush 12, 2) := by decide +kernel
theorem dX5_cutCells_7 : decode cX5_cutCells 7 = .ok (.if_icmp .ge 21, 3) := by decide +kernel
theorem dX5_cutCells_10 : decode cX5_cutCells 10 = .ok (.iload_n 1, 1) := by decide +kernel
theorem dX5_cutCells_11 : decode cX5_cutCells 11 = .ok (.aload_n 0, 1) := by decide +kernel
theorem dX5_cutCells_12 : decode cX5_cutCells 12 = .ok (.getfield 9, 3) := by decide +kernel
theorem dX5_cutCells_15 : decode cX5_cutCells 15 = .ok (.iload_n 2, 1) := by decide +kernel
theorem dX5_cutCells_16 : decode cX5_cutCells 16 = .ok (.iaload, 1) := by decide +kernel
theorem dX5_cutCells_17 : decode cX5_cutCells 17 = .ok (.invokestatic 104, 3) := by decide +kernel
theorem dX5_cutCells_20 : decode cX5_cutCells 20 = .ok (.iadd, 1) := by decide +kernel
theorem dX5_cutCells_21 : decode cX5_cutCells 21 = .ok (.istore_n 1, 1) := by decide +kernel
theorem dX5_cutCells_22 : decode cX5_cutCells 22 = .ok (.iinc 2 1, 3) := by decide +kernel
theorem dX5_cutCells_25 : decode cX5_cutCells 25 = .ok (.goto (-21), 3) := by decide +kernel
theorem dX5_cutCells_28 : decode cX5_cutCells 28 = .ok (.iload_n 1, 1) := by decide +kernel
theorem dX5_cutCells_29 : decode cX5_cutCells 29 = .ok (.ireturn, 1) := by decide +kernel
theorem dX5_holesDone_0 : decode cX5_holesDone 0 = .ok (.iconst 0, 1) := by decide +kernel
theorem dX5_holesDone_1 : decode cX5_holesDone 1 = .ok (.istore_n 2, 1) := by decide +kernel
theorem dX5_holesDone_2 : decode cX5_holesDone 2 = .ok (.iconst 0, 1) := by decide +kernel
theorem dX5_holesDone_3 : decode cX5_holesDone 3 = .ok (.istore_n 3, 1) := by decide +kernel
theorem dX5_holesDone_4 : decode cX5_holesDone 4 = .ok (.iload_n 3, 1) := by decide +kernel
theorem dX5_holesDone_5 : decode cX5_holesDone 5 = .ok (.aload_n 1, 1) := by decide +kernel
theorem dX5_holesDone_6 : decode cX5_holesDone 6 = .ok (.getfield 110, 3) := by decide +kernel
theorem dX5_holesDone_9 : decode cX5_holesDone 9 = .ok (.if_icmp .ge 25, 3) := by decide +kernel
theorem dX5_holesDone_12 : decode cX5_holesDone 12 = .ok (.aload_n 0, 1) := by decide +kernel
theorem dX5_holesDone_13 : decode cX5_holesDone 13 = .ok (.aload_n 1, 1) := by decide +kernel
theorem dX5_holesDone_14 : decode cX5_holesDone 14 = .ok (.getfield 113, 3) := by decide +kernel
theorem dX5_holesDone_17 : decode cX5_holesDone 17 = .ok (.iload_n 3, 1) := by decide +kernel
theorem dX5_holesDone_18 : decode cX5_holesDone 18 = .ok (.aaload, 1) := by decide +kernel
theorem dX5_holesDone_19 : decode cX5_holesDone 19 = .ok (.invokevirtual 76, 3) := by decide +kernel
theorem dX5_holesDone_22 : decode cX5_holesDone 22 = .ok (.ifCond .eq 6, 3) := by decide +kernel
theorem dX5_holesDone_25 : decode cX5_holesDone 25 = .ok (.iinc 2 1, 3) := by decide +kernel
theorem dX5_holesDone_28 : decode cX5_holesDone 28 = .ok (.iinc 3 1, 3) := by decide +kernel
theorem dX5_holesDone_31 : decode cX5_holesDone 31 = .ok (.goto (-27), 3) := by decide +kernel
theorem dX5_holesDone_34 : decode cX5_holesDone 34 = .ok (.iload_n 2, 1) := by decide +kernel
theorem dX5_holesDone_35 : decode cX5_holesDone 35 = .ok (.ireturn, 1) := by decide +kernel
theorem dX5_clampAt_0 : decode cX5_clampAt 0 = .ok (.iload_n 3, 1) := by decide +kernel
theorem dX5_clampAt_1 : decode cX5_clampAt 1 = .ok (.aload_n 1, 1) := by decide +kernel
theorem dX5_clampAt_2 : decode cX5_clampAt 2 = .ok (.getfield 59, 3) := by decide +kernel
theorem dX5_clampAt_5 : decode cX5_clampAt 5 = .ok (.getfield 90, 3) := by decide +kernel
theorem dX5_clampAt_8 : decode cX5_clampAt 8 = .ok (.iconst 1, 1) := by decide +kernel
theorem dX5_clampAt_9 : decode cX5_clampAt 9 = .ok (.isub, 1) := by decide +kernel
theorem dX5_clampAt_10 : decode cX5_clampAt 10 = .ok (.if_icmp .eq 6, 3) := by decide +kernel
theorem dX5_clampAt_13 : decode cX5_clampAt 13 = .ok (.bipush (-4), 2) := by decide +kernel
theorem dX5_clampAt_15 : decode cX5_clampAt 15 = .ok (.ireturn, 1) := by decide +kernel
theorem dX5_clampAt_16 : decode cX5_clampAt 16 = .ok (.iconst 0, 1) := by decide +kernel
theorem dX5_clampAt_17 : decode cX5_clampAt 17 = .ok (.istore 4, 2) := by decide +kernel
theorem dX5_clampAt_19 : decode cX5_clampAt 19 = .ok (.iload 4, 2) := by decide +kernel
theorem dX5_clampAt_21 : decode cX5_clampAt 21 = .ok (.aload_n 1, 1) := by decide +kernel
theorem dX5_clampAt_22 : decode cX5_clampAt 22 = .ok (.getfield 117, 3) := by decide +kernel
theorem dX5_clampAt_25 : decode cX5_clampAt 25 = .ok (.if_icmp .ge 29, 3) := by decide +kernel
theorem dX5_clampAt_28 : decode cX5_clampAt 28 = .ok (.iload_n 2, 1) := by decide +kernel
theorem dX5_clampAt_29 : decode cX5_clampAt 29 = .ok (.aload_n 0, 1) := by decide +kernel
theorem dX5_clampAt_30 : decode cX5_clampAt 30 = .ok (.getfield 18, 3) := by decide +kernel
theorem dX5_clampAt_33 : decode cX5_clampAt 33 = .ok (.iload 4, 2) := by decide +kernel
theorem dX5_clampAt_35 : decode cX5_clampAt 35 = .ok (.iaload, 1) := by decide +kernel
theorem dX5_clampAt_36 : decode cX5_clampAt 36 = .ok (.isub, 1) := by decide +kernel
theorem dX5_clampAt_37 : decode cX5_clampAt 37 = .ok (.iconst 0, 1) := by decide +kernel
theorem dX5_clampAt_38 : decode cX5_clampAt 38 = .ok (.iconst 1, 1) := by decide +kernel
theorem dX5_clampAt_39 : decode cX5_clampAt 39 = .ok (.invokestatic 120, 3) := by decide +kernel
theorem dX5_clampAt_42 : decode cX5_clampAt 42 = .ok (.ifCond .eq 6, 3) := by decide +kernel
theorem dX5_clampAt_45 : decode cX5_clampAt 45 = .ok (.iload 4, 2) := by decide +kernel
theorem dX5_clampAt_47 : decode cX5_clampAt 47 = .ok (.ireturn, 1) := by decide +kernel
theorem dX5_clampAt_48 : decode cX5_clampAt 48 = .ok (.iinc 4 1, 3) := by decide +kernel
theorem dX5_clampAt_51 : decode cX5_clampAt 51 = .ok (.goto (-32), 3) := by decide +kernel
theorem dX5_clampAt_54 : decode cX5_clampAt 54 = .ok (.bipush (-4), 2) := by decide +kernel
theorem dX5_clampAt_56 : decode cX5_clampAt 56 = .ok (.ireturn, 1) := by decide +kernel
theorem dX5_isTakenByOther_0 : decode cX5_isTakenByOther 0 = .ok (.iconst 0, 1) := by decide +kernel
theorem dX5_isTakenByOther_1 : decode cX5_isTakenByOther 1 = .ok (.istore 4, 2) := by decide +kernel
theorem dX5_isTakenByOther_3 : decode cX5_isTakenByOther 3 = .ok (.iload 4, 2) := by decide +kernel
theorem dX5_isTakenByOther_5 : decode cX5_isTakenByOther 5 = .ok (.aload_n 1, 1) := by decide +kernel
theorem dX5_isTakenByOther_6 : decode cX5_isTakenByOther 6 = .ok (.getfield 117, 3) := by decide +kernel
theorem dX5_isTakenByOther_9 : decode cX5_isTakenByOther 9 = .ok (.if_icmp .ge 31, 3) := by decide +kernel
theorem dX5_isTakenByOther_12 : decode cX5_isTakenByOther 12 = .ok (.iload 4, 2) := by decide +kernel
theorem dX5_isTakenByOther_14 : decode cX5_isTakenByOther 14 = .ok (.iload_n 2, 1) := by decide +kernel
theorem dX5_isTakenByOther_15 : decode cX5_isTakenByOther 15 = .ok (.if_icmp .eq 19, 3) := by decide +kernel
theorem dX5_isTakenByOther_18 : decode cX5_isTakenByOther 18 = .ok (.aload_n 0, 1) := by decide +kernel
theorem dX5_isTakenByOther_19 : decode cX5_isTakenByOther 19 = .ok (.getfield 18, 3) := by decide +kernel
theorem dX5_isTakenByOther_22 : decode cX5_isTakenByOther 22 = .ok (.iload 4, 2) := by decide +kernel
theorem dX5_isTakenByOther_24 : decode cX5_isTakenByOther 24 = .ok (.iaload, 1) := by decide +kernel
theorem dX5_isTakenByOther_25 : decode cX5_isTakenByOther 25 = .ok (.iload_n 3, 1) := by decide +kernel
theorem dX5_isTakenByOther_26 : decode cX5_isTakenByOther 26 = .ok (.invokestatic 124, 3) := by decide +kernel
theorem dX5_isTakenByOther_29 : decode cX5_isTakenByOther 29 = .ok (.ifCond .eq 5, 3) := by decide +kernel
theorem dX5_isTakenByOther_32 : decode cX5_isTakenByOther 32 = .ok (.iconst 1, 1) := by decide +kernel
theorem dX5_isTakenByOther_33 : decode cX5_isTakenByOther 33 = .ok (.ireturn, 1) := by decide +kernel
theorem dX5_isTakenByOther_34 : decode cX5_isTakenByOther 34 = .ok (.iinc 4 1, 3) := by decide +kernel
theorem dX5_isTakenByOther_37 : decode cX5_isTakenByOther 37 = .ok (.goto (-34), 3) := by decide +kernel
theorem dX5_isTakenByOther_40 : decode cX5_isTakenByOther 40 = .ok (.iconst 0, 1) := by decide +kernel
theorem dX5_isTakenByOther_41 : decode cX5_isTakenByOther 41 = .ok (.ireturn, 1) := by decide +kernel
theorem dX5_isClamped_0 : decode cX5_isClamped 0 = .ok (.aload_n 1, 1) := by decide +kernel
theorem dX5_isClamped_1 : decode cX5_isClamped 1 = .ok (.getfield 59, 3) := by decide +kernel
theorem dX5_isClamped_4 : decode cX5_isClamped 4 = .ok (.getfield 90, 3) := by decide +kernel
theorem dX5_isClamped_7 : decode cX5_isClamped 7 = .ok (.iconst 1, 1) := by decide +kernel
theorem dX5_isClamped_8 : decode cX5_isClamped 8 = .ok (.isub, 1) := by decide +kernel
theorem dX5_isClamped_9 : decode cX5_isClamped 9 = .ok (.istore_n 3, 1) := by decide +kernel
theorem dX5_isClamped_10 : decode cX5_isClamped 10 = .ok (.iconst 0, 1) := by decide +kernel
theorem dX5_isClamped_11 : decode cX5_isClamped 11 = .ok (.istore 4, 2) := by decide +kernel
theorem dX5_isClamped_13 : decode cX5_isClamped 13 = .ok (.iload 4, 2) := by decide +kernel
theorem dX5_isClamped_15 : decode cX5_isClamped 15 = .ok (.aload_n 1, 1) := by decide +kernel
theorem dX5_isClamped_16 : decode cX5_isClamped 16 = .ok (.getfield 117, 3) := by decide +kernel
theorem dX5_isClamped_19 : decode cX5_isClamped 19 = .ok (.if_icmp .ge 43, 3) := by decide +kernel
theorem dX5_isClamped_22 : decode cX5_isClamped 22 = .ok (.aload_n 2, 1) := by decide +kernel
theorem dX5_isClamped_23 : decode cX5_isClamped 23 = .ok (.aload_n 0, 1) := by decide +kernel
theorem dX5_isClamped_24 : decode cX5_isClamped 24 = .ok (.getfield 18, 3) := by decide +kernel
theorem dX5_isClamped_27 : decode cX5_isClamped 27 = .ok (.iload 4, 2) := by decide +kernel
theorem dX5_isClamped_29 : decode cX5_isClamped 29 = .ok (.iaload, 1) := by decide +kernel
theorem dX5_isClamped_30 : decode cX5_isClamped 30 = .ok (.iload_n 3, 1) := by decide +kernel
theorem dX5_isClamped_31 : decode cX5_isClamped 31 = .ok (.invokevirtual 128, 3) := by decide +kernel
theorem dX5_isClamped_34 : decode cX5_isClamped 34 = .ok (.ifCond .ne 20, 3) := by decide +kernel
theorem dX5_isClamped_37 : decode cX5_isClamped 37 = .ok (.aload_n 2, 1) := by decide +kernel
theorem dX5_isClamped_38 : decode cX5_isClamped 38 = .ok (.aload_n 0, 1) := by decide +kernel
theorem dX5_isClamped_39 : decode cX5_isClamped 39 = .ok (.getfield 18, 3) := by decide +kernel
theorem dX5_isClamped_42 : decode cX5_isClamped 42 = .ok (.iload 4, 2) := by decide +kernel
theorem dX5_isClamped_44 : decode cX5_isClamped 44 = .ok (.iaload, 1) := by decide +kernel
theorem dX5_isClamped_45 : decode cX5_isClamped 45 = .ok (.iconst 1, 1) := by decide +kernel
theorem dX5_isClamped_46 : decode cX5_isClamped 46 = .ok (.iadd, 1) := by decide +kernel
theorem dX5_isClamped_47 : decode cX5_isClamped 47 = .ok (.iload_n 3, 1) := by decide +kernel
theorem dX5_isClamped_48 : decode cX5_isClamped 48 = .ok (.invokevirtual 128, 3) := by decide +kernel
theorem dX5_isClamped_51 : decode cX5_isClamped 51 = .ok (.ifCond .eq 5, 3) := by decide +kernel
theorem dX5_isClamped_54 : decode cX5_isClamped 54 = .ok (.iconst 1, 1) := by decide +kernel
theorem dX5_isClamped_55 : decode cX5_isClamped 55 = .ok (.ireturn, 1) := by decide +kernel
theorem dX5_isClamped_56 : decode cX5_isClamped 56 = .ok (.iinc 4 1, 3) := by decide +kernel
theorem dX5_isClamped_59 : decode cX5_isClamped 59 = .ok (.goto (-46), 3) := by decide +kernel
theorem dX5_isClamped_62 : decode cX5_isClamped 62 = .ok (.iconst 0, 1) := by decide +kernel
theorem dX5_isClamped_63 : decode cX5_isClamped 63 = .ok (.ireturn, 1) := by decide +kernel
theorem dX6_init_0 : decode cX6_init 0 = .ok (.aload_n 0, 1) := by decide +kernel
theorem dX6_init_1 : decode cX6_init 1 = .ok (.invokespecial 3, 3) := by decide +kernel
theorem dX6_init_4 : decode cX6_init 4 = .ok (.aload_n 0, 1) := by decide +kernel
theorem dX6_init_5 : decode cX6_init 5 = .ok (.sipush 200, 3) := by decide +kernel
theorem dX6_init_8 : decode cX6_init 8 = .ok (.newarray .char, 2) := by decide +kernel
theorem dX6_init_10 : decode cX6_init 10 = .ok (.putfield 9, 3) := by decide +kernel
theorem dX6_init_13 : decode cX6_init 13 = .ok (.return_, 1) := by decide +kernel
theorem dX6_append_0 : decode cX6_append 0 = .ok (.aload_n 0, 1) := by decide +kernel
theorem dX6_append_1 : decode cX6_append 1 = .ok (.getfield 15, 3) := by decide +kernel
theorem dX6_append_4 : decode cX6_append 4 = .ok (.sipush 200, 3) := by decide +kernel
theorem dX6_append_7 : decode cX6_append 7 = .ok (.if_icmp .lt 5, 3) := by decide +kernel
theorem dX6_append_10 : decode cX6_append 10 = .ok (.iconst 0, 1) := by decide +kernel
theorem dX6_append_11 : decode cX6_append 11 = .ok (.ireturn, 1) := by decide +kernel
theorem dX6_append_12 : decode cX6_append 12 = .ok (.aload_n 0, 1) := by decide +kernel
theorem dX6_append_13 : decode cX6_append 13 = .ok (.getfield 9, 3) := by decide +kernel
theorem dX6_append_16 : decode cX6_append 16 = .ok (.aload_n 0, 1) := by decide +kernel
theorem dX6_append_17 : decode cX6_append 17 = .ok (.getfield 15, 3) := by decide +kernel
theorem dX6_append_20 : decode cX6_append 20 = .ok (.iload_n 1, 1) := by decide +kernel
theorem dX6_append_21 : decode cX6_append 21 = .ok (.castore, 1) := by decide +kernel
theorem dX6_append_22 : decode cX6_append 22 = .ok (.aload_n 0, 1) := by decide +kernel
theorem dX6_append_23 : decode cX6_append 23 = .ok (.dup, 1) := by decide +kernel
theorem dX6_append_24 : decode cX6_append 24 = .ok (.getfield 15, 3) := by decide +kernel
theorem dX6_append_27 : decode cX6_append 27 = .ok (.iconst 1, 1) := by decide +kernel
theorem dX6_append_28 : decode cX6_append 28 = .ok (.iadd, 1) := by decide +kernel
theorem dX6_append_29 : decode cX6_append 29 = .ok (.putfield 15, 3) := by decide +kernel
theorem dX6_append_32 : decode cX6_append 32 = .ok (.iconst 1, 1) := by decide +kernel
theorem dX6_append_33 : decode cX6_append 33 = .ok (.ireturn, 1) := by decide +kernel
theorem dX6_clear_0 : decode cX6_clear 0 = .ok (.aload_n 0, 1) := by decide +kernel
theorem dX6_clear_1 : decode cX6_clear 1 = .ok (.iconst 0, 1) := by decide +kernel
theorem dX6_clear_2 : decode cX6_clear 2 = .ok (.putfield 15, 3) := by decide +kernel
theorem dX6_clear_5 : decode cX6_clear 5 = .ok (.return_, 1) := by decide +kernel
theorem dX6_letterAt_0 : decode cX6_letterAt 0 = .ok (.iload_n 1, 1) := by decide +kernel
theorem dX6_letterAt_1 : decode cX6_letterAt 1 = .ok (.ifCond .lt 20, 3) := by decide +kernel
theorem dX6_letterAt_4 : decode cX6_letterAt 4 = .ok (.iload_n 1, 1) := by decide +kernel
theorem dX6_letterAt_5 : decode cX6_letterAt 5 = .ok (.aload_n 0, 1) := by decide +kernel
theorem dX6_letterAt_6 : decode cX6_letterAt 6 = .ok (.getfield 15, 3) := by decide +kernel
theorem dX6_letterAt_9 : decode cX6_letterAt 9 = .ok (.if_icmp .ge 12, 3) := by decide +kernel
theorem dX6_letterAt_12 : decode cX6_letterAt 12 = .ok (.aload_n 0, 1) := by decide +kernel
theorem dX6_letterAt_13 : decode cX6_letterAt 13 = .ok (.getfield 9, 3) := by decide +kernel
theorem dX6_letterAt_16 : decode cX6_letterAt 16 = .ok (.iload_n 1, 1) := by decide +kernel
theorem dX6_letterAt_17 : decode cX6_letterAt 17 = .ok (.caload, 1) := by decide +kernel
theorem dX6_letterAt_18 : decode cX6_letterAt 18 = .ok (.goto 4, 3) := by decide +kernel
theorem dX6_letterAt_21 : decode cX6_letterAt 21 = .ok (.iconst 0, 1) := by decide +kernel
theorem dX6_letterAt_22 : decode cX6_letterAt 22 = .ok (.ireturn, 1) := by decide +kernel
theorem dX7_init_0 : decode cX7_init 0 = .ok (.aload_n 0, 1) := by decide +kernel
theorem dX7_init_1 : decode cX7_init 1 = .ok (.invokespecial 1, 3) := by decide +kernel
theorem dX7_init_4 : decode cX7_init 4 = .ok (.return_, 1) := by decide +kernel
theorem dX7_wideWhen_0 : decode cX7_wideWhen 0 = .ok (.iload_n 1, 1) := by decide +kernel
theorem dX7_wideWhen_1 : decode cX7_wideWhen 1 = .ok (.ifCond .eq 10, 3) := by decide +kernel
theorem dX7_wideWhen_4 : decode cX7_wideWhen 4 = .ok (.aload_n 0, 1) := by decide +kernel
theorem dX7_wideWhen_5 : decode cX7_wideWhen 5 = .ok (.getfield 7, 3) := by decide +kernel
theorem dX7_wideWhen_8 : decode cX7_wideWhen 8 = .ok (.goto 7, 3) := by decide +kernel
theorem dX7_wideWhen_11 : decode cX7_wideWhen 11 = .ok (.aload_n 0, 1) := by decide +kernel
theorem dX7_wideWhen_12 : decode cX7_wideWhen 12 = .ok (.getfield 13, 3) := by decide +kernel
theorem dX7_wideWhen_15 : decode cX7_wideWhen 15 = .ok (.ireturn, 1) := by decide +kernel
theorem dX7_highWhen_0 : decode cX7_highWhen 0 = .ok (.iload_n 1, 1) := by decide +kernel
theorem dX7_highWhen_1 : decode cX7_highWhen 1 = .ok (.ifCond .eq 10, 3) := by decide +kernel
theorem dX7_highWhen_4 : decode cX7_highWhen 4 = .ok (.aload_n 0, 1) := by decide +kernel
theorem dX7_highWhen_5 : decode cX7_highWhen 5 = .ok (.getfield 13, 3) := by decide +kernel
theorem dX7_highWhen_8 : decode cX7_highWhen 8 = .ok (.goto 7, 3) := by decide +kernel
theorem dX7_highWhen_11 : decode cX7_highWhen 11 = .ok (.aload_n 0, 1) := by decide +kernel
theorem dX7_highWhen_12 : decode cX7_highWhen 12 = .ok (.getfield 7, 3) := by decide +kernel
theorem dX7_highWhen_15 : decode cX7_highWhen 15 = .ok (.ireturn, 1) := by decide +kernel
theorem dX7_stampAt_0 : decode cX7_stampAt 0 = .ok (.aload_n 1, 1) := by decide +kernel
theorem dX7_stampAt_1 : decode cX7_stampAt 1 = .ok (.iload_n 2, 1) := by decide +kernel
theorem dX7_stampAt_2 : decode cX7_stampAt 2 = .ok (.iload_n 3, 1) := by decide +kernel
theorem dX7_stampAt_3 : decode cX7_stampAt 3 = .ok (.aload_n 0, 1) := by decide +kernel
theorem dX7_stampAt_4 : decode cX7_stampAt 4 = .ok (.iload 4, 2) := by decide +kernel
theorem dX7_stampAt_6 : decode cX7_stampAt 6 = .ok (.invokevirtual 16, 3) := by decide +kernel
theorem dX7_stampAt_9 : decode cX7_stampAt 9 = .ok (.aload_n 0, 1) := by decide +kernel
theorem dX7_stampAt_10 : decode cX7_stampAt 10 = .ok (.iload 4, 2) := by decide +kernel
theorem dX7_stampAt_12 : decode cX7_stampAt 12 = .ok (.invokevirtual 20, 3) := by decide +kernel
theorem dX7_stampAt_15 : decode cX7_stampAt 15 = .ok (.invokevirtual 23, 3) := by decide +kernel
theorem dX7_stampAt_18 : decode cX7_stampAt 18 = .ok (.return_, 1) := by decide +kernel
theorem dX7_hitsFor_0 : decode cX7_hitsFor 0 = .ok (.aload_n 0, 1) := by decide +kernel
theorem dX7_hitsFor_1 : decode cX7_hitsFor 1 = .ok (.iload_n 2, 1) := by decide +kernel
theorem dX7_hitsFor_2 : decode cX7_hitsFor 2 = .ok (.invokevirtual 16, 3) := by decide +kernel
theorem dX7_hitsFor_5 : decode cX7_hitsFor 5 = .ok (.istore_n 3, 1) := by decide +kernel
theorem dX7_hitsFor_6 : decode cX7_hitsFor 6 = .ok (.aload_n 0, 1) := by decide +kernel
theorem dX7_hitsFor_7 : decode cX7_hitsFor 7 = .ok (.iload_n 2, 1) := by decide +kernel
theorem dX7_hitsFor_8 : decode cX7_hitsFor 8 = .ok (.invokevirtual 20, 3) := by decide +kernel
theorem dX7_hitsFor_11 : decode cX7_hitsFor 11 = .ok (.istore 4, 2) := by decide +kernel
theorem dX7_hitsFor_13 : decode cX7_hitsFor 13 = .ok (.iload_n 2, 1) := by decide +kernel
theorem dX7_hitsFor_14 : decode cX7_hitsFor 14 = .ok (.ifCond .eq 10, 3) := by decide +kernel
theorem dX7_hitsFor_17 : decode cX7_hitsFor 17 = .ok (.aload_n 0, 1) := by decide +kernel
theorem dX7_hitsFor_18 : decode cX7_hitsFor 18 = .ok (.getfield 29, 3) := by decide +kernel
theorem dX7_hitsFor_21 : decode cX7_hitsFor 21 = .ok (.ifCond .eq 20, 3) := by decide +kernel
theorem dX7_hitsFor_24 : decode cX7_hitsFor 24 = .ok (.iload_n 3, 1) := by decide +kernel
theorem dX7_hitsFor_25 : decode cX7_hitsFor 25 = .ok (.aload_n 1, 1) := by decide +kernel
theorem dX7_hitsFor_26 : decode cX7_hitsFor 26 = .ok (.getfield 33, 3) := by decide +kernel
theorem dX7_hitsFor_29 : decode cX7_hitsFor 29 = .ok (.if_icmp .gt 12, 3) := by decide +kernel
theorem dX7_hitsFor_32 : decode cX7_hitsFor 32 = .ok (.iload 4, 2) := by decide +kernel
theorem dX7_hitsFor_34 : decode cX7_hitsFor 34 = .ok (.aload_n 1, 1) := by decide +kernel
theorem dX7_hitsFor_35 : decode cX7_hitsFor 35 = .ok (.getfield 34, 3) := by decide +kernel
theorem dX7_hitsFor_38 : decode cX7_hitsFor 38 = .ok (.if_icmp .le 5, 3) := by decide +kernel
theorem dX7_hitsFor_41 : decode cX7_hitsFor 41 = .ok (.iconst 0, 1) := by decide +kernel
theorem dX7_hitsFor_42 : decode cX7_hitsFor 42 = .ok (.ireturn, 1) := by decide +kernel
theorem dX7_hitsFor_43 : decode cX7_hitsFor 43 = .ok (.aload_n 1, 1) := by decide +kernel
theorem dX7_hitsFor_44 : decode cX7_hitsFor 44 = .ok (.getfield 33, 3) := by decide +kernel
theorem dX7_hitsFor_47 : decode cX7_hitsFor 47 = .ok (.iload_n 3, 1) := by decide +kernel
theorem dX7_hitsFor_48 : decode cX7_hitsFor 48 = .ok (.invokestatic 35, 3) := by decide +kernel
theorem dX7_hitsFor_51 : decode cX7_hitsFor 51 = .ok (.aload_n 1, 1) := by decide +kernel
theorem dX7_hitsFor_52 : decode cX7_hitsFor 52 = .ok (.getfield 34, 3) := by decide +kernel
theorem dX7_hitsFor_55 : decode cX7_hitsFor 55 = .ok (.iload 4, 2) := by decide +kernel
theorem dX7_hitsFor_57 : decode cX7_hitsFor 57 = .ok (.invokestatic 35, 3) := by decide +kernel
theorem dX7_hitsFor_60 : decode cX7_hitsFor 60 = .ok (.imul, 1) := by decide +kernel
theorem dX7_hitsFor_61 : decode cX7_hitsFor 61 = .ok (.ireturn, 1) := by decide +kernel
theorem dX8_init_0 : decode cX8_init 0 = .ok (.aload_n 0, 1) := by decide +kernel
theorem dX8_init_1 : decode cX8_init 1 = .ok (.invokespecial 1, 3) := by decide +kernel
theorem dX8_init_4 : decode cX8_init 4 = .ok (.aload_n 0, 1) := by decide +kernel
theorem dX8_init_5 : decode cX8_init 5 = .ok (.new 7, 3) := by decide +kernel
theorem dX8_init_8 : decode cX8_init 8 = .ok (.dup, 1) := by decide +kernel
theorem dX8_init_9 : decode cX8_init 9 = .ok (.invokespecial 9, 3) := by decide +kernel
theorem dX8_init_12 : decode cX8_init 12 = .ok (.putfield 10, 3) := by decide +kernel
theorem dX8_init_15 : decode cX8_init 15 = .ok (.aload_n 0, 1) := by decide +kernel
theorem dX8_init_16 : decode cX8_init 16 = .ok (.new 16, 3) := by decide +kernel
theorem dX8_init_19 : decode cX8_init 19 = .ok (.dup, 1) := by decide +kernel
theorem dX8_init_20 : decode cX8_init 20 = .ok (.invokespecial 18, 3) := by decide +kernel
theorem dX8_init_23 : decode cX8_init 23 = .ok (.putfield 19, 3) := by decide +kernel
theorem dX8_init_26 : decode cX8_init 26 = .ok (.aload_n 0, 1) := by decide +kernel
theorem dX8_init_27 : decode cX8_init 27 = .ok (.new 23, 3) := by decide +kernel
theorem dX8_init_30 : decode cX8_init 30 = .ok (.dup, 1) := by decide +kernel
theorem dX8_init_31 : decode cX8_init 31 = .ok (.invokespecial 25, 3) := by decide +kernel
theorem dX8_init_34 : decode cX8_init 34 = .ok (.putfield 26, 3) := by decide +kernel
theorem dX8_init_37 : decode cX8_init 37 = .ok (.aload_n 0, 1) := by decide +kernel
theorem dX8_init_38 : decode cX8_init 38 = .ok (.new 23, 3) := by decide +kernel
theorem dX8_init_41 : decode cX8_init 41 = .ok (.dup, 1) := by decide +kernel
theorem dX8_init_42 : decode cX8_init 42 = .ok (.invokespecial 25, 3) := by decide +kernel
theorem dX8_init_45 : decode cX8_init 45 = .ok (.putfield 30, 3) := by decide +kernel
theorem dX8_init_48 : decode cX8_init 48 = .ok (.aload_n 0, 1) := by decide +kernel
theorem dX8_init_49 : decode cX8_init 49 = .ok (.new 33, 3) := by decide +kernel
theorem dX8_init_52 : decode cX8_init 52 = .ok (.dup, 1) := by decide +kernel
theorem dX8_init_53 : decode cX8_init 53 = .ok (.invokespecial 35, 3) := by decide +kernel
theorem dX8_init_56 : decode cX8_init 56 = .ok (.putfield 36, 3) := by decide +kernel
theorem dX8_init_59 : decode cX8_init 59 = .ok (.aload_n 0, 1) := by decide +kernel
theorem dX8_init_60 : decode cX8_init 60 = .ok (.new 40, 3) := by decide +kernel
theorem dX8_init_63 : decode cX8_init 63 = .ok (.dup, 1) := by decide +kernel
theorem dX8_init_64 : decode cX8_init 64 = .ok (.invokespecial 42, 3) := by decide +kernel
theorem dX8_init_67 : decode cX8_init 67 = .ok (.putfield 43, 3) := by decide +kernel
theorem dX8_init_70 : decode cX8_init 70 = .ok (.aload_n 0, 1) := by decide +kernel
theorem dX8_init_71 : decode cX8_init 71 = .ok (.new 47, 3) := by decide +kernel
theorem dX8_init_74 : decode cX8_init 74 = .ok (.dup, 1) := by decide +kernel
theorem dX8_init_75 : decode cX8_init 75 = .ok (.invokespecial 49, 3) := by decide +kernel
theorem dX8_init_78 : decode cX8_init 78 = .ok (.putfield 50, 3) := by decide +kernel
theorem dX8_init_81 : decode cX8_init 81 = .ok (.aload_n 0, 1) := by decide +kernel
theorem dX8_init_82 : decode cX8_init 82 = .ok (.new 54, 3) := by decide +kernel
theorem dX8_init_85 : decode cX8_init 85 = .ok (.dup, 1) := by decide +kernel
theorem dX8_init_86 : decode cX8_init 86 = .ok (.invokespecial 56, 3) := by decide +kernel
theorem dX8_init_89 : decode cX8_init 89 = .ok (.putfield 57, 3) := by decide +kernel
theorem dX8_init_92 : decode cX8_init 92 = .ok (.aload_n 0, 1) := by decide +kernel
theorem dX8_init_93 : decode cX8_init 93 = .ok (.new 54, 3) := by decide +kernel
theorem dX8_init_96 : decode cX8_init 96 = .ok (.dup, 1) := by decide +kernel
theorem dX8_init_97 : decode cX8_init 97 = .ok (.invokespecial 56, 3) := by decide +kernel
theorem dX8_init_100 : decode cX8_init 100 = .ok (.putfield 61, 3) := by decide +kernel
theorem dX8_init_103 : decode cX8_init 103 = .ok (.iconst 0, 1) := by decide +kernel
theorem dX8_init_104 : decode cX8_init 104 = .ok (.istore_n 1, 1) := by decide +kernel
theorem dX8_init_105 : decode cX8_init 105 = .ok (.iload_n 1, 1) := by decide +kernel
theorem dX8_init_106 : decode cX8_init 106 = .ok (.ldc 64, 2) := by decide +kernel
theorem dX8_init_108 : decode cX8_init 108 = .ok (.invokevirtual 66, 3) := by decide +kernel
theorem dX8_init_111 : decode cX8_init 111 = .ok (.if_icmp .ge 23, 3) := by decide +kernel
theorem dX8_init_114 : decode cX8_init 114 = .ok (.aload_n 0, 1) := by decide +kernel
theorem dX8_init_115 : decode cX8_init 115 = .ok (.getfield 10, 3) := by decide +kernel
theorem dX8_init_118 : decode cX8_init 118 = .ok (.ldc 64, 2) := by decide +kernel
theorem dX8_init_120 : decode cX8_init 120 = .ok (.iload_n 1, 1) := by decide +kernel
theorem dX8_init_121 : decode cX8_init 121 = .ok (.invokevirtual 72, 3) := by decide +kernel
theorem dX8_init_124 : decode cX8_init 124 = .ok (.invokevirtual 76, 3) := by decide +kernel
theorem dX8_init_127 : decode cX8_init 127 = .ok (.pop, 1) := by decide +kernel
theorem dX8_init_128 : decode cX8_init 128 = .ok (.iinc 1 1, 3) := by decide +kernel
theorem dX8_init_131 : decode cX8_init 131 = .ok (.goto (-26), 3) := by decide +kernel
theorem dX8_init_134 : decode cX8_init 134 = .ok (.aload_n 0, 1) := by decide +kernel
theorem dX8_init_135 : decode cX8_init 135 = .ok (.invokevirtual 80, 3) := by decide +kernel
theorem dX8_init_138 : decode cX8_init 138 = .ok (.pop, 1) := by decide +kernel
theorem dX8_init_139 : decode cX8_init 139 = .ok (.aload_n 0, 1) := by decide +kernel
theorem dX8_init_140 : decode cX8_init 140 = .ok (.getfield 10, 3) := by decide +kernel
theorem dX8_init_143 : decode cX8_init 143 = .ok (.invokevirtual 84, 3) := by decide +kernel
theorem dX8_init_146 : decode cX8_init 146 = .ok (.return_, 1) := by decide +kernel
theorem dX8_write_0 : decode cX8_write 0 = .ok (.iload_n 1, 1) := by decide +kernel
theorem dX8_write_1 : decode cX8_write 1 = .ok (.bipush 32, 2) := by decide +kernel
theorem dX8_write_3 : decode cX8_write 3 = .ok (.if_icmp .lt 9, 3) := by decide +kernel
theorem dX8_write_6 : decode cX8_write 6 = .ok (.iload_n 1, 1) := by decide +kernel
theorem dX8_write_7 : decode cX8_write 7 = .ok (.bipush 126, 2) := by decide +kernel
theorem dX8_write_9 : decode cX8_write 9 = .ok (.if_icmp .le 5, 3) := by decide +kernel
theorem dX8_write_12 : decode cX8_write 12 = .ok (.iconst (-1), 1) := by decide +kernel
theorem dX8_write_13 : decode cX8_write 13 = .ok (.ireturn, 1) := by decide +kernel
theorem dX8_write_14 : decode cX8_write 14 = .ok (.aload_n 0, 1) := by decide +kernel
theorem dX8_write_15 : decode cX8_write 15 = .ok (.getfield 10, 3) := by decide +kernel
theorem dX8_write_18 : decode cX8_write 18 = .ok (.iload_n 1, 1) := by decide +kernel
theorem dX8_write_19 : decode cX8_write 19 = .ok (.i2c, 1) := by decide +kernel
theorem dX8_write_20 : decode cX8_write 20 = .ok (.invokevirtual 76, 3) := by decide +kernel
theorem dX8_write_23 : decode cX8_write 23 = .ok (.ifCond .eq 13, 3) := by decide +kernel
theorem dX8_write_26 : decode cX8_write 26 = .ok (.aload_n 0, 1) := by decide +kernel
theorem dX8_write_27 : decode cX8_write 27 = .ok (.getfield 10, 3) := by decide +kernel
theorem dX8_write_30 : decode cX8_write 30 = .ok (.getfield 87, 3) := by decide +kernel
theorem dX8_write_33 : decode cX8_write 33 = .ok (.goto 5, 3) := by decide +kernel
theorem dX8_write_36 : decode cX8_write 36 = .ok (.bipush (-3), 2) := by decide +kernel
theorem dX8_write_38 : decode cX8_write 38 = .ok (.ireturn, 1) := by decide +kernel
theorem dX8_wipe_0 : decode cX8_wipe 0 = .ok (.aload_n 0, 1) := by decide +kernel
theorem dX8_wipe_1 : decode cX8_wipe 1 = .ok (.getfield 10, 3) := by decide +kernel
theorem dX8_wipe_4 : decode cX8_wipe 4 = .ok (.getfield 87, 3) := by decide +kernel
theorem dX8_wipe_7 : decode cX8_wipe 7 = .ok (.istore_n 1, 1) := by decide +kernel
theorem dX8_wipe_8 : decode cX8_wipe 8 = .ok (.aload_n 0, 1) := by decide +kernel
theorem dX8_wipe_9 : decode cX8_wipe 9 = .ok (.getfield 10, 3) := by decide +kernel
theorem dX8_wipe_12 : decode cX8_wipe 12 = .ok (.invokevirtual 84, 3) := by decide +kernel
theorem dX8_wipe_15 : decode cX8_wipe 15 = .ok (.iload_n 1, 1) := by decide +kernel
theorem dX8_wipe_16 : decode cX8_wipe 16 = .ok (.ireturn, 1) := by decide +kernel
theorem dX8_fault_0 : decode cX8_fault 0 = .ok (.aload_n 0, 1) := by decide +kernel
theorem dX8_fault_1 : decode cX8_fault 1 = .ok (.getfield 19, 3) := by decide +kernel
theorem dX8_fault_4 : decode cX8_fault 4 = .ok (.aload_n 0, 1) := by decide +kernel
theorem dX8_fault_5 : decode cX8_fault 5 = .ok (.getfield 10, 3) := by decide +kernel
theorem dX8_fault_8 : decode cX8_fault 8 = .ok (.aload_n 0, 1) := by decide +kernel
theorem dX8_fault_9 : decode cX8_fault 9 = .ok (.getfield 61, 3) := by decide +kernel
theorem dX8_fault_12 : decode cX8_fault 12 = .ok (.invokevirtual 90, 3) := by decide +kernel
theorem dX8_fault_15 : decode cX8_fault 15 = .ok (.ireturn, 1) := by decide +kernel
theorem dX8_lay_0 : decode cX8_lay 0 = .ok (.aload_n 0, 1) := by decide +kernel
theorem dX8_lay_1 : decode cX8_lay 1 = .ok (.invokevirtual 80, 3) := by decide +kernel
theorem dX8_lay_4 : decode cX8_lay 4 = .ok (.ifCond .eq 13, 3) := by decide +kernel
theorem dX8_lay_7 : decode cX8_lay 7 = .ok (.aload_n 0, 1) := by decide +kernel
theorem dX8_lay_8 : decode cX8_lay 8 = .ok (.getfield 57, 3) := by decide +kernel
theorem dX8_lay_11 : decode cX8_lay 11 = .ok (.getfield 94, 3) := by decide +kernel
theorem dX8_lay_14 : decode cX8_lay 14 = .ok (.goto 5, 3) := by decide +kernel
theorem dX8_lay_17 : decode cX8_lay 17 = .ok (.bipush (-2), 2) := by decide +kernel
theorem dX8_lay_19 : decode cX8_lay 19 = .ok (.ireturn, 1) := by decide +kernel
theorem dX8_hit_0 : decode cX8_hit 0 = .ok (.aload_n 0, 1) := by decide +kernel
theorem dX8_hit_1 : decode cX8_hit 1 = .ok (.iload_n 1, 1) := by decide +kernel
theorem dX8_hit_2 : decode cX8_hit 2 = .ok (.iload_n 2, 1) := by decide +kernel
end
section
theorem dX8_hit_3 : decode cX8_hit 3 = .ok (.iload_n 3, 1) := by decide +kernel
theorem dX8_hit_4 : decode cX8_hit 4 = .ok (.iload 4, 2) := by decide +kernel
theorem dX8_hit_6 : decode cX8_hit 6 = .ok (.invokevirtual 97, 3) := by decide +kernel
theorem dX8_hit_9 : decode cX8_hit 9 = .ok (.ifCond .ne 5, 3) := by decide +kernel
theorem dX8_hit_12 : decode cX8_hit 12 = .ok (.iconst (-1), 1) := by decide +kernel
theorem dX8_hit_13 : decode cX8_hit 13 = .ok (.ireturn, 1) := by decide +kernel
theorem dX8_hit_14 : decode cX8_hit 14 = .ok (.aload_n 0, 1) := by decide +kernel
theorem dX8_hit_15 : decode cX8_hit 15 = .ok (.getfield 57, 3) := by decide +kernel
theorem dX8_hit_18 : decode cX8_hit 18 = .ok (.getfield 101, 3) := by decide +kernel
theorem dX8_hit_21 : decode cX8_hit 21 = .ok (.iload_n 1, 1) := by decide +kernel
theorem dX8_hit_22 : decode cX8_hit 22 = .ok (.aaload, 1) := by decide +kernel
theorem dX8_hit_23 : decode cX8_hit 23 = .ok (.aload_n 0, 1) := by decide +kernel
theorem dX8_hit_24 : decode cX8_hit 24 = .ok (.getfield 50, 3) := by decide +kernel
theorem dX8_hit_27 : decode cX8_hit 27 = .ok (.iload_n 2, 1) := by decide +kernel
theorem dX8_hit_28 : decode cX8_hit 28 = .ok (.iload_n 3, 1) := by decide +kernel
theorem dX8_hit_29 : decode cX8_hit 29 = .ok (.iload 4, 2) := by decide +kernel
theorem dX8_hit_31 : decode cX8_hit 31 = .ok (.iconst 1, 1) := by decide +kernel
theorem dX8_hit_32 : decode cX8_hit 32 = .ok (.if_icmp .ne 7, 3) := by decide +kernel
theorem dX8_hit_35 : decode cX8_hit 35 = .ok (.iconst 1, 1) := by decide +kernel
theorem dX8_hit_36 : decode cX8_hit 36 = .ok (.goto 4, 3) := by decide +kernel
theorem dX8_hit_39 : decode cX8_hit 39 = .ok (.iconst 0, 1) := by decide +kernel
theorem dX8_hit_40 : decode cX8_hit 40 = .ok (.invokevirtual 105, 3) := by decide +kernel
theorem dX8_hit_43 : decode cX8_hit 43 = .ok (.aload_n 0, 1) := by decide +kernel
theorem dX8_hit_44 : decode cX8_hit 44 = .ok (.getfield 26, 3) := by decide +kernel
theorem dX8_hit_47 : decode cX8_hit 47 = .ok (.aload_n 0, 1) := by decide +kernel
theorem dX8_hit_48 : decode cX8_hit 48 = .ok (.getfield 57, 3) := by decide +kernel
theorem dX8_hit_51 : decode cX8_hit 51 = .ok (.iload_n 1, 1) := by decide +kernel
theorem dX8_hit_52 : decode cX8_hit 52 = .ok (.iload 4, 2) := by decide +kernel
theorem dX8_hit_54 : decode cX8_hit 54 = .ok (.iconst 1, 1) := by decide +kernel
theorem dX8_hit_55 : decode cX8_hit 55 = .ok (.if_icmp .ne 7, 3) := by decide +kernel
theorem dX8_hit_58 : decode cX8_hit 58 = .ok (.iconst 1, 1) := by decide +kernel
theorem dX8_hit_59 : decode cX8_hit 59 = .ok (.goto 4, 3) := by decide +kernel
theorem dX8_hit_62 : decode cX8_hit 62 = .ok (.iconst 0, 1) := by decide +kernel
theorem dX8_hit_63 : decode cX8_hit 63 = .ok (.aload_n 0, 1) := by decide +kernel
theorem dX8_hit_64 : decode cX8_hit 64 = .ok (.getfield 50, 3) := by decide +kernel
theorem dX8_hit_67 : decode cX8_hit 67 = .ok (.invokevirtual 111, 3) := by decide +kernel
theorem dX8_hit_70 : decode cX8_hit 70 = .ok (.ifCond .eq 6, 3) := by decide +kernel
theorem dX8_hit_73 : decode cX8_hit 73 = .ok (.bipush (-2), 2) := by decide +kernel
theorem dX8_hit_75 : decode cX8_hit 75 = .ok (.ireturn, 1) := by decide +kernel
theorem dX8_hit_76 : decode cX8_hit 76 = .ok (.aload_n 0, 1) := by decide +kernel
theorem dX8_hit_77 : decode cX8_hit 77 = .ok (.getfield 36, 3) := by decide +kernel
theorem dX8_hit_80 : decode cX8_hit 80 = .ok (.aload_n 0, 1) := by decide +kernel
theorem dX8_hit_81 : decode cX8_hit 81 = .ok (.getfield 26, 3) := by decide +kernel
theorem dX8_hit_84 : decode cX8_hit 84 = .ok (.invokevirtual 115, 3) := by decide +kernel
theorem dX8_hit_87 : decode cX8_hit 87 = .ok (.aload_n 0, 1) := by decide +kernel
theorem dX8_hit_88 : decode cX8_hit 88 = .ok (.getfield 26, 3) := by decide +kernel
theorem dX8_hit_91 : decode cX8_hit 91 = .ok (.aload_n 0, 1) := by decide +kernel
theorem dX8_hit_92 : decode cX8_hit 92 = .ok (.getfield 57, 3) := by decide +kernel
theorem dX8_hit_95 : decode cX8_hit 95 = .ok (.iload_n 1, 1) := by decide +kernel
theorem dX8_hit_96 : decode cX8_hit 96 = .ok (.aload_n 0, 1) := by decide +kernel
theorem dX8_hit_97 : decode cX8_hit 97 = .ok (.getfield 50, 3) := by decide +kernel
theorem dX8_hit_100 : decode cX8_hit 100 = .ok (.invokevirtual 119, 3) := by decide +kernel
theorem dX8_hit_103 : decode cX8_hit 103 = .ok (.ireturn, 1) := by decide +kernel
theorem dX8_why_0 : decode cX8_why 0 = .ok (.aload_n 0, 1) := by decide +kernel
theorem dX8_why_1 : decode cX8_why 1 = .ok (.iload_n 1, 1) := by decide +kernel
theorem dX8_why_2 : decode cX8_why 2 = .ok (.iload_n 2, 1) := by decide +kernel
theorem dX8_why_3 : decode cX8_why 3 = .ok (.iload_n 3, 1) := by decide +kernel
theorem dX8_why_4 : decode cX8_why 4 = .ok (.iload 4, 2) := by decide +kernel
theorem dX8_why_6 : decode cX8_why 6 = .ok (.invokevirtual 97, 3) := by decide +kernel
theorem dX8_why_9 : decode cX8_why 9 = .ok (.ifCond .ne 5, 3) := by decide +kernel
theorem dX8_why_12 : decode cX8_why 12 = .ok (.iconst (-1), 1) := by decide +kernel
theorem dX8_why_13 : decode cX8_why 13 = .ok (.ireturn, 1) := by decide +kernel
theorem dX8_why_14 : decode cX8_why 14 = .ok (.aload_n 0, 1) := by decide +kernel
theorem dX8_why_15 : decode cX8_why 15 = .ok (.getfield 57, 3) := by decide +kernel
theorem dX8_why_18 : decode cX8_why 18 = .ok (.getfield 101, 3) := by decide +kernel
theorem dX8_why_21 : decode cX8_why 21 = .ok (.iload_n 1, 1) := by decide +kernel
theorem dX8_why_22 : decode cX8_why 22 = .ok (.aaload, 1) := by decide +kernel
theorem dX8_why_23 : decode cX8_why 23 = .ok (.aload_n 0, 1) := by decide +kernel
theorem dX8_why_24 : decode cX8_why 24 = .ok (.getfield 50, 3) := by decide +kernel
theorem dX8_why_27 : decode cX8_why 27 = .ok (.iload_n 2, 1) := by decide +kernel
theorem dX8_why_28 : decode cX8_why 28 = .ok (.iload_n 3, 1) := by decide +kernel
theorem dX8_why_29 : decode cX8_why 29 = .ok (.iload 4, 2) := by decide +kernel
theorem dX8_why_31 : decode cX8_why 31 = .ok (.iconst 1, 1) := by decide +kernel
theorem dX8_why_32 : decode cX8_why 32 = .ok (.if_icmp .ne 7, 3) := by decide +kernel
theorem dX8_why_35 : decode cX8_why 35 = .ok (.iconst 1, 1) := by decide +kernel
theorem dX8_why_36 : decode cX8_why 36 = .ok (.goto 4, 3) := by decide +kernel
theorem dX8_why_39 : decode cX8_why 39 = .ok (.iconst 0, 1) := by decide +kernel
theorem dX8_why_40 : decode cX8_why 40 = .ok (.invokevirtual 105, 3) := by decide +kernel
theorem dX8_why_43 : decode cX8_why 43 = .ok (.aload_n 0, 1) := by decide +kernel
theorem dX8_why_44 : decode cX8_why 44 = .ok (.getfield 26, 3) := by decide +kernel
theorem dX8_why_47 : decode cX8_why 47 = .ok (.aload_n 0, 1) := by decide +kernel
theorem dX8_why_48 : decode cX8_why 48 = .ok (.getfield 57, 3) := by decide +kernel
theorem dX8_why_51 : decode cX8_why 51 = .ok (.iload_n 1, 1) := by decide +kernel
theorem dX8_why_52 : decode cX8_why 52 = .ok (.iload 4, 2) := by decide +kernel
theorem dX8_why_54 : decode cX8_why 54 = .ok (.iconst 1, 1) := by decide +kernel
theorem dX8_why_55 : decode cX8_why 55 = .ok (.if_icmp .ne 7, 3) := by decide +kernel
theorem dX8_why_58 : decode cX8_why 58 = .ok (.iconst 1, 1) := by decide +kernel
theorem dX8_why_59 : decode cX8_why 59 = .ok (.goto 4, 3) := by decide +kernel
theorem dX8_why_62 : decode cX8_why 62 = .ok (.iconst 0, 1) := by decide +kernel
theorem dX8_why_63 : decode cX8_why 63 = .ok (.aload_n 0, 1) := by decide +kernel
theorem dX8_why_64 : decode cX8_why 64 = .ok (.getfield 50, 3) := by decide +kernel
theorem dX8_why_67 : decode cX8_why 67 = .ok (.invokevirtual 111, 3) := by decide +kernel
theorem dX8_why_70 : decode cX8_why 70 = .ok (.ireturn, 1) := by decide +kernel
theorem dX8_nibble_0 : decode cX8_nibble 0 = .ok (.aload_n 0, 1) := by decide +kernel
theorem dX8_nibble_1 : decode cX8_nibble 1 = .ok (.iload_n 1, 1) := by decide +kernel
theorem dX8_nibble_2 : decode cX8_nibble 2 = .ok (.invokevirtual 123, 3) := by decide +kernel
theorem dX8_nibble_5 : decode cX8_nibble 5 = .ok (.ifCond .eq 18, 3) := by decide +kernel
theorem dX8_nibble_8 : decode cX8_nibble 8 = .ok (.aload_n 0, 1) := by decide +kernel
theorem dX8_nibble_9 : decode cX8_nibble 9 = .ok (.iload_n 2, 1) := by decide +kernel
theorem dX8_nibble_10 : decode cX8_nibble 10 = .ok (.invokevirtual 127, 3) := by decide +kernel
theorem dX8_nibble_13 : decode cX8_nibble 13 = .ok (.ifCond .eq 10, 3) := by decide +kernel
theorem dX8_nibble_16 : decode cX8_nibble 16 = .ok (.iload_n 3, 1) := by decide +kernel
theorem dX8_nibble_17 : decode cX8_nibble 17 = .ok (.invokestatic 130, 3) := by decide +kernel
theorem dX8_nibble_20 : decode cX8_nibble 20 = .ok (.ifCond .ne 5, 3) := by decide +kernel
theorem dX8_nibble_23 : decode cX8_nibble 23 = .ok (.iconst (-1), 1) := by decide +kernel
theorem dX8_nibble_24 : decode cX8_nibble 24 = .ok (.ireturn, 1) := by decide +kernel
theorem dX8_nibble_25 : decode cX8_nibble 25 = .ok (.aload_n 0, 1) := by decide +kernel
theorem dX8_nibble_26 : decode cX8_nibble 26 = .ok (.getfield 26, 3) := by decide +kernel
theorem dX8_nibble_29 : decode cX8_nibble 29 = .ok (.aload_n 0, 1) := by decide +kernel
theorem dX8_nibble_30 : decode cX8_nibble 30 = .ok (.getfield 57, 3) := by decide +kernel
theorem dX8_nibble_33 : decode cX8_nibble 33 = .ok (.getfield 133, 3) := by decide +kernel
theorem dX8_nibble_36 : decode cX8_nibble 36 = .ok (.iload_n 1, 1) := by decide +kernel
theorem dX8_nibble_37 : decode cX8_nibble 37 = .ok (.aaload, 1) := by decide +kernel
theorem dX8_nibble_38 : decode cX8_nibble 38 = .ok (.invokevirtual 137, 3) := by decide +kernel
theorem dX8_nibble_41 : decode cX8_nibble 41 = .ok (.ifCond .eq 6, 3) := by decide +kernel
theorem dX8_nibble_44 : decode cX8_nibble 44 = .ok (.bipush (-2), 2) := by decide +kernel
theorem dX8_nibble_46 : decode cX8_nibble 46 = .ok (.ireturn, 1) := by decide +kernel
theorem dX8_nibble_47 : decode cX8_nibble 47 = .ok (.aload_n 0, 1) := by decide +kernel
theorem dX8_nibble_48 : decode cX8_nibble 48 = .ok (.getfield 30, 3) := by decide +kernel
theorem dX8_nibble_51 : decode cX8_nibble 51 = .ok (.aload_n 0, 1) := by decide +kernel
theorem dX8_nibble_52 : decode cX8_nibble 52 = .ok (.getfield 26, 3) := by decide +kernel
theorem dX8_nibble_55 : decode cX8_nibble 55 = .ok (.invokevirtual 141, 3) := by decide +kernel
theorem dX8_nibble_58 : decode cX8_nibble 58 = .ok (.aload_n 0, 1) := by decide +kernel
theorem dX8_nibble_59 : decode cX8_nibble 59 = .ok (.aload_n 0, 1) := by decide +kernel
theorem dX8_nibble_60 : decode cX8_nibble 60 = .ok (.getfield 57, 3) := by decide +kernel
theorem dX8_nibble_63 : decode cX8_nibble 63 = .ok (.getfield 133, 3) := by decide +kernel
theorem dX8_nibble_66 : decode cX8_nibble 66 = .ok (.iload_n 1, 1) := by decide +kernel
theorem dX8_nibble_67 : decode cX8_nibble 67 = .ok (.aaload, 1) := by decide +kernel
theorem dX8_nibble_68 : decode cX8_nibble 68 = .ok (.iload_n 2, 1) := by decide +kernel
theorem dX8_nibble_69 : decode cX8_nibble 69 = .ok (.iload_n 3, 1) := by decide +kernel
theorem dX8_nibble_70 : decode cX8_nibble 70 = .ok (.iconst 1, 1) := by decide +kernel
theorem dX8_nibble_71 : decode cX8_nibble 71 = .ok (.if_icmp .ne 7, 3) := by decide +kernel
theorem dX8_nibble_74 : decode cX8_nibble 74 = .ok (.iconst 1, 1) := by decide +kernel
theorem dX8_nibble_75 : decode cX8_nibble 75 = .ok (.goto 4, 3) := by decide +kernel
theorem dX8_nibble_78 : decode cX8_nibble 78 = .ok (.iconst 0, 1) := by decide +kernel
theorem dX8_nibble_79 : decode cX8_nibble 79 = .ok (.invokevirtual 144, 3) := by decide +kernel
theorem dX8_nibble_82 : decode cX8_nibble 82 = .ok (.istore 4, 2) := by decide +kernel
theorem dX8_nibble_84 : decode cX8_nibble 84 = .ok (.iload 4, 2) := by decide +kernel
theorem dX8_nibble_86 : decode cX8_nibble 86 = .ok (.ifCond .ne 6, 3) := by decide +kernel
theorem dX8_nibble_89 : decode cX8_nibble 89 = .ok (.bipush (-2), 2) := by decide +kernel
theorem dX8_nibble_91 : decode cX8_nibble 91 = .ok (.ireturn, 1) := by decide +kernel
theorem dX8_nibble_92 : decode cX8_nibble 92 = .ok (.aload_n 0, 1) := by decide +kernel
theorem dX8_nibble_93 : decode cX8_nibble 93 = .ok (.getfield 36, 3) := by decide +kernel
theorem dX8_nibble_96 : decode cX8_nibble 96 = .ok (.aload_n 0, 1) := by decide +kernel
theorem dX8_nibble_97 : decode cX8_nibble 97 = .ok (.getfield 26, 3) := by decide +kernel
theorem dX8_nibble_100 : decode cX8_nibble 100 = .ok (.invokevirtual 115, 3) := by decide +kernel
theorem dX8_nibble_103 : decode cX8_nibble 103 = .ok (.aload_n 0, 1) := by decide +kernel
theorem dX8_nibble_104 : decode cX8_nibble 104 = .ok (.getfield 26, 3) := by decide +kernel
theorem dX8_nibble_107 : decode cX8_nibble 107 = .ok (.aload_n 0, 1) := by decide +kernel
theorem dX8_nibble_108 : decode cX8_nibble 108 = .ok (.getfield 30, 3) := by decide +kernel
theorem dX8_nibble_111 : decode cX8_nibble 111 = .ok (.invokevirtual 141, 3) := by decide +kernel
theorem dX8_nibble_114 : decode cX8_nibble 114 = .ok (.iload 4, 2) := by decide +kernel
theorem dX8_nibble_116 : decode cX8_nibble 116 = .ok (.ireturn, 1) := by decide +kernel
theorem dX8_clamp_0 : decode cX8_clamp 0 = .ok (.aload_n 0, 1) := by decide +kernel
theorem dX8_clamp_1 : decode cX8_clamp 1 = .ok (.iload_n 1, 1) := by decide +kernel
theorem dX8_clamp_2 : decode cX8_clamp 2 = .ok (.invokevirtual 148, 3) := by decide +kernel
theorem dX8_clamp_5 : decode cX8_clamp 5 = .ok (.ifCond .eq 14, 3) := by decide +kernel
theorem dX8_clamp_8 : decode cX8_clamp 8 = .ok (.aload_n 0, 1) := by decide +kernel
theorem dX8_clamp_9 : decode cX8_clamp 9 = .ok (.getfield 57, 3) := by decide +kernel
theorem dX8_clamp_12 : decode cX8_clamp 12 = .ok (.iload_n 2, 1) := by decide +kernel
theorem dX8_clamp_13 : decode cX8_clamp 13 = .ok (.invokevirtual 151, 3) := by decide +kernel
theorem dX8_clamp_16 : decode cX8_clamp 16 = .ok (.ifCond .ne 5, 3) := by decide +kernel
theorem dX8_clamp_19 : decode cX8_clamp 19 = .ok (.iconst (-1), 1) := by decide +kernel
theorem dX8_clamp_20 : decode cX8_clamp 20 = .ok (.ireturn, 1) := by decide +kernel
theorem dX8_clamp_21 : decode cX8_clamp 21 = .ok (.aload_n 0, 1) := by decide +kernel
theorem dX8_clamp_22 : decode cX8_clamp 22 = .ok (.getfield 26, 3) := by decide +kernel
theorem dX8_clamp_25 : decode cX8_clamp 25 = .ok (.getfield 154, 3) := by decide +kernel
theorem dX8_clamp_28 : decode cX8_clamp 28 = .ok (.iload_n 1, 1) := by decide +kernel
theorem dX8_clamp_29 : decode cX8_clamp 29 = .ok (.iaload, 1) := by decide +kernel
theorem dX8_clamp_30 : decode cX8_clamp 30 = .ok (.istore_n 3, 1) := by decide +kernel
theorem dX8_clamp_31 : decode cX8_clamp 31 = .ok (.iload_n 2, 1) := by decide +kernel
theorem dX8_clamp_32 : decode cX8_clamp 32 = .ok (.iload_n 3, 1) := by decide +kernel
theorem dX8_clamp_33 : decode cX8_clamp 33 = .ok (.if_icmp .eq 19, 3) := by decide +kernel
theorem dX8_clamp_36 : decode cX8_clamp 36 = .ok (.aload_n 0, 1) := by decide +kernel
theorem dX8_clamp_37 : decode cX8_clamp 37 = .ok (.getfield 26, 3) := by decide +kernel
theorem dX8_clamp_40 : decode cX8_clamp 40 = .ok (.aload_n 0, 1) := by decide +kernel
theorem dX8_clamp_41 : decode cX8_clamp 41 = .ok (.getfield 57, 3) := by decide +kernel
theorem dX8_clamp_44 : decode cX8_clamp 44 = .ok (.iload_n 1, 1) := by decide +kernel
theorem dX8_clamp_45 : decode cX8_clamp 45 = .ok (.iload_n 2, 1) := by decide +kernel
theorem dX8_clamp_46 : decode cX8_clamp 46 = .ok (.invokevirtual 158, 3) := by decide +kernel
theorem dX8_clamp_49 : decode cX8_clamp 49 = .ok (.ifCond .eq 6, 3) := by decide +kernel
theorem dX8_clamp_52 : decode cX8_clamp 52 = .ok (.bipush (-2), 2) := by decide +kernel
theorem dX8_clamp_54 : decode cX8_clamp 54 = .ok (.ireturn, 1) := by decide +kernel
theorem dX8_clamp_55 : decode cX8_clamp 55 = .ok (.aload_n 0, 1) := by decide +kernel
theorem dX8_clamp_56 : decode cX8_clamp 56 = .ok (.getfield 36, 3) := by decide +kernel
theorem dX8_clamp_59 : decode cX8_clamp 59 = .ok (.aload_n 0, 1) := by decide +kernel
theorem dX8_clamp_60 : decode cX8_clamp 60 = .ok (.getfield 26, 3) := by decide +kernel
theorem dX8_clamp_63 : decode cX8_clamp 63 = .ok (.invokevirtual 115, 3) := by decide +kernel
theorem dX8_clamp_66 : decode cX8_clamp 66 = .ok (.aload_n 0, 1) := by decide +kernel
theorem dX8_clamp_67 : decode cX8_clamp 67 = .ok (.getfield 26, 3) := by decide +kernel
theorem dX8_clamp_70 : decode cX8_clamp 70 = .ok (.getfield 154, 3) := by decide +kernel
theorem dX8_clamp_73 : decode cX8_clamp 73 = .ok (.iload_n 1, 1) := by decide +kernel
theorem dX8_clamp_74 : decode cX8_clamp 74 = .ok (.iload_n 2, 1) := by decide +kernel
theorem dX8_clamp_75 : decode cX8_clamp 75 = .ok (.iastore, 1) := by decide +kernel
theorem dX8_clamp_76 : decode cX8_clamp 76 = .ok (.aload_n 0, 1) := by decide +kernel
theorem dX8_clamp_77 : decode cX8_clamp 77 = .ok (.getfield 26, 3) := by decide +kernel
theorem dX8_clamp_80 : decode cX8_clamp 80 = .ok (.dup, 1) := by decide +kernel
theorem dX8_clamp_81 : decode cX8_clamp 81 = .ok (.getfield 162, 3) := by decide +kernel
theorem dX8_clamp_84 : decode cX8_clamp 84 = .ok (.iconst 1, 1) := by decide +kernel
theorem dX8_clamp_85 : decode cX8_clamp 85 = .ok (.iadd, 1) := by decide +kernel
theorem dX8_clamp_86 : decode cX8_clamp 86 = .ok (.putfield 162, 3) := by decide +kernel
theorem dX8_clamp_89 : decode cX8_clamp 89 = .ok (.iload_n 3, 1) := by decide +kernel
theorem dX8_clamp_90 : decode cX8_clamp 90 = .ok (.ireturn, 1) := by decide +kernel
theorem dX8_sharpen_0 : decode cX8_sharpen 0 = .ok (.aload_n 0, 1) := by decide +kernel
theorem dX8_sharpen_1 : decode cX8_sharpen 1 = .ok (.iload_n 1, 1) := by decide +kernel
theorem dX8_sharpen_2 : decode cX8_sharpen 2 = .ok (.invokevirtual 127, 3) := by decide +kernel
theorem dX8_sharpen_5 : decode cX8_sharpen 5 = .ok (.ifCond .ne 5, 3) := by decide +kernel
theorem dX8_sharpen_8 : decode cX8_sharpen 8 = .ok (.iconst (-1), 1) := by decide +kernel
theorem dX8_sharpen_9 : decode cX8_sharpen 9 = .ok (.ireturn, 1) := by decide +kernel
theorem dX8_sharpen_10 : decode cX8_sharpen 10 = .ok (.aload_n 0, 1) := by decide +kernel
theorem dX8_sharpen_11 : decode cX8_sharpen 11 = .ok (.getfield 26, 3) := by decide +kernel
theorem dX8_sharpen_14 : decode cX8_sharpen 14 = .ok (.getfield 165, 3) := by decide +kernel
theorem dX8_sharpen_17 : decode cX8_sharpen 17 = .ok (.iload_n 1, 1) := by decide +kernel
theorem dX8_sharpen_18 : decode cX8_sharpen 18 = .ok (.iaload, 1) := by decide +kernel
theorem dX8_sharpen_19 : decode cX8_sharpen 19 = .ok (.istore_n 2, 1) := by decide +kernel
theorem dX8_sharpen_20 : decode cX8_sharpen 20 = .ok (.iload_n 2, 1) := by decide +kernel
theorem dX8_sharpen_21 : decode cX8_sharpen 21 = .ok (.ifCond .ne 6, 3) := by decide +kernel
theorem dX8_sharpen_24 : decode cX8_sharpen 24 = .ok (.bipush (-2), 2) := by decide +kernel
theorem dX8_sharpen_26 : decode cX8_sharpen 26 = .ok (.ireturn, 1) := by decide +kernel
theorem dX8_sharpen_27 : decode cX8_sharpen 27 = .ok (.aload_n 0, 1) := by decide +kernel
theorem dX8_sharpen_28 : decode cX8_sharpen 28 = .ok (.getfield 36, 3) := by decide +kernel
theorem dX8_sharpen_31 : decode cX8_sharpen 31 = .ok (.aload_n 0, 1) := by decide +kernel
theorem dX8_sharpen_32 : decode cX8_sharpen 32 = .ok (.getfield 26, 3) := by decide +kernel
theorem dX8_sharpen_35 : decode cX8_sharpen 35 = .ok (.invokevirtual 115, 3) := by decide +kernel
theorem dX8_sharpen_38 : decode cX8_sharpen 38 = .ok (.aload_n 0, 1) := by decide +kernel
theorem dX8_sharpen_39 : decode cX8_sharpen 39 = .ok (.getfield 26, 3) := by decide +kernel
theorem dX8_sharpen_42 : decode cX8_sharpen 42 = .ok (.getfield 165, 3) := by decide +kernel
theorem dX8_sharpen_45 : decode cX8_sharpen 45 = .ok (.iload_n 1, 1) := by decide +kernel
theorem dX8_sharpen_46 : decode cX8_sharpen 46 = .ok (.iconst 0, 1) := by decide +kernel
theorem dX8_sharpen_47 : decode cX8_sharpen 47 = .ok (.iastore, 1) := by decide +kernel
theorem dX8_sharpen_48 : decode cX8_sharpen 48 = .ok (.iload_n 2, 1) := by decide +kernel
theorem dX8_sharpen_49 : decode cX8_sharpen 49 = .ok (.ireturn, 1) := by decide +kernel
theorem dX8_undo_0 : decode cX8_undo 0 = .ok (.aload_n 0, 1) := by decide +kernel
theorem dX8_undo_1 : decode cX8_undo 1 = .ok (.getfield 36, 3) := by decide +kernel
theorem dX8_undo_4 : decode cX8_undo 4 = .ok (.aload_n 0, 1) := by decide +kernel
theorem dX8_undo_5 : decode cX8_undo 5 = .ok (.getfield 26, 3) := by decide +kernel
theorem dX8_undo_8 : decode cX8_undo 8 = .ok (.invokevirtual 168, 3) := by decide +kernel
theorem dX8_undo_11 : decode cX8_undo 11 = .ok (.ifCond .eq 13, 3) := by decide +kernel
theorem dX8_undo_14 : decode cX8_undo 14 = .ok (.aload_n 0, 1) := by decide +kernel
theorem dX8_undo_15 : decode cX8_undo 15 = .ok (.getfield 36, 3) := by decide +kernel
theorem dX8_undo_18 : decode cX8_undo 18 = .ok (.getfield 172, 3) := by decide +kernel
theorem dX8_undo_21 : decode cX8_undo 21 = .ok (.goto 5, 3) := by decide +kernel
theorem dX8_undo_24 : decode cX8_undo 24 = .ok (.bipush (-2), 2) := by decide +kernel
theorem dX8_undo_26 : decode cX8_undo 26 = .ok (.ireturn, 1) := by decide +kernel
theorem dX8_station_0 : decode cX8_station 0 = .ok (.aload_n 0, 1) := by decide +kernel
theorem dX8_station_1 : decode cX8_station 1 = .ok (.iload_n 1, 1) := by decide +kernel
theorem dX8_station_2 : decode cX8_station 2 = .ok (.invokevirtual 127, 3) := by decide +kernel
theorem dX8_station_5 : decode cX8_station 5 = .ok (.ifCond .ne 5, 3) := by decide +kernel
theorem dX8_station_8 : decode cX8_station 8 = .ok (.iconst (-1), 1) := by decide +kernel
theorem dX8_station_9 : decode cX8_station 9 = .ok (.ireturn, 1) := by decide +kernel
theorem dX8_station_10 : decode cX8_station 10 = .ok (.aload_n 0, 1) := by decide +kernel
theorem dX8_station_11 : decode cX8_station 11 = .ok (.getfield 57, 3) := by decide +kernel
theorem dX8_station_14 : decode cX8_station 14 = .ok (.getfield 101, 3) := by decide +kernel
theorem dX8_station_17 : decode cX8_station 17 = .ok (.iload_n 1, 1) := by decide +kernel
theorem dX8_station_18 : decode cX8_station 18 = .ok (.aaload, 1) := by decide +kernel
theorem dX8_station_19 : decode cX8_station 19 = .ok (.astore_n 3, 1) := by decide +kernel
theorem dX8_station_20 : decode cX8_station 20 = .ok (.iload_n 2, 1) := by decide +kernel
theorem dX8_station_21 : decode cX8_station 21 = .ok (.tableswitch 108 0 6 #[43, 48, 53, 61, 66, 76, 92], 43) := by decide +kernel
theorem dX8_station_64 : decode cX8_station 64 = .ok (.aload_n 3, 1) := by decide +kernel
theorem dX8_station_65 : decode cX8_station 65 = .ok (.getfield 175, 3) := by decide +kernel
theorem dX8_station_68 : decode cX8_station 68 = .ok (.ireturn, 1) := by decide +kernel
theorem dX8_station_69 : decode cX8_station 69 = .ok (.aload_n 3, 1) := by decide +kernel
theorem dX8_station_70 : decode cX8_station 70 = .ok (.getfield 178, 3) := by decide +kernel
theorem dX8_station_73 : decode cX8_station 73 = .ok (.ireturn, 1) := by decide +kernel
theorem dX8_station_74 : decode cX8_station 74 = .ok (.aload_n 3, 1) := by decide +kernel
theorem dX8_station_75 : decode cX8_station 75 = .ok (.getfield 181, 3) := by decide +kernel
theorem dX8_station_78 : decode cX8_station 78 = .ok (.invokestatic 185, 3) := by decide +kernel
theorem dX8_station_81 : decode cX8_station 81 = .ok (.ireturn, 1) := by decide +kernel
theorem dX8_station_82 : decode cX8_station 82 = .ok (.aload_n 3, 1) := by decide +kernel
theorem dX8_station_83 : decode cX8_station 83 = .ok (.getfield 189, 3) := by decide +kernel
theorem dX8_station_86 : decode cX8_station 86 = .ok (.ireturn, 1) := by decide +kernel
theorem dX8_station_87 : decode cX8_station 87 = .ok (.aload_n 0, 1) := by decide +kernel
theorem dX8_station_88 : decode cX8_station 88 = .ok (.getfield 26, 3) := by decide +kernel
theorem dX8_station_91 : decode cX8_station 91 = .ok (.getfield 165, 3) := by decide +kernel
theorem dX8_station_94 : decode cX8_station 94 = .ok (.iload_n 1, 1) := by decide +kernel
theorem dX8_station_95 : decode cX8_station 95 = .ok (.iaload, 1) := by decide +kernel
theorem dX8_station_96 : decode cX8_station 96 = .ok (.ireturn, 1) := by decide +kernel
theorem dX8_station_97 : decode cX8_station 97 = .ok (.aload_n 0, 1) := by decide +kernel
theorem dX8_station_98 : decode cX8_station 98 = .ok (.getfield 26, 3) := by decide +kernel
theorem dX8_station_101 : decode cX8_station 101 = .ok (.aload_n 0, 1) := by decide +kernel
theorem dX8_station_102 : decode cX8_station 102 = .ok (.getfield 57, 3) := by decide +kernel
theorem dX8_station_105 : decode cX8_station 105 = .ok (.iload_n 1, 1) := by decide +kernel
theorem dX8_station_106 : decode cX8_station 106 = .ok (.invokevirtual 192, 3) := by decide +kernel
theorem dX8_station_109 : decode cX8_station 109 = .ok (.invokestatic 185, 3) := by decide +kernel
theorem dX8_station_112 : decode cX8_station 112 = .ok (.ireturn, 1) := by decide +kernel
theorem dX8_station_113 : decode cX8_station 113 = .ok (.aload_n 0, 1) := by decide +kernel
theorem dX8_station_114 : decode cX8_station 114 = .ok (.getfield 57, 3) := by decide +kernel
theorem dX8_station_117 : decode cX8_station 117 = .ok (.aload_n 0, 1) := by decide +kernel
theorem dX8_station_118 : decode cX8_station 118 = .ok (.getfield 26, 3) := by decide +kernel
theorem dX8_station_121 : decode cX8_station 121 = .ok (.getfield 196, 3) := by decide +kernel
theorem dX8_station_124 : decode cX8_station 124 = .ok (.iload_n 1, 1) := by decide +kernel
theorem dX8_station_125 : decode cX8_station 125 = .ok (.invokevirtual 199, 3) := by decide +kernel
theorem dX8_station_128 : decode cX8_station 128 = .ok (.ireturn, 1) := by decide +kernel
theorem dX8_station_129 : decode cX8_station 129 = .ok (.iconst (-1), 1) := by decide +kernel
theorem dX8_station_130 : decode cX8_station 130 = .ok (.ireturn, 1) := by decide +kernel
theorem dX8_hole_0 : decode cX8_hole 0 = .ok (.aload_n 0, 1) := by decide +kernel
theorem dX8_hole_1 : decode cX8_hole 1 = .ok (.iload_n 1, 1) := by decide +kernel
theorem dX8_hole_2 : decode cX8_hole 2 = .ok (.invokevirtual 123, 3) := by decide +kernel
theorem dX8_hole_5 : decode cX8_hole 5 = .ok (.ifCond .ne 5, 3) := by decide +kernel
theorem dX8_hole_8 : decode cX8_hole 8 = .ok (.iconst (-1), 1) := by decide +kernel
theorem dX8_hole_9 : decode cX8_hole 9 = .ok (.ireturn, 1) := by decide +kernel
theorem dX8_hole_10 : decode cX8_hole 10 = .ok (.aload_n 0, 1) := by decide +kernel
theorem dX8_hole_11 : decode cX8_hole 11 = .ok (.getfield 57, 3) := by decide +kernel
theorem dX8_hole_14 : decode cX8_hole 14 = .ok (.getfield 133, 3) := by decide +kernel
theorem dX8_hole_17 : decode cX8_hole 17 = .ok (.iload_n 1, 1) := by decide +kernel
theorem dX8_hole_18 : decode cX8_hole 18 = .ok (.aaload, 1) := by decide +kernel
theorem dX8_hole_19 : decode cX8_hole 19 = .ok (.astore_n 3, 1) := by decide +kernel
theorem dX8_hole_20 : decode cX8_hole 20 = .ok (.iload_n 2, 1) := by decide +kernel
theorem dX8_hole_21 : decode cX8_hole 21 = .ok (.tableswitch 80 0 5 #[39, 44, 49, 54, 59, 68], 39) := by decide +kernel
theorem dX8_hole_60 : decode cX8_hole 60 = .ok (.aload_n 3, 1) := by decide +kernel
theorem dX8_hole_61 : decode cX8_hole 61 = .ok (.getfield 203, 3) := by decide +kernel
theorem dX8_hole_64 : decode cX8_hole 64 = .ok (.ireturn, 1) := by decide +kernel
theorem dX8_hole_65 : decode cX8_hole 65 = .ok (.aload_n 3, 1) := by decide +kernel
theorem dX8_hole_66 : decode cX8_hole 66 = .ok (.getfield 206, 3) := by decide +kernel
theorem dX8_hole_69 : decode cX8_hole 69 = .ok (.ireturn, 1) := by decide +kernel
theorem dX8_hole_70 : decode cX8_hole 70 = .ok (.aload_n 3, 1) := by decide +kernel
theorem dX8_hole_71 : decode cX8_hole 71 = .ok (.getfield 209, 3) := by decide +kernel
theorem dX8_hole_74 : decode cX8_hole 74 = .ok (.ireturn, 1) := by decide +kernel
theorem dX8_hole_75 : decode cX8_hole 75 = .ok (.aload_n 3, 1) := by decide +kernel
theorem dX8_hole_76 : decode cX8_hole 76 = .ok (.getfield 210, 3) := by decide +kernel
theorem dX8_hole_79 : decode cX8_hole 79 = .ok (.ireturn, 1) := by decide +kernel
theorem dX8_hole_80 : decode cX8_hole 80 = .ok (.aload_n 0, 1) := by decide +kernel
theorem dX8_hole_81 : decode cX8_hole 81 = .ok (.getfield 26, 3) := by decide +kernel
theorem dX8_hole_84 : decode cX8_hole 84 = .ok (.aload_n 3, 1) := by decide +kernel
theorem dX8_hole_85 : decode cX8_hole 85 = .ok (.invokevirtual 211, 3) := by decide +kernel
theorem dX8_hole_88 : decode cX8_hole 88 = .ok (.ireturn, 1) := by decide +kernel
theorem dX8_hole_89 : decode cX8_hole 89 = .ok (.aload_n 0, 1) := by decide +kernel
theorem dX8_hole_90 : decode cX8_hole 90 = .ok (.getfield 26, 3) := by decide +kernel
theorem dX8_hole_93 : decode cX8_hole 93 = .ok (.aload_n 3, 1) := by decide +kernel
theorem dX8_hole_94 : decode cX8_hole 94 = .ok (.invokevirtual 137, 3) := by decide +kernel
theorem dX8_hole_97 : decode cX8_hole 97 = .ok (.invokestatic 185, 3) := by decide +kernel
theorem dX8_hole_100 : decode cX8_hole 100 = .ok (.ireturn, 1) := by decide +kernel
theorem dX8_hole_101 : decode cX8_hole 101 = .ok (.iconst (-1), 1) := by decide +kernel
theorem dX8_hole_102 : decode cX8_hole 102 = .ok (.ireturn, 1) := by decide +kernel
theorem dX8_hits_0 : decode cX8_hits 0 = .ok (.aload_n 0, 1) := by decide +kernel
theorem dX8_hits_1 : decode cX8_hits 1 = .ok (.iload_n 1, 1) := by decide +kernel
theorem dX8_hits_2 : decode cX8_hits 2 = .ok (.invokevirtual 123, 3) := by decide +kernel
theorem dX8_hits_5 : decode cX8_hits 5 = .ok (.ifCond .eq 18, 3) := by decide +kernel
theorem dX8_hits_8 : decode cX8_hits 8 = .ok (.aload_n 0, 1) := by decide +kernel
theorem dX8_hits_9 : decode cX8_hits 9 = .ok (.iload_n 2, 1) := by decide +kernel
theorem dX8_hits_10 : decode cX8_hits 10 = .ok (.invokevirtual 127, 3) := by decide +kernel
theorem dX8_hits_13 : decode cX8_hits 13 = .ok (.ifCond .eq 10, 3) := by decide +kernel
theorem dX8_hits_16 : decode cX8_hits 16 = .ok (.iload_n 3, 1) := by decide +kernel
theorem dX8_hits_17 : decode cX8_hits 17 = .ok (.invokestatic 130, 3) := by decide +kernel
theorem dX8_hits_20 : decode cX8_hits 20 = .ok (.ifCond .ne 5, 3) := by decide +kernel
theorem dX8_hits_23 : decode cX8_hits 23 = .ok (.iconst (-1), 1) := by decide +kernel
theorem dX8_hits_24 : decode cX8_hits 24 = .ok (.ireturn, 1) := by decide +kernel
theorem dX8_hits_25 : decode cX8_hits 25 = .ok (.aload_n 0, 1) := by decide +kernel
theorem dX8_hits_26 : decode cX8_hits 26 = .ok (.getfield 57, 3) := by decide +kernel
theorem dX8_hits_29 : decode cX8_hits 29 = .ok (.getfield 101, 3) := by decide +kernel
theorem dX8_hits_32 : decode cX8_hits 32 = .ok (.iload_n 2, 1) := by decide +kernel
theorem dX8_hits_33 : decode cX8_hits 33 = .ok (.aaload, 1) := by decide +kernel
theorem dX8_hits_34 : decode cX8_hits 34 = .ok (.aload_n 0, 1) := by decide +kernel
theorem dX8_hits_35 : decode cX8_hits 35 = .ok (.getfield 57, 3) := by decide +kernel
theorem dX8_hits_38 : decode cX8_hits 38 = .ok (.getfield 133, 3) := by decide +kernel
theorem dX8_hits_41 : decode cX8_hits 41 = .ok (.iload_n 1, 1) := by decide +kernel
theorem dX8_hits_42 : decode cX8_hits 42 = .ok (.aaload, 1) := by decide +kernel
theorem dX8_hits_43 : decode cX8_hits 43 = .ok (.iload_n 3, 1) := by decide +kernel
theorem dX8_hits_44 : decode cX8_hits 44 = .ok (.iconst 1, 1) := by decide +kernel
theorem dX8_hits_45 : decode cX8_hits 45 = .ok (.if_icmp .ne 7, 3) := by decide +kernel
theorem dX8_hits_48 : decode cX8_hits 48 = .ok (.iconst 1, 1) := by decide +kernel
theorem dX8_hits_49 : decode cX8_hits 49 = .ok (.goto 4, 3) := by decide +kernel
theorem dX8_hits_52 : decode cX8_hits 52 = .ok (.iconst 0, 1) := by decide +kernel
theorem dX8_hits_53 : decode cX8_hits 53 = .ok (.invokevirtual 215, 3) := by decide +kernel
theorem dX8_hits_56 : decode cX8_hits 56 = .ok (.istore 4, 2) := by decide +kernel
theorem dX8_hits_58 : decode cX8_hits 58 = .ok (.iload 4, 2) := by decide +kernel
theorem dX8_hits_60 : decode cX8_hits 60 = .ok (.ifCond .ne 8, 3) := by decide +kernel
theorem dX8_hits_63 : decode cX8_hits 63 = .ok (.bipush (-4), 2) := by decide +kernel
theorem dX8_hits_65 : decode cX8_hits 65 = .ok (.goto 5, 3) := by decide +kernel
theorem dX8_hits_68 : decode cX8_hits 68 = .ok (.iload 4, 2) := by decide +kernel
theorem dX8_hits_70 : decode cX8_hits 70 = .ok (.ireturn, 1) := by decide +kernel
theorem dX8_cell_0 : decode cX8_cell 0 = .ok (.aload_n 0, 1) := by decide +kernel
theorem dX8_cell_1 : decode cX8_cell 1 = .ok (.getfield 57, 3) := by decide +kernel
theorem dX8_cell_4 : decode cX8_cell 4 = .ok (.getfield 219, 3) := by decide +kernel
theorem dX8_cell_7 : decode cX8_cell 7 = .ok (.iload_n 1, 1) := by decide +kernel
theorem dX8_cell_8 : decode cX8_cell 8 = .ok (.iload_n 2, 1) := by decide +kernel
theorem dX8_cell_9 : decode cX8_cell 9 = .ok (.invokevirtual 222, 3) := by decide +kernel
theorem dX8_cell_12 : decode cX8_cell 12 = .ok (.ifCond .ne 5, 3) := by decide +kernel
theorem dX8_cell_15 : decode cX8_cell 15 = .ok (.iconst (-1), 1) := by decide +kernel
theorem dX8_cell_16 : decode cX8_cell 16 = .ok (.ireturn, 1) := by decide +kernel
theorem dX8_cell_17 : decode cX8_cell 17 = .ok (.iload_n 3, 1) := by decide +kernel
theorem dX8_cell_18 : decode cX8_cell 18 = .ok (.tableswitch 63 0 2 #[26, 39, 49], 26) := by decide +kernel
theorem dX8_cell_44 : decode cX8_cell 44 = .ok (.aload_n 0, 1) := by decide +kernel
theorem dX8_cell_45 : decode cX8_cell 45 = .ok (.getfield 26, 3) := by decide +kernel
theorem dX8_cell_48 : decode cX8_cell 48 = .ok (.iload_n 1, 1) := by decide +kernel
theorem dX8_cell_49 : decode cX8_cell 49 = .ok (.iload_n 2, 1) := by decide +kernel
theorem dX8_cell_50 : decode cX8_cell 50 = .ok (.invokevirtual 226, 3) := by decide +kernel
theorem dX8_cell_53 : decode cX8_cell 53 = .ok (.invokestatic 185, 3) := by decide +kernel
theorem dX8_cell_56 : decode cX8_cell 56 = .ok (.ireturn, 1) := by decide +kernel
theorem dX8_cell_57 : decode cX8_cell 57 = .ok (.aload_n 0, 1) := by decide +kernel
theorem dX8_cell_58 : decode cX8_cell 58 = .ok (.getfield 57, 3) := by decide +kernel
theorem dX8_cell_61 : decode cX8_cell 61 = .ok (.iload_n 1, 1) := by decide +kernel
theorem dX8_cell_62 : decode cX8_cell 62 = .ok (.iload_n 2, 1) := by decide +kernel
theorem dX8_cell_63 : decode cX8_cell 63 = .ok (.invokevirtual 229, 3) := by decide +kernel
theorem dX8_cell_66 : decode cX8_cell 66 = .ok (.ireturn, 1) := by decide +kernel
theorem dX8_cell_67 : decode cX8_cell 67 = .ok (.aload_n 0, 1) := by decide +kernel
theorem dX8_cell_68 : decode cX8_cell 68 = .ok (.getfield 26, 3) := by decide +kernel
theorem dX8_cell_71 : decode cX8_cell 71 = .ok (.aload_n 0, 1) := by decide +kernel
theorem dX8_cell_72 : decode cX8_cell 72 = .ok (.getfield 57, 3) := by decide +kernel
theorem dX8_cell_75 : decode cX8_cell 75 = .ok (.iload_n 1, 1) := by decide +kernel
theorem dX8_cell_76 : decode cX8_cell 76 = .ok (.iload_n 2, 1) := by decide +kernel
theorem dX8_cell_77 : decode cX8_cell 77 = .ok (.invokevirtual 232, 3) := by decide +kernel
theorem dX8_cell_80 : decode cX8_cell 80 = .ok (.ireturn, 1) := by decide +kernel
theorem dX8_cell_81 : decode cX8_cell 81 = .ok (.iconst (-1), 1) := by decide +kernel
theorem dX8_cell_82 : decode cX8_cell 82 = .ok (.ireturn, 1) := by decide +kernel
theorem dX8_column_0 : decode cX8_column 0 = .ok (.aload_n 0, 1) := by decide +kernel
theorem dX8_column_1 : decode cX8_column 1 = .ok (.iload_n 1, 1) := by decide +kernel
theorem dX8_column_2 : decode cX8_column 2 = .ok (.invokevirtual 148, 3) := by decide +kernel
theorem dX8_column_5 : decode cX8_column 5 = .ok (.ifCond .eq 15, 3) := by decide +kernel
theorem dX8_column_8 : decode cX8_column 8 = .ok (.aload_n 0, 1) := by decide +kernel
theorem dX8_column_9 : decode cX8_column 9 = .ok (.getfield 26, 3) := by decide +kernel
theorem dX8_column_12 : decode cX8_column 12 = .ok (.getfield 154, 3) := by decide +kernel
theorem dX8_column_15 : decode cX8_column 15 = .ok (.iload_n 1, 1) := by decide +kernel
theorem dX8_column_16 : decode cX8_column 16 = .ok (.iaload, 1) := by decide +kernel
theorem dX8_column_17 : decode cX8_column 17 = .ok (.goto 4, 3) := by decide +kernel
theorem dX8_column_20 : decode cX8_column 20 = .ok (.iconst (-1), 1) := by decide +kernel
theorem dX8_column_21 : decode cX8_column 21 = .ok (.ireturn, 1) := by decide +kernel
theorem dX8_plan_0 : decode cX8_plan 0 = .ok (.iload_n 1, 1) := by decide +kernel
theorem dX8_plan_1 : decode cX8_plan 1 = .ok (.iconst (-1), 1) := by decide +kernel
theorem dX8_plan_2 : decode cX8_plan 2 = .ok (.if_icmp .eq 19, 3) := by decide +kernel
theorem dX8_plan_5 : decode cX8_plan 5 = .ok (.iload_n 1, 1) := by decide +kernel
theorem dX8_plan_6 : decode cX8_plan 6 = .ok (.bipush (-2), 2) := by decide +kernel
theorem dX8_plan_8 : decode cX8_plan 8 = .ok (.if_icmp .eq 13, 3) := by decide +kernel
theorem dX8_plan_11 : decode cX8_plan 11 = .ok (.aload_n 0, 1) := by decide +kernel
theorem dX8_plan_12 : decode cX8_plan 12 = .ok (.iload_n 1, 1) := by decide +kernel
theorem dX8_plan_13 : decode cX8_plan 13 = .ok (.invokevirtual 123, 3) := by decide +kernel
theorem dX8_plan_16 : decode cX8_plan 16 = .ok (.ifCond .ne 5, 3) := by decide +kernel
theorem dX8_plan_19 : decode cX8_plan 19 = .ok (.iconst (-1), 1) := by decide +kernel
theorem dX8_plan_20 : decode cX8_plan 20 = .ok (.ireturn, 1) := by decide +kernel
theorem dX8_plan_21 : decode cX8_plan 21 = .ok (.aload_n 0, 1) := by decide +kernel
theorem dX8_plan_22 : decode cX8_plan 22 = .ok (.getfield 43, 3) := by decide +kernel
theorem dX8_plan_25 : decode cX8_plan 25 = .ok (.aload_n 0, 1) := by decide +kernel
theorem dX8_plan_26 : decode cX8_plan 26 = .ok (.getfield 57, 3) := by decide +kernel
theorem dX8_plan_29 : decode cX8_plan 29 = .ok (.aload_n 0, 1) := by decide +kernel
theorem dX8_plan_30 : decode cX8_plan 30 = .ok (.getfield 26, 3) := by decide +kernel
theorem dX8_plan_33 : decode cX8_plan 33 = .ok (.invokevirtual 236, 3) := by decide +kernel
theorem dX8_plan_36 : decode cX8_plan 36 = .ok (.aload_n 0, 1) := by decide +kernel
theorem dX8_plan_37 : decode cX8_plan 37 = .ok (.getfield 43, 3) := by decide +kernel
theorem dX8_plan_40 : decode cX8_plan 40 = .ok (.getfield 240, 3) := by decide +kernel
theorem dX8_plan_43 : decode cX8_plan 43 = .ok (.ifCond .ne 6, 3) := by decide +kernel
theorem dX8_plan_46 : decode cX8_plan 46 = .ok (.bipush (-4), 2) := by decide +kernel
theorem dX8_plan_48 : decode cX8_plan 48 = .ok (.ireturn, 1) := by decide +kernel
theorem dX8_plan_49 : decode cX8_plan 49 = .ok (.iload_n 1, 1) := by decide +kernel
theorem dX8_plan_50 : decode cX8_plan 50 = .ok (.iconst (-1), 1) := by decide +kernel
theorem dX8_plan_51 : decode cX8_plan 51 = .ok (.if_icmp .ne 11, 3) := by decide +kernel
theorem dX8_plan_54 : decode cX8_plan 54 = .ok (.aload_n 0, 1) := by decide +kernel
theorem dX8_plan_55 : decode cX8_plan 55 = .ok (.getfield 43, 3) := by decide +kernel
theorem dX8_plan_58 : decode cX8_plan 58 = .ok (.getfield 243, 3) := by decide +kernel
theorem dX8_plan_61 : decode cX8_plan 61 = .ok (.ireturn, 1) := by decide +kernel
theorem dX8_plan_62 : decode cX8_plan 62 = .ok (.iload_n 1, 1) := by decide +kernel
theorem dX8_plan_63 : decode cX8_plan 63 = .ok (.bipush (-2), 2) := by decide +kernel
theorem dX8_plan_65 : decode cX8_plan 65 = .ok (.if_icmp .ne 11, 3) := by decide +kernel
theorem dX8_plan_68 : decode cX8_plan 68 = .ok (.aload_n 0, 1) := by decide +kernel
theorem dX8_plan_69 : decode cX8_plan 69 = .ok (.getfield 43, 3) := by decide +kernel
theorem dX8_plan_72 : decode cX8_plan 72 = .ok (.getfield 246, 3) := by decide +kernel
theorem dX8_plan_75 : decode cX8_plan 75 = .ok (.ireturn, 1) := by decide +kernel
theorem dX8_plan_76 : decode cX8_plan 76 = .ok (.aload_n 0, 1) := by decide +kernel
theorem dX8_plan_77 : decode cX8_plan 77 = .ok (.getfield 43, 3) := by decide +kernel
theorem dX8_plan_80 : decode cX8_plan 80 = .ok (.getfield 249, 3) := by decide +kernel
theorem dX8_plan_83 : decode cX8_plan 83 = .ok (.iload_n 1, 1) := by decide +kernel
theorem dX8_plan_84 : decode cX8_plan 84 = .ok (.iaload, 1) := by decide +kernel
theorem dX8_plan_85 : decode cX8_plan 85 = .ok (.ireturn, 1) := by decide +kernel
theorem dX8_drawn_0 : decode cX8_drawn 0 = .ok (.iload_n 1, 1) := by decide +kernel
theorem dX8_drawn_1 : decode cX8_drawn 1 = .ok (.ifCond .ge 5, 3) := by decide +kernel
theorem dX8_drawn_4 : decode cX8_drawn 4 = .ok (.iconst (-1), 1) := by decide +kernel
theorem dX8_drawn_5 : decode cX8_drawn 5 = .ok (.ireturn, 1) := by decide +kernel
theorem dX8_drawn_6 : decode cX8_drawn 6 = .ok (.iload_n 1, 1) := by decide +kernel
theorem dX8_drawn_7 : decode cX8_drawn 7 = .ok (.istore_n 2, 1) := by decide +kernel
theorem dX8_drawn_8 : decode cX8_drawn 8 = .ok (.iconst 0, 1) := by decide +kernel
theorem dX8_drawn_9 : decode cX8_drawn 9 = .ok (.istore_n 3, 1) := by decide +kernel
theorem dX8_drawn_10 : decode cX8_drawn 10 = .ok (.iload_n 3, 1) := by decide +kernel
theorem dX8_drawn_11 : decode cX8_drawn 11 = .ok (.aload_n 0, 1) := by decide +kernel
theorem dX8_drawn_12 : decode cX8_drawn 12 = .ok (.getfield 57, 3) := by decide +kernel
theorem dX8_drawn_15 : decode cX8_drawn 15 = .ok (.getfield 219, 3) := by decide +kernel
theorem dX8_drawn_18 : decode cX8_drawn 18 = .ok (.getfield 210, 3) := by decide +kernel
theorem dX8_drawn_21 : decode cX8_drawn 21 = .ok (.if_icmp .ge 62, 3) := by decide +kernel
theorem dX8_drawn_24 : decode cX8_drawn 24 = .ok (.iload_n 2, 1) := by decide +kernel
theorem dX8_drawn_25 : decode cX8_drawn 25 = .ok (.aload_n 0, 1) := by decide +kernel
theorem dX8_drawn_26 : decode cX8_drawn 26 = .ok (.getfield 57, 3) := by decide +kernel
theorem dX8_drawn_29 : decode cX8_drawn 29 = .ok (.getfield 219, 3) := by decide +kernel
theorem dX8_drawn_32 : decode cX8_drawn 32 = .ok (.getfield 209, 3) := by decide +kernel
theorem dX8_drawn_35 : decode cX8_drawn 35 = .ok (.if_icmp .ge 10, 3) := by decide +kernel
theorem dX8_drawn_38 : decode cX8_drawn 38 = .ok (.aload_n 0, 1) := by decide +kernel
theorem dX8_drawn_39 : decode cX8_drawn 39 = .ok (.iload_n 2, 1) := by decide +kernel
theorem dX8_drawn_40 : decode cX8_drawn 40 = .ok (.iload_n 3, 1) := by decide +kernel
theorem dX8_drawn_41 : decode cX8_drawn 41 = .ok (.invokevirtual 252, 3) := by decide +kernel
theorem dX8_drawn_44 : decode cX8_drawn 44 = .ok (.ireturn, 1) := by decide +kernel
theorem dX8_drawn_45 : decode cX8_drawn 45 = .ok (.iload_n 2, 1) := by decide +kernel
theorem dX8_drawn_46 : decode cX8_drawn 46 = .ok (.aload_n 0, 1) := by decide +kernel
theorem dX8_drawn_47 : decode cX8_drawn 47 = .ok (.getfield 57, 3) := by decide +kernel
theorem dX8_drawn_50 : decode cX8_drawn 50 = .ok (.getfield 219, 3) := by decide +kernel
theorem dX8_drawn_53 : decode cX8_drawn 53 = .ok (.getfield 209, 3) := by decide +kernel
theorem dX8_drawn_56 : decode cX8_drawn 56 = .ok (.if_icmp .ne 6, 3) := by decide +kernel
theorem dX8_drawn_59 : decode cX8_drawn 59 = .ok (.bipush 47, 2) := by decide +kernel
theorem dX8_drawn_61 : decode cX8_drawn 61 = .ok (.ireturn, 1) := by decide +kernel
theorem dX8_drawn_62 : decode cX8_drawn 62 = .ok (.iload_n 2, 1) := by decide +kernel
theorem dX8_drawn_63 : decode cX8_drawn 63 = .ok (.aload_n 0, 1) := by decide +kernel
theorem dX8_drawn_64 : decode cX8_drawn 64 = .ok (.getfield 57, 3) := by decide +kernel
theorem dX8_drawn_67 : decode cX8_drawn 67 = .ok (.getfield 219, 3) := by decide +kernel
theorem dX8_drawn_70 : decode cX8_drawn 70 = .ok (.getfield 209, 3) := by decide +kernel
theorem dX8_drawn_73 : decode cX8_drawn 73 = .ok (.iconst 1, 1) := by decide +kernel
theorem dX8_drawn_74 : decode cX8_drawn 74 = .ok (.iadd, 1) := by decide +kernel
theorem dX8_drawn_75 : decode cX8_drawn 75 = .ok (.isub, 1) := by decide +kernel
theorem dX8_drawn_76 : decode cX8_drawn 76 = .ok (.istore_n 2, 1) := by decide +kernel
theorem dX8_drawn_77 : decode cX8_drawn 77 = .ok (.iinc 3 1, 3) := by decide +kernel
theorem dX8_drawn_80 : decode cX8_drawn 80 = .ok (.goto (-70), 3) := by decide +kernel
theorem dX8_drawn_83 : decode cX8_drawn 83 = .ok (.bipush (-4), 2) := by decide +kernel
theorem dX8_drawn_85 : decode cX8_drawn 85 = .ok (.ireturn, 1) := by decide +kernel
theorem dX8_count_0 : decode cX8_count 0 = .ok (.iload_n 1, 1) := by decide +kernel
theorem dX8_count_1 : decode cX8_count 1 = .ok (.tableswitch 181 0 12 #[67, 78, 89, 97, 105, 113, 121, 129, 137, 145, 157, 165, 173], 67) := by decide +kernel
theorem dX8_count_68 : decode cX8_count 68 = .ok (.aload_n 0, 1) := by decide +kernel
theorem dX8_count_69 : decode cX8_count 69 = .ok (.getfield 57, 3) := by decide +kernel
theorem dX8_count_72 : decode cX8_count 72 = .ok (.getfield 219, 3) := by decide +kernel
theorem dX8_count_75 : decode cX8_count 75 = .ok (.getfield 209, 3) := by decide +kernel
theorem dX8_count_78 : decode cX8_count 78 = .ok (.ireturn, 1) := by decide +kernel
theorem dX8_count_79 : decode cX8_count 79 = .ok (.aload_n 0, 1) := by decide +kernel
theorem dX8_count_80 : decode cX8_count 80 = .ok (.getfield 57, 3) := by decide +kernel
theorem dX8_count_83 : decode cX8_count 83 = .ok (.getfield 219, 3) := by decide +kernel
theorem dX8_count_86 : decode cX8_count 86 = .ok (.getfield 210, 3) := by decide +kernel
theorem dX8_count_89 : decode cX8_count 89 = .ok (.ireturn, 1) := by decide +kernel
theorem dX8_count_90 : decode cX8_count 90 = .ok (.aload_n 0, 1) := by decide +kernel
theorem dX8_count_91 : decode cX8_count 91 = .ok (.getfield 57, 3) := by decide +kernel
theorem dX8_count_94 : decode cX8_count 94 = .ok (.getfield 94, 3) := by decide +kernel
theorem dX8_count_97 : decode cX8_count 97 = .ok (.ireturn, 1) := by decide +kernel
theorem dX8_count_98 : decode cX8_count 98 = .ok (.aload_n 0, 1) := by decide +kernel
theorem dX8_count_99 : decode cX8_count 99 = .ok (.getfield 57, 3) := by decide +kernel
theorem dX8_count_102 : decode cX8_count 102 = .ok (.getfield 256, 3) := by decide +kernel
theorem dX8_count_105 : decode cX8_count 105 = .ok (.ireturn, 1) := by decide +kernel
theorem dX8_count_106 : decode cX8_count 106 = .ok (.aload_n 0, 1) := by decide +kernel
theorem dX8_count_107 : decode cX8_count 107 = .ok (.getfield 57, 3) := by decide +kernel
theorem dX8_count_110 : decode cX8_count 110 = .ok (.getfield 259, 3) := by decide +kernel
theorem dX8_count_113 : decode cX8_count 113 = .ok (.ireturn, 1) := by decide +kernel
theorem dX8_count_114 : decode cX8_count 114 = .ok (.aload_n 0, 1) := by decide +kernel
theorem dX8_count_115 : decode cX8_count 115 = .ok (.getfield 26, 3) := by decide +kernel
theorem dX8_count_118 : decode cX8_count 118 = .ok (.getfield 262, 3) := by decide +kernel
theorem dX8_count_121 : decode cX8_count 121 = .ok (.ireturn, 1) := by decide +kernel
theorem dX8_count_122 : decode cX8_count 122 = .ok (.aload_n 0, 1) := by decide +kernel
theorem dX8_count_123 : decode cX8_count 123 = .ok (.getfield 26, 3) := by decide +kernel
theorem dX8_count_126 : decode cX8_count 126 = .ok (.getfield 265, 3) := by decide +kernel
theorem dX8_count_129 : decode cX8_count 129 = .ok (.ireturn, 1) := by decide +kernel
theorem dX8_count_130 : decode cX8_count 130 = .ok (.aload_n 0, 1) := by decide +kernel
theorem dX8_count_131 : decode cX8_count 131 = .ok (.getfield 26, 3) := by decide +kernel
theorem dX8_count_134 : decode cX8_count 134 = .ok (.getfield 162, 3) := by decide +kernel
theorem dX8_count_137 : decode cX8_count 137 = .ok (.ireturn, 1) := by decide +kernel
theorem dX8_count_138 : decode cX8_count 138 = .ok (.aload_n 0, 1) := by decide +kernel
theorem dX8_count_139 : decode cX8_count 139 = .ok (.getfield 26, 3) := by decide +kernel
theorem dX8_count_142 : decode cX8_count 142 = .ok (.invokevirtual 268, 3) := by decide +kernel
theorem dX8_count_145 : decode cX8_count 145 = .ok (.ireturn, 1) := by decide +kernel
theorem dX8_count_146 : decode cX8_count 146 = .ok (.aload_n 0, 1) := by decide +kernel
theorem dX8_count_147 : decode cX8_count 147 = .ok (.getfield 26, 3) := by decide +kernel
theorem dX8_count_150 : decode cX8_count 150 = .ok (.aload_n 0, 1) := by decide +kernel
theorem dX8_count_151 : decode cX8_count 151 = .ok (.getfield 57, 3) := by decide +kernel
theorem dX8_count_154 : decode cX8_count 154 = .ok (.invokevirtual 271, 3) := by decide +kernel
theorem dX8_count_157 : decode cX8_count 157 = .ok (.ireturn, 1) := by decide +kernel
theorem dX8_count_158 : decode cX8_count 158 = .ok (.aload_n 0, 1) := by decide +kernel
theorem dX8_count_159 : decode cX8_count 159 = .ok (.getfield 26, 3) := by decide +kernel
theorem dX8_count_162 : decode cX8_count 162 = .ok (.getfield 196, 3) := by decide +kernel
theorem dX8_count_165 : decode cX8_count 165 = .ok (.ireturn, 1) := by decide +kernel
theorem dX8_count_166 : decode cX8_count 166 = .ok (.aload_n 0, 1) := by decide +kernel
theorem dX8_count_167 : decode cX8_count 167 = .ok (.getfield 36, 3) := by decide +kernel
theorem dX8_count_170 : decode cX8_count 170 = .ok (.getfield 172, 3) := by decide +kernel
theorem dX8_count_173 : decode cX8_count 173 = .ok (.ireturn, 1) := by decide +kernel
theorem dX8_count_174 : decode cX8_count 174 = .ok (.aload_n 0, 1) := by decide +kernel
theorem dX8_count_175 : decode cX8_count 175 = .ok (.getfield 10, 3) := by decide +kernel
theorem dX8_count_178 : decode cX8_count 178 = .ok (.getfield 87, 3) := by decide +kernel
theorem dX8_count_181 : decode cX8_count 181 = .ok (.ireturn, 1) := by decide +kernel
theorem dX8_count_182 : decode cX8_count 182 = .ok (.iconst (-1), 1) := by decide +kernel
theorem dX8_count_183 : decode cX8_count 183 = .ok (.ireturn, 1) := by decide +kernel
theorem dX8_layDraft_0 : decode cX8_layDraft 0 = .ok (.aload_n 0, 1) := by decide +kernel
theorem dX8_layDraft_1 : decode cX8_layDraft 1 = .ok (.getfield 19, 3) := by decide +kernel
theorem dX8_layDraft_4 : decode cX8_layDraft 4 = .ok (.aload_n 0, 1) := by decide +kernel
theorem dX8_layDraft_5 : decode cX8_layDraft 5 = .ok (.getfield 10, 3) := by decide +kernel
theorem dX8_layDraft_8 : decode cX8_layDraft 8 = .ok (.aload_n 0, 1) := by decide +kernel
theorem dX8_layDraft_9 : decode cX8_layDraft 9 = .ok (.getfield 61, 3) := by decide +kernel
theorem dX8_layDraft_12 : decode cX8_layDraft 12 = .ok (.invokevirtual 90, 3) := by decide +kernel
theorem dX8_layDraft_15 : decode cX8_layDraft 15 = .ok (.bipush (-4), 2) := by decide +kernel
theorem dX8_layDraft_17 : decode cX8_layDraft 17 = .ok (.if_icmp .ne 13, 3) := by decide +kernel
theorem dX8_layDraft_20 : decode cX8_layDraft 20 = .ok (.aload_n 0, 1) := by decide +kernel
theorem dX8_layDraft_21 : decode cX8_layDraft 21 = .ok (.getfield 61, 3) := by decide +kernel
theorem dX8_layDraft_24 : decode cX8_layDraft 24 = .ok (.getfield 94, 3) := by decide +kernel
theorem dX8_layDraft_27 : decode cX8_layDraft 27 = .ok (.ifCond .ne 5, 3) := by decide +kernel
theorem dX8_layDraft_30 : decode cX8_layDraft 30 = .ok (.iconst 0, 1) := by decide +kernel
theorem dX8_layDraft_31 : decode cX8_layDraft 31 = .ok (.ireturn, 1) := by decide +kernel
theorem dX8_layDraft_32 : decode cX8_layDraft 32 = .ok (.aload_n 0, 1) := by decide +kernel
theorem dX8_layDraft_33 : decode cX8_layDraft 33 = .ok (.getfield 57, 3) := by decide +kernel
theorem dX8_layDraft_36 : decode cX8_layDraft 36 = .ok (.astore_n 1, 1) := by decide +kernel
theorem dX8_layDraft_37 : decode cX8_layDraft 37 = .ok (.aload_n 0, 1) := by decide +kernel
theorem dX8_layDraft_38 : decode cX8_layDraft 38 = .ok (.aload_n 0, 1) := by decide +kernel
theorem dX8_layDraft_39 : decode cX8_layDraft 39 = .ok (.getfield 61, 3) := by decide +kernel
theorem dX8_layDraft_42 : decode cX8_layDraft 42 = .ok (.putfield 57, 3) := by decide +kernel
theorem dX8_layDraft_45 : decode cX8_layDraft 45 = .ok (.aload_n 0, 1) := by decide +kernel
theorem dX8_layDraft_46 : decode cX8_layDraft 46 = .ok (.aload_n 1, 1) := by decide +kernel
theorem dX8_layDraft_47 : decode cX8_layDraft 47 = .ok (.putfield 61, 3) := by decide +kernel
theorem dX8_layDraft_50 : decode cX8_layDraft 50 = .ok (.aload_n 0, 1) := by decide +kernel
theorem dX8_layDraft_51 : decode cX8_layDraft 51 = .ok (.getfield 26, 3) := by decide +kernel
theorem dX8_layDraft_54 : decode cX8_layDraft 54 = .ok (.aload_n 0, 1) := by decide +kernel
theorem dX8_layDraft_55 : decode cX8_layDraft 55 = .ok (.getfield 57, 3) := by decide +kernel
theorem dX8_layDraft_58 : decode cX8_layDraft 58 = .ok (.invokevirtual 275, 3) := by decide +kernel
theorem dX8_layDraft_61 : decode cX8_layDraft 61 = .ok (.aload_n 0, 1) := by decide +kernel
theorem dX8_layDraft_62 : decode cX8_layDraft 62 = .ok (.getfield 36, 3) := by decide +kernel
end
section
theorem dX8_layDraft_65 : decode cX8_layDraft 65 = .ok (.invokevirtual 279, 3) := by decide +kernel
theorem dX8_layDraft_68 : decode cX8_layDraft 68 = .ok (.iconst 1, 1) := by decide +kernel
theorem dX8_layDraft_69 : decode cX8_layDraft 69 = .ok (.ireturn, 1) := by decide +kernel
theorem dX8_punchAll_0 : decode cX8_punchAll 0 = .ok (.aload_n 0, 1) := by decide +kernel
theorem dX8_punchAll_1 : decode cX8_punchAll 1 = .ok (.getfield 57, 3) := by decide +kernel
theorem dX8_punchAll_4 : decode cX8_punchAll 4 = .ok (.getfield 101, 3) := by decide +kernel
theorem dX8_punchAll_7 : decode cX8_punchAll 7 = .ok (.iload_n 2, 1) := by decide +kernel
theorem dX8_punchAll_8 : decode cX8_punchAll 8 = .ok (.aaload, 1) := by decide +kernel
theorem dX8_punchAll_9 : decode cX8_punchAll 9 = .ok (.astore 4, 2) := by decide +kernel
theorem dX8_punchAll_11 : decode cX8_punchAll 11 = .ok (.aload 4, 2) := by decide +kernel
theorem dX8_punchAll_13 : decode cX8_punchAll 13 = .ok (.aload_n 1, 1) := by decide +kernel
theorem dX8_punchAll_14 : decode cX8_punchAll 14 = .ok (.iload_n 3, 1) := by decide +kernel
theorem dX8_punchAll_15 : decode cX8_punchAll 15 = .ok (.invokevirtual 215, 3) := by decide +kernel
theorem dX8_punchAll_18 : decode cX8_punchAll 18 = .ok (.ifCond .ne 5, 3) := by decide +kernel
theorem dX8_punchAll_21 : decode cX8_punchAll 21 = .ok (.iconst 0, 1) := by decide +kernel
theorem dX8_punchAll_22 : decode cX8_punchAll 22 = .ok (.ireturn, 1) := by decide +kernel
theorem dX8_punchAll_23 : decode cX8_punchAll 23 = .ok (.aload_n 1, 1) := by decide +kernel
theorem dX8_punchAll_24 : decode cX8_punchAll 24 = .ok (.getfield 210, 3) := by decide +kernel
theorem dX8_punchAll_27 : decode cX8_punchAll 27 = .ok (.aload 4, 2) := by decide +kernel
theorem dX8_punchAll_29 : decode cX8_punchAll 29 = .ok (.iload_n 3, 1) := by decide +kernel
theorem dX8_punchAll_30 : decode cX8_punchAll 30 = .ok (.invokevirtual 282, 3) := by decide +kernel
theorem dX8_punchAll_33 : decode cX8_punchAll 33 = .ok (.invokestatic 285, 3) := by decide +kernel
theorem dX8_punchAll_36 : decode cX8_punchAll 36 = .ok (.istore 5, 2) := by decide +kernel
theorem dX8_punchAll_38 : decode cX8_punchAll 38 = .ok (.aload_n 1, 1) := by decide +kernel
theorem dX8_punchAll_39 : decode cX8_punchAll 39 = .ok (.getfield 209, 3) := by decide +kernel
theorem dX8_punchAll_42 : decode cX8_punchAll 42 = .ok (.aload 4, 2) := by decide +kernel
theorem dX8_punchAll_44 : decode cX8_punchAll 44 = .ok (.iload_n 3, 1) := by decide +kernel
theorem dX8_punchAll_45 : decode cX8_punchAll 45 = .ok (.invokevirtual 288, 3) := by decide +kernel
theorem dX8_punchAll_48 : decode cX8_punchAll 48 = .ok (.invokestatic 285, 3) := by decide +kernel
theorem dX8_punchAll_51 : decode cX8_punchAll 51 = .ok (.istore 6, 2) := by decide +kernel
theorem dX8_punchAll_53 : decode cX8_punchAll 53 = .ok (.iconst 0, 1) := by decide +kernel
theorem dX8_punchAll_54 : decode cX8_punchAll 54 = .ok (.istore 7, 2) := by decide +kernel
theorem dX8_punchAll_56 : decode cX8_punchAll 56 = .ok (.iconst 0, 1) := by decide +kernel
theorem dX8_punchAll_57 : decode cX8_punchAll 57 = .ok (.istore 8, 2) := by decide +kernel
theorem dX8_punchAll_59 : decode cX8_punchAll 59 = .ok (.iload 8, 2) := by decide +kernel
theorem dX8_punchAll_61 : decode cX8_punchAll 61 = .ok (.iload 5, 2) := by decide +kernel
theorem dX8_punchAll_63 : decode cX8_punchAll 63 = .ok (.if_icmp .ge 170, 3) := by decide +kernel
theorem dX8_punchAll_66 : decode cX8_punchAll 66 = .ok (.iconst 0, 1) := by decide +kernel
theorem dX8_punchAll_67 : decode cX8_punchAll 67 = .ok (.istore 9, 2) := by decide +kernel
theorem dX8_punchAll_69 : decode cX8_punchAll 69 = .ok (.iload 9, 2) := by decide +kernel
theorem dX8_punchAll_71 : decode cX8_punchAll 71 = .ok (.iload 6, 2) := by decide +kernel
theorem dX8_punchAll_73 : decode cX8_punchAll 73 = .ok (.if_icmp .ge 154, 3) := by decide +kernel
theorem dX8_punchAll_76 : decode cX8_punchAll 76 = .ok (.aload 4, 2) := by decide +kernel
theorem dX8_punchAll_78 : decode cX8_punchAll 78 = .ok (.aload_n 0, 1) := by decide +kernel
theorem dX8_punchAll_79 : decode cX8_punchAll 79 = .ok (.getfield 50, 3) := by decide +kernel
theorem dX8_punchAll_82 : decode cX8_punchAll 82 = .ok (.iconst 0, 1) := by decide +kernel
theorem dX8_punchAll_83 : decode cX8_punchAll 83 = .ok (.iconst 0, 1) := by decide +kernel
theorem dX8_punchAll_84 : decode cX8_punchAll 84 = .ok (.iload_n 3, 1) := by decide +kernel
theorem dX8_punchAll_85 : decode cX8_punchAll 85 = .ok (.invokevirtual 105, 3) := by decide +kernel
theorem dX8_punchAll_88 : decode cX8_punchAll 88 = .ok (.aload_n 0, 1) := by decide +kernel
theorem dX8_punchAll_89 : decode cX8_punchAll 89 = .ok (.getfield 50, 3) := by decide +kernel
theorem dX8_punchAll_92 : decode cX8_punchAll 92 = .ok (.aload_n 1, 1) := by decide +kernel
theorem dX8_punchAll_93 : decode cX8_punchAll 93 = .ok (.getfield 203, 3) := by decide +kernel
theorem dX8_punchAll_96 : decode cX8_punchAll 96 = .ok (.iload 9, 2) := by decide +kernel
theorem dX8_punchAll_98 : decode cX8_punchAll 98 = .ok (.aload_n 0, 1) := by decide +kernel
theorem dX8_punchAll_99 : decode cX8_punchAll 99 = .ok (.getfield 50, 3) := by decide +kernel
theorem dX8_punchAll_102 : decode cX8_punchAll 102 = .ok (.getfield 209, 3) := by decide +kernel
theorem dX8_punchAll_105 : decode cX8_punchAll 105 = .ok (.imul, 1) := by decide +kernel
theorem dX8_punchAll_106 : decode cX8_punchAll 106 = .ok (.aload_n 1, 1) := by decide +kernel
theorem dX8_punchAll_107 : decode cX8_punchAll 107 = .ok (.getfield 209, 3) := by decide +kernel
theorem dX8_punchAll_110 : decode cX8_punchAll 110 = .ok (.aload_n 0, 1) := by decide +kernel
theorem dX8_punchAll_111 : decode cX8_punchAll 111 = .ok (.getfield 50, 3) := by decide +kernel
theorem dX8_punchAll_114 : decode cX8_punchAll 114 = .ok (.getfield 209, 3) := by decide +kernel
theorem dX8_punchAll_117 : decode cX8_punchAll 117 = .ok (.isub, 1) := by decide +kernel
theorem dX8_punchAll_118 : decode cX8_punchAll 118 = .ok (.invokestatic 291, 3) := by decide +kernel
theorem dX8_punchAll_121 : decode cX8_punchAll 121 = .ok (.iadd, 1) := by decide +kernel
theorem dX8_punchAll_122 : decode cX8_punchAll 122 = .ok (.putfield 203, 3) := by decide +kernel
theorem dX8_punchAll_125 : decode cX8_punchAll 125 = .ok (.aload_n 0, 1) := by decide +kernel
theorem dX8_punchAll_126 : decode cX8_punchAll 126 = .ok (.getfield 50, 3) := by decide +kernel
theorem dX8_punchAll_129 : decode cX8_punchAll 129 = .ok (.aload_n 1, 1) := by decide +kernel
theorem dX8_punchAll_130 : decode cX8_punchAll 130 = .ok (.getfield 206, 3) := by decide +kernel
theorem dX8_punchAll_133 : decode cX8_punchAll 133 = .ok (.iload 8, 2) := by decide +kernel
theorem dX8_punchAll_135 : decode cX8_punchAll 135 = .ok (.aload_n 0, 1) := by decide +kernel
theorem dX8_punchAll_136 : decode cX8_punchAll 136 = .ok (.getfield 50, 3) := by decide +kernel
theorem dX8_punchAll_139 : decode cX8_punchAll 139 = .ok (.getfield 210, 3) := by decide +kernel
theorem dX8_punchAll_142 : decode cX8_punchAll 142 = .ok (.imul, 1) := by decide +kernel
theorem dX8_punchAll_143 : decode cX8_punchAll 143 = .ok (.aload_n 1, 1) := by decide +kernel
theorem dX8_punchAll_144 : decode cX8_punchAll 144 = .ok (.getfield 210, 3) := by decide +kernel
theorem dX8_punchAll_147 : decode cX8_punchAll 147 = .ok (.aload_n 0, 1) := by decide +kernel
theorem dX8_punchAll_148 : decode cX8_punchAll 148 = .ok (.getfield 50, 3) := by decide +kernel
theorem dX8_punchAll_151 : decode cX8_punchAll 151 = .ok (.getfield 210, 3) := by decide +kernel
theorem dX8_punchAll_154 : decode cX8_punchAll 154 = .ok (.isub, 1) := by decide +kernel
theorem dX8_punchAll_155 : decode cX8_punchAll 155 = .ok (.invokestatic 291, 3) := by decide +kernel
theorem dX8_punchAll_158 : decode cX8_punchAll 158 = .ok (.iadd, 1) := by decide +kernel
theorem dX8_punchAll_159 : decode cX8_punchAll 159 = .ok (.putfield 206, 3) := by decide +kernel
theorem dX8_punchAll_162 : decode cX8_punchAll 162 = .ok (.aload_n 0, 1) := by decide +kernel
theorem dX8_punchAll_163 : decode cX8_punchAll 163 = .ok (.getfield 30, 3) := by decide +kernel
theorem dX8_punchAll_166 : decode cX8_punchAll 166 = .ok (.aload_n 0, 1) := by decide +kernel
theorem dX8_punchAll_167 : decode cX8_punchAll 167 = .ok (.getfield 50, 3) := by decide +kernel
theorem dX8_punchAll_170 : decode cX8_punchAll 170 = .ok (.invokevirtual 137, 3) := by decide +kernel
theorem dX8_punchAll_173 : decode cX8_punchAll 173 = .ok (.ifCond .eq 6, 3) := by decide +kernel
theorem dX8_punchAll_176 : decode cX8_punchAll 176 = .ok (.goto 45, 3) := by decide +kernel
theorem dX8_punchAll_179 : decode cX8_punchAll 179 = .ok (.aload_n 0, 1) := by decide +kernel
theorem dX8_punchAll_180 : decode cX8_punchAll 180 = .ok (.getfield 30, 3) := by decide +kernel
theorem dX8_punchAll_183 : decode cX8_punchAll 183 = .ok (.aload_n 0, 1) := by decide +kernel
theorem dX8_punchAll_184 : decode cX8_punchAll 184 = .ok (.getfield 57, 3) := by decide +kernel
theorem dX8_punchAll_187 : decode cX8_punchAll 187 = .ok (.iload_n 2, 1) := by decide +kernel
theorem dX8_punchAll_188 : decode cX8_punchAll 188 = .ok (.iload_n 3, 1) := by decide +kernel
theorem dX8_punchAll_189 : decode cX8_punchAll 189 = .ok (.aload_n 0, 1) := by decide +kernel
theorem dX8_punchAll_190 : decode cX8_punchAll 190 = .ok (.getfield 50, 3) := by decide +kernel
theorem dX8_punchAll_193 : decode cX8_punchAll 193 = .ok (.invokevirtual 111, 3) := by decide +kernel
theorem dX8_punchAll_196 : decode cX8_punchAll 196 = .ok (.ifCond .eq 5, 3) := by decide +kernel
theorem dX8_punchAll_199 : decode cX8_punchAll 199 = .ok (.iconst 0, 1) := by decide +kernel
theorem dX8_punchAll_200 : decode cX8_punchAll 200 = .ok (.ireturn, 1) := by decide +kernel
theorem dX8_punchAll_201 : decode cX8_punchAll 201 = .ok (.aload_n 0, 1) := by decide +kernel
theorem dX8_punchAll_202 : decode cX8_punchAll 202 = .ok (.getfield 30, 3) := by decide +kernel
theorem dX8_punchAll_205 : decode cX8_punchAll 205 = .ok (.aload_n 0, 1) := by decide +kernel
theorem dX8_punchAll_206 : decode cX8_punchAll 206 = .ok (.getfield 57, 3) := by decide +kernel
theorem dX8_punchAll_209 : decode cX8_punchAll 209 = .ok (.iload_n 2, 1) := by decide +kernel
theorem dX8_punchAll_210 : decode cX8_punchAll 210 = .ok (.aload_n 0, 1) := by decide +kernel
theorem dX8_punchAll_211 : decode cX8_punchAll 211 = .ok (.getfield 50, 3) := by decide +kernel
theorem dX8_punchAll_214 : decode cX8_punchAll 214 = .ok (.invokevirtual 119, 3) := by decide +kernel
theorem dX8_punchAll_217 : decode cX8_punchAll 217 = .ok (.pop, 1) := by decide +kernel
theorem dX8_punchAll_218 : decode cX8_punchAll 218 = .ok (.iinc 7 1, 3) := by decide +kernel
theorem dX8_punchAll_221 : decode cX8_punchAll 221 = .ok (.iinc 9 1, 3) := by decide +kernel
theorem dX8_punchAll_224 : decode cX8_punchAll 224 = .ok (.goto (-155), 3) := by decide +kernel
theorem dX8_punchAll_227 : decode cX8_punchAll 227 = .ok (.iinc 8 1, 3) := by decide +kernel
theorem dX8_punchAll_230 : decode cX8_punchAll 230 = .ok (.goto (-171), 3) := by decide +kernel
theorem dX8_punchAll_233 : decode cX8_punchAll 233 = .ok (.iload 7, 2) := by decide +kernel
theorem dX8_punchAll_235 : decode cX8_punchAll 235 = .ok (.ireturn, 1) := by decide +kernel
theorem dX8_signAt_0 : decode cX8_signAt 0 = .ok (.aload_n 0, 1) := by decide +kernel
theorem dX8_signAt_1 : decode cX8_signAt 1 = .ok (.getfield 26, 3) := by decide +kernel
theorem dX8_signAt_4 : decode cX8_signAt 4 = .ok (.aload_n 0, 1) := by decide +kernel
theorem dX8_signAt_5 : decode cX8_signAt 5 = .ok (.getfield 57, 3) := by decide +kernel
theorem dX8_signAt_8 : decode cX8_signAt 8 = .ok (.iload_n 1, 1) := by decide +kernel
theorem dX8_signAt_9 : decode cX8_signAt 9 = .ok (.iload_n 2, 1) := by decide +kernel
theorem dX8_signAt_10 : decode cX8_signAt 10 = .ok (.invokevirtual 232, 3) := by decide +kernel
theorem dX8_signAt_13 : decode cX8_signAt 13 = .ok (.bipush (-4), 2) := by decide +kernel
theorem dX8_signAt_15 : decode cX8_signAt 15 = .ok (.if_icmp .eq 6, 3) := by decide +kernel
theorem dX8_signAt_18 : decode cX8_signAt 18 = .ok (.bipush 99, 2) := by decide +kernel
theorem dX8_signAt_20 : decode cX8_signAt 20 = .ok (.ireturn, 1) := by decide +kernel
theorem dX8_signAt_21 : decode cX8_signAt 21 = .ok (.aload_n 0, 1) := by decide +kernel
theorem dX8_signAt_22 : decode cX8_signAt 22 = .ok (.getfield 26, 3) := by decide +kernel
theorem dX8_signAt_25 : decode cX8_signAt 25 = .ok (.iload_n 1, 1) := by decide +kernel
theorem dX8_signAt_26 : decode cX8_signAt 26 = .ok (.iload_n 2, 1) := by decide +kernel
theorem dX8_signAt_27 : decode cX8_signAt 27 = .ok (.invokevirtual 226, 3) := by decide +kernel
theorem dX8_signAt_30 : decode cX8_signAt 30 = .ok (.ifCond .eq 6, 3) := by decide +kernel
theorem dX8_signAt_33 : decode cX8_signAt 33 = .ok (.bipush 111, 2) := by decide +kernel
theorem dX8_signAt_35 : decode cX8_signAt 35 = .ok (.ireturn, 1) := by decide +kernel
theorem dX8_signAt_36 : decode cX8_signAt 36 = .ok (.aload_n 0, 1) := by decide +kernel
theorem dX8_signAt_37 : decode cX8_signAt 37 = .ok (.getfield 57, 3) := by decide +kernel
theorem dX8_signAt_40 : decode cX8_signAt 40 = .ok (.iload_n 1, 1) := by decide +kernel
theorem dX8_signAt_41 : decode cX8_signAt 41 = .ok (.iload_n 2, 1) := by decide +kernel
theorem dX8_signAt_42 : decode cX8_signAt 42 = .ok (.invokevirtual 229, 3) := by decide +kernel
theorem dX8_signAt_45 : decode cX8_signAt 45 = .ok (.bipush (-4), 2) := by decide +kernel
theorem dX8_signAt_47 : decode cX8_signAt 47 = .ok (.if_icmp .eq 8, 3) := by decide +kernel
theorem dX8_signAt_50 : decode cX8_signAt 50 = .ok (.bipush 35, 2) := by decide +kernel
theorem dX8_signAt_52 : decode cX8_signAt 52 = .ok (.goto 5, 3) := by decide +kernel
theorem dX8_signAt_55 : decode cX8_signAt 55 = .ok (.bipush 46, 2) := by decide +kernel
theorem dX8_signAt_57 : decode cX8_signAt 57 = .ok (.ireturn, 1) := by decide +kernel
theorem dX8_isHitTold_0 : decode cX8_isHitTold 0 = .ok (.aload_n 0, 1) := by decide +kernel
theorem dX8_isHitTold_1 : decode cX8_isHitTold 1 = .ok (.iload_n 1, 1) := by decide +kernel
theorem dX8_isHitTold_2 : decode cX8_isHitTold 2 = .ok (.invokevirtual 127, 3) := by decide +kernel
theorem dX8_isHitTold_5 : decode cX8_isHitTold 5 = .ok (.ifCond .eq 35, 3) := by decide +kernel
theorem dX8_isHitTold_8 : decode cX8_isHitTold 8 = .ok (.iload_n 2, 1) := by decide +kernel
theorem dX8_isHitTold_9 : decode cX8_isHitTold 9 = .ok (.iconst 0, 1) := by decide +kernel
theorem dX8_isHitTold_10 : decode cX8_isHitTold 10 = .ok (.bipush 99, 2) := by decide +kernel
theorem dX8_isHitTold_12 : decode cX8_isHitTold 12 = .ok (.invokestatic 296, 3) := by decide +kernel
theorem dX8_isHitTold_15 : decode cX8_isHitTold 15 = .ok (.ifCond .eq 25, 3) := by decide +kernel
theorem dX8_isHitTold_18 : decode cX8_isHitTold 18 = .ok (.iload_n 3, 1) := by decide +kernel
theorem dX8_isHitTold_19 : decode cX8_isHitTold 19 = .ok (.iconst 0, 1) := by decide +kernel
theorem dX8_isHitTold_20 : decode cX8_isHitTold 20 = .ok (.bipush 99, 2) := by decide +kernel
theorem dX8_isHitTold_22 : decode cX8_isHitTold 22 = .ok (.invokestatic 296, 3) := by decide +kernel
theorem dX8_isHitTold_25 : decode cX8_isHitTold 25 = .ok (.ifCond .eq 15, 3) := by decide +kernel
theorem dX8_isHitTold_28 : decode cX8_isHitTold 28 = .ok (.iload 4, 2) := by decide +kernel
theorem dX8_isHitTold_30 : decode cX8_isHitTold 30 = .ok (.invokestatic 130, 3) := by decide +kernel
theorem dX8_isHitTold_33 : decode cX8_isHitTold 33 = .ok (.ifCond .eq 7, 3) := by decide +kernel
theorem dX8_isHitTold_36 : decode cX8_isHitTold 36 = .ok (.iconst 1, 1) := by decide +kernel
theorem dX8_isHitTold_37 : decode cX8_isHitTold 37 = .ok (.goto 4, 3) := by decide +kernel
theorem dX8_isHitTold_40 : decode cX8_isHitTold 40 = .ok (.iconst 0, 1) := by decide +kernel
theorem dX8_isHitTold_41 : decode cX8_isHitTold 41 = .ok (.ireturn, 1) := by decide +kernel
theorem dX8_isStation_0 : decode cX8_isStation 0 = .ok (.iload_n 1, 1) := by decide +kernel
theorem dX8_isStation_1 : decode cX8_isStation 1 = .ok (.ifCond .lt 18, 3) := by decide +kernel
theorem dX8_isStation_4 : decode cX8_isStation 4 = .ok (.iload_n 1, 1) := by decide +kernel
theorem dX8_isStation_5 : decode cX8_isStation 5 = .ok (.aload_n 0, 1) := by decide +kernel
theorem dX8_isStation_6 : decode cX8_isStation 6 = .ok (.getfield 57, 3) := by decide +kernel
theorem dX8_isStation_9 : decode cX8_isStation 9 = .ok (.getfield 94, 3) := by decide +kernel
theorem dX8_isStation_12 : decode cX8_isStation 12 = .ok (.if_icmp .ge 7, 3) := by decide +kernel
theorem dX8_isStation_15 : decode cX8_isStation 15 = .ok (.iconst 1, 1) := by decide +kernel
theorem dX8_isStation_16 : decode cX8_isStation 16 = .ok (.goto 4, 3) := by decide +kernel
theorem dX8_isStation_19 : decode cX8_isStation 19 = .ok (.iconst 0, 1) := by decide +kernel
theorem dX8_isStation_20 : decode cX8_isStation 20 = .ok (.ireturn, 1) := by decide +kernel
theorem dX8_isHole_0 : decode cX8_isHole 0 = .ok (.iload_n 1, 1) := by decide +kernel
theorem dX8_isHole_1 : decode cX8_isHole 1 = .ok (.ifCond .lt 18, 3) := by decide +kernel
theorem dX8_isHole_4 : decode cX8_isHole 4 = .ok (.iload_n 1, 1) := by decide +kernel
theorem dX8_isHole_5 : decode cX8_isHole 5 = .ok (.aload_n 0, 1) := by decide +kernel
theorem dX8_isHole_6 : decode cX8_isHole 6 = .ok (.getfield 57, 3) := by decide +kernel
theorem dX8_isHole_9 : decode cX8_isHole 9 = .ok (.getfield 256, 3) := by decide +kernel
theorem dX8_isHole_12 : decode cX8_isHole 12 = .ok (.if_icmp .ge 7, 3) := by decide +kernel
theorem dX8_isHole_15 : decode cX8_isHole 15 = .ok (.iconst 1, 1) := by decide +kernel
theorem dX8_isHole_16 : decode cX8_isHole 16 = .ok (.goto 4, 3) := by decide +kernel
theorem dX8_isHole_19 : decode cX8_isHole 19 = .ok (.iconst 0, 1) := by decide +kernel
theorem dX8_isHole_20 : decode cX8_isHole 20 = .ok (.ireturn, 1) := by decide +kernel
theorem dX8_isClamp_0 : decode cX8_isClamp 0 = .ok (.iload_n 1, 1) := by decide +kernel
theorem dX8_isClamp_1 : decode cX8_isClamp 1 = .ok (.ifCond .lt 18, 3) := by decide +kernel
theorem dX8_isClamp_4 : decode cX8_isClamp 4 = .ok (.iload_n 1, 1) := by decide +kernel
theorem dX8_isClamp_5 : decode cX8_isClamp 5 = .ok (.aload_n 0, 1) := by decide +kernel
theorem dX8_isClamp_6 : decode cX8_isClamp 6 = .ok (.getfield 57, 3) := by decide +kernel
theorem dX8_isClamp_9 : decode cX8_isClamp 9 = .ok (.getfield 259, 3) := by decide +kernel
theorem dX8_isClamp_12 : decode cX8_isClamp 12 = .ok (.if_icmp .ge 7, 3) := by decide +kernel
theorem dX8_isClamp_15 : decode cX8_isClamp 15 = .ok (.iconst 1, 1) := by decide +kernel
theorem dX8_isClamp_16 : decode cX8_isClamp 16 = .ok (.goto 4, 3) := by decide +kernel
theorem dX8_isClamp_19 : decode cX8_isClamp 19 = .ok (.iconst 0, 1) := by decide +kernel
theorem dX8_isClamp_20 : decode cX8_isClamp 20 = .ok (.ireturn, 1) := by decide +kernel
theorem dX8_isFlag_0 : decode cX8_isFlag 0 = .ok (.iload_n 0, 1) := by decide +kernel
theorem dX8_isFlag_1 : decode cX8_isFlag 1 = .ok (.ifCond .eq 8, 3) := by decide +kernel
theorem dX8_isFlag_4 : decode cX8_isFlag 4 = .ok (.iload_n 0, 1) := by decide +kernel
theorem dX8_isFlag_5 : decode cX8_isFlag 5 = .ok (.iconst 1, 1) := by decide +kernel
theorem dX8_isFlag_6 : decode cX8_isFlag 6 = .ok (.if_icmp .ne 7, 3) := by decide +kernel
theorem dX8_isFlag_9 : decode cX8_isFlag 9 = .ok (.iconst 1, 1) := by decide +kernel
theorem dX8_isFlag_10 : decode cX8_isFlag 10 = .ok (.goto 4, 3) := by decide +kernel
theorem dX8_isFlag_13 : decode cX8_isFlag 13 = .ok (.iconst 0, 1) := by decide +kernel
theorem dX8_isFlag_14 : decode cX8_isFlag 14 = .ok (.ireturn, 1) := by decide +kernel
theorem dX8_asFlag_0 : decode cX8_asFlag 0 = .ok (.iload_n 0, 1) := by decide +kernel
theorem dX8_asFlag_1 : decode cX8_asFlag 1 = .ok (.ifCond .eq 7, 3) := by decide +kernel
theorem dX8_asFlag_4 : decode cX8_asFlag 4 = .ok (.iconst 1, 1) := by decide +kernel
theorem dX8_asFlag_5 : decode cX8_asFlag 5 = .ok (.goto 4, 3) := by decide +kernel
theorem dX8_asFlag_8 : decode cX8_asFlag 8 = .ok (.iconst 0, 1) := by decide +kernel
theorem dX8_asFlag_9 : decode cX8_asFlag 9 = .ok (.ireturn, 1) := by decide +kernel
theorem dX8_isWithin_0 : decode cX8_isWithin 0 = .ok (.iload_n 0, 1) := by decide +kernel
theorem dX8_isWithin_1 : decode cX8_isWithin 1 = .ok (.iload_n 1, 1) := by decide +kernel
theorem dX8_isWithin_2 : decode cX8_isWithin 2 = .ok (.if_icmp .lt 12, 3) := by decide +kernel
theorem dX8_isWithin_5 : decode cX8_isWithin 5 = .ok (.iload_n 0, 1) := by decide +kernel
theorem dX8_isWithin_6 : decode cX8_isWithin 6 = .ok (.iload_n 2, 1) := by decide +kernel
theorem dX8_isWithin_7 : decode cX8_isWithin 7 = .ok (.if_icmp .gt 7, 3) := by decide +kernel
theorem dX8_isWithin_10 : decode cX8_isWithin 10 = .ok (.iconst 1, 1) := by decide +kernel
theorem dX8_isWithin_11 : decode cX8_isWithin 11 = .ok (.goto 4, 3) := by decide +kernel
theorem dX8_isWithin_14 : decode cX8_isWithin 14 = .ok (.iconst 0, 1) := by decide +kernel
theorem dX8_isWithin_15 : decode cX8_isWithin 15 = .ok (.ireturn, 1) := by decide +kernel
theorem dX8_stepsOver_0 : decode cX8_stepsOver 0 = .ok (.iload_n 1, 1) := by decide +kernel
theorem dX8_stepsOver_1 : decode cX8_stepsOver 1 = .ok (.iconst 1, 1) := by decide +kernel
theorem dX8_stepsOver_2 : decode cX8_stepsOver 2 = .ok (.if_icmp .ge 7, 3) := by decide +kernel
theorem dX8_stepsOver_5 : decode cX8_stepsOver 5 = .ok (.iconst 0, 1) := by decide +kernel
theorem dX8_stepsOver_6 : decode cX8_stepsOver 6 = .ok (.goto 10, 3) := by decide +kernel
theorem dX8_stepsOver_9 : decode cX8_stepsOver 9 = .ok (.iload_n 0, 1) := by decide +kernel
theorem dX8_stepsOver_10 : decode cX8_stepsOver 10 = .ok (.iload_n 1, 1) := by decide +kernel
theorem dX8_stepsOver_11 : decode cX8_stepsOver 11 = .ok (.iadd, 1) := by decide +kernel
theorem dX8_stepsOver_12 : decode cX8_stepsOver 12 = .ok (.iconst 1, 1) := by decide +kernel
theorem dX8_stepsOver_13 : decode cX8_stepsOver 13 = .ok (.isub, 1) := by decide +kernel
theorem dX8_stepsOver_14 : decode cX8_stepsOver 14 = .ok (.iload_n 1, 1) := by decide +kernel
theorem dX8_stepsOver_15 : decode cX8_stepsOver 15 = .ok (.idiv, 1) := by decide +kernel
theorem dX8_stepsOver_16 : decode cX8_stepsOver 16 = .ok (.ireturn, 1) := by decide +kernel
theorem dX9_init_0 : decode cX9_init 0 = .ok (.aload_n 0, 1) := by decide +kernel
theorem dX9_init_1 : decode cX9_init 1 = .ok (.invokespecial 1, 3) := by decide +kernel
theorem dX9_init_4 : decode cX9_init 4 = .ok (.aload_n 0, 1) := by decide +kernel
theorem dX9_init_5 : decode cX9_init 5 = .ok (.sipush 200, 3) := by decide +kernel
theorem dX9_init_8 : decode cX9_init 8 = .ok (.newarray .int, 2) := by decide +kernel
theorem dX9_init_10 : decode cX9_init 10 = .ok (.putfield 7, 3) := by decide +kernel
theorem dX9_init_13 : decode cX9_init 13 = .ok (.aload_n 0, 1) := by decide +kernel
theorem dX9_init_14 : decode cX9_init 14 = .ok (.bipush 51, 2) := by decide +kernel
theorem dX9_init_16 : decode cX9_init 16 = .ok (.newarray .int, 2) := by decide +kernel
theorem dX9_init_18 : decode cX9_init 18 = .ok (.putfield 13, 3) := by decide +kernel
theorem dX9_init_21 : decode cX9_init 21 = .ok (.aload_n 0, 1) := by decide +kernel
theorem dX9_init_22 : decode cX9_init 22 = .ok (.bipush 51, 2) := by decide +kernel
theorem dX9_init_24 : decode cX9_init 24 = .ok (.newarray .int, 2) := by decide +kernel
theorem dX9_init_26 : decode cX9_init 26 = .ok (.putfield 16, 3) := by decide +kernel
theorem dX9_init_29 : decode cX9_init 29 = .ok (.aload_n 0, 1) := by decide +kernel
theorem dX9_init_30 : decode cX9_init 30 = .ok (.sipush 156, 3) := by decide +kernel
theorem dX9_init_33 : decode cX9_init 33 = .ok (.newarray .int, 2) := by decide +kernel
theorem dX9_init_35 : decode cX9_init 35 = .ok (.putfield 19, 3) := by decide +kernel
theorem dX9_init_38 : decode cX9_init 38 = .ok (.aload_n 0, 1) := by decide +kernel
theorem dX9_init_39 : decode cX9_init 39 = .ok (.sipush 936, 3) := by decide +kernel
theorem dX9_init_42 : decode cX9_init 42 = .ok (.newarray .int, 2) := by decide +kernel
theorem dX9_init_44 : decode cX9_init 44 = .ok (.putfield 22, 3) := by decide +kernel
theorem dX9_init_47 : decode cX9_init 47 = .ok (.aload_n 0, 1) := by decide +kernel
theorem dX9_init_48 : decode cX9_init 48 = .ok (.sipush 156, 3) := by decide +kernel
theorem dX9_init_51 : decode cX9_init 51 = .ok (.newarray .int, 2) := by decide +kernel
theorem dX9_init_53 : decode cX9_init 53 = .ok (.putfield 25, 3) := by decide +kernel
theorem dX9_init_56 : decode cX9_init 56 = .ok (.aload_n 0, 1) := by decide +kernel
theorem dX9_init_57 : decode cX9_init 57 = .ok (.bipush 64, 2) := by decide +kernel
theorem dX9_init_59 : decode cX9_init 59 = .ok (.newarray .int, 2) := by decide +kernel
theorem dX9_init_61 : decode cX9_init 61 = .ok (.putfield 28, 3) := by decide +kernel
theorem dX9_init_64 : decode cX9_init 64 = .ok (.aload_n 0, 1) := by decide +kernel
theorem dX9_init_65 : decode cX9_init 65 = .ok (.iconst 5, 1) := by decide +kernel
theorem dX9_init_66 : decode cX9_init 66 = .ok (.newarray .int, 2) := by decide +kernel
theorem dX9_init_68 : decode cX9_init 68 = .ok (.putfield 31, 3) := by decide +kernel
theorem dX9_init_71 : decode cX9_init 71 = .ok (.aload_n 0, 1) := by decide +kernel
theorem dX9_init_72 : decode cX9_init 72 = .ok (.iconst 5, 1) := by decide +kernel
theorem dX9_init_73 : decode cX9_init 73 = .ok (.newarray .int, 2) := by decide +kernel
theorem dX9_init_75 : decode cX9_init 75 = .ok (.putfield 34, 3) := by decide +kernel
theorem dX9_init_78 : decode cX9_init 78 = .ok (.aload_n 0, 1) := by decide +kernel
theorem dX9_init_79 : decode cX9_init 79 = .ok (.bipush 60, 2) := by decide +kernel
theorem dX9_init_81 : decode cX9_init 81 = .ok (.newarray .int, 2) := by decide +kernel
theorem dX9_init_83 : decode cX9_init 83 = .ok (.putfield 37, 3) := by decide +kernel
theorem dX9_init_86 : decode cX9_init 86 = .ok (.aload_n 0, 1) := by decide +kernel
theorem dX9_init_87 : decode cX9_init 87 = .ok (.iconst 5, 1) := by decide +kernel
theorem dX9_init_88 : decode cX9_init 88 = .ok (.newarray .int, 2) := by decide +kernel
theorem dX9_init_90 : decode cX9_init 90 = .ok (.putfield 40, 3) := by decide +kernel
theorem dX9_init_93 : decode cX9_init 93 = .ok (.aload_n 0, 1) := by decide +kernel
theorem dX9_init_94 : decode cX9_init 94 = .ok (.getfield 13, 3) := by decide +kernel
theorem dX9_init_97 : decode cX9_init 97 = .ok (.iconst 0, 1) := by decide +kernel
theorem dX9_init_98 : decode cX9_init 98 = .ok (.bipush 10, 2) := by decide +kernel
theorem dX9_init_100 : decode cX9_init 100 = .ok (.iastore, 1) := by decide +kernel
theorem dX9_init_101 : decode cX9_init 101 = .ok (.aload_n 0, 1) := by decide +kernel
theorem dX9_init_102 : decode cX9_init 102 = .ok (.getfield 13, 3) := by decide +kernel
theorem dX9_init_105 : decode cX9_init 105 = .ok (.iconst 1, 1) := by decide +kernel
theorem dX9_init_106 : decode cX9_init 106 = .ok (.bipush 8, 2) := by decide +kernel
theorem dX9_init_108 : decode cX9_init 108 = .ok (.iastore, 1) := by decide +kernel
theorem dX9_init_109 : decode cX9_init 109 = .ok (.aload_n 0, 1) := by decide +kernel
theorem dX9_init_110 : decode cX9_init 110 = .ok (.iconst 5, 1) := by decide +kernel
theorem dX9_init_111 : decode cX9_init 111 = .ok (.iconst 2, 1) := by decide +kernel
theorem dX9_init_112 : decode cX9_init 112 = .ok (.iconst 2, 1) := by decide +kernel
theorem dX9_init_113 : decode cX9_init 113 = .ok (.iconst 2, 1) := by decide +kernel
theorem dX9_init_114 : decode cX9_init 114 = .ok (.iconst 0, 1) := by decide +kernel
theorem dX9_init_115 : decode cX9_init 115 = .ok (.bipush 40, 2) := by decide +kernel
theorem dX9_init_117 : decode cX9_init 117 = .ok (.invokevirtual 43, 3) := by decide +kernel
theorem dX9_init_120 : decode cX9_init 120 = .ok (.aload_n 0, 1) := by decide +kernel
theorem dX9_init_121 : decode cX9_init 121 = .ok (.iconst 5, 1) := by decide +kernel
theorem dX9_init_122 : decode cX9_init 122 = .ok (.iconst 2, 1) := by decide +kernel
theorem dX9_init_123 : decode cX9_init 123 = .ok (.iconst 3, 1) := by decide +kernel
theorem dX9_init_124 : decode cX9_init 124 = .ok (.iconst 1, 1) := by decide +kernel
theorem dX9_init_125 : decode cX9_init 125 = .ok (.iconst 1, 1) := by decide +kernel
theorem dX9_init_126 : decode cX9_init 126 = .ok (.bipush 12, 2) := by decide +kernel
theorem dX9_init_128 : decode cX9_init 128 = .ok (.invokevirtual 43, 3) := by decide +kernel
theorem dX9_init_131 : decode cX9_init 131 = .ok (.aload_n 0, 1) := by decide +kernel
theorem dX9_init_132 : decode cX9_init 132 = .ok (.iconst 5, 1) := by decide +kernel
theorem dX9_init_133 : decode cX9_init 133 = .ok (.iconst 2, 1) := by decide +kernel
theorem dX9_init_134 : decode cX9_init 134 = .ok (.iconst 1, 1) := by decide +kernel
theorem dX9_init_135 : decode cX9_init 135 = .ok (.iconst 1, 1) := by decide +kernel
theorem dX9_init_136 : decode cX9_init 136 = .ok (.iconst 0, 1) := by decide +kernel
theorem dX9_init_137 : decode cX9_init 137 = .ok (.bipush 99, 2) := by decide +kernel
theorem dX9_init_139 : decode cX9_init 139 = .ok (.invokevirtual 43, 3) := by decide +kernel
theorem dX9_init_142 : decode cX9_init 142 = .ok (.aload_n 0, 1) := by decide +kernel
theorem dX9_init_143 : decode cX9_init 143 = .ok (.bipush 29, 2) := by decide +kernel
theorem dX9_init_145 : decode cX9_init 145 = .ok (.iconst 3, 1) := by decide +kernel
theorem dX9_init_146 : decode cX9_init 146 = .ok (.iconst 1, 1) := by decide +kernel
theorem dX9_init_147 : decode cX9_init 147 = .ok (.iconst 1, 1) := by decide +kernel
theorem dX9_init_148 : decode cX9_init 148 = .ok (.iconst 4, 1) := by decide +kernel
theorem dX9_init_149 : decode cX9_init 149 = .ok (.iconst 2, 1) := by decide +kernel
theorem dX9_init_150 : decode cX9_init 150 = .ok (.invokevirtual 43, 3) := by decide +kernel
theorem dX9_init_153 : decode cX9_init 153 = .ok (.aload_n 0, 1) := by decide +kernel
theorem dX9_init_154 : decode cX9_init 154 = .ok (.bipush 29, 2) := by decide +kernel
theorem dX9_init_156 : decode cX9_init 156 = .ok (.iconst 3, 1) := by decide +kernel
theorem dX9_init_157 : decode cX9_init 157 = .ok (.bipush 6, 2) := by decide +kernel
theorem dX9_init_159 : decode cX9_init 159 = .ok (.iconst 1, 1) := by decide +kernel
theorem dX9_init_160 : decode cX9_init 160 = .ok (.iconst 3, 1) := by decide +kernel
theorem dX9_init_161 : decode cX9_init 161 = .ok (.iconst 3, 1) := by decide +kernel
theorem dX9_init_162 : decode cX9_init 162 = .ok (.invokevirtual 43, 3) := by decide +kernel
theorem dX9_init_165 : decode cX9_init 165 = .ok (.aload_n 0, 1) := by decide +kernel
theorem dX9_init_166 : decode cX9_init 166 = .ok (.bipush 29, 2) := by decide +kernel
theorem dX9_init_168 : decode cX9_init 168 = .ok (.iconst 3, 1) := by decide +kernel
theorem dX9_init_169 : decode cX9_init 169 = .ok (.iconst 2, 1) := by decide +kernel
theorem dX9_init_170 : decode cX9_init 170 = .ok (.iconst 5, 1) := by decide +kernel
theorem dX9_init_171 : decode cX9_init 171 = .ok (.iconst 1, 1) := by decide +kernel
theorem dX9_init_172 : decode cX9_init 172 = .ok (.iconst 3, 1) := by decide +kernel
theorem dX9_init_173 : decode cX9_init 173 = .ok (.invokevirtual 43, 3) := by decide +kernel
theorem dX9_init_176 : decode cX9_init 176 = .ok (.aload_n 0, 1) := by decide +kernel
theorem dX9_init_177 : decode cX9_init 177 = .ok (.bipush 29, 2) := by decide +kernel
theorem dX9_init_179 : decode cX9_init 179 = .ok (.iconst 3, 1) := by decide +kernel
theorem dX9_init_180 : decode cX9_init 180 = .ok (.bipush 6, 2) := by decide +kernel
theorem dX9_init_182 : decode cX9_init 182 = .ok (.bipush 6, 2) := by decide +kernel
theorem dX9_init_184 : decode cX9_init 184 = .ok (.iconst 3, 1) := by decide +kernel
theorem dX9_init_185 : decode cX9_init 185 = .ok (.iconst 1, 1) := by decide +kernel
theorem dX9_init_186 : decode cX9_init 186 = .ok (.invokevirtual 43, 3) := by decide +kernel
theorem dX9_init_189 : decode cX9_init 189 = .ok (.aload_n 0, 1) := by decide +kernel
theorem dX9_init_190 : decode cX9_init 190 = .ok (.getfield 13, 3) := by decide +kernel
theorem dX9_init_193 : decode cX9_init 193 = .ok (.iconst 4, 1) := by decide +kernel
theorem dX9_init_194 : decode cX9_init 194 = .ok (.iconst 2, 1) := by decide +kernel
theorem dX9_init_195 : decode cX9_init 195 = .ok (.iastore, 1) := by decide +kernel
theorem dX9_init_196 : decode cX9_init 196 = .ok (.aload_n 0, 1) := by decide +kernel
theorem dX9_init_197 : decode cX9_init 197 = .ok (.getfield 13, 3) := by decide +kernel
theorem dX9_init_200 : decode cX9_init 200 = .ok (.bipush 49, 2) := by decide +kernel
theorem dX9_init_202 : decode cX9_init 202 = .ok (.iconst 0, 1) := by decide +kernel
theorem dX9_init_203 : decode cX9_init 203 = .ok (.iastore, 1) := by decide +kernel
theorem dX9_init_204 : decode cX9_init 204 = .ok (.aload_n 0, 1) := by decide +kernel
theorem dX9_init_205 : decode cX9_init 205 = .ok (.getfield 13, 3) := by decide +kernel
theorem dX9_init_208 : decode cX9_init 208 = .ok (.bipush 50, 2) := by decide +kernel
theorem dX9_init_210 : decode cX9_init 210 = .ok (.bipush 7, 2) := by decide +kernel
theorem dX9_init_212 : decode cX9_init 212 = .ok (.iastore, 1) := by decide +kernel
theorem dX9_init_213 : decode cX9_init 213 = .ok (.aload_n 0, 1) := by decide +kernel
theorem dX9_init_214 : decode cX9_init 214 = .ok (.invokevirtual 47, 3) := by decide +kernel
theorem dX9_init_217 : decode cX9_init 217 = .ok (.return_, 1) := by decide +kernel
theorem dX9_adds_0 : decode cX9_adds 0 = .ok (.iload_n 1, 1) := by decide +kernel
theorem dX9_adds_1 : decode cX9_adds 1 = .ok (.iconst 4, 1) := by decide +kernel
theorem dX9_adds_2 : decode cX9_adds 2 = .ok (.aload_n 0, 1) := by decide +kernel
theorem dX9_adds_3 : decode cX9_adds 3 = .ok (.getfield 13, 3) := by decide +kernel
theorem dX9_adds_6 : decode cX9_adds 6 = .ok (.iload_n 2, 1) := by decide +kernel
theorem dX9_adds_7 : decode cX9_adds 7 = .ok (.iaload, 1) := by decide +kernel
theorem dX9_adds_8 : decode cX9_adds 8 = .ok (.imul, 1) := by decide +kernel
theorem dX9_adds_9 : decode cX9_adds 9 = .ok (.iadd, 1) := by decide +kernel
theorem dX9_adds_10 : decode cX9_adds 10 = .ok (.istore 7, 2) := by decide +kernel
theorem dX9_adds_12 : decode cX9_adds 12 = .ok (.aload_n 0, 1) := by decide +kernel
theorem dX9_adds_13 : decode cX9_adds 13 = .ok (.getfield 13, 3) := by decide +kernel
theorem dX9_adds_16 : decode cX9_adds 16 = .ok (.iload 7, 2) := by decide +kernel
theorem dX9_adds_18 : decode cX9_adds 18 = .ok (.iload_n 3, 1) := by decide +kernel
theorem dX9_adds_19 : decode cX9_adds 19 = .ok (.iastore, 1) := by decide +kernel
theorem dX9_adds_20 : decode cX9_adds 20 = .ok (.aload_n 0, 1) := by decide +kernel
theorem dX9_adds_21 : decode cX9_adds 21 = .ok (.getfield 13, 3) := by decide +kernel
theorem dX9_adds_24 : decode cX9_adds 24 = .ok (.iload 7, 2) := by decide +kernel
theorem dX9_adds_26 : decode cX9_adds 26 = .ok (.iconst 1, 1) := by decide +kernel
theorem dX9_adds_27 : decode cX9_adds 27 = .ok (.iadd, 1) := by decide +kernel
theorem dX9_adds_28 : decode cX9_adds 28 = .ok (.iload 4, 2) := by decide +kernel
theorem dX9_adds_30 : decode cX9_adds 30 = .ok (.iastore, 1) := by decide +kernel
theorem dX9_adds_31 : decode cX9_adds 31 = .ok (.aload_n 0, 1) := by decide +kernel
theorem dX9_adds_32 : decode cX9_adds 32 = .ok (.getfield 13, 3) := by decide +kernel
theorem dX9_adds_35 : decode cX9_adds 35 = .ok (.iload 7, 2) := by decide +kernel
theorem dX9_adds_37 : decode cX9_adds 37 = .ok (.iconst 2, 1) := by decide +kernel
theorem dX9_adds_38 : decode cX9_adds 38 = .ok (.iadd, 1) := by decide +kernel
theorem dX9_adds_39 : decode cX9_adds 39 = .ok (.iload 5, 2) := by decide +kernel
theorem dX9_adds_41 : decode cX9_adds 41 = .ok (.iastore, 1) := by decide +kernel
theorem dX9_adds_42 : decode cX9_adds 42 = .ok (.aload_n 0, 1) := by decide +kernel
theorem dX9_adds_43 : decode cX9_adds 43 = .ok (.getfield 13, 3) := by decide +kernel
theorem dX9_adds_46 : decode cX9_adds 46 = .ok (.iload 7, 2) := by decide +kernel
theorem dX9_adds_48 : decode cX9_adds 48 = .ok (.iconst 3, 1) := by decide +kernel
theorem dX9_adds_49 : decode cX9_adds 49 = .ok (.iadd, 1) := by decide +kernel
theorem dX9_adds_50 : decode cX9_adds 50 = .ok (.iload 6, 2) := by decide +kernel
theorem dX9_adds_52 : decode cX9_adds 52 = .ok (.iastore, 1) := by decide +kernel
theorem dX9_adds_53 : decode cX9_adds 53 = .ok (.aload_n 0, 1) := by decide +kernel
theorem dX9_adds_54 : decode cX9_adds 54 = .ok (.getfield 13, 3) := by decide +kernel
theorem dX9_adds_57 : decode cX9_adds 57 = .ok (.iload_n 2, 1) := by decide +kernel
theorem dX9_adds_58 : decode cX9_adds 58 = .ok (.dup2, 1) := by decide +kernel
theorem dX9_adds_59 : decode cX9_adds 59 = .ok (.iaload, 1) := by decide +kernel
theorem dX9_adds_60 : decode cX9_adds 60 = .ok (.iconst 1, 1) := by decide +kernel
theorem dX9_adds_61 : decode cX9_adds 61 = .ok (.iadd, 1) := by decide +kernel
theorem dX9_adds_62 : decode cX9_adds 62 = .ok (.iastore, 1) := by decide +kernel
theorem dX9_adds_63 : decode cX9_adds 63 = .ok (.return_, 1) := by decide +kernel
theorem dX9_anew_0 : decode cX9_anew 0 = .ok (.iconst 0, 1) := by decide +kernel
theorem dX9_anew_1 : decode cX9_anew 1 = .ok (.istore_n 1, 1) := by decide +kernel
theorem dX9_anew_2 : decode cX9_anew 2 = .ok (.iload_n 1, 1) := by decide +kernel
theorem dX9_anew_3 : decode cX9_anew 3 = .ok (.sipush 156, 3) := by decide +kernel
theorem dX9_anew_6 : decode cX9_anew 6 = .ok (.if_icmp .ge 16, 3) := by decide +kernel
theorem dX9_anew_9 : decode cX9_anew 9 = .ok (.aload_n 0, 1) := by decide +kernel
theorem dX9_anew_10 : decode cX9_anew 10 = .ok (.getfield 19, 3) := by decide +kernel
theorem dX9_anew_13 : decode cX9_anew 13 = .ok (.iload_n 1, 1) := by decide +kernel
theorem dX9_anew_14 : decode cX9_anew 14 = .ok (.iconst 0, 1) := by decide +kernel
theorem dX9_anew_15 : decode cX9_anew 15 = .ok (.iastore, 1) := by decide +kernel
theorem dX9_anew_16 : decode cX9_anew 16 = .ok (.iinc 1 1, 3) := by decide +kernel
theorem dX9_anew_19 : decode cX9_anew 19 = .ok (.goto (-17), 3) := by decide +kernel
theorem dX9_anew_22 : decode cX9_anew 22 = .ok (.aload_n 0, 1) := by decide +kernel
theorem dX9_anew_23 : decode cX9_anew 23 = .ok (.getfield 19, 3) := by decide +kernel
theorem dX9_anew_26 : decode cX9_anew 26 = .ok (.sipush 151, 3) := by decide +kernel
theorem dX9_anew_29 : decode cX9_anew 29 = .ok (.aload_n 0, 1) := by decide +kernel
theorem dX9_anew_30 : decode cX9_anew 30 = .ok (.getfield 13, 3) := by decide +kernel
theorem dX9_anew_33 : decode cX9_anew 33 = .ok (.bipush 49, 2) := by decide +kernel
theorem dX9_anew_35 : decode cX9_anew 35 = .ok (.iaload, 1) := by decide +kernel
theorem dX9_anew_36 : decode cX9_anew 36 = .ok (.iastore, 1) := by decide +kernel
theorem dX9_anew_37 : decode cX9_anew 37 = .ok (.aload_n 0, 1) := by decide +kernel
theorem dX9_anew_38 : decode cX9_anew 38 = .ok (.getfield 19, 3) := by decide +kernel
theorem dX9_anew_41 : decode cX9_anew 41 = .ok (.sipush 152, 3) := by decide +kernel
theorem dX9_anew_44 : decode cX9_anew 44 = .ok (.aload_n 0, 1) := by decide +kernel
theorem dX9_anew_45 : decode cX9_anew 45 = .ok (.getfield 13, 3) := by decide +kernel
theorem dX9_anew_48 : decode cX9_anew 48 = .ok (.bipush 50, 2) := by decide +kernel
theorem dX9_anew_50 : decode cX9_anew 50 = .ok (.iaload, 1) := by decide +kernel
theorem dX9_anew_51 : decode cX9_anew 51 = .ok (.iastore, 1) := by decide +kernel
theorem dX9_anew_52 : decode cX9_anew 52 = .ok (.aload_n 0, 1) := by decide +kernel
theorem dX9_anew_53 : decode cX9_anew 53 = .ok (.iconst 0, 1) := by decide +kernel
theorem dX9_anew_54 : decode cX9_anew 54 = .ok (.putfield 50, 3) := by decide +kernel
theorem dX9_anew_57 : decode cX9_anew 57 = .ok (.return_, 1) := by decide +kernel
theorem dX9_in_0 : decode cX9_in 0 = .ok (.lload_n 0, 1) := by decide +kernel
theorem dX9_in_1 : decode cX9_in 1 = .ok (.lload_n 2, 1) := by decide +kernel
theorem dX9_in_2 : decode cX9_in 2 = .ok (.lcmp, 1) := by decide +kernel
theorem dX9_in_3 : decode cX9_in 3 = .ok (.ifCond .lt 14, 3) := by decide +kernel
theorem dX9_in_6 : decode cX9_in 6 = .ok (.lload_n 0, 1) := by decide +kernel
theorem dX9_in_7 : decode cX9_in 7 = .ok (.lload 4, 2) := by decide +kernel
theorem dX9_in_9 : decode cX9_in 9 = .ok (.lcmp, 1) := by decide +kernel
theorem dX9_in_10 : decode cX9_in 10 = .ok (.ifCond .gt 7, 3) := by decide +kernel
theorem dX9_in_13 : decode cX9_in 13 = .ok (.iconst 1, 1) := by decide +kernel
theorem dX9_in_14 : decode cX9_in 14 = .ok (.goto 4, 3) := by decide +kernel
theorem dX9_in_17 : decode cX9_in 17 = .ok (.iconst 0, 1) := by decide +kernel
theorem dX9_in_18 : decode cX9_in 18 = .ok (.ireturn, 1) := by decide +kernel
theorem dX9_write_0 : decode cX9_write 0 = .ok (.iload_n 1, 1) := by decide +kernel
theorem dX9_write_1 : decode cX9_write 1 = .ok (.i2l, 1) := by decide +kernel
theorem dX9_write_2 : decode cX9_write 2 = .ok (.ldc2_w 54, 3) := by decide +kernel
theorem dX9_write_5 : decode cX9_write 5 = .ok (.ldc2_w 56, 3) := by decide +kernel
theorem dX9_write_8 : decode cX9_write 8 = .ok (.invokestatic 58, 3) := by decide +kernel
theorem dX9_write_11 : decode cX9_write 11 = .ok (.ifCond .ne 5, 3) := by decide +kernel
theorem dX9_write_14 : decode cX9_write 14 = .ok (.iconst (-1), 1) := by decide +kernel
theorem dX9_write_15 : decode cX9_write 15 = .ok (.ireturn, 1) := by decide +kernel
theorem dX9_write_16 : decode cX9_write 16 = .ok (.aload_n 0, 1) := by decide +kernel
theorem dX9_write_17 : decode cX9_write 17 = .ok (.getfield 62, 3) := by decide +kernel
theorem dX9_write_20 : decode cX9_write 20 = .ok (.sipush 200, 3) := by decide +kernel
theorem dX9_write_23 : decode cX9_write 23 = .ok (.if_icmp .ne 6, 3) := by decide +kernel
theorem dX9_write_26 : decode cX9_write 26 = .ok (.bipush (-3), 2) := by decide +kernel
theorem dX9_write_28 : decode cX9_write 28 = .ok (.ireturn, 1) := by decide +kernel
theorem dX9_write_29 : decode cX9_write 29 = .ok (.aload_n 0, 1) := by decide +kernel
theorem dX9_write_30 : decode cX9_write 30 = .ok (.getfield 7, 3) := by decide +kernel
theorem dX9_write_33 : decode cX9_write 33 = .ok (.aload_n 0, 1) := by decide +kernel
theorem dX9_write_34 : decode cX9_write 34 = .ok (.getfield 62, 3) := by decide +kernel
theorem dX9_write_37 : decode cX9_write 37 = .ok (.iload_n 1, 1) := by decide +kernel
theorem dX9_write_38 : decode cX9_write 38 = .ok (.iastore, 1) := by decide +kernel
theorem dX9_write_39 : decode cX9_write 39 = .ok (.aload_n 0, 1) := by decide +kernel
theorem dX9_write_40 : decode cX9_write 40 = .ok (.dup, 1) := by decide +kernel
theorem dX9_write_41 : decode cX9_write 41 = .ok (.getfield 62, 3) := by decide +kernel
theorem dX9_write_44 : decode cX9_write 44 = .ok (.iconst 1, 1) := by decide +kernel
theorem dX9_write_45 : decode cX9_write 45 = .ok (.iadd, 1) := by decide +kernel
theorem dX9_write_46 : decode cX9_write 46 = .ok (.putfield 62, 3) := by decide +kernel
theorem dX9_write_49 : decode cX9_write 49 = .ok (.aload_n 0, 1) := by decide +kernel
theorem dX9_write_50 : decode cX9_write 50 = .ok (.getfield 62, 3) := by decide +kernel
theorem dX9_write_53 : decode cX9_write 53 = .ok (.ireturn, 1) := by decide +kernel
theorem dX9_wipe_0 : decode cX9_wipe 0 = .ok (.aload_n 0, 1) := by decide +kernel
theorem dX9_wipe_1 : decode cX9_wipe 1 = .ok (.getfield 62, 3) := by decide +kernel
theorem dX9_wipe_4 : decode cX9_wipe 4 = .ok (.istore_n 1, 1) := by decide +kernel
theorem dX9_wipe_5 : decode cX9_wipe 5 = .ok (.aload_n 0, 1) := by decide +kernel
theorem dX9_wipe_6 : decode cX9_wipe 6 = .ok (.iconst 0, 1) := by decide +kernel
theorem dX9_wipe_7 : decode cX9_wipe 7 = .ok (.putfield 62, 3) := by decide +kernel
theorem dX9_wipe_10 : decode cX9_wipe 10 = .ok (.iload_n 1, 1) := by decide +kernel
theorem dX9_wipe_11 : decode cX9_wipe 11 = .ok (.ireturn, 1) := by decide +kernel
theorem dX9_byteAt_0 : decode cX9_byteAt 0 = .ok (.iload_n 1, 1) := by decide +kernel
theorem dX9_byteAt_1 : decode cX9_byteAt 1 = .ok (.aload_n 0, 1) := by decide +kernel
theorem dX9_byteAt_2 : decode cX9_byteAt 2 = .ok (.getfield 62, 3) := by decide +kernel
theorem dX9_byteAt_5 : decode cX9_byteAt 5 = .ok (.if_icmp .ge 12, 3) := by decide +kernel
theorem dX9_byteAt_8 : decode cX9_byteAt 8 = .ok (.aload_n 0, 1) := by decide +kernel
theorem dX9_byteAt_9 : decode cX9_byteAt 9 = .ok (.getfield 7, 3) := by decide +kernel
theorem dX9_byteAt_12 : decode cX9_byteAt 12 = .ok (.iload_n 1, 1) := by decide +kernel
theorem dX9_byteAt_13 : decode cX9_byteAt 13 = .ok (.iaload, 1) := by decide +kernel
theorem dX9_byteAt_14 : decode cX9_byteAt 14 = .ok (.goto 4, 3) := by decide +kernel
theorem dX9_byteAt_17 : decode cX9_byteAt 17 = .ok (.iconst 0, 1) := by decide +kernel
theorem dX9_byteAt_18 : decode cX9_byteAt 18 = .ok (.ireturn, 1) := by decide +kernel
theorem dX9_number_0 : decode cX9_number 0 = .ok (.aload_n 0, 1) := by decide +kernel
theorem dX9_number_1 : decode cX9_number 1 = .ok (.aload_n 0, 1) := by decide +kernel
theorem dX9_number_2 : decode cX9_number 2 = .ok (.getfield 65, 3) := by decide +kernel
theorem dX9_number_5 : decode cX9_number 5 = .ok (.invokevirtual 68, 3) := by decide +kernel
theorem dX9_number_8 : decode cX9_number 8 = .ok (.iload_n 1, 1) := by decide +kernel
theorem dX9_number_9 : decode cX9_number 9 = .ok (.if_icmp .eq 5, 3) := by decide +kernel
theorem dX9_number_12 : decode cX9_number 12 = .ok (.iconst 0, 1) := by decide +kernel
theorem dX9_number_13 : decode cX9_number 13 = .ok (.ireturn, 1) := by decide +kernel
theorem dX9_number_14 : decode cX9_number 14 = .ok (.aload_n 0, 1) := by decide +kernel
theorem dX9_number_15 : decode cX9_number 15 = .ok (.dup, 1) := by decide +kernel
theorem dX9_number_16 : decode cX9_number 16 = .ok (.getfield 65, 3) := by decide +kernel
theorem dX9_number_19 : decode cX9_number 19 = .ok (.iconst 1, 1) := by decide +kernel
theorem dX9_number_20 : decode cX9_number 20 = .ok (.iadd, 1) := by decide +kernel
theorem dX9_number_21 : decode cX9_number 21 = .ok (.putfield 65, 3) := by decide +kernel
theorem dX9_number_24 : decode cX9_number 24 = .ok (.iconst 0, 1) := by decide +kernel
theorem dX9_number_25 : decode cX9_number 25 = .ok (.istore 5, 2) := by decide +kernel
theorem dX9_number_27 : decode cX9_number 27 = .ok (.iconst 0, 1) := by decide +kernel
theorem dX9_number_28 : decode cX9_number 28 = .ok (.istore 6, 2) := by decide +kernel
theorem dX9_number_30 : decode cX9_number 30 = .ok (.iload 6, 2) := by decide +kernel
theorem dX9_number_32 : decode cX9_number 32 = .ok (.iconst 2, 1) := by decide +kernel
theorem dX9_number_33 : decode cX9_number 33 = .ok (.if_icmp .ge 59, 3) := by decide +kernel
theorem dX9_number_36 : decode cX9_number 36 = .ok (.aload_n 0, 1) := by decide +kernel
theorem dX9_number_37 : decode cX9_number 37 = .ok (.aload_n 0, 1) := by decide +kernel
theorem dX9_number_38 : decode cX9_number 38 = .ok (.getfield 65, 3) := by decide +kernel
theorem dX9_number_41 : decode cX9_number 41 = .ok (.invokevirtual 68, 3) := by decide +kernel
theorem dX9_number_44 : decode cX9_number 44 = .ok (.i2l, 1) := by decide +kernel
theorem dX9_number_45 : decode cX9_number 45 = .ok (.ldc2_w 72, 3) := by decide +kernel
theorem dX9_number_48 : decode cX9_number 48 = .ok (.ldc2_w 74, 3) := by decide +kernel
theorem dX9_number_51 : decode cX9_number 51 = .ok (.invokestatic 58, 3) := by decide +kernel
theorem dX9_number_54 : decode cX9_number 54 = .ok (.ifCond .eq 38, 3) := by decide +kernel
theorem dX9_number_57 : decode cX9_number 57 = .ok (.bipush 10, 2) := by decide +kernel
theorem dX9_number_59 : decode cX9_number 59 = .ok (.iload 5, 2) := by decide +kernel
theorem dX9_number_61 : decode cX9_number 61 = .ok (.imul, 1) := by decide +kernel
theorem dX9_number_62 : decode cX9_number 62 = .ok (.aload_n 0, 1) := by decide +kernel
theorem dX9_number_63 : decode cX9_number 63 = .ok (.aload_n 0, 1) := by decide +kernel
theorem dX9_number_64 : decode cX9_number 64 = .ok (.getfield 65, 3) := by decide +kernel
theorem dX9_number_67 : decode cX9_number 67 = .ok (.invokevirtual 68, 3) := by decide +kernel
theorem dX9_number_70 : decode cX9_number 70 = .ok (.iadd, 1) := by decide +kernel
theorem dX9_number_71 : decode cX9_number 71 = .ok (.bipush 48, 2) := by decide +kernel
theorem dX9_number_73 : decode cX9_number 73 = .ok (.isub, 1) := by decide +kernel
theorem dX9_number_74 : decode cX9_number 74 = .ok (.istore 5, 2) := by decide +kernel
theorem dX9_number_76 : decode cX9_number 76 = .ok (.aload_n 0, 1) := by decide +kernel
theorem dX9_number_77 : decode cX9_number 77 = .ok (.dup, 1) := by decide +kernel
theorem dX9_number_78 : decode cX9_number 78 = .ok (.getfield 65, 3) := by decide +kernel
theorem dX9_number_81 : decode cX9_number 81 = .ok (.iconst 1, 1) := by decide +kernel
theorem dX9_number_82 : decode cX9_number 82 = .ok (.iadd, 1) := by decide +kernel
theorem dX9_number_83 : decode cX9_number 83 = .ok (.putfield 65, 3) := by decide +kernel
theorem dX9_number_86 : decode cX9_number 86 = .ok (.iinc 6 1, 3) := by decide +kernel
theorem dX9_number_89 : decode cX9_number 89 = .ok (.goto (-59), 3) := by decide +kernel
theorem dX9_number_92 : decode cX9_number 92 = .ok (.aload_n 0, 1) := by decide +kernel
theorem dX9_number_93 : decode cX9_number 93 = .ok (.getfield 16, 3) := by decide +kernel
theorem dX9_number_96 : decode cX9_number 96 = .ok (.iload_n 2, 1) := by decide +kernel
theorem dX9_number_97 : decode cX9_number 97 = .ok (.iload 5, 2) := by decide +kernel
theorem dX9_number_99 : decode cX9_number 99 = .ok (.iastore, 1) := by decide +kernel
theorem dX9_number_100 : decode cX9_number 100 = .ok (.iload 6, 2) := by decide +kernel
theorem dX9_number_102 : decode cX9_number 102 = .ok (.ifCond .le 21, 3) := by decide +kernel
theorem dX9_number_105 : decode cX9_number 105 = .ok (.iload 5, 2) := by decide +kernel
theorem dX9_number_107 : decode cX9_number 107 = .ok (.i2l, 1) := by decide +kernel
theorem dX9_number_108 : decode cX9_number 108 = .ok (.iload_n 3, 1) := by decide +kernel
theorem dX9_number_109 : decode cX9_number 109 = .ok (.i2l, 1) := by decide +kernel
theorem dX9_number_110 : decode cX9_number 110 = .ok (.iload 4, 2) := by decide +kernel
theorem dX9_number_112 : decode cX9_number 112 = .ok (.i2l, 1) := by decide +kernel
theorem dX9_number_113 : decode cX9_number 113 = .ok (.invokestatic 58, 3) := by decide +kernel
theorem dX9_number_116 : decode cX9_number 116 = .ok (.ifCond .eq 7, 3) := by decide +kernel
theorem dX9_number_119 : decode cX9_number 119 = .ok (.iconst 1, 1) := by decide +kernel
theorem dX9_number_120 : decode cX9_number 120 = .ok (.goto 4, 3) := by decide +kernel
theorem dX9_number_123 : decode cX9_number 123 = .ok (.iconst 0, 1) := by decide +kernel
theorem dX9_number_124 : decode cX9_number 124 = .ok (.ireturn, 1) := by decide +kernel
theorem dX9_word_0 : decode cX9_word 0 = .ok (.iconst 0, 1) := by decide +kernel
theorem dX9_word_1 : decode cX9_word 1 = .ok (.istore 4, 2) := by decide +kernel
theorem dX9_word_3 : decode cX9_word 3 = .ok (.iload 4, 2) := by decide +kernel
theorem dX9_word_5 : decode cX9_word 5 = .ok (.iload_n 3, 1) := by decide +kernel
theorem dX9_word_6 : decode cX9_word 6 = .ok (.if_icmp .ge 44, 3) := by decide +kernel
theorem dX9_word_9 : decode cX9_word 9 = .ok (.aload_n 0, 1) := by decide +kernel
theorem dX9_word_10 : decode cX9_word 10 = .ok (.aload_n 0, 1) := by decide +kernel
theorem dX9_word_11 : decode cX9_word 11 = .ok (.getfield 65, 3) := by decide +kernel
theorem dX9_word_14 : decode cX9_word 14 = .ok (.iload 4, 2) := by decide +kernel
theorem dX9_word_16 : decode cX9_word 16 = .ok (.iadd, 1) := by decide +kernel
theorem dX9_word_17 : decode cX9_word 17 = .ok (.invokevirtual 68, 3) := by decide +kernel
theorem dX9_word_20 : decode cX9_word 20 = .ok (.bipush 96, 2) := by decide +kernel
theorem dX9_word_22 : decode cX9_word 22 = .ok (.isub, 1) := by decide +kernel
theorem dX9_word_23 : decode cX9_word 23 = .ok (.i2l, 1) := by decide +kernel
theorem dX9_word_24 : decode cX9_word 24 = .ok (.lload_n 1, 1) := by decide +kernel
theorem dX9_word_25 : decode cX9_word 25 = .ok (.iconst 5, 1) := by decide +kernel
theorem dX9_word_26 : decode cX9_word 26 = .ok (.iload_n 3, 1) := by decide +kernel
theorem dX9_word_27 : decode cX9_word 27 = .ok (.iconst 1, 1) := by decide +kernel
theorem dX9_word_28 : decode cX9_word 28 = .ok (.isub, 1) := by decide +kernel
theorem dX9_word_29 : decode cX9_word 29 = .ok (.iload 4, 2) := by decide +kernel
theorem dX9_word_31 : decode cX9_word 31 = .ok (.isub, 1) := by decide +kernel
theorem dX9_word_32 : decode cX9_word 32 = .ok (.imul, 1) := by decide +kernel
theorem dX9_word_33 : decode cX9_word 33 = .ok (.lshr, 1) := by decide +kernel
theorem dX9_word_34 : decode cX9_word 34 = .ok (.ldc2_w 76, 3) := by decide +kernel
end
section
theorem dX9_word_37 : decode cX9_word 37 = .ok (.land, 1) := by decide +kernel
theorem dX9_word_38 : decode cX9_word 38 = .ok (.lcmp, 1) := by decide +kernel
theorem dX9_word_39 : decode cX9_word 39 = .ok (.ifCond .eq 5, 3) := by decide +kernel
theorem dX9_word_42 : decode cX9_word 42 = .ok (.iconst 0, 1) := by decide +kernel
theorem dX9_word_43 : decode cX9_word 43 = .ok (.ireturn, 1) := by decide +kernel
theorem dX9_word_44 : decode cX9_word 44 = .ok (.iinc 4 1, 3) := by decide +kernel
theorem dX9_word_47 : decode cX9_word 47 = .ok (.goto (-44), 3) := by decide +kernel
theorem dX9_word_50 : decode cX9_word 50 = .ok (.aload_n 0, 1) := by decide +kernel
theorem dX9_word_51 : decode cX9_word 51 = .ok (.dup, 1) := by decide +kernel
theorem dX9_word_52 : decode cX9_word 52 = .ok (.getfield 65, 3) := by decide +kernel
theorem dX9_word_55 : decode cX9_word 55 = .ok (.iload_n 3, 1) := by decide +kernel
theorem dX9_word_56 : decode cX9_word 56 = .ok (.iadd, 1) := by decide +kernel
theorem dX9_word_57 : decode cX9_word 57 = .ok (.putfield 65, 3) := by decide +kernel
theorem dX9_word_60 : decode cX9_word 60 = .ok (.iconst 1, 1) := by decide +kernel
theorem dX9_word_61 : decode cX9_word 61 = .ok (.ireturn, 1) := by decide +kernel
theorem dX9_word5_0 : decode cX9_word5 0 = .ok (.iload_n 0, 1) := by decide +kernel
theorem dX9_word5_1 : decode cX9_word5 1 = .ok (.i2l, 1) := by decide +kernel
theorem dX9_word5_2 : decode cX9_word5 2 = .ok (.ldc2_w 78, 3) := by decide +kernel
theorem dX9_word5_5 : decode cX9_word5 5 = .ok (.lsub, 1) := by decide +kernel
theorem dX9_word5_6 : decode cX9_word5 6 = .ok (.ldc2_w 54, 3) := by decide +kernel
theorem dX9_word5_9 : decode cX9_word5 9 = .ok (.lmul, 1) := by decide +kernel
theorem dX9_word5_10 : decode cX9_word5 10 = .ok (.iload_n 1, 1) := by decide +kernel
theorem dX9_word5_11 : decode cX9_word5 11 = .ok (.i2l, 1) := by decide +kernel
theorem dX9_word5_12 : decode cX9_word5 12 = .ok (.ladd, 1) := by decide +kernel
theorem dX9_word5_13 : decode cX9_word5 13 = .ok (.ldc2_w 78, 3) := by decide +kernel
theorem dX9_word5_16 : decode cX9_word5 16 = .ok (.lsub, 1) := by decide +kernel
theorem dX9_word5_17 : decode cX9_word5 17 = .ok (.ldc2_w 54, 3) := by decide +kernel
theorem dX9_word5_20 : decode cX9_word5 20 = .ok (.lmul, 1) := by decide +kernel
theorem dX9_word5_21 : decode cX9_word5 21 = .ok (.iload_n 2, 1) := by decide +kernel
theorem dX9_word5_22 : decode cX9_word5 22 = .ok (.i2l, 1) := by decide +kernel
theorem dX9_word5_23 : decode cX9_word5 23 = .ok (.ladd, 1) := by decide +kernel
theorem dX9_word5_24 : decode cX9_word5 24 = .ok (.ldc2_w 78, 3) := by decide +kernel
theorem dX9_word5_27 : decode cX9_word5 27 = .ok (.lsub, 1) := by decide +kernel
theorem dX9_word5_28 : decode cX9_word5 28 = .ok (.ldc2_w 54, 3) := by decide +kernel
theorem dX9_word5_31 : decode cX9_word5 31 = .ok (.lmul, 1) := by decide +kernel
theorem dX9_word5_32 : decode cX9_word5 32 = .ok (.iload_n 3, 1) := by decide +kernel
theorem dX9_word5_33 : decode cX9_word5 33 = .ok (.i2l, 1) := by decide +kernel
theorem dX9_word5_34 : decode cX9_word5 34 = .ok (.ladd, 1) := by decide +kernel
theorem dX9_word5_35 : decode cX9_word5 35 = .ok (.ldc2_w 78, 3) := by decide +kernel
theorem dX9_word5_38 : decode cX9_word5 38 = .ok (.lsub, 1) := by decide +kernel
theorem dX9_word5_39 : decode cX9_word5 39 = .ok (.ldc2_w 54, 3) := by decide +kernel
theorem dX9_word5_42 : decode cX9_word5 42 = .ok (.lmul, 1) := by decide +kernel
theorem dX9_word5_43 : decode cX9_word5 43 = .ok (.iload 4, 2) := by decide +kernel
theorem dX9_word5_45 : decode cX9_word5 45 = .ok (.i2l, 1) := by decide +kernel
theorem dX9_word5_46 : decode cX9_word5 46 = .ok (.ladd, 1) := by decide +kernel
theorem dX9_word5_47 : decode cX9_word5 47 = .ok (.ldc2_w 78, 3) := by decide +kernel
theorem dX9_word5_50 : decode cX9_word5 50 = .ok (.lsub, 1) := by decide +kernel
theorem dX9_word5_51 : decode cX9_word5 51 = .ok (.lreturn, 1) := by decide +kernel
theorem dX9_word4_0 : decode cX9_word4 0 = .ok (.iload_n 0, 1) := by decide +kernel
theorem dX9_word4_1 : decode cX9_word4 1 = .ok (.i2l, 1) := by decide +kernel
theorem dX9_word4_2 : decode cX9_word4 2 = .ok (.ldc2_w 78, 3) := by decide +kernel
theorem dX9_word4_5 : decode cX9_word4 5 = .ok (.lsub, 1) := by decide +kernel
theorem dX9_word4_6 : decode cX9_word4 6 = .ok (.ldc2_w 54, 3) := by decide +kernel
theorem dX9_word4_9 : decode cX9_word4 9 = .ok (.lmul, 1) := by decide +kernel
theorem dX9_word4_10 : decode cX9_word4 10 = .ok (.iload_n 1, 1) := by decide +kernel
theorem dX9_word4_11 : decode cX9_word4 11 = .ok (.i2l, 1) := by decide +kernel
theorem dX9_word4_12 : decode cX9_word4 12 = .ok (.ladd, 1) := by decide +kernel
theorem dX9_word4_13 : decode cX9_word4 13 = .ok (.ldc2_w 78, 3) := by decide +kernel
theorem dX9_word4_16 : decode cX9_word4 16 = .ok (.lsub, 1) := by decide +kernel
theorem dX9_word4_17 : decode cX9_word4 17 = .ok (.ldc2_w 54, 3) := by decide +kernel
theorem dX9_word4_20 : decode cX9_word4 20 = .ok (.lmul, 1) := by decide +kernel
theorem dX9_word4_21 : decode cX9_word4 21 = .ok (.iload_n 2, 1) := by decide +kernel
theorem dX9_word4_22 : decode cX9_word4 22 = .ok (.i2l, 1) := by decide +kernel
theorem dX9_word4_23 : decode cX9_word4 23 = .ok (.ladd, 1) := by decide +kernel
theorem dX9_word4_24 : decode cX9_word4 24 = .ok (.ldc2_w 78, 3) := by decide +kernel
theorem dX9_word4_27 : decode cX9_word4 27 = .ok (.lsub, 1) := by decide +kernel
theorem dX9_word4_28 : decode cX9_word4 28 = .ok (.ldc2_w 54, 3) := by decide +kernel
theorem dX9_word4_31 : decode cX9_word4 31 = .ok (.lmul, 1) := by decide +kernel
theorem dX9_word4_32 : decode cX9_word4 32 = .ok (.iload_n 3, 1) := by decide +kernel
theorem dX9_word4_33 : decode cX9_word4 33 = .ok (.i2l, 1) := by decide +kernel
theorem dX9_word4_34 : decode cX9_word4 34 = .ok (.ladd, 1) := by decide +kernel
theorem dX9_word4_35 : decode cX9_word4 35 = .ok (.ldc2_w 78, 3) := by decide +kernel
theorem dX9_word4_38 : decode cX9_word4 38 = .ok (.lsub, 1) := by decide +kernel
theorem dX9_word4_39 : decode cX9_word4 39 = .ok (.lreturn, 1) := by decide +kernel
theorem dX9_isApart_0 : decode cX9_isApart 0 = .ok (.bipush 29, 2) := by decide +kernel
theorem dX9_isApart_2 : decode cX9_isApart 2 = .ok (.iconst 4, 1) := by decide +kernel
theorem dX9_isApart_3 : decode cX9_isApart 3 = .ok (.iload_n 1, 1) := by decide +kernel
theorem dX9_isApart_4 : decode cX9_isApart 4 = .ok (.imul, 1) := by decide +kernel
theorem dX9_isApart_5 : decode cX9_isApart 5 = .ok (.iadd, 1) := by decide +kernel
theorem dX9_isApart_6 : decode cX9_isApart 6 = .ok (.istore_n 3, 1) := by decide +kernel
theorem dX9_isApart_7 : decode cX9_isApart 7 = .ok (.bipush 29, 2) := by decide +kernel
theorem dX9_isApart_9 : decode cX9_isApart 9 = .ok (.iconst 4, 1) := by decide +kernel
theorem dX9_isApart_10 : decode cX9_isApart 10 = .ok (.iload_n 2, 1) := by decide +kernel
theorem dX9_isApart_11 : decode cX9_isApart 11 = .ok (.imul, 1) := by decide +kernel
theorem dX9_isApart_12 : decode cX9_isApart 12 = .ok (.iadd, 1) := by decide +kernel
theorem dX9_isApart_13 : decode cX9_isApart 13 = .ok (.istore 4, 2) := by decide +kernel
theorem dX9_isApart_15 : decode cX9_isApart 15 = .ok (.aload_n 0, 1) := by decide +kernel
theorem dX9_isApart_16 : decode cX9_isApart 16 = .ok (.getfield 16, 3) := by decide +kernel
theorem dX9_isApart_19 : decode cX9_isApart 19 = .ok (.iload_n 3, 1) := by decide +kernel
theorem dX9_isApart_20 : decode cX9_isApart 20 = .ok (.iaload, 1) := by decide +kernel
theorem dX9_isApart_21 : decode cX9_isApart 21 = .ok (.aload_n 0, 1) := by decide +kernel
theorem dX9_isApart_22 : decode cX9_isApart 22 = .ok (.getfield 16, 3) := by decide +kernel
theorem dX9_isApart_25 : decode cX9_isApart 25 = .ok (.iload_n 3, 1) := by decide +kernel
theorem dX9_isApart_26 : decode cX9_isApart 26 = .ok (.iconst 2, 1) := by decide +kernel
theorem dX9_isApart_27 : decode cX9_isApart 27 = .ok (.iadd, 1) := by decide +kernel
theorem dX9_isApart_28 : decode cX9_isApart 28 = .ok (.iaload, 1) := by decide +kernel
theorem dX9_isApart_29 : decode cX9_isApart 29 = .ok (.iadd, 1) := by decide +kernel
theorem dX9_isApart_30 : decode cX9_isApart 30 = .ok (.aload_n 0, 1) := by decide +kernel
theorem dX9_isApart_31 : decode cX9_isApart 31 = .ok (.getfield 16, 3) := by decide +kernel
theorem dX9_isApart_34 : decode cX9_isApart 34 = .ok (.iload 4, 2) := by decide +kernel
theorem dX9_isApart_36 : decode cX9_isApart 36 = .ok (.iaload, 1) := by decide +kernel
theorem dX9_isApart_37 : decode cX9_isApart 37 = .ok (.if_icmp .le 88, 3) := by decide +kernel
theorem dX9_isApart_40 : decode cX9_isApart 40 = .ok (.aload_n 0, 1) := by decide +kernel
theorem dX9_isApart_41 : decode cX9_isApart 41 = .ok (.getfield 16, 3) := by decide +kernel
theorem dX9_isApart_44 : decode cX9_isApart 44 = .ok (.iload 4, 2) := by decide +kernel
theorem dX9_isApart_46 : decode cX9_isApart 46 = .ok (.iaload, 1) := by decide +kernel
theorem dX9_isApart_47 : decode cX9_isApart 47 = .ok (.aload_n 0, 1) := by decide +kernel
theorem dX9_isApart_48 : decode cX9_isApart 48 = .ok (.getfield 16, 3) := by decide +kernel
theorem dX9_isApart_51 : decode cX9_isApart 51 = .ok (.iload 4, 2) := by decide +kernel
theorem dX9_isApart_53 : decode cX9_isApart 53 = .ok (.iconst 2, 1) := by decide +kernel
theorem dX9_isApart_54 : decode cX9_isApart 54 = .ok (.iadd, 1) := by decide +kernel
theorem dX9_isApart_55 : decode cX9_isApart 55 = .ok (.iaload, 1) := by decide +kernel
theorem dX9_isApart_56 : decode cX9_isApart 56 = .ok (.iadd, 1) := by decide +kernel
theorem dX9_isApart_57 : decode cX9_isApart 57 = .ok (.aload_n 0, 1) := by decide +kernel
theorem dX9_isApart_58 : decode cX9_isApart 58 = .ok (.getfield 16, 3) := by decide +kernel
theorem dX9_isApart_61 : decode cX9_isApart 61 = .ok (.iload_n 3, 1) := by decide +kernel
theorem dX9_isApart_62 : decode cX9_isApart 62 = .ok (.iaload, 1) := by decide +kernel
theorem dX9_isApart_63 : decode cX9_isApart 63 = .ok (.if_icmp .le 62, 3) := by decide +kernel
theorem dX9_isApart_66 : decode cX9_isApart 66 = .ok (.aload_n 0, 1) := by decide +kernel
theorem dX9_isApart_67 : decode cX9_isApart 67 = .ok (.getfield 16, 3) := by decide +kernel
theorem dX9_isApart_70 : decode cX9_isApart 70 = .ok (.iload_n 3, 1) := by decide +kernel
theorem dX9_isApart_71 : decode cX9_isApart 71 = .ok (.iconst 1, 1) := by decide +kernel
theorem dX9_isApart_72 : decode cX9_isApart 72 = .ok (.iadd, 1) := by decide +kernel
theorem dX9_isApart_73 : decode cX9_isApart 73 = .ok (.iaload, 1) := by decide +kernel
theorem dX9_isApart_74 : decode cX9_isApart 74 = .ok (.aload_n 0, 1) := by decide +kernel
theorem dX9_isApart_75 : decode cX9_isApart 75 = .ok (.getfield 16, 3) := by decide +kernel
theorem dX9_isApart_78 : decode cX9_isApart 78 = .ok (.iload_n 3, 1) := by decide +kernel
theorem dX9_isApart_79 : decode cX9_isApart 79 = .ok (.iconst 3, 1) := by decide +kernel
theorem dX9_isApart_80 : decode cX9_isApart 80 = .ok (.iadd, 1) := by decide +kernel
theorem dX9_isApart_81 : decode cX9_isApart 81 = .ok (.iaload, 1) := by decide +kernel
theorem dX9_isApart_82 : decode cX9_isApart 82 = .ok (.iadd, 1) := by decide +kernel
theorem dX9_isApart_83 : decode cX9_isApart 83 = .ok (.aload_n 0, 1) := by decide +kernel
theorem dX9_isApart_84 : decode cX9_isApart 84 = .ok (.getfield 16, 3) := by decide +kernel
theorem dX9_isApart_87 : decode cX9_isApart 87 = .ok (.iload 4, 2) := by decide +kernel
theorem dX9_isApart_89 : decode cX9_isApart 89 = .ok (.iconst 1, 1) := by decide +kernel
theorem dX9_isApart_90 : decode cX9_isApart 90 = .ok (.iadd, 1) := by decide +kernel
theorem dX9_isApart_91 : decode cX9_isApart 91 = .ok (.iaload, 1) := by decide +kernel
theorem dX9_isApart_92 : decode cX9_isApart 92 = .ok (.if_icmp .le 33, 3) := by decide +kernel
theorem dX9_isApart_95 : decode cX9_isApart 95 = .ok (.aload_n 0, 1) := by decide +kernel
theorem dX9_isApart_96 : decode cX9_isApart 96 = .ok (.getfield 16, 3) := by decide +kernel
theorem dX9_isApart_99 : decode cX9_isApart 99 = .ok (.iload 4, 2) := by decide +kernel
theorem dX9_isApart_101 : decode cX9_isApart 101 = .ok (.iconst 1, 1) := by decide +kernel
theorem dX9_isApart_102 : decode cX9_isApart 102 = .ok (.iadd, 1) := by decide +kernel
theorem dX9_isApart_103 : decode cX9_isApart 103 = .ok (.iaload, 1) := by decide +kernel
theorem dX9_isApart_104 : decode cX9_isApart 104 = .ok (.aload_n 0, 1) := by decide +kernel
theorem dX9_isApart_105 : decode cX9_isApart 105 = .ok (.getfield 16, 3) := by decide +kernel
theorem dX9_isApart_108 : decode cX9_isApart 108 = .ok (.iload 4, 2) := by decide +kernel
theorem dX9_isApart_110 : decode cX9_isApart 110 = .ok (.iconst 3, 1) := by decide +kernel
theorem dX9_isApart_111 : decode cX9_isApart 111 = .ok (.iadd, 1) := by decide +kernel
theorem dX9_isApart_112 : decode cX9_isApart 112 = .ok (.iaload, 1) := by decide +kernel
theorem dX9_isApart_113 : decode cX9_isApart 113 = .ok (.iadd, 1) := by decide +kernel
theorem dX9_isApart_114 : decode cX9_isApart 114 = .ok (.aload_n 0, 1) := by decide +kernel
theorem dX9_isApart_115 : decode cX9_isApart 115 = .ok (.getfield 16, 3) := by decide +kernel
theorem dX9_isApart_118 : decode cX9_isApart 118 = .ok (.iload_n 3, 1) := by decide +kernel
theorem dX9_isApart_119 : decode cX9_isApart 119 = .ok (.iconst 1, 1) := by decide +kernel
theorem dX9_isApart_120 : decode cX9_isApart 120 = .ok (.iadd, 1) := by decide +kernel
theorem dX9_isApart_121 : decode cX9_isApart 121 = .ok (.iaload, 1) := by decide +kernel
theorem dX9_isApart_122 : decode cX9_isApart 122 = .ok (.if_icmp .gt 7, 3) := by decide +kernel
theorem dX9_isApart_125 : decode cX9_isApart 125 = .ok (.iconst 1, 1) := by decide +kernel
theorem dX9_isApart_126 : decode cX9_isApart 126 = .ok (.goto 4, 3) := by decide +kernel
theorem dX9_isApart_129 : decode cX9_isApart 129 = .ok (.iconst 0, 1) := by decide +kernel
theorem dX9_isApart_130 : decode cX9_isApart 130 = .ok (.ireturn, 1) := by decide +kernel
theorem dX9_holeItem_0 : decode cX9_holeItem 0 = .ok (.aload_n 0, 1) := by decide +kernel
theorem dX9_holeItem_1 : decode cX9_holeItem 1 = .ok (.getfield 16, 3) := by decide +kernel
theorem dX9_holeItem_4 : decode cX9_holeItem 4 = .ok (.iconst 3, 1) := by decide +kernel
theorem dX9_holeItem_5 : decode cX9_holeItem 5 = .ok (.iaload, 1) := by decide +kernel
theorem dX9_holeItem_6 : decode cX9_holeItem 6 = .ok (.istore_n 1, 1) := by decide +kernel
theorem dX9_holeItem_7 : decode cX9_holeItem 7 = .ok (.iload_n 1, 1) := by decide +kernel
theorem dX9_holeItem_8 : decode cX9_holeItem 8 = .ok (.iconst 5, 1) := by decide +kernel
theorem dX9_holeItem_9 : decode cX9_holeItem 9 = .ok (.if_icmp .ne 5, 3) := by decide +kernel
theorem dX9_holeItem_12 : decode cX9_holeItem 12 = .ok (.iconst 0, 1) := by decide +kernel
theorem dX9_holeItem_13 : decode cX9_holeItem 13 = .ok (.ireturn, 1) := by decide +kernel
theorem dX9_holeItem_14 : decode cX9_holeItem 14 = .ok (.bipush 29, 2) := by decide +kernel
theorem dX9_holeItem_16 : decode cX9_holeItem 16 = .ok (.iconst 4, 1) := by decide +kernel
theorem dX9_holeItem_17 : decode cX9_holeItem 17 = .ok (.iload_n 1, 1) := by decide +kernel
theorem dX9_holeItem_18 : decode cX9_holeItem 18 = .ok (.imul, 1) := by decide +kernel
theorem dX9_holeItem_19 : decode cX9_holeItem 19 = .ok (.iadd, 1) := by decide +kernel
theorem dX9_holeItem_20 : decode cX9_holeItem 20 = .ok (.istore_n 2, 1) := by decide +kernel
theorem dX9_holeItem_21 : decode cX9_holeItem 21 = .ok (.aload_n 0, 1) := by decide +kernel
theorem dX9_holeItem_22 : decode cX9_holeItem 22 = .ok (.getfield 16, 3) := by decide +kernel
theorem dX9_holeItem_25 : decode cX9_holeItem 25 = .ok (.iconst 3, 1) := by decide +kernel
theorem dX9_holeItem_26 : decode cX9_holeItem 26 = .ok (.dup2, 1) := by decide +kernel
theorem dX9_holeItem_27 : decode cX9_holeItem 27 = .ok (.iaload, 1) := by decide +kernel
theorem dX9_holeItem_28 : decode cX9_holeItem 28 = .ok (.iconst 1, 1) := by decide +kernel
theorem dX9_holeItem_29 : decode cX9_holeItem 29 = .ok (.iadd, 1) := by decide +kernel
theorem dX9_holeItem_30 : decode cX9_holeItem 30 = .ok (.iastore, 1) := by decide +kernel
theorem dX9_holeItem_31 : decode cX9_holeItem 31 = .ok (.aload_n 0, 1) := by decide +kernel
theorem dX9_holeItem_32 : decode cX9_holeItem 32 = .ok (.bipush 32, 2) := by decide +kernel
theorem dX9_holeItem_34 : decode cX9_holeItem 34 = .ok (.iload_n 2, 1) := by decide +kernel
theorem dX9_holeItem_35 : decode cX9_holeItem 35 = .ok (.iconst 0, 1) := by decide +kernel
theorem dX9_holeItem_36 : decode cX9_holeItem 36 = .ok (.aload_n 0, 1) := by decide +kernel
theorem dX9_holeItem_37 : decode cX9_holeItem 37 = .ok (.getfield 16, 3) := by decide +kernel
theorem dX9_holeItem_40 : decode cX9_holeItem 40 = .ok (.iconst 0, 1) := by decide +kernel
theorem dX9_holeItem_41 : decode cX9_holeItem 41 = .ok (.iaload, 1) := by decide +kernel
theorem dX9_holeItem_42 : decode cX9_holeItem 42 = .ok (.iconst 1, 1) := by decide +kernel
theorem dX9_holeItem_43 : decode cX9_holeItem 43 = .ok (.isub, 1) := by decide +kernel
theorem dX9_holeItem_44 : decode cX9_holeItem 44 = .ok (.invokevirtual 80, 3) := by decide +kernel
theorem dX9_holeItem_47 : decode cX9_holeItem 47 = .ok (.ifCond .eq 82, 3) := by decide +kernel
theorem dX9_holeItem_50 : decode cX9_holeItem 50 = .ok (.aload_n 0, 1) := by decide +kernel
theorem dX9_holeItem_51 : decode cX9_holeItem 51 = .ok (.bipush 44, 2) := by decide +kernel
theorem dX9_holeItem_53 : decode cX9_holeItem 53 = .ok (.iload_n 2, 1) := by decide +kernel
theorem dX9_holeItem_54 : decode cX9_holeItem 54 = .ok (.iconst 1, 1) := by decide +kernel
theorem dX9_holeItem_55 : decode cX9_holeItem 55 = .ok (.iadd, 1) := by decide +kernel
theorem dX9_holeItem_56 : decode cX9_holeItem 56 = .ok (.iconst 0, 1) := by decide +kernel
theorem dX9_holeItem_57 : decode cX9_holeItem 57 = .ok (.aload_n 0, 1) := by decide +kernel
theorem dX9_holeItem_58 : decode cX9_holeItem 58 = .ok (.getfield 16, 3) := by decide +kernel
theorem dX9_holeItem_61 : decode cX9_holeItem 61 = .ok (.iconst 1, 1) := by decide +kernel
theorem dX9_holeItem_62 : decode cX9_holeItem 62 = .ok (.iaload, 1) := by decide +kernel
theorem dX9_holeItem_63 : decode cX9_holeItem 63 = .ok (.iconst 1, 1) := by decide +kernel
theorem dX9_holeItem_64 : decode cX9_holeItem 64 = .ok (.isub, 1) := by decide +kernel
theorem dX9_holeItem_65 : decode cX9_holeItem 65 = .ok (.invokevirtual 80, 3) := by decide +kernel
theorem dX9_holeItem_68 : decode cX9_holeItem 68 = .ok (.ifCond .eq 61, 3) := by decide +kernel
theorem dX9_holeItem_71 : decode cX9_holeItem 71 = .ok (.aload_n 0, 1) := by decide +kernel
theorem dX9_holeItem_72 : decode cX9_holeItem 72 = .ok (.bipush 44, 2) := by decide +kernel
theorem dX9_holeItem_74 : decode cX9_holeItem 74 = .ok (.iload_n 2, 1) := by decide +kernel
theorem dX9_holeItem_75 : decode cX9_holeItem 75 = .ok (.iconst 2, 1) := by decide +kernel
theorem dX9_holeItem_76 : decode cX9_holeItem 76 = .ok (.iadd, 1) := by decide +kernel
theorem dX9_holeItem_77 : decode cX9_holeItem 77 = .ok (.iconst 1, 1) := by decide +kernel
theorem dX9_holeItem_78 : decode cX9_holeItem 78 = .ok (.aload_n 0, 1) := by decide +kernel
theorem dX9_holeItem_79 : decode cX9_holeItem 79 = .ok (.getfield 16, 3) := by decide +kernel
theorem dX9_holeItem_82 : decode cX9_holeItem 82 = .ok (.iconst 0, 1) := by decide +kernel
theorem dX9_holeItem_83 : decode cX9_holeItem 83 = .ok (.iaload, 1) := by decide +kernel
theorem dX9_holeItem_84 : decode cX9_holeItem 84 = .ok (.aload_n 0, 1) := by decide +kernel
theorem dX9_holeItem_85 : decode cX9_holeItem 85 = .ok (.getfield 16, 3) := by decide +kernel
theorem dX9_holeItem_88 : decode cX9_holeItem 88 = .ok (.iload_n 2, 1) := by decide +kernel
theorem dX9_holeItem_89 : decode cX9_holeItem 89 = .ok (.iaload, 1) := by decide +kernel
theorem dX9_holeItem_90 : decode cX9_holeItem 90 = .ok (.isub, 1) := by decide +kernel
theorem dX9_holeItem_91 : decode cX9_holeItem 91 = .ok (.invokevirtual 80, 3) := by decide +kernel
theorem dX9_holeItem_94 : decode cX9_holeItem 94 = .ok (.ifCond .eq 35, 3) := by decide +kernel
theorem dX9_holeItem_97 : decode cX9_holeItem 97 = .ok (.aload_n 0, 1) := by decide +kernel
theorem dX9_holeItem_98 : decode cX9_holeItem 98 = .ok (.bipush 44, 2) := by decide +kernel
theorem dX9_holeItem_100 : decode cX9_holeItem 100 = .ok (.iload_n 2, 1) := by decide +kernel
theorem dX9_holeItem_101 : decode cX9_holeItem 101 = .ok (.iconst 3, 1) := by decide +kernel
theorem dX9_holeItem_102 : decode cX9_holeItem 102 = .ok (.iadd, 1) := by decide +kernel
theorem dX9_holeItem_103 : decode cX9_holeItem 103 = .ok (.iconst 1, 1) := by decide +kernel
theorem dX9_holeItem_104 : decode cX9_holeItem 104 = .ok (.aload_n 0, 1) := by decide +kernel
theorem dX9_holeItem_105 : decode cX9_holeItem 105 = .ok (.getfield 16, 3) := by decide +kernel
theorem dX9_holeItem_108 : decode cX9_holeItem 108 = .ok (.iconst 1, 1) := by decide +kernel
theorem dX9_holeItem_109 : decode cX9_holeItem 109 = .ok (.iaload, 1) := by decide +kernel
theorem dX9_holeItem_110 : decode cX9_holeItem 110 = .ok (.aload_n 0, 1) := by decide +kernel
theorem dX9_holeItem_111 : decode cX9_holeItem 111 = .ok (.getfield 16, 3) := by decide +kernel
theorem dX9_holeItem_114 : decode cX9_holeItem 114 = .ok (.iload_n 2, 1) := by decide +kernel
theorem dX9_holeItem_115 : decode cX9_holeItem 115 = .ok (.iconst 1, 1) := by decide +kernel
theorem dX9_holeItem_116 : decode cX9_holeItem 116 = .ok (.iadd, 1) := by decide +kernel
theorem dX9_holeItem_117 : decode cX9_holeItem 117 = .ok (.iaload, 1) := by decide +kernel
theorem dX9_holeItem_118 : decode cX9_holeItem 118 = .ok (.isub, 1) := by decide +kernel
theorem dX9_holeItem_119 : decode cX9_holeItem 119 = .ok (.invokevirtual 80, 3) := by decide +kernel
theorem dX9_holeItem_122 : decode cX9_holeItem 122 = .ok (.ifCond .eq 7, 3) := by decide +kernel
theorem dX9_holeItem_125 : decode cX9_holeItem 125 = .ok (.iconst 1, 1) := by decide +kernel
theorem dX9_holeItem_126 : decode cX9_holeItem 126 = .ok (.goto 4, 3) := by decide +kernel
theorem dX9_holeItem_129 : decode cX9_holeItem 129 = .ok (.iconst 0, 1) := by decide +kernel
theorem dX9_holeItem_130 : decode cX9_holeItem 130 = .ok (.istore_n 3, 1) := by decide +kernel
theorem dX9_holeItem_131 : decode cX9_holeItem 131 = .ok (.iconst 0, 1) := by decide +kernel
theorem dX9_holeItem_132 : decode cX9_holeItem 132 = .ok (.istore 4, 2) := by decide +kernel
theorem dX9_holeItem_134 : decode cX9_holeItem 134 = .ok (.iload 4, 2) := by decide +kernel
theorem dX9_holeItem_136 : decode cX9_holeItem 136 = .ok (.iload_n 1, 1) := by decide +kernel
theorem dX9_holeItem_137 : decode cX9_holeItem 137 = .ok (.if_icmp .ge 21, 3) := by decide +kernel
theorem dX9_holeItem_140 : decode cX9_holeItem 140 = .ok (.iload_n 3, 1) := by decide +kernel
theorem dX9_holeItem_141 : decode cX9_holeItem 141 = .ok (.ifCond .eq 17, 3) := by decide +kernel
theorem dX9_holeItem_144 : decode cX9_holeItem 144 = .ok (.aload_n 0, 1) := by decide +kernel
theorem dX9_holeItem_145 : decode cX9_holeItem 145 = .ok (.iload_n 1, 1) := by decide +kernel
theorem dX9_holeItem_146 : decode cX9_holeItem 146 = .ok (.iload 4, 2) := by decide +kernel
theorem dX9_holeItem_148 : decode cX9_holeItem 148 = .ok (.invokevirtual 84, 3) := by decide +kernel
theorem dX9_holeItem_151 : decode cX9_holeItem 151 = .ok (.istore_n 3, 1) := by decide +kernel
theorem dX9_holeItem_152 : decode cX9_holeItem 152 = .ok (.iinc 4 1, 3) := by decide +kernel
theorem dX9_holeItem_155 : decode cX9_holeItem 155 = .ok (.goto (-21), 3) := by decide +kernel
theorem dX9_holeItem_158 : decode cX9_holeItem 158 = .ok (.iload_n 3, 1) := by decide +kernel
theorem dX9_holeItem_159 : decode cX9_holeItem 159 = .ok (.ireturn, 1) := by decide +kernel
theorem dX9_item_0 : decode cX9_item 0 = .ok (.aload_n 0, 1) := by decide +kernel
theorem dX9_item_1 : decode cX9_item 1 = .ok (.bipush 115, 2) := by decide +kernel
theorem dX9_item_3 : decode cX9_item 3 = .ok (.bipush 104, 2) := by decide +kernel
theorem dX9_item_5 : decode cX9_item 5 = .ok (.bipush 101, 2) := by decide +kernel
theorem dX9_item_7 : decode cX9_item 7 = .ok (.bipush 101, 2) := by decide +kernel
theorem dX9_item_9 : decode cX9_item 9 = .ok (.bipush 116, 2) := by decide +kernel
theorem dX9_item_11 : decode cX9_item 11 = .ok (.invokestatic 88, 3) := by decide +kernel
theorem dX9_item_14 : decode cX9_item 14 = .ok (.iconst 5, 1) := by decide +kernel
theorem dX9_item_15 : decode cX9_item 15 = .ok (.invokevirtual 92, 3) := by decide +kernel
theorem dX9_item_18 : decode cX9_item 18 = .ok (.ifCond .eq 44, 3) := by decide +kernel
theorem dX9_item_21 : decode cX9_item 21 = .ok (.aload_n 0, 1) := by decide +kernel
theorem dX9_item_22 : decode cX9_item 22 = .ok (.getfield 16, 3) := by decide +kernel
theorem dX9_item_25 : decode cX9_item 25 = .ok (.iconst 0, 1) := by decide +kernel
theorem dX9_item_26 : decode cX9_item 26 = .ok (.iaload, 1) := by decide +kernel
theorem dX9_item_27 : decode cX9_item 27 = .ok (.ifCond .ne 33, 3) := by decide +kernel
theorem dX9_item_30 : decode cX9_item 30 = .ok (.aload_n 0, 1) := by decide +kernel
theorem dX9_item_31 : decode cX9_item 31 = .ok (.bipush 32, 2) := by decide +kernel
theorem dX9_item_33 : decode cX9_item 33 = .ok (.iconst 0, 1) := by decide +kernel
theorem dX9_item_34 : decode cX9_item 34 = .ok (.iconst 3, 1) := by decide +kernel
theorem dX9_item_35 : decode cX9_item 35 = .ok (.bipush 12, 2) := by decide +kernel
theorem dX9_item_37 : decode cX9_item 37 = .ok (.invokevirtual 80, 3) := by decide +kernel
theorem dX9_item_40 : decode cX9_item 40 = .ok (.ifCond .eq 20, 3) := by decide +kernel
theorem dX9_item_43 : decode cX9_item 43 = .ok (.aload_n 0, 1) := by decide +kernel
theorem dX9_item_44 : decode cX9_item 44 = .ok (.bipush 44, 2) := by decide +kernel
theorem dX9_item_46 : decode cX9_item 46 = .ok (.iconst 1, 1) := by decide +kernel
theorem dX9_item_47 : decode cX9_item 47 = .ok (.iconst 3, 1) := by decide +kernel
theorem dX9_item_48 : decode cX9_item 48 = .ok (.bipush 12, 2) := by decide +kernel
theorem dX9_item_50 : decode cX9_item 50 = .ok (.invokevirtual 80, 3) := by decide +kernel
theorem dX9_item_53 : decode cX9_item 53 = .ok (.ifCond .eq 7, 3) := by decide +kernel
theorem dX9_item_56 : decode cX9_item 56 = .ok (.iconst 1, 1) := by decide +kernel
theorem dX9_item_57 : decode cX9_item 57 = .ok (.goto 4, 3) := by decide +kernel
theorem dX9_item_60 : decode cX9_item 60 = .ok (.iconst 0, 1) := by decide +kernel
theorem dX9_item_61 : decode cX9_item 61 = .ok (.ireturn, 1) := by decide +kernel
theorem dX9_item_62 : decode cX9_item 62 = .ok (.aload_n 0, 1) := by decide +kernel
theorem dX9_item_63 : decode cX9_item 63 = .ok (.getfield 16, 3) := by decide +kernel
theorem dX9_item_66 : decode cX9_item 66 = .ok (.iconst 0, 1) := by decide +kernel
theorem dX9_item_67 : decode cX9_item 67 = .ok (.iaload, 1) := by decide +kernel
theorem dX9_item_68 : decode cX9_item 68 = .ok (.ifCond .ne 5, 3) := by decide +kernel
theorem dX9_item_71 : decode cX9_item 71 = .ok (.iconst 0, 1) := by decide +kernel
theorem dX9_item_72 : decode cX9_item 72 = .ok (.ireturn, 1) := by decide +kernel
theorem dX9_item_73 : decode cX9_item 73 = .ok (.aload_n 0, 1) := by decide +kernel
theorem dX9_item_74 : decode cX9_item 74 = .ok (.bipush 116, 2) := by decide +kernel
theorem dX9_item_76 : decode cX9_item 76 = .ok (.bipush 111, 2) := by decide +kernel
theorem dX9_item_78 : decode cX9_item 78 = .ok (.bipush 111, 2) := by decide +kernel
theorem dX9_item_80 : decode cX9_item 80 = .ok (.bipush 108, 2) := by decide +kernel
theorem dX9_item_82 : decode cX9_item 82 = .ok (.invokestatic 96, 3) := by decide +kernel
theorem dX9_item_85 : decode cX9_item 85 = .ok (.iconst 4, 1) := by decide +kernel
theorem dX9_item_86 : decode cX9_item 86 = .ok (.invokevirtual 92, 3) := by decide +kernel
theorem dX9_item_89 : decode cX9_item 89 = .ok (.ifCond .eq 98, 3) := by decide +kernel
theorem dX9_item_92 : decode cX9_item 92 = .ok (.iconst 5, 1) := by decide +kernel
theorem dX9_item_93 : decode cX9_item 93 = .ok (.iconst 4, 1) := by decide +kernel
theorem dX9_item_94 : decode cX9_item 94 = .ok (.aload_n 0, 1) := by decide +kernel
theorem dX9_item_95 : decode cX9_item 95 = .ok (.getfield 16, 3) := by decide +kernel
theorem dX9_item_98 : decode cX9_item 98 = .ok (.iconst 2, 1) := by decide +kernel
theorem dX9_item_99 : decode cX9_item 99 = .ok (.iaload, 1) := by decide +kernel
theorem dX9_item_100 : decode cX9_item 100 = .ok (.imul, 1) := by decide +kernel
theorem dX9_item_101 : decode cX9_item 101 = .ok (.iadd, 1) := by decide +kernel
theorem dX9_item_102 : decode cX9_item 102 = .ok (.istore_n 1, 1) := by decide +kernel
theorem dX9_item_103 : decode cX9_item 103 = .ok (.aload_n 0, 1) := by decide +kernel
theorem dX9_item_104 : decode cX9_item 104 = .ok (.getfield 16, 3) := by decide +kernel
theorem dX9_item_107 : decode cX9_item 107 = .ok (.iconst 2, 1) := by decide +kernel
theorem dX9_item_108 : decode cX9_item 108 = .ok (.dup2, 1) := by decide +kernel
theorem dX9_item_109 : decode cX9_item 109 = .ok (.iaload, 1) := by decide +kernel
theorem dX9_item_110 : decode cX9_item 110 = .ok (.iconst 1, 1) := by decide +kernel
theorem dX9_item_111 : decode cX9_item 111 = .ok (.iadd, 1) := by decide +kernel
theorem dX9_item_112 : decode cX9_item 112 = .ok (.iastore, 1) := by decide +kernel
theorem dX9_item_113 : decode cX9_item 113 = .ok (.aload_n 0, 1) := by decide +kernel
theorem dX9_item_114 : decode cX9_item 114 = .ok (.getfield 16, 3) := by decide +kernel
theorem dX9_item_117 : decode cX9_item 117 = .ok (.iconst 2, 1) := by decide +kernel
theorem dX9_item_118 : decode cX9_item 118 = .ok (.iaload, 1) := by decide +kernel
theorem dX9_item_119 : decode cX9_item 119 = .ok (.bipush 7, 2) := by decide +kernel
theorem dX9_item_121 : decode cX9_item 121 = .ok (.if_icmp .ge 64, 3) := by decide +kernel
theorem dX9_item_124 : decode cX9_item 124 = .ok (.aload_n 0, 1) := by decide +kernel
theorem dX9_item_125 : decode cX9_item 125 = .ok (.bipush 32, 2) := by decide +kernel
theorem dX9_item_127 : decode cX9_item 127 = .ok (.iload_n 1, 1) := by decide +kernel
theorem dX9_item_128 : decode cX9_item 128 = .ok (.iconst 1, 1) := by decide +kernel
theorem dX9_item_129 : decode cX9_item 129 = .ok (.bipush 6, 2) := by decide +kernel
theorem dX9_item_131 : decode cX9_item 131 = .ok (.invokevirtual 80, 3) := by decide +kernel
theorem dX9_item_134 : decode cX9_item 134 = .ok (.ifCond .eq 51, 3) := by decide +kernel
theorem dX9_item_137 : decode cX9_item 137 = .ok (.aload_n 0, 1) := by decide +kernel
theorem dX9_item_138 : decode cX9_item 138 = .ok (.bipush 44, 2) := by decide +kernel
theorem dX9_item_140 : decode cX9_item 140 = .ok (.iload_n 1, 1) := by decide +kernel
theorem dX9_item_141 : decode cX9_item 141 = .ok (.iconst 1, 1) := by decide +kernel
theorem dX9_item_142 : decode cX9_item 142 = .ok (.iadd, 1) := by decide +kernel
theorem dX9_item_143 : decode cX9_item 143 = .ok (.iconst 1, 1) := by decide +kernel
theorem dX9_item_144 : decode cX9_item 144 = .ok (.bipush 6, 2) := by decide +kernel
theorem dX9_item_146 : decode cX9_item 146 = .ok (.invokevirtual 80, 3) := by decide +kernel
theorem dX9_item_149 : decode cX9_item 149 = .ok (.ifCond .eq 36, 3) := by decide +kernel
theorem dX9_item_152 : decode cX9_item 152 = .ok (.aload_n 0, 1) := by decide +kernel
theorem dX9_item_153 : decode cX9_item 153 = .ok (.bipush 44, 2) := by decide +kernel
theorem dX9_item_155 : decode cX9_item 155 = .ok (.iload_n 1, 1) := by decide +kernel
theorem dX9_item_156 : decode cX9_item 156 = .ok (.iconst 2, 1) := by decide +kernel
theorem dX9_item_157 : decode cX9_item 157 = .ok (.iadd, 1) := by decide +kernel
theorem dX9_item_158 : decode cX9_item 158 = .ok (.iconst 0, 1) := by decide +kernel
theorem dX9_item_159 : decode cX9_item 159 = .ok (.iconst 1, 1) := by decide +kernel
theorem dX9_item_160 : decode cX9_item 160 = .ok (.invokevirtual 80, 3) := by decide +kernel
theorem dX9_item_163 : decode cX9_item 163 = .ok (.ifCond .eq 22, 3) := by decide +kernel
theorem dX9_item_166 : decode cX9_item 166 = .ok (.aload_n 0, 1) := by decide +kernel
theorem dX9_item_167 : decode cX9_item 167 = .ok (.bipush 44, 2) := by decide +kernel
theorem dX9_item_169 : decode cX9_item 169 = .ok (.iload_n 1, 1) := by decide +kernel
theorem dX9_item_170 : decode cX9_item 170 = .ok (.iconst 3, 1) := by decide +kernel
theorem dX9_item_171 : decode cX9_item 171 = .ok (.iadd, 1) := by decide +kernel
theorem dX9_item_172 : decode cX9_item 172 = .ok (.iconst 1, 1) := by decide +kernel
theorem dX9_item_173 : decode cX9_item 173 = .ok (.bipush 99, 2) := by decide +kernel
theorem dX9_item_175 : decode cX9_item 175 = .ok (.invokevirtual 80, 3) := by decide +kernel
theorem dX9_item_178 : decode cX9_item 178 = .ok (.ifCond .eq 7, 3) := by decide +kernel
theorem dX9_item_181 : decode cX9_item 181 = .ok (.iconst 1, 1) := by decide +kernel
theorem dX9_item_182 : decode cX9_item 182 = .ok (.goto 4, 3) := by decide +kernel
theorem dX9_item_185 : decode cX9_item 185 = .ok (.iconst 0, 1) := by decide +kernel
theorem dX9_item_186 : decode cX9_item 186 = .ok (.ireturn, 1) := by decide +kernel
theorem dX9_item_187 : decode cX9_item 187 = .ok (.aload_n 0, 1) := by decide +kernel
theorem dX9_item_188 : decode cX9_item 188 = .ok (.bipush 104, 2) := by decide +kernel
theorem dX9_item_190 : decode cX9_item 190 = .ok (.bipush 111, 2) := by decide +kernel
theorem dX9_item_192 : decode cX9_item 192 = .ok (.bipush 108, 2) := by decide +kernel
theorem dX9_item_194 : decode cX9_item 194 = .ok (.bipush 101, 2) := by decide +kernel
theorem dX9_item_196 : decode cX9_item 196 = .ok (.invokestatic 96, 3) := by decide +kernel
theorem dX9_item_199 : decode cX9_item 199 = .ok (.iconst 4, 1) := by decide +kernel
theorem dX9_item_200 : decode cX9_item 200 = .ok (.invokevirtual 92, 3) := by decide +kernel
theorem dX9_item_203 : decode cX9_item 203 = .ok (.ifCond .eq 8, 3) := by decide +kernel
theorem dX9_item_206 : decode cX9_item 206 = .ok (.aload_n 0, 1) := by decide +kernel
theorem dX9_item_207 : decode cX9_item 207 = .ok (.invokevirtual 100, 3) := by decide +kernel
theorem dX9_item_210 : decode cX9_item 210 = .ok (.ireturn, 1) := by decide +kernel
theorem dX9_item_211 : decode cX9_item 211 = .ok (.aload_n 0, 1) := by decide +kernel
theorem dX9_item_212 : decode cX9_item 212 = .ok (.bipush 99, 2) := by decide +kernel
theorem dX9_item_214 : decode cX9_item 214 = .ok (.bipush 108, 2) := by decide +kernel
theorem dX9_item_216 : decode cX9_item 216 = .ok (.bipush 97, 2) := by decide +kernel
theorem dX9_item_218 : decode cX9_item 218 = .ok (.bipush 109, 2) := by decide +kernel
theorem dX9_item_220 : decode cX9_item 220 = .ok (.bipush 112, 2) := by decide +kernel
theorem dX9_item_222 : decode cX9_item 222 = .ok (.invokestatic 88, 3) := by decide +kernel
theorem dX9_item_225 : decode cX9_item 225 = .ok (.iconst 5, 1) := by decide +kernel
theorem dX9_item_226 : decode cX9_item 226 = .ok (.invokevirtual 92, 3) := by decide +kernel
theorem dX9_item_229 : decode cX9_item 229 = .ok (.ifCond .eq 102, 3) := by decide +kernel
theorem dX9_item_232 : decode cX9_item 232 = .ok (.bipush 49, 2) := by decide +kernel
theorem dX9_item_234 : decode cX9_item 234 = .ok (.aload_n 0, 1) := by decide +kernel
theorem dX9_item_235 : decode cX9_item 235 = .ok (.getfield 16, 3) := by decide +kernel
theorem dX9_item_238 : decode cX9_item 238 = .ok (.iconst 4, 1) := by decide +kernel
theorem dX9_item_239 : decode cX9_item 239 = .ok (.iaload, 1) := by decide +kernel
theorem dX9_item_240 : decode cX9_item 240 = .ok (.iadd, 1) := by decide +kernel
theorem dX9_item_241 : decode cX9_item 241 = .ok (.istore_n 1, 1) := by decide +kernel
theorem dX9_item_242 : decode cX9_item 242 = .ok (.aload_n 0, 1) := by decide +kernel
theorem dX9_item_243 : decode cX9_item 243 = .ok (.getfield 16, 3) := by decide +kernel
theorem dX9_item_246 : decode cX9_item 246 = .ok (.iconst 4, 1) := by decide +kernel
theorem dX9_item_247 : decode cX9_item 247 = .ok (.dup2, 1) := by decide +kernel
theorem dX9_item_248 : decode cX9_item 248 = .ok (.iaload, 1) := by decide +kernel
theorem dX9_item_249 : decode cX9_item 249 = .ok (.iconst 1, 1) := by decide +kernel
theorem dX9_item_250 : decode cX9_item 250 = .ok (.iadd, 1) := by decide +kernel
theorem dX9_item_251 : decode cX9_item 251 = .ok (.iastore, 1) := by decide +kernel
theorem dX9_item_252 : decode cX9_item 252 = .ok (.aload_n 0, 1) := by decide +kernel
theorem dX9_item_253 : decode cX9_item 253 = .ok (.getfield 16, 3) := by decide +kernel
theorem dX9_item_256 : decode cX9_item 256 = .ok (.iconst 4, 1) := by decide +kernel
theorem dX9_item_257 : decode cX9_item 257 = .ok (.iaload, 1) := by decide +kernel
theorem dX9_item_258 : decode cX9_item 258 = .ok (.iconst 3, 1) := by decide +kernel
theorem dX9_item_259 : decode cX9_item 259 = .ok (.if_icmp .ge 70, 3) := by decide +kernel
theorem dX9_item_262 : decode cX9_item 262 = .ok (.aload_n 0, 1) := by decide +kernel
theorem dX9_item_263 : decode cX9_item 263 = .ok (.bipush 32, 2) := by decide +kernel
theorem dX9_item_265 : decode cX9_item 265 = .ok (.iload_n 1, 1) := by decide +kernel
theorem dX9_item_266 : decode cX9_item 266 = .ok (.iconst 0, 1) := by decide +kernel
theorem dX9_item_267 : decode cX9_item 267 = .ok (.aload_n 0, 1) := by decide +kernel
theorem dX9_item_268 : decode cX9_item 268 = .ok (.getfield 16, 3) := by decide +kernel
theorem dX9_item_271 : decode cX9_item 271 = .ok (.iconst 0, 1) := by decide +kernel
theorem dX9_item_272 : decode cX9_item 272 = .ok (.iaload, 1) := by decide +kernel
theorem dX9_item_273 : decode cX9_item 273 = .ok (.iconst 2, 1) := by decide +kernel
theorem dX9_item_274 : decode cX9_item 274 = .ok (.isub, 1) := by decide +kernel
theorem dX9_item_275 : decode cX9_item 275 = .ok (.invokevirtual 80, 3) := by decide +kernel
theorem dX9_item_278 : decode cX9_item 278 = .ok (.ifCond .eq 51, 3) := by decide +kernel
theorem dX9_item_281 : decode cX9_item 281 = .ok (.iload_n 1, 1) := by decide +kernel
theorem dX9_item_282 : decode cX9_item 282 = .ok (.bipush 49, 2) := by decide +kernel
theorem dX9_item_284 : decode cX9_item 284 = .ok (.if_icmp .eq 41, 3) := by decide +kernel
theorem dX9_item_287 : decode cX9_item 287 = .ok (.aload_n 0, 1) := by decide +kernel
theorem dX9_item_288 : decode cX9_item 288 = .ok (.getfield 16, 3) := by decide +kernel
theorem dX9_item_291 : decode cX9_item 291 = .ok (.bipush 50, 2) := by decide +kernel
theorem dX9_item_293 : decode cX9_item 293 = .ok (.iaload, 1) := by decide +kernel
theorem dX9_item_294 : decode cX9_item 294 = .ok (.aload_n 0, 1) := by decide +kernel
theorem dX9_item_295 : decode cX9_item 295 = .ok (.getfield 16, 3) := by decide +kernel
theorem dX9_item_298 : decode cX9_item 298 = .ok (.bipush 49, 2) := by decide +kernel
theorem dX9_item_300 : decode cX9_item 300 = .ok (.iaload, 1) := by decide +kernel
theorem dX9_item_301 : decode cX9_item 301 = .ok (.isub, 1) := by decide +kernel
theorem dX9_item_302 : decode cX9_item 302 = .ok (.iconst 1, 1) := by decide +kernel
theorem dX9_item_303 : decode cX9_item 303 = .ok (.if_icmp .gt 22, 3) := by decide +kernel
theorem dX9_item_306 : decode cX9_item 306 = .ok (.aload_n 0, 1) := by decide +kernel
theorem dX9_item_307 : decode cX9_item 307 = .ok (.getfield 16, 3) := by decide +kernel
theorem dX9_item_310 : decode cX9_item 310 = .ok (.bipush 49, 2) := by decide +kernel
theorem dX9_item_312 : decode cX9_item 312 = .ok (.iaload, 1) := by decide +kernel
theorem dX9_item_313 : decode cX9_item 313 = .ok (.aload_n 0, 1) := by decide +kernel
theorem dX9_item_314 : decode cX9_item 314 = .ok (.getfield 16, 3) := by decide +kernel
theorem dX9_item_317 : decode cX9_item 317 = .ok (.bipush 50, 2) := by decide +kernel
theorem dX9_item_319 : decode cX9_item 319 = .ok (.iaload, 1) := by decide +kernel
theorem dX9_item_320 : decode cX9_item 320 = .ok (.isub, 1) := by decide +kernel
theorem dX9_item_321 : decode cX9_item 321 = .ok (.iconst 1, 1) := by decide +kernel
theorem dX9_item_322 : decode cX9_item 322 = .ok (.if_icmp .le 7, 3) := by decide +kernel
theorem dX9_item_325 : decode cX9_item 325 = .ok (.iconst 1, 1) := by decide +kernel
theorem dX9_item_326 : decode cX9_item 326 = .ok (.goto 4, 3) := by decide +kernel
theorem dX9_item_329 : decode cX9_item 329 = .ok (.iconst 0, 1) := by decide +kernel
theorem dX9_item_330 : decode cX9_item 330 = .ok (.ireturn, 1) := by decide +kernel
theorem dX9_item_331 : decode cX9_item 331 = .ok (.iconst 0, 1) := by decide +kernel
theorem dX9_item_332 : decode cX9_item 332 = .ok (.ireturn, 1) := by decide +kernel
theorem dX9_fault_0 : decode cX9_fault 0 = .ok (.iconst 0, 1) := by decide +kernel
theorem dX9_fault_1 : decode cX9_fault 1 = .ok (.istore_n 1, 1) := by decide +kernel
theorem dX9_fault_2 : decode cX9_fault 2 = .ok (.iload_n 1, 1) := by decide +kernel
theorem dX9_fault_3 : decode cX9_fault 3 = .ok (.bipush 51, 2) := by decide +kernel
theorem dX9_fault_5 : decode cX9_fault 5 = .ok (.if_icmp .ge 16, 3) := by decide +kernel
theorem dX9_fault_8 : decode cX9_fault 8 = .ok (.aload_n 0, 1) := by decide +kernel
theorem dX9_fault_9 : decode cX9_fault 9 = .ok (.getfield 16, 3) := by decide +kernel
theorem dX9_fault_12 : decode cX9_fault 12 = .ok (.iload_n 1, 1) := by decide +kernel
theorem dX9_fault_13 : decode cX9_fault 13 = .ok (.iconst 0, 1) := by decide +kernel
theorem dX9_fault_14 : decode cX9_fault 14 = .ok (.iastore, 1) := by decide +kernel
theorem dX9_fault_15 : decode cX9_fault 15 = .ok (.iinc 1 1, 3) := by decide +kernel
theorem dX9_fault_18 : decode cX9_fault 18 = .ok (.goto (-16), 3) := by decide +kernel
theorem dX9_fault_21 : decode cX9_fault 21 = .ok (.aload_n 0, 1) := by decide +kernel
theorem dX9_fault_22 : decode cX9_fault 22 = .ok (.iconst 0, 1) := by decide +kernel
theorem dX9_fault_23 : decode cX9_fault 23 = .ok (.putfield 65, 3) := by decide +kernel
theorem dX9_fault_26 : decode cX9_fault 26 = .ok (.aload_n 0, 1) := by decide +kernel
theorem dX9_fault_27 : decode cX9_fault 27 = .ok (.getfield 65, 3) := by decide +kernel
theorem dX9_fault_30 : decode cX9_fault 30 = .ok (.aload_n 0, 1) := by decide +kernel
theorem dX9_fault_31 : decode cX9_fault 31 = .ok (.getfield 62, 3) := by decide +kernel
theorem dX9_fault_34 : decode cX9_fault 34 = .ok (.if_icmp .ge 43, 3) := by decide +kernel
theorem dX9_fault_37 : decode cX9_fault 37 = .ok (.aload_n 0, 1) := by decide +kernel
theorem dX9_fault_38 : decode cX9_fault 38 = .ok (.getfield 65, 3) := by decide +kernel
theorem dX9_fault_41 : decode cX9_fault 41 = .ok (.istore_n 1, 1) := by decide +kernel
theorem dX9_fault_42 : decode cX9_fault 42 = .ok (.aload_n 0, 1) := by decide +kernel
theorem dX9_fault_43 : decode cX9_fault 43 = .ok (.invokevirtual 104, 3) := by decide +kernel
theorem dX9_fault_46 : decode cX9_fault 46 = .ok (.ifCond .eq 16, 3) := by decide +kernel
theorem dX9_fault_49 : decode cX9_fault 49 = .ok (.aload_n 0, 1) := by decide +kernel
theorem dX9_fault_50 : decode cX9_fault 50 = .ok (.aload_n 0, 1) := by decide +kernel
theorem dX9_fault_51 : decode cX9_fault 51 = .ok (.getfield 65, 3) := by decide +kernel
theorem dX9_fault_54 : decode cX9_fault 54 = .ok (.invokevirtual 68, 3) := by decide +kernel
theorem dX9_fault_57 : decode cX9_fault 57 = .ok (.bipush 59, 2) := by decide +kernel
theorem dX9_fault_59 : decode cX9_fault 59 = .ok (.if_icmp .eq 5, 3) := by decide +kernel
theorem dX9_fault_62 : decode cX9_fault 62 = .ok (.iload_n 1, 1) := by decide +kernel
theorem dX9_fault_63 : decode cX9_fault 63 = .ok (.ireturn, 1) := by decide +kernel
theorem dX9_fault_64 : decode cX9_fault 64 = .ok (.aload_n 0, 1) := by decide +kernel
theorem dX9_fault_65 : decode cX9_fault 65 = .ok (.dup, 1) := by decide +kernel
theorem dX9_fault_66 : decode cX9_fault 66 = .ok (.getfield 65, 3) := by decide +kernel
theorem dX9_fault_69 : decode cX9_fault 69 = .ok (.iconst 1, 1) := by decide +kernel
theorem dX9_fault_70 : decode cX9_fault 70 = .ok (.iadd, 1) := by decide +kernel
theorem dX9_fault_71 : decode cX9_fault 71 = .ok (.putfield 65, 3) := by decide +kernel
theorem dX9_fault_74 : decode cX9_fault 74 = .ok (.goto (-48), 3) := by decide +kernel
theorem dX9_fault_77 : decode cX9_fault 77 = .ok (.bipush (-4), 2) := by decide +kernel
theorem dX9_fault_79 : decode cX9_fault 79 = .ok (.ireturn, 1) := by decide +kernel
theorem dX9_lay_0 : decode cX9_lay 0 = .ok (.aload_n 0, 1) := by decide +kernel
theorem dX9_lay_1 : decode cX9_lay 1 = .ok (.invokevirtual 107, 3) := by decide +kernel
theorem dX9_lay_4 : decode cX9_lay 4 = .ok (.bipush (-4), 2) := by decide +kernel
theorem dX9_lay_6 : decode cX9_lay 6 = .ok (.if_icmp .ne 21, 3) := by decide +kernel
theorem dX9_lay_9 : decode cX9_lay 9 = .ok (.aload_n 0, 1) := by decide +kernel
theorem dX9_lay_10 : decode cX9_lay 10 = .ok (.getfield 16, 3) := by decide +kernel
theorem dX9_lay_13 : decode cX9_lay 13 = .ok (.iconst 0, 1) := by decide +kernel
theorem dX9_lay_14 : decode cX9_lay 14 = .ok (.iaload, 1) := by decide +kernel
theorem dX9_lay_15 : decode cX9_lay 15 = .ok (.ifCond .eq 12, 3) := by decide +kernel
theorem dX9_lay_18 : decode cX9_lay 18 = .ok (.aload_n 0, 1) := by decide +kernel
theorem dX9_lay_19 : decode cX9_lay 19 = .ok (.getfield 16, 3) := by decide +kernel
theorem dX9_lay_22 : decode cX9_lay 22 = .ok (.iconst 2, 1) := by decide +kernel
theorem dX9_lay_23 : decode cX9_lay 23 = .ok (.iaload, 1) := by decide +kernel
theorem dX9_lay_24 : decode cX9_lay 24 = .ok (.ifCond .ne 6, 3) := by decide +kernel
theorem dX9_lay_27 : decode cX9_lay 27 = .ok (.bipush (-2), 2) := by decide +kernel
theorem dX9_lay_29 : decode cX9_lay 29 = .ok (.ireturn, 1) := by decide +kernel
theorem dX9_lay_30 : decode cX9_lay 30 = .ok (.iconst 0, 1) := by decide +kernel
theorem dX9_lay_31 : decode cX9_lay 31 = .ok (.istore_n 1, 1) := by decide +kernel
theorem dX9_lay_32 : decode cX9_lay 32 = .ok (.iload_n 1, 1) := by decide +kernel
theorem dX9_lay_33 : decode cX9_lay 33 = .ok (.bipush 51, 2) := by decide +kernel
theorem dX9_lay_35 : decode cX9_lay 35 = .ok (.if_icmp .ge 21, 3) := by decide +kernel
theorem dX9_lay_38 : decode cX9_lay 38 = .ok (.aload_n 0, 1) := by decide +kernel
theorem dX9_lay_39 : decode cX9_lay 39 = .ok (.getfield 13, 3) := by decide +kernel
theorem dX9_lay_42 : decode cX9_lay 42 = .ok (.iload_n 1, 1) := by decide +kernel
theorem dX9_lay_43 : decode cX9_lay 43 = .ok (.aload_n 0, 1) := by decide +kernel
theorem dX9_lay_44 : decode cX9_lay 44 = .ok (.getfield 16, 3) := by decide +kernel
theorem dX9_lay_47 : decode cX9_lay 47 = .ok (.iload_n 1, 1) := by decide +kernel
theorem dX9_lay_48 : decode cX9_lay 48 = .ok (.iaload, 1) := by decide +kernel
theorem dX9_lay_49 : decode cX9_lay 49 = .ok (.iastore, 1) := by decide +kernel
theorem dX9_lay_50 : decode cX9_lay 50 = .ok (.iinc 1 1, 3) := by decide +kernel
theorem dX9_lay_53 : decode cX9_lay 53 = .ok (.goto (-21), 3) := by decide +kernel
theorem dX9_lay_56 : decode cX9_lay 56 = .ok (.aload_n 0, 1) := by decide +kernel
theorem dX9_lay_57 : decode cX9_lay 57 = .ok (.invokevirtual 47, 3) := by decide +kernel
theorem dX9_lay_60 : decode cX9_lay 60 = .ok (.aload_n 0, 1) := by decide +kernel
theorem dX9_lay_61 : decode cX9_lay 61 = .ok (.getfield 13, 3) := by decide +kernel
theorem dX9_lay_64 : decode cX9_lay 64 = .ok (.iconst 2, 1) := by decide +kernel
theorem dX9_lay_65 : decode cX9_lay 65 = .ok (.iaload, 1) := by decide +kernel
theorem dX9_lay_66 : decode cX9_lay 66 = .ok (.ireturn, 1) := by decide +kernel
theorem dX9_note_0 : decode cX9_note 0 = .ok (.aload_n 0, 1) := by decide +kernel
theorem dX9_note_1 : decode cX9_note 1 = .ok (.getfield 50, 3) := by decide +kernel
theorem dX9_note_4 : decode cX9_note 4 = .ok (.bipush 6, 2) := by decide +kernel
theorem dX9_note_6 : decode cX9_note 6 = .ok (.if_icmp .ne 44, 3) := by decide +kernel
theorem dX9_note_9 : decode cX9_note 9 = .ok (.iconst 0, 1) := by decide +kernel
theorem dX9_note_10 : decode cX9_note 10 = .ok (.istore_n 1, 1) := by decide +kernel
theorem dX9_note_11 : decode cX9_note 11 = .ok (.iload_n 1, 1) := by decide +kernel
theorem dX9_note_12 : decode cX9_note 12 = .ok (.sipush 780, 3) := by decide +kernel
theorem dX9_note_15 : decode cX9_note 15 = .ok (.if_icmp .ge 25, 3) := by decide +kernel
theorem dX9_note_18 : decode cX9_note 18 = .ok (.aload_n 0, 1) := by decide +kernel
theorem dX9_note_19 : decode cX9_note 19 = .ok (.getfield 22, 3) := by decide +kernel
theorem dX9_note_22 : decode cX9_note 22 = .ok (.iload_n 1, 1) := by decide +kernel
theorem dX9_note_23 : decode cX9_note 23 = .ok (.aload_n 0, 1) := by decide +kernel
theorem dX9_note_24 : decode cX9_note 24 = .ok (.getfield 22, 3) := by decide +kernel
theorem dX9_note_27 : decode cX9_note 27 = .ok (.sipush 156, 3) := by decide +kernel
theorem dX9_note_30 : decode cX9_note 30 = .ok (.iload_n 1, 1) := by decide +kernel
theorem dX9_note_31 : decode cX9_note 31 = .ok (.iadd, 1) := by decide +kernel
theorem dX9_note_32 : decode cX9_note 32 = .ok (.iaload, 1) := by decide +kernel
theorem dX9_note_33 : decode cX9_note 33 = .ok (.iastore, 1) := by decide +kernel
theorem dX9_note_34 : decode cX9_note 34 = .ok (.iinc 1 1, 3) := by decide +kernel
theorem dX9_note_37 : decode cX9_note 37 = .ok (.goto (-26), 3) := by decide +kernel
theorem dX9_note_40 : decode cX9_note 40 = .ok (.aload_n 0, 1) := by decide +kernel
theorem dX9_note_41 : decode cX9_note 41 = .ok (.dup, 1) := by decide +kernel
theorem dX9_note_42 : decode cX9_note 42 = .ok (.getfield 50, 3) := by decide +kernel
theorem dX9_note_45 : decode cX9_note 45 = .ok (.iconst 1, 1) := by decide +kernel
theorem dX9_note_46 : decode cX9_note 46 = .ok (.isub, 1) := by decide +kernel
theorem dX9_note_47 : decode cX9_note 47 = .ok (.putfield 50, 3) := by decide +kernel
theorem dX9_note_50 : decode cX9_note 50 = .ok (.iconst 0, 1) := by decide +kernel
theorem dX9_note_51 : decode cX9_note 51 = .ok (.istore_n 1, 1) := by decide +kernel
theorem dX9_note_52 : decode cX9_note 52 = .ok (.iload_n 1, 1) := by decide +kernel
theorem dX9_note_53 : decode cX9_note 53 = .ok (.sipush 156, 3) := by decide +kernel
theorem dX9_note_56 : decode cX9_note 56 = .ok (.if_icmp .ge 30, 3) := by decide +kernel
theorem dX9_note_59 : decode cX9_note 59 = .ok (.aload_n 0, 1) := by decide +kernel
theorem dX9_note_60 : decode cX9_note 60 = .ok (.getfield 22, 3) := by decide +kernel
theorem dX9_note_63 : decode cX9_note 63 = .ok (.sipush 156, 3) := by decide +kernel
theorem dX9_note_66 : decode cX9_note 66 = .ok (.aload_n 0, 1) := by decide +kernel
theorem dX9_note_67 : decode cX9_note 67 = .ok (.getfield 50, 3) := by decide +kernel
theorem dX9_note_70 : decode cX9_note 70 = .ok (.imul, 1) := by decide +kernel
theorem dX9_note_71 : decode cX9_note 71 = .ok (.iload_n 1, 1) := by decide +kernel
theorem dX9_note_72 : decode cX9_note 72 = .ok (.iadd, 1) := by decide +kernel
theorem dX9_note_73 : decode cX9_note 73 = .ok (.aload_n 0, 1) := by decide +kernel
theorem dX9_note_74 : decode cX9_note 74 = .ok (.getfield 19, 3) := by decide +kernel
theorem dX9_note_77 : decode cX9_note 77 = .ok (.iload_n 1, 1) := by decide +kernel
theorem dX9_note_78 : decode cX9_note 78 = .ok (.iaload, 1) := by decide +kernel
theorem dX9_note_79 : decode cX9_note 79 = .ok (.iastore, 1) := by decide +kernel
theorem dX9_note_80 : decode cX9_note 80 = .ok (.iinc 1 1, 3) := by decide +kernel
theorem dX9_note_83 : decode cX9_note 83 = .ok (.goto (-31), 3) := by decide +kernel
theorem dX9_note_86 : decode cX9_note 86 = .ok (.aload_n 0, 1) := by decide +kernel
theorem dX9_note_87 : decode cX9_note 87 = .ok (.dup, 1) := by decide +kernel
theorem dX9_note_88 : decode cX9_note 88 = .ok (.getfield 50, 3) := by decide +kernel
theorem dX9_note_91 : decode cX9_note 91 = .ok (.iconst 1, 1) := by decide +kernel
theorem dX9_note_92 : decode cX9_note 92 = .ok (.iadd, 1) := by decide +kernel
theorem dX9_note_93 : decode cX9_note 93 = .ok (.putfield 50, 3) := by decide +kernel
theorem dX9_note_96 : decode cX9_note 96 = .ok (.return_, 1) := by decide +kernel
theorem dX9_takesBack_0 : decode cX9_takesBack 0 = .ok (.aload_n 0, 1) := by decide +kernel
end
section
theorem dX9_takesBack_1 : decode cX9_takesBack 1 = .ok (.dup, 1) := by decide +kernel
theorem dX9_takesBack_2 : decode cX9_takesBack 2 = .ok (.getfield 50, 3) := by decide +kernel
theorem dX9_takesBack_5 : decode cX9_takesBack 5 = .ok (.iconst 1, 1) := by decide +kernel
theorem dX9_takesBack_6 : decode cX9_takesBack 6 = .ok (.isub, 1) := by decide +kernel
theorem dX9_takesBack_7 : decode cX9_takesBack 7 = .ok (.putfield 50, 3) := by decide +kernel
theorem dX9_takesBack_10 : decode cX9_takesBack 10 = .ok (.iconst 0, 1) := by decide +kernel
theorem dX9_takesBack_11 : decode cX9_takesBack 11 = .ok (.istore_n 1, 1) := by decide +kernel
theorem dX9_takesBack_12 : decode cX9_takesBack 12 = .ok (.iload_n 1, 1) := by decide +kernel
theorem dX9_takesBack_13 : decode cX9_takesBack 13 = .ok (.sipush 156, 3) := by decide +kernel
theorem dX9_takesBack_16 : decode cX9_takesBack 16 = .ok (.if_icmp .ge 30, 3) := by decide +kernel
theorem dX9_takesBack_19 : decode cX9_takesBack 19 = .ok (.aload_n 0, 1) := by decide +kernel
theorem dX9_takesBack_20 : decode cX9_takesBack 20 = .ok (.getfield 19, 3) := by decide +kernel
theorem dX9_takesBack_23 : decode cX9_takesBack 23 = .ok (.iload_n 1, 1) := by decide +kernel
theorem dX9_takesBack_24 : decode cX9_takesBack 24 = .ok (.aload_n 0, 1) := by decide +kernel
theorem dX9_takesBack_25 : decode cX9_takesBack 25 = .ok (.getfield 22, 3) := by decide +kernel
theorem dX9_takesBack_28 : decode cX9_takesBack 28 = .ok (.sipush 156, 3) := by decide +kernel
theorem dX9_takesBack_31 : decode cX9_takesBack 31 = .ok (.aload_n 0, 1) := by decide +kernel
theorem dX9_takesBack_32 : decode cX9_takesBack 32 = .ok (.getfield 50, 3) := by decide +kernel
theorem dX9_takesBack_35 : decode cX9_takesBack 35 = .ok (.imul, 1) := by decide +kernel
theorem dX9_takesBack_36 : decode cX9_takesBack 36 = .ok (.iload_n 1, 1) := by decide +kernel
theorem dX9_takesBack_37 : decode cX9_takesBack 37 = .ok (.iadd, 1) := by decide +kernel
theorem dX9_takesBack_38 : decode cX9_takesBack 38 = .ok (.iaload, 1) := by decide +kernel
theorem dX9_takesBack_39 : decode cX9_takesBack 39 = .ok (.iastore, 1) := by decide +kernel
theorem dX9_takesBack_40 : decode cX9_takesBack 40 = .ok (.iinc 1 1, 3) := by decide +kernel
theorem dX9_takesBack_43 : decode cX9_takesBack 43 = .ok (.goto (-31), 3) := by decide +kernel
theorem dX9_takesBack_46 : decode cX9_takesBack 46 = .ok (.return_, 1) := by decide +kernel
theorem dX9_undo_0 : decode cX9_undo 0 = .ok (.aload_n 0, 1) := by decide +kernel
theorem dX9_undo_1 : decode cX9_undo 1 = .ok (.getfield 50, 3) := by decide +kernel
theorem dX9_undo_4 : decode cX9_undo 4 = .ok (.ifCond .ne 6, 3) := by decide +kernel
theorem dX9_undo_7 : decode cX9_undo 7 = .ok (.bipush (-2), 2) := by decide +kernel
theorem dX9_undo_9 : decode cX9_undo 9 = .ok (.ireturn, 1) := by decide +kernel
theorem dX9_undo_10 : decode cX9_undo 10 = .ok (.aload_n 0, 1) := by decide +kernel
theorem dX9_undo_11 : decode cX9_undo 11 = .ok (.invokevirtual 111, 3) := by decide +kernel
theorem dX9_undo_14 : decode cX9_undo 14 = .ok (.aload_n 0, 1) := by decide +kernel
theorem dX9_undo_15 : decode cX9_undo 15 = .ok (.getfield 50, 3) := by decide +kernel
theorem dX9_undo_18 : decode cX9_undo 18 = .ok (.ireturn, 1) := by decide +kernel
theorem dX9_isCell_0 : decode cX9_isCell 0 = .ok (.iload_n 1, 1) := by decide +kernel
theorem dX9_isCell_1 : decode cX9_isCell 1 = .ok (.i2l, 1) := by decide +kernel
theorem dX9_isCell_2 : decode cX9_isCell 2 = .ok (.lconst 0, 1) := by decide +kernel
theorem dX9_isCell_3 : decode cX9_isCell 3 = .ok (.aload_n 0, 1) := by decide +kernel
theorem dX9_isCell_4 : decode cX9_isCell 4 = .ok (.getfield 13, 3) := by decide +kernel
theorem dX9_isCell_7 : decode cX9_isCell 7 = .ok (.iconst 0, 1) := by decide +kernel
theorem dX9_isCell_8 : decode cX9_isCell 8 = .ok (.iaload, 1) := by decide +kernel
theorem dX9_isCell_9 : decode cX9_isCell 9 = .ok (.iconst 1, 1) := by decide +kernel
theorem dX9_isCell_10 : decode cX9_isCell 10 = .ok (.isub, 1) := by decide +kernel
theorem dX9_isCell_11 : decode cX9_isCell 11 = .ok (.i2l, 1) := by decide +kernel
theorem dX9_isCell_12 : decode cX9_isCell 12 = .ok (.invokestatic 58, 3) := by decide +kernel
theorem dX9_isCell_15 : decode cX9_isCell 15 = .ok (.ifCond .eq 25, 3) := by decide +kernel
theorem dX9_isCell_18 : decode cX9_isCell 18 = .ok (.iload_n 2, 1) := by decide +kernel
theorem dX9_isCell_19 : decode cX9_isCell 19 = .ok (.i2l, 1) := by decide +kernel
theorem dX9_isCell_20 : decode cX9_isCell 20 = .ok (.lconst 0, 1) := by decide +kernel
theorem dX9_isCell_21 : decode cX9_isCell 21 = .ok (.aload_n 0, 1) := by decide +kernel
theorem dX9_isCell_22 : decode cX9_isCell 22 = .ok (.getfield 13, 3) := by decide +kernel
theorem dX9_isCell_25 : decode cX9_isCell 25 = .ok (.iconst 1, 1) := by decide +kernel
theorem dX9_isCell_26 : decode cX9_isCell 26 = .ok (.iaload, 1) := by decide +kernel
theorem dX9_isCell_27 : decode cX9_isCell 27 = .ok (.iconst 1, 1) := by decide +kernel
theorem dX9_isCell_28 : decode cX9_isCell 28 = .ok (.isub, 1) := by decide +kernel
theorem dX9_isCell_29 : decode cX9_isCell 29 = .ok (.i2l, 1) := by decide +kernel
theorem dX9_isCell_30 : decode cX9_isCell 30 = .ok (.invokestatic 58, 3) := by decide +kernel
theorem dX9_isCell_33 : decode cX9_isCell 33 = .ok (.ifCond .eq 7, 3) := by decide +kernel
theorem dX9_isCell_36 : decode cX9_isCell 36 = .ok (.iconst 1, 1) := by decide +kernel
theorem dX9_isCell_37 : decode cX9_isCell 37 = .ok (.goto 4, 3) := by decide +kernel
theorem dX9_isCell_40 : decode cX9_isCell 40 = .ok (.iconst 0, 1) := by decide +kernel
theorem dX9_isCell_41 : decode cX9_isCell 41 = .ok (.ireturn, 1) := by decide +kernel
theorem dX9_isStation_0 : decode cX9_isStation 0 = .ok (.iload_n 1, 1) := by decide +kernel
theorem dX9_isStation_1 : decode cX9_isStation 1 = .ok (.i2l, 1) := by decide +kernel
theorem dX9_isStation_2 : decode cX9_isStation 2 = .ok (.lconst 0, 1) := by decide +kernel
theorem dX9_isStation_3 : decode cX9_isStation 3 = .ok (.aload_n 0, 1) := by decide +kernel
theorem dX9_isStation_4 : decode cX9_isStation 4 = .ok (.getfield 13, 3) := by decide +kernel
theorem dX9_isStation_7 : decode cX9_isStation 7 = .ok (.iconst 2, 1) := by decide +kernel
theorem dX9_isStation_8 : decode cX9_isStation 8 = .ok (.iaload, 1) := by decide +kernel
theorem dX9_isStation_9 : decode cX9_isStation 9 = .ok (.iconst 1, 1) := by decide +kernel
theorem dX9_isStation_10 : decode cX9_isStation 10 = .ok (.isub, 1) := by decide +kernel
theorem dX9_isStation_11 : decode cX9_isStation 11 = .ok (.i2l, 1) := by decide +kernel
theorem dX9_isStation_12 : decode cX9_isStation 12 = .ok (.invokestatic 58, 3) := by decide +kernel
theorem dX9_isStation_15 : decode cX9_isStation 15 = .ok (.ireturn, 1) := by decide +kernel
theorem dX9_isHole_0 : decode cX9_isHole 0 = .ok (.iload_n 1, 1) := by decide +kernel
theorem dX9_isHole_1 : decode cX9_isHole 1 = .ok (.i2l, 1) := by decide +kernel
theorem dX9_isHole_2 : decode cX9_isHole 2 = .ok (.lconst 0, 1) := by decide +kernel
theorem dX9_isHole_3 : decode cX9_isHole 3 = .ok (.aload_n 0, 1) := by decide +kernel
theorem dX9_isHole_4 : decode cX9_isHole 4 = .ok (.getfield 13, 3) := by decide +kernel
theorem dX9_isHole_7 : decode cX9_isHole 7 = .ok (.iconst 3, 1) := by decide +kernel
theorem dX9_isHole_8 : decode cX9_isHole 8 = .ok (.iaload, 1) := by decide +kernel
theorem dX9_isHole_9 : decode cX9_isHole 9 = .ok (.iconst 1, 1) := by decide +kernel
theorem dX9_isHole_10 : decode cX9_isHole 10 = .ok (.isub, 1) := by decide +kernel
theorem dX9_isHole_11 : decode cX9_isHole 11 = .ok (.i2l, 1) := by decide +kernel
theorem dX9_isHole_12 : decode cX9_isHole 12 = .ok (.invokestatic 58, 3) := by decide +kernel
theorem dX9_isHole_15 : decode cX9_isHole 15 = .ok (.ireturn, 1) := by decide +kernel
theorem dX9_holeAt_0 : decode cX9_holeAt 0 = .ok (.iconst 0, 1) := by decide +kernel
theorem dX9_holeAt_1 : decode cX9_holeAt 1 = .ok (.istore_n 3, 1) := by decide +kernel
theorem dX9_holeAt_2 : decode cX9_holeAt 2 = .ok (.iload_n 3, 1) := by decide +kernel
theorem dX9_holeAt_3 : decode cX9_holeAt 3 = .ok (.aload_n 0, 1) := by decide +kernel
theorem dX9_holeAt_4 : decode cX9_holeAt 4 = .ok (.getfield 13, 3) := by decide +kernel
theorem dX9_holeAt_7 : decode cX9_holeAt 7 = .ok (.iconst 3, 1) := by decide +kernel
theorem dX9_holeAt_8 : decode cX9_holeAt 8 = .ok (.iaload, 1) := by decide +kernel
theorem dX9_holeAt_9 : decode cX9_holeAt 9 = .ok (.if_icmp .ge 95, 3) := by decide +kernel
theorem dX9_holeAt_12 : decode cX9_holeAt 12 = .ok (.bipush 29, 2) := by decide +kernel
theorem dX9_holeAt_14 : decode cX9_holeAt 14 = .ok (.iconst 4, 1) := by decide +kernel
theorem dX9_holeAt_15 : decode cX9_holeAt 15 = .ok (.iload_n 3, 1) := by decide +kernel
theorem dX9_holeAt_16 : decode cX9_holeAt 16 = .ok (.imul, 1) := by decide +kernel
theorem dX9_holeAt_17 : decode cX9_holeAt 17 = .ok (.iadd, 1) := by decide +kernel
theorem dX9_holeAt_18 : decode cX9_holeAt 18 = .ok (.istore 4, 2) := by decide +kernel
theorem dX9_holeAt_20 : decode cX9_holeAt 20 = .ok (.iload_n 1, 1) := by decide +kernel
theorem dX9_holeAt_21 : decode cX9_holeAt 21 = .ok (.i2l, 1) := by decide +kernel
theorem dX9_holeAt_22 : decode cX9_holeAt 22 = .ok (.aload_n 0, 1) := by decide +kernel
theorem dX9_holeAt_23 : decode cX9_holeAt 23 = .ok (.getfield 13, 3) := by decide +kernel
theorem dX9_holeAt_26 : decode cX9_holeAt 26 = .ok (.iload 4, 2) := by decide +kernel
theorem dX9_holeAt_28 : decode cX9_holeAt 28 = .ok (.iaload, 1) := by decide +kernel
theorem dX9_holeAt_29 : decode cX9_holeAt 29 = .ok (.i2l, 1) := by decide +kernel
theorem dX9_holeAt_30 : decode cX9_holeAt 30 = .ok (.aload_n 0, 1) := by decide +kernel
theorem dX9_holeAt_31 : decode cX9_holeAt 31 = .ok (.getfield 13, 3) := by decide +kernel
theorem dX9_holeAt_34 : decode cX9_holeAt 34 = .ok (.iload 4, 2) := by decide +kernel
theorem dX9_holeAt_36 : decode cX9_holeAt 36 = .ok (.iaload, 1) := by decide +kernel
theorem dX9_holeAt_37 : decode cX9_holeAt 37 = .ok (.aload_n 0, 1) := by decide +kernel
theorem dX9_holeAt_38 : decode cX9_holeAt 38 = .ok (.getfield 13, 3) := by decide +kernel
theorem dX9_holeAt_41 : decode cX9_holeAt 41 = .ok (.iload 4, 2) := by decide +kernel
theorem dX9_holeAt_43 : decode cX9_holeAt 43 = .ok (.iconst 2, 1) := by decide +kernel
theorem dX9_holeAt_44 : decode cX9_holeAt 44 = .ok (.iadd, 1) := by decide +kernel
theorem dX9_holeAt_45 : decode cX9_holeAt 45 = .ok (.iaload, 1) := by decide +kernel
theorem dX9_holeAt_46 : decode cX9_holeAt 46 = .ok (.iadd, 1) := by decide +kernel
theorem dX9_holeAt_47 : decode cX9_holeAt 47 = .ok (.iconst 1, 1) := by decide +kernel
theorem dX9_holeAt_48 : decode cX9_holeAt 48 = .ok (.isub, 1) := by decide +kernel
theorem dX9_holeAt_49 : decode cX9_holeAt 49 = .ok (.i2l, 1) := by decide +kernel
theorem dX9_holeAt_50 : decode cX9_holeAt 50 = .ok (.invokestatic 58, 3) := by decide +kernel
theorem dX9_holeAt_53 : decode cX9_holeAt 53 = .ok (.ifCond .eq 45, 3) := by decide +kernel
theorem dX9_holeAt_56 : decode cX9_holeAt 56 = .ok (.iload_n 2, 1) := by decide +kernel
theorem dX9_holeAt_57 : decode cX9_holeAt 57 = .ok (.i2l, 1) := by decide +kernel
theorem dX9_holeAt_58 : decode cX9_holeAt 58 = .ok (.aload_n 0, 1) := by decide +kernel
theorem dX9_holeAt_59 : decode cX9_holeAt 59 = .ok (.getfield 13, 3) := by decide +kernel
theorem dX9_holeAt_62 : decode cX9_holeAt 62 = .ok (.iload 4, 2) := by decide +kernel
theorem dX9_holeAt_64 : decode cX9_holeAt 64 = .ok (.iconst 1, 1) := by decide +kernel
theorem dX9_holeAt_65 : decode cX9_holeAt 65 = .ok (.iadd, 1) := by decide +kernel
theorem dX9_holeAt_66 : decode cX9_holeAt 66 = .ok (.iaload, 1) := by decide +kernel
theorem dX9_holeAt_67 : decode cX9_holeAt 67 = .ok (.i2l, 1) := by decide +kernel
theorem dX9_holeAt_68 : decode cX9_holeAt 68 = .ok (.aload_n 0, 1) := by decide +kernel
theorem dX9_holeAt_69 : decode cX9_holeAt 69 = .ok (.getfield 13, 3) := by decide +kernel
theorem dX9_holeAt_72 : decode cX9_holeAt 72 = .ok (.iload 4, 2) := by decide +kernel
theorem dX9_holeAt_74 : decode cX9_holeAt 74 = .ok (.iconst 1, 1) := by decide +kernel
theorem dX9_holeAt_75 : decode cX9_holeAt 75 = .ok (.iadd, 1) := by decide +kernel
theorem dX9_holeAt_76 : decode cX9_holeAt 76 = .ok (.iaload, 1) := by decide +kernel
theorem dX9_holeAt_77 : decode cX9_holeAt 77 = .ok (.aload_n 0, 1) := by decide +kernel
theorem dX9_holeAt_78 : decode cX9_holeAt 78 = .ok (.getfield 13, 3) := by decide +kernel
theorem dX9_holeAt_81 : decode cX9_holeAt 81 = .ok (.iload 4, 2) := by decide +kernel
theorem dX9_holeAt_83 : decode cX9_holeAt 83 = .ok (.iconst 3, 1) := by decide +kernel
theorem dX9_holeAt_84 : decode cX9_holeAt 84 = .ok (.iadd, 1) := by decide +kernel
theorem dX9_holeAt_85 : decode cX9_holeAt 85 = .ok (.iaload, 1) := by decide +kernel
theorem dX9_holeAt_86 : decode cX9_holeAt 86 = .ok (.iadd, 1) := by decide +kernel
theorem dX9_holeAt_87 : decode cX9_holeAt 87 = .ok (.iconst 1, 1) := by decide +kernel
theorem dX9_holeAt_88 : decode cX9_holeAt 88 = .ok (.isub, 1) := by decide +kernel
theorem dX9_holeAt_89 : decode cX9_holeAt 89 = .ok (.i2l, 1) := by decide +kernel
theorem dX9_holeAt_90 : decode cX9_holeAt 90 = .ok (.invokestatic 58, 3) := by decide +kernel
theorem dX9_holeAt_93 : decode cX9_holeAt 93 = .ok (.ifCond .eq 5, 3) := by decide +kernel
theorem dX9_holeAt_96 : decode cX9_holeAt 96 = .ok (.iload_n 3, 1) := by decide +kernel
theorem dX9_holeAt_97 : decode cX9_holeAt 97 = .ok (.ireturn, 1) := by decide +kernel
theorem dX9_holeAt_98 : decode cX9_holeAt 98 = .ok (.iinc 3 1, 3) := by decide +kernel
theorem dX9_holeAt_101 : decode cX9_holeAt 101 = .ok (.goto (-99), 3) := by decide +kernel
theorem dX9_holeAt_104 : decode cX9_holeAt 104 = .ok (.bipush (-4), 2) := by decide +kernel
theorem dX9_holeAt_106 : decode cX9_holeAt 106 = .ok (.ireturn, 1) := by decide +kernel
theorem dX9_clampAt_0 : decode cX9_clampAt 0 = .ok (.iconst 0, 1) := by decide +kernel
theorem dX9_clampAt_1 : decode cX9_clampAt 1 = .ok (.istore_n 3, 1) := by decide +kernel
theorem dX9_clampAt_2 : decode cX9_clampAt 2 = .ok (.iload_n 3, 1) := by decide +kernel
theorem dX9_clampAt_3 : decode cX9_clampAt 3 = .ok (.aload_n 0, 1) := by decide +kernel
theorem dX9_clampAt_4 : decode cX9_clampAt 4 = .ok (.getfield 13, 3) := by decide +kernel
theorem dX9_clampAt_7 : decode cX9_clampAt 7 = .ok (.iconst 4, 1) := by decide +kernel
theorem dX9_clampAt_8 : decode cX9_clampAt 8 = .ok (.iaload, 1) := by decide +kernel
theorem dX9_clampAt_9 : decode cX9_clampAt 9 = .ok (.if_icmp .ge 55, 3) := by decide +kernel
theorem dX9_clampAt_12 : decode cX9_clampAt 12 = .ok (.iload_n 2, 1) := by decide +kernel
theorem dX9_clampAt_13 : decode cX9_clampAt 13 = .ok (.aload_n 0, 1) := by decide +kernel
theorem dX9_clampAt_14 : decode cX9_clampAt 14 = .ok (.getfield 13, 3) := by decide +kernel
theorem dX9_clampAt_17 : decode cX9_clampAt 17 = .ok (.iconst 1, 1) := by decide +kernel
theorem dX9_clampAt_18 : decode cX9_clampAt 18 = .ok (.iaload, 1) := by decide +kernel
theorem dX9_clampAt_19 : decode cX9_clampAt 19 = .ok (.iconst 1, 1) := by decide +kernel
theorem dX9_clampAt_20 : decode cX9_clampAt 20 = .ok (.isub, 1) := by decide +kernel
theorem dX9_clampAt_21 : decode cX9_clampAt 21 = .ok (.if_icmp .ne 37, 3) := by decide +kernel
theorem dX9_clampAt_24 : decode cX9_clampAt 24 = .ok (.iload_n 1, 1) := by decide +kernel
theorem dX9_clampAt_25 : decode cX9_clampAt 25 = .ok (.i2l, 1) := by decide +kernel
theorem dX9_clampAt_26 : decode cX9_clampAt 26 = .ok (.aload_n 0, 1) := by decide +kernel
theorem dX9_clampAt_27 : decode cX9_clampAt 27 = .ok (.getfield 19, 3) := by decide +kernel
theorem dX9_clampAt_30 : decode cX9_clampAt 30 = .ok (.sipush 151, 3) := by decide +kernel
theorem dX9_clampAt_33 : decode cX9_clampAt 33 = .ok (.iload_n 3, 1) := by decide +kernel
theorem dX9_clampAt_34 : decode cX9_clampAt 34 = .ok (.iadd, 1) := by decide +kernel
theorem dX9_clampAt_35 : decode cX9_clampAt 35 = .ok (.iaload, 1) := by decide +kernel
theorem dX9_clampAt_36 : decode cX9_clampAt 36 = .ok (.i2l, 1) := by decide +kernel
theorem dX9_clampAt_37 : decode cX9_clampAt 37 = .ok (.aload_n 0, 1) := by decide +kernel
theorem dX9_clampAt_38 : decode cX9_clampAt 38 = .ok (.getfield 19, 3) := by decide +kernel
theorem dX9_clampAt_41 : decode cX9_clampAt 41 = .ok (.sipush 151, 3) := by decide +kernel
theorem dX9_clampAt_44 : decode cX9_clampAt 44 = .ok (.iload_n 3, 1) := by decide +kernel
theorem dX9_clampAt_45 : decode cX9_clampAt 45 = .ok (.iadd, 1) := by decide +kernel
theorem dX9_clampAt_46 : decode cX9_clampAt 46 = .ok (.iaload, 1) := by decide +kernel
theorem dX9_clampAt_47 : decode cX9_clampAt 47 = .ok (.iconst 1, 1) := by decide +kernel
theorem dX9_clampAt_48 : decode cX9_clampAt 48 = .ok (.iadd, 1) := by decide +kernel
theorem dX9_clampAt_49 : decode cX9_clampAt 49 = .ok (.i2l, 1) := by decide +kernel
theorem dX9_clampAt_50 : decode cX9_clampAt 50 = .ok (.invokestatic 58, 3) := by decide +kernel
theorem dX9_clampAt_53 : decode cX9_clampAt 53 = .ok (.ifCond .eq 5, 3) := by decide +kernel
theorem dX9_clampAt_56 : decode cX9_clampAt 56 = .ok (.iload_n 3, 1) := by decide +kernel
theorem dX9_clampAt_57 : decode cX9_clampAt 57 = .ok (.ireturn, 1) := by decide +kernel
theorem dX9_clampAt_58 : decode cX9_clampAt 58 = .ok (.iinc 3 1, 3) := by decide +kernel
theorem dX9_clampAt_61 : decode cX9_clampAt 61 = .ok (.goto (-59), 3) := by decide +kernel
theorem dX9_clampAt_64 : decode cX9_clampAt 64 = .ok (.bipush (-4), 2) := by decide +kernel
theorem dX9_clampAt_66 : decode cX9_clampAt 66 = .ok (.ireturn, 1) := by decide +kernel
theorem dX9_wide_0 : decode cX9_wide 0 = .ok (.aload_n 0, 1) := by decide +kernel
theorem dX9_wide_1 : decode cX9_wide 1 = .ok (.getfield 13, 3) := by decide +kernel
theorem dX9_wide_4 : decode cX9_wide 4 = .ok (.iconst 5, 1) := by decide +kernel
theorem dX9_wide_5 : decode cX9_wide 5 = .ok (.iconst 4, 1) := by decide +kernel
theorem dX9_wide_6 : decode cX9_wide 6 = .ok (.iload_n 1, 1) := by decide +kernel
theorem dX9_wide_7 : decode cX9_wide 7 = .ok (.imul, 1) := by decide +kernel
theorem dX9_wide_8 : decode cX9_wide 8 = .ok (.iadd, 1) := by decide +kernel
theorem dX9_wide_9 : decode cX9_wide 9 = .ok (.iload_n 2, 1) := by decide +kernel
theorem dX9_wide_10 : decode cX9_wide 10 = .ok (.iconst 1, 1) := by decide +kernel
theorem dX9_wide_11 : decode cX9_wide 11 = .ok (.if_icmp .ne 7, 3) := by decide +kernel
theorem dX9_wide_14 : decode cX9_wide 14 = .ok (.iconst 1, 1) := by decide +kernel
theorem dX9_wide_15 : decode cX9_wide 15 = .ok (.goto 4, 3) := by decide +kernel
theorem dX9_wide_18 : decode cX9_wide 18 = .ok (.iconst 0, 1) := by decide +kernel
theorem dX9_wide_19 : decode cX9_wide 19 = .ok (.iadd, 1) := by decide +kernel
theorem dX9_wide_20 : decode cX9_wide 20 = .ok (.iaload, 1) := by decide +kernel
theorem dX9_wide_21 : decode cX9_wide 21 = .ok (.ireturn, 1) := by decide +kernel
theorem dX9_high_0 : decode cX9_high 0 = .ok (.aload_n 0, 1) := by decide +kernel
theorem dX9_high_1 : decode cX9_high 1 = .ok (.getfield 13, 3) := by decide +kernel
theorem dX9_high_4 : decode cX9_high 4 = .ok (.iconst 5, 1) := by decide +kernel
theorem dX9_high_5 : decode cX9_high 5 = .ok (.iconst 4, 1) := by decide +kernel
theorem dX9_high_6 : decode cX9_high 6 = .ok (.iload_n 1, 1) := by decide +kernel
theorem dX9_high_7 : decode cX9_high 7 = .ok (.imul, 1) := by decide +kernel
theorem dX9_high_8 : decode cX9_high 8 = .ok (.iadd, 1) := by decide +kernel
theorem dX9_high_9 : decode cX9_high 9 = .ok (.iload_n 2, 1) := by decide +kernel
theorem dX9_high_10 : decode cX9_high 10 = .ok (.iconst 1, 1) := by decide +kernel
theorem dX9_high_11 : decode cX9_high 11 = .ok (.if_icmp .ne 7, 3) := by decide +kernel
theorem dX9_high_14 : decode cX9_high 14 = .ok (.iconst 0, 1) := by decide +kernel
theorem dX9_high_15 : decode cX9_high 15 = .ok (.goto 4, 3) := by decide +kernel
theorem dX9_high_18 : decode cX9_high 18 = .ok (.iconst 1, 1) := by decide +kernel
theorem dX9_high_19 : decode cX9_high 19 = .ok (.iadd, 1) := by decide +kernel
theorem dX9_high_20 : decode cX9_high 20 = .ok (.iaload, 1) := by decide +kernel
theorem dX9_high_21 : decode cX9_high 21 = .ok (.ireturn, 1) := by decide +kernel
theorem dX9_isDull_0 : decode cX9_isDull 0 = .ok (.aload_n 0, 1) := by decide +kernel
theorem dX9_isDull_1 : decode cX9_isDull 1 = .ok (.getfield 19, 3) := by decide +kernel
theorem dX9_isDull_4 : decode cX9_isDull 4 = .ok (.sipush 144, 3) := by decide +kernel
theorem dX9_isDull_7 : decode cX9_isDull 7 = .ok (.iload_n 1, 1) := by decide +kernel
theorem dX9_isDull_8 : decode cX9_isDull 8 = .ok (.iadd, 1) := by decide +kernel
theorem dX9_isDull_9 : decode cX9_isDull 9 = .ok (.iaload, 1) := by decide +kernel
theorem dX9_isDull_10 : decode cX9_isDull 10 = .ok (.aload_n 0, 1) := by decide +kernel
theorem dX9_isDull_11 : decode cX9_isDull 11 = .ok (.getfield 13, 3) := by decide +kernel
theorem dX9_isDull_14 : decode cX9_isDull 14 = .ok (.iconst 5, 1) := by decide +kernel
theorem dX9_isDull_15 : decode cX9_isDull 15 = .ok (.iconst 4, 1) := by decide +kernel
theorem dX9_isDull_16 : decode cX9_isDull 16 = .ok (.iload_n 1, 1) := by decide +kernel
theorem dX9_isDull_17 : decode cX9_isDull 17 = .ok (.imul, 1) := by decide +kernel
theorem dX9_isDull_18 : decode cX9_isDull 18 = .ok (.iadd, 1) := by decide +kernel
theorem dX9_isDull_19 : decode cX9_isDull 19 = .ok (.iconst 3, 1) := by decide +kernel
theorem dX9_isDull_20 : decode cX9_isDull 20 = .ok (.iadd, 1) := by decide +kernel
theorem dX9_isDull_21 : decode cX9_isDull 21 = .ok (.iaload, 1) := by decide +kernel
theorem dX9_isDull_22 : decode cX9_isDull 22 = .ok (.if_icmp .lt 7, 3) := by decide +kernel
theorem dX9_isDull_25 : decode cX9_isDull 25 = .ok (.iconst 1, 1) := by decide +kernel
theorem dX9_isDull_26 : decode cX9_isDull 26 = .ok (.goto 4, 3) := by decide +kernel
theorem dX9_isDull_29 : decode cX9_isDull 29 = .ok (.iconst 0, 1) := by decide +kernel
theorem dX9_isDull_30 : decode cX9_isDull 30 = .ok (.ireturn, 1) := by decide +kernel
theorem dX9_ring_0 : decode cX9_ring 0 = .ok (.iload_n 1, 1) := by decide +kernel
theorem dX9_ring_1 : decode cX9_ring 1 = .ok (.iload_n 2, 1) := by decide +kernel
theorem dX9_ring_2 : decode cX9_ring 2 = .ok (.if_icmp .le 9, 3) := by decide +kernel
theorem dX9_ring_5 : decode cX9_ring 5 = .ok (.iload_n 1, 1) := by decide +kernel
theorem dX9_ring_6 : decode cX9_ring 6 = .ok (.iload_n 2, 1) := by decide +kernel
theorem dX9_ring_7 : decode cX9_ring 7 = .ok (.isub, 1) := by decide +kernel
theorem dX9_ring_8 : decode cX9_ring 8 = .ok (.goto 6, 3) := by decide +kernel
theorem dX9_ring_11 : decode cX9_ring 11 = .ok (.iload_n 2, 1) := by decide +kernel
theorem dX9_ring_12 : decode cX9_ring 12 = .ok (.iload_n 1, 1) := by decide +kernel
theorem dX9_ring_13 : decode cX9_ring 13 = .ok (.isub, 1) := by decide +kernel
theorem dX9_ring_14 : decode cX9_ring 14 = .ok (.istore_n 3, 1) := by decide +kernel
theorem dX9_ring_15 : decode cX9_ring 15 = .ok (.iconst 2, 1) := by decide +kernel
theorem dX9_ring_16 : decode cX9_ring 16 = .ok (.iload_n 3, 1) := by decide +kernel
theorem dX9_ring_17 : decode cX9_ring 17 = .ok (.imul, 1) := by decide +kernel
theorem dX9_ring_18 : decode cX9_ring 18 = .ok (.aload_n 0, 1) := by decide +kernel
theorem dX9_ring_19 : decode cX9_ring 19 = .ok (.getfield 13, 3) := by decide +kernel
theorem dX9_ring_22 : decode cX9_ring 22 = .ok (.iconst 2, 1) := by decide +kernel
theorem dX9_ring_23 : decode cX9_ring 23 = .ok (.iaload, 1) := by decide +kernel
theorem dX9_ring_24 : decode cX9_ring 24 = .ok (.if_icmp .le 14, 3) := by decide +kernel
theorem dX9_ring_27 : decode cX9_ring 27 = .ok (.aload_n 0, 1) := by decide +kernel
theorem dX9_ring_28 : decode cX9_ring 28 = .ok (.getfield 13, 3) := by decide +kernel
theorem dX9_ring_31 : decode cX9_ring 31 = .ok (.iconst 2, 1) := by decide +kernel
theorem dX9_ring_32 : decode cX9_ring 32 = .ok (.iaload, 1) := by decide +kernel
theorem dX9_ring_33 : decode cX9_ring 33 = .ok (.iload_n 3, 1) := by decide +kernel
theorem dX9_ring_34 : decode cX9_ring 34 = .ok (.isub, 1) := by decide +kernel
theorem dX9_ring_35 : decode cX9_ring 35 = .ok (.goto 4, 3) := by decide +kernel
theorem dX9_ring_38 : decode cX9_ring 38 = .ok (.iload_n 3, 1) := by decide +kernel
theorem dX9_ring_39 : decode cX9_ring 39 = .ok (.ireturn, 1) := by decide +kernel
theorem dX9_whyNot_0 : decode cX9_whyNot 0 = .ok (.aload_n 0, 1) := by decide +kernel
theorem dX9_whyNot_1 : decode cX9_whyNot 1 = .ok (.iload_n 1, 1) := by decide +kernel
theorem dX9_whyNot_2 : decode cX9_whyNot 2 = .ok (.iload 4, 2) := by decide +kernel
theorem dX9_whyNot_4 : decode cX9_whyNot 4 = .ok (.invokevirtual 114, 3) := by decide +kernel
theorem dX9_whyNot_7 : decode cX9_whyNot 7 = .ok (.istore 5, 2) := by decide +kernel
theorem dX9_whyNot_9 : decode cX9_whyNot 9 = .ok (.aload_n 0, 1) := by decide +kernel
theorem dX9_whyNot_10 : decode cX9_whyNot 10 = .ok (.iload_n 1, 1) := by decide +kernel
theorem dX9_whyNot_11 : decode cX9_whyNot 11 = .ok (.iload 4, 2) := by decide +kernel
theorem dX9_whyNot_13 : decode cX9_whyNot 13 = .ok (.invokevirtual 118, 3) := by decide +kernel
theorem dX9_whyNot_16 : decode cX9_whyNot 16 = .ok (.istore 6, 2) := by decide +kernel
theorem dX9_whyNot_18 : decode cX9_whyNot 18 = .ok (.iload 4, 2) := by decide +kernel
theorem dX9_whyNot_20 : decode cX9_whyNot 20 = .ok (.iconst 1, 1) := by decide +kernel
theorem dX9_whyNot_21 : decode cX9_whyNot 21 = .ok (.if_icmp .ne 20, 3) := by decide +kernel
theorem dX9_whyNot_24 : decode cX9_whyNot 24 = .ok (.aload_n 0, 1) := by decide +kernel
theorem dX9_whyNot_25 : decode cX9_whyNot 25 = .ok (.getfield 13, 3) := by decide +kernel
theorem dX9_whyNot_28 : decode cX9_whyNot 28 = .ok (.iconst 5, 1) := by decide +kernel
theorem dX9_whyNot_29 : decode cX9_whyNot 29 = .ok (.iconst 4, 1) := by decide +kernel
theorem dX9_whyNot_30 : decode cX9_whyNot 30 = .ok (.iload_n 1, 1) := by decide +kernel
theorem dX9_whyNot_31 : decode cX9_whyNot 31 = .ok (.imul, 1) := by decide +kernel
theorem dX9_whyNot_32 : decode cX9_whyNot 32 = .ok (.iadd, 1) := by decide +kernel
theorem dX9_whyNot_33 : decode cX9_whyNot 33 = .ok (.iconst 2, 1) := by decide +kernel
theorem dX9_whyNot_34 : decode cX9_whyNot 34 = .ok (.iadd, 1) := by decide +kernel
theorem dX9_whyNot_35 : decode cX9_whyNot 35 = .ok (.iaload, 1) := by decide +kernel
theorem dX9_whyNot_36 : decode cX9_whyNot 36 = .ok (.ifCond .ne 5, 3) := by decide +kernel
theorem dX9_whyNot_39 : decode cX9_whyNot 39 = .ok (.iconst 1, 1) := by decide +kernel
theorem dX9_whyNot_40 : decode cX9_whyNot 40 = .ok (.ireturn, 1) := by decide +kernel
theorem dX9_whyNot_41 : decode cX9_whyNot 41 = .ok (.aload_n 0, 1) := by decide +kernel
theorem dX9_whyNot_42 : decode cX9_whyNot 42 = .ok (.iload_n 2, 1) := by decide +kernel
theorem dX9_whyNot_43 : decode cX9_whyNot 43 = .ok (.iload_n 3, 1) := by decide +kernel
theorem dX9_whyNot_44 : decode cX9_whyNot 44 = .ok (.invokevirtual 121, 3) := by decide +kernel
theorem dX9_whyNot_47 : decode cX9_whyNot 47 = .ok (.ifCond .eq 22, 3) := by decide +kernel
theorem dX9_whyNot_50 : decode cX9_whyNot 50 = .ok (.aload_n 0, 1) := by decide +kernel
theorem dX9_whyNot_51 : decode cX9_whyNot 51 = .ok (.iload_n 2, 1) := by decide +kernel
theorem dX9_whyNot_52 : decode cX9_whyNot 52 = .ok (.iload 5, 2) := by decide +kernel
theorem dX9_whyNot_54 : decode cX9_whyNot 54 = .ok (.iadd, 1) := by decide +kernel
theorem dX9_whyNot_55 : decode cX9_whyNot 55 = .ok (.iconst 1, 1) := by decide +kernel
theorem dX9_whyNot_56 : decode cX9_whyNot 56 = .ok (.isub, 1) := by decide +kernel
theorem dX9_whyNot_57 : decode cX9_whyNot 57 = .ok (.iload_n 3, 1) := by decide +kernel
theorem dX9_whyNot_58 : decode cX9_whyNot 58 = .ok (.iload 6, 2) := by decide +kernel
theorem dX9_whyNot_60 : decode cX9_whyNot 60 = .ok (.iadd, 1) := by decide +kernel
theorem dX9_whyNot_61 : decode cX9_whyNot 61 = .ok (.iconst 1, 1) := by decide +kernel
theorem dX9_whyNot_62 : decode cX9_whyNot 62 = .ok (.isub, 1) := by decide +kernel
theorem dX9_whyNot_63 : decode cX9_whyNot 63 = .ok (.invokevirtual 121, 3) := by decide +kernel
theorem dX9_whyNot_66 : decode cX9_whyNot 66 = .ok (.ifCond .ne 5, 3) := by decide +kernel
theorem dX9_whyNot_69 : decode cX9_whyNot 69 = .ok (.iconst 2, 1) := by decide +kernel
theorem dX9_whyNot_70 : decode cX9_whyNot 70 = .ok (.ireturn, 1) := by decide +kernel
theorem dX9_whyNot_71 : decode cX9_whyNot 71 = .ok (.iconst 0, 1) := by decide +kernel
theorem dX9_whyNot_72 : decode cX9_whyNot 72 = .ok (.istore 7, 2) := by decide +kernel
theorem dX9_whyNot_74 : decode cX9_whyNot 74 = .ok (.iconst 0, 1) := by decide +kernel
theorem dX9_whyNot_75 : decode cX9_whyNot 75 = .ok (.istore 8, 2) := by decide +kernel
theorem dX9_whyNot_77 : decode cX9_whyNot 77 = .ok (.iconst 1, 1) := by decide +kernel
theorem dX9_whyNot_78 : decode cX9_whyNot 78 = .ok (.istore 9, 2) := by decide +kernel
theorem dX9_whyNot_80 : decode cX9_whyNot 80 = .ok (.iconst 0, 1) := by decide +kernel
theorem dX9_whyNot_81 : decode cX9_whyNot 81 = .ok (.istore 10, 2) := by decide +kernel
theorem dX9_whyNot_83 : decode cX9_whyNot 83 = .ok (.iload 10, 2) := by decide +kernel
theorem dX9_whyNot_85 : decode cX9_whyNot 85 = .ok (.iload 5, 2) := by decide +kernel
theorem dX9_whyNot_87 : decode cX9_whyNot 87 = .ok (.iload 6, 2) := by decide +kernel
theorem dX9_whyNot_89 : decode cX9_whyNot 89 = .ok (.imul, 1) := by decide +kernel
theorem dX9_whyNot_90 : decode cX9_whyNot 90 = .ok (.if_icmp .ge 121, 3) := by decide +kernel
theorem dX9_whyNot_93 : decode cX9_whyNot 93 = .ok (.iload_n 2, 1) := by decide +kernel
theorem dX9_whyNot_94 : decode cX9_whyNot 94 = .ok (.iload 10, 2) := by decide +kernel
theorem dX9_whyNot_96 : decode cX9_whyNot 96 = .ok (.iload 5, 2) := by decide +kernel
theorem dX9_whyNot_98 : decode cX9_whyNot 98 = .ok (.irem, 1) := by decide +kernel
theorem dX9_whyNot_99 : decode cX9_whyNot 99 = .ok (.iadd, 1) := by decide +kernel
theorem dX9_whyNot_100 : decode cX9_whyNot 100 = .ok (.istore 11, 2) := by decide +kernel
theorem dX9_whyNot_102 : decode cX9_whyNot 102 = .ok (.iload_n 3, 1) := by decide +kernel
theorem dX9_whyNot_103 : decode cX9_whyNot 103 = .ok (.iload 10, 2) := by decide +kernel
theorem dX9_whyNot_105 : decode cX9_whyNot 105 = .ok (.iload 5, 2) := by decide +kernel
theorem dX9_whyNot_107 : decode cX9_whyNot 107 = .ok (.idiv, 1) := by decide +kernel
theorem dX9_whyNot_108 : decode cX9_whyNot 108 = .ok (.iadd, 1) := by decide +kernel
theorem dX9_whyNot_109 : decode cX9_whyNot 109 = .ok (.istore 12, 2) := by decide +kernel
theorem dX9_whyNot_111 : decode cX9_whyNot 111 = .ok (.aload_n 0, 1) := by decide +kernel
theorem dX9_whyNot_112 : decode cX9_whyNot 112 = .ok (.iload 11, 2) := by decide +kernel
theorem dX9_whyNot_114 : decode cX9_whyNot 114 = .ok (.iload 12, 2) := by decide +kernel
theorem dX9_whyNot_116 : decode cX9_whyNot 116 = .ok (.invokevirtual 124, 3) := by decide +kernel
theorem dX9_whyNot_119 : decode cX9_whyNot 119 = .ok (.istore 13, 2) := by decide +kernel
theorem dX9_whyNot_121 : decode cX9_whyNot 121 = .ok (.iload 7, 2) := by decide +kernel
theorem dX9_whyNot_123 : decode cX9_whyNot 123 = .ok (.ifCond .ne 21, 3) := by decide +kernel
theorem dX9_whyNot_126 : decode cX9_whyNot 126 = .ok (.iload 13, 2) := by decide +kernel
theorem dX9_whyNot_128 : decode cX9_whyNot 128 = .ok (.bipush (-4), 2) := by decide +kernel
theorem dX9_whyNot_130 : decode cX9_whyNot 130 = .ok (.if_icmp .eq 14, 3) := by decide +kernel
theorem dX9_whyNot_133 : decode cX9_whyNot 133 = .ok (.iload 13, 2) := by decide +kernel
theorem dX9_whyNot_135 : decode cX9_whyNot 135 = .ok (.aload_n 0, 1) := by decide +kernel
theorem dX9_whyNot_136 : decode cX9_whyNot 136 = .ok (.iload_n 2, 1) := by decide +kernel
theorem dX9_whyNot_137 : decode cX9_whyNot 137 = .ok (.iload_n 3, 1) := by decide +kernel
theorem dX9_whyNot_138 : decode cX9_whyNot 138 = .ok (.invokevirtual 124, 3) := by decide +kernel
theorem dX9_whyNot_141 : decode cX9_whyNot 141 = .ok (.if_icmp .eq 7, 3) := by decide +kernel
theorem dX9_whyNot_144 : decode cX9_whyNot 144 = .ok (.iconst 1, 1) := by decide +kernel
theorem dX9_whyNot_145 : decode cX9_whyNot 145 = .ok (.goto 4, 3) := by decide +kernel
theorem dX9_whyNot_148 : decode cX9_whyNot 148 = .ok (.iconst 0, 1) := by decide +kernel
theorem dX9_whyNot_149 : decode cX9_whyNot 149 = .ok (.istore 7, 2) := by decide +kernel
theorem dX9_whyNot_151 : decode cX9_whyNot 151 = .ok (.iload 8, 2) := by decide +kernel
theorem dX9_whyNot_153 : decode cX9_whyNot 153 = .ok (.ifCond .ne 16, 3) := by decide +kernel
theorem dX9_whyNot_156 : decode cX9_whyNot 156 = .ok (.aload_n 0, 1) := by decide +kernel
theorem dX9_whyNot_157 : decode cX9_whyNot 157 = .ok (.iload 11, 2) := by decide +kernel
theorem dX9_whyNot_159 : decode cX9_whyNot 159 = .ok (.iload 12, 2) := by decide +kernel
theorem dX9_whyNot_161 : decode cX9_whyNot 161 = .ok (.invokevirtual 127, 3) := by decide +kernel
theorem dX9_whyNot_164 : decode cX9_whyNot 164 = .ok (.bipush (-4), 2) := by decide +kernel
theorem dX9_whyNot_166 : decode cX9_whyNot 166 = .ok (.if_icmp .eq 7, 3) := by decide +kernel
theorem dX9_whyNot_169 : decode cX9_whyNot 169 = .ok (.iconst 1, 1) := by decide +kernel
theorem dX9_whyNot_170 : decode cX9_whyNot 170 = .ok (.goto 4, 3) := by decide +kernel
theorem dX9_whyNot_173 : decode cX9_whyNot 173 = .ok (.iconst 0, 1) := by decide +kernel
theorem dX9_whyNot_174 : decode cX9_whyNot 174 = .ok (.istore 8, 2) := by decide +kernel
theorem dX9_whyNot_176 : decode cX9_whyNot 176 = .ok (.iload 9, 2) := by decide +kernel
theorem dX9_whyNot_178 : decode cX9_whyNot 178 = .ok (.ifCond .eq 24, 3) := by decide +kernel
theorem dX9_whyNot_181 : decode cX9_whyNot 181 = .ok (.aload_n 0, 1) := by decide +kernel
theorem dX9_whyNot_182 : decode cX9_whyNot 182 = .ok (.getfield 19, 3) := by decide +kernel
theorem dX9_whyNot_185 : decode cX9_whyNot 185 = .ok (.bipush 12, 2) := by decide +kernel
theorem dX9_whyNot_187 : decode cX9_whyNot 187 = .ok (.iload 12, 2) := by decide +kernel
theorem dX9_whyNot_189 : decode cX9_whyNot 189 = .ok (.imul, 1) := by decide +kernel
theorem dX9_whyNot_190 : decode cX9_whyNot 190 = .ok (.iload 11, 2) := by decide +kernel
theorem dX9_whyNot_192 : decode cX9_whyNot 192 = .ok (.iadd, 1) := by decide +kernel
theorem dX9_whyNot_193 : decode cX9_whyNot 193 = .ok (.iaload, 1) := by decide +kernel
theorem dX9_whyNot_194 : decode cX9_whyNot 194 = .ok (.iconst 1, 1) := by decide +kernel
theorem dX9_whyNot_195 : decode cX9_whyNot 195 = .ok (.if_icmp .ne 7, 3) := by decide +kernel
theorem dX9_whyNot_198 : decode cX9_whyNot 198 = .ok (.iconst 1, 1) := by decide +kernel
theorem dX9_whyNot_199 : decode cX9_whyNot 199 = .ok (.goto 4, 3) := by decide +kernel
theorem dX9_whyNot_202 : decode cX9_whyNot 202 = .ok (.iconst 0, 1) := by decide +kernel
theorem dX9_whyNot_203 : decode cX9_whyNot 203 = .ok (.istore 9, 2) := by decide +kernel
theorem dX9_whyNot_205 : decode cX9_whyNot 205 = .ok (.iinc 10 1, 3) := by decide +kernel
theorem dX9_whyNot_208 : decode cX9_whyNot 208 = .ok (.goto (-125), 3) := by decide +kernel
theorem dX9_whyNot_211 : decode cX9_whyNot 211 = .ok (.iload 7, 2) := by decide +kernel
theorem dX9_whyNot_213 : decode cX9_whyNot 213 = .ok (.ifCond .eq 7, 3) := by decide +kernel
theorem dX9_whyNot_216 : decode cX9_whyNot 216 = .ok (.iconst 3, 1) := by decide +kernel
theorem dX9_whyNot_217 : decode cX9_whyNot 217 = .ok (.goto 35, 3) := by decide +kernel
theorem dX9_whyNot_220 : decode cX9_whyNot 220 = .ok (.iload 8, 2) := by decide +kernel
theorem dX9_whyNot_222 : decode cX9_whyNot 222 = .ok (.ifCond .eq 7, 3) := by decide +kernel
theorem dX9_whyNot_225 : decode cX9_whyNot 225 = .ok (.iconst 4, 1) := by decide +kernel
theorem dX9_whyNot_226 : decode cX9_whyNot 226 = .ok (.goto 26, 3) := by decide +kernel
theorem dX9_whyNot_229 : decode cX9_whyNot 229 = .ok (.iload 9, 2) := by decide +kernel
theorem dX9_whyNot_231 : decode cX9_whyNot 231 = .ok (.ifCond .eq 7, 3) := by decide +kernel
theorem dX9_whyNot_234 : decode cX9_whyNot 234 = .ok (.iconst 5, 1) := by decide +kernel
theorem dX9_whyNot_235 : decode cX9_whyNot 235 = .ok (.goto 17, 3) := by decide +kernel
theorem dX9_whyNot_238 : decode cX9_whyNot 238 = .ok (.aload_n 0, 1) := by decide +kernel
theorem dX9_whyNot_239 : decode cX9_whyNot 239 = .ok (.iload_n 1, 1) := by decide +kernel
theorem dX9_whyNot_240 : decode cX9_whyNot 240 = .ok (.invokevirtual 130, 3) := by decide +kernel
theorem dX9_whyNot_243 : decode cX9_whyNot 243 = .ok (.ifCond .eq 8, 3) := by decide +kernel
theorem dX9_whyNot_246 : decode cX9_whyNot 246 = .ok (.bipush 6, 2) := by decide +kernel
theorem dX9_whyNot_248 : decode cX9_whyNot 248 = .ok (.goto 4, 3) := by decide +kernel
theorem dX9_whyNot_251 : decode cX9_whyNot 251 = .ok (.iconst 0, 1) := by decide +kernel
theorem dX9_whyNot_252 : decode cX9_whyNot 252 = .ok (.ireturn, 1) := by decide +kernel
theorem dX9_why_0 : decode cX9_why 0 = .ok (.aload_n 0, 1) := by decide +kernel
theorem dX9_why_1 : decode cX9_why 1 = .ok (.iload_n 1, 1) := by decide +kernel
theorem dX9_why_2 : decode cX9_why 2 = .ok (.invokevirtual 134, 3) := by decide +kernel
theorem dX9_why_5 : decode cX9_why 5 = .ok (.ifCond .eq 50, 3) := by decide +kernel
theorem dX9_why_8 : decode cX9_why 8 = .ok (.iload_n 2, 1) := by decide +kernel
theorem dX9_why_9 : decode cX9_why 9 = .ok (.i2l, 1) := by decide +kernel
theorem dX9_why_10 : decode cX9_why 10 = .ok (.lconst 0, 1) := by decide +kernel
theorem dX9_why_11 : decode cX9_why 11 = .ok (.ldc2_w 137, 3) := by decide +kernel
theorem dX9_why_14 : decode cX9_why 14 = .ok (.invokestatic 58, 3) := by decide +kernel
theorem dX9_why_17 : decode cX9_why 17 = .ok (.ifCond .eq 38, 3) := by decide +kernel
theorem dX9_why_20 : decode cX9_why 20 = .ok (.iload_n 3, 1) := by decide +kernel
theorem dX9_why_21 : decode cX9_why 21 = .ok (.i2l, 1) := by decide +kernel
theorem dX9_why_22 : decode cX9_why 22 = .ok (.lconst 0, 1) := by decide +kernel
theorem dX9_why_23 : decode cX9_why 23 = .ok (.ldc2_w 137, 3) := by decide +kernel
theorem dX9_why_26 : decode cX9_why 26 = .ok (.invokestatic 58, 3) := by decide +kernel
theorem dX9_why_29 : decode cX9_why 29 = .ok (.ifCond .eq 26, 3) := by decide +kernel
theorem dX9_why_32 : decode cX9_why 32 = .ok (.iload 4, 2) := by decide +kernel
theorem dX9_why_34 : decode cX9_why 34 = .ok (.i2l, 1) := by decide +kernel
theorem dX9_why_35 : decode cX9_why 35 = .ok (.lconst 0, 1) := by decide +kernel
theorem dX9_why_36 : decode cX9_why 36 = .ok (.lconst 1, 1) := by decide +kernel
theorem dX9_why_37 : decode cX9_why 37 = .ok (.invokestatic 58, 3) := by decide +kernel
theorem dX9_why_40 : decode cX9_why 40 = .ok (.ifCond .eq 15, 3) := by decide +kernel
theorem dX9_why_43 : decode cX9_why 43 = .ok (.aload_n 0, 1) := by decide +kernel
theorem dX9_why_44 : decode cX9_why 44 = .ok (.iload_n 1, 1) := by decide +kernel
theorem dX9_why_45 : decode cX9_why 45 = .ok (.iload_n 2, 1) := by decide +kernel
theorem dX9_why_46 : decode cX9_why 46 = .ok (.iload_n 3, 1) := by decide +kernel
theorem dX9_why_47 : decode cX9_why 47 = .ok (.iload 4, 2) := by decide +kernel
theorem dX9_why_49 : decode cX9_why 49 = .ok (.invokevirtual 139, 3) := by decide +kernel
theorem dX9_why_52 : decode cX9_why 52 = .ok (.goto 4, 3) := by decide +kernel
theorem dX9_why_55 : decode cX9_why 55 = .ok (.iconst (-1), 1) := by decide +kernel
theorem dX9_why_56 : decode cX9_why 56 = .ok (.ireturn, 1) := by decide +kernel
theorem dX9_strikes_0 : decode cX9_strikes 0 = .ok (.aload_n 0, 1) := by decide +kernel
theorem dX9_strikes_1 : decode cX9_strikes 1 = .ok (.iload_n 1, 1) := by decide +kernel
theorem dX9_strikes_2 : decode cX9_strikes 2 = .ok (.iload 4, 2) := by decide +kernel
theorem dX9_strikes_4 : decode cX9_strikes 4 = .ok (.invokevirtual 114, 3) := by decide +kernel
theorem dX9_strikes_7 : decode cX9_strikes 7 = .ok (.istore 5, 2) := by decide +kernel
theorem dX9_strikes_9 : decode cX9_strikes 9 = .ok (.iconst 0, 1) := by decide +kernel
theorem dX9_strikes_10 : decode cX9_strikes 10 = .ok (.istore 6, 2) := by decide +kernel
theorem dX9_strikes_12 : decode cX9_strikes 12 = .ok (.iconst 0, 1) := by decide +kernel
theorem dX9_strikes_13 : decode cX9_strikes 13 = .ok (.istore 7, 2) := by decide +kernel
theorem dX9_strikes_15 : decode cX9_strikes 15 = .ok (.iload 7, 2) := by decide +kernel
theorem dX9_strikes_17 : decode cX9_strikes 17 = .ok (.iload 5, 2) := by decide +kernel
theorem dX9_strikes_19 : decode cX9_strikes 19 = .ok (.aload_n 0, 1) := by decide +kernel
theorem dX9_strikes_20 : decode cX9_strikes 20 = .ok (.iload_n 1, 1) := by decide +kernel
theorem dX9_strikes_21 : decode cX9_strikes 21 = .ok (.iload 4, 2) := by decide +kernel
theorem dX9_strikes_23 : decode cX9_strikes 23 = .ok (.invokevirtual 118, 3) := by decide +kernel
theorem dX9_strikes_26 : decode cX9_strikes 26 = .ok (.imul, 1) := by decide +kernel
theorem dX9_strikes_27 : decode cX9_strikes 27 = .ok (.if_icmp .ge 51, 3) := by decide +kernel
theorem dX9_strikes_30 : decode cX9_strikes 30 = .ok (.bipush 12, 2) := by decide +kernel
theorem dX9_strikes_32 : decode cX9_strikes 32 = .ok (.iload_n 3, 1) := by decide +kernel
theorem dX9_strikes_33 : decode cX9_strikes 33 = .ok (.iload 7, 2) := by decide +kernel
theorem dX9_strikes_35 : decode cX9_strikes 35 = .ok (.iload 5, 2) := by decide +kernel
theorem dX9_strikes_37 : decode cX9_strikes 37 = .ok (.idiv, 1) := by decide +kernel
theorem dX9_strikes_38 : decode cX9_strikes 38 = .ok (.iadd, 1) := by decide +kernel
theorem dX9_strikes_39 : decode cX9_strikes 39 = .ok (.imul, 1) := by decide +kernel
theorem dX9_strikes_40 : decode cX9_strikes 40 = .ok (.iload_n 2, 1) := by decide +kernel
theorem dX9_strikes_41 : decode cX9_strikes 41 = .ok (.iadd, 1) := by decide +kernel
theorem dX9_strikes_42 : decode cX9_strikes 42 = .ok (.iload 7, 2) := by decide +kernel
theorem dX9_strikes_44 : decode cX9_strikes 44 = .ok (.iload 5, 2) := by decide +kernel
theorem dX9_strikes_46 : decode cX9_strikes 46 = .ok (.irem, 1) := by decide +kernel
theorem dX9_strikes_47 : decode cX9_strikes 47 = .ok (.iadd, 1) := by decide +kernel
theorem dX9_strikes_48 : decode cX9_strikes 48 = .ok (.istore 8, 2) := by decide +kernel
theorem dX9_strikes_50 : decode cX9_strikes 50 = .ok (.iload 6, 2) := by decide +kernel
theorem dX9_strikes_52 : decode cX9_strikes 52 = .ok (.iconst 1, 1) := by decide +kernel
theorem dX9_strikes_53 : decode cX9_strikes 53 = .ok (.aload_n 0, 1) := by decide +kernel
theorem dX9_strikes_54 : decode cX9_strikes 54 = .ok (.getfield 19, 3) := by decide +kernel
theorem dX9_strikes_57 : decode cX9_strikes 57 = .ok (.iload 8, 2) := by decide +kernel
theorem dX9_strikes_59 : decode cX9_strikes 59 = .ok (.iaload, 1) := by decide +kernel
theorem dX9_strikes_60 : decode cX9_strikes 60 = .ok (.isub, 1) := by decide +kernel
theorem dX9_strikes_61 : decode cX9_strikes 61 = .ok (.iadd, 1) := by decide +kernel
theorem dX9_strikes_62 : decode cX9_strikes 62 = .ok (.istore 6, 2) := by decide +kernel
theorem dX9_strikes_64 : decode cX9_strikes 64 = .ok (.aload_n 0, 1) := by decide +kernel
theorem dX9_strikes_65 : decode cX9_strikes 65 = .ok (.getfield 19, 3) := by decide +kernel
theorem dX9_strikes_68 : decode cX9_strikes 68 = .ok (.iload 8, 2) := by decide +kernel
theorem dX9_strikes_70 : decode cX9_strikes 70 = .ok (.iconst 1, 1) := by decide +kernel
theorem dX9_strikes_71 : decode cX9_strikes 71 = .ok (.iastore, 1) := by decide +kernel
theorem dX9_strikes_72 : decode cX9_strikes 72 = .ok (.iinc 7 1, 3) := by decide +kernel
theorem dX9_strikes_75 : decode cX9_strikes 75 = .ok (.goto (-60), 3) := by decide +kernel
theorem dX9_strikes_78 : decode cX9_strikes 78 = .ok (.aload_n 0, 1) := by decide +kernel
theorem dX9_strikes_79 : decode cX9_strikes 79 = .ok (.getfield 19, 3) := by decide +kernel
theorem dX9_strikes_82 : decode cX9_strikes 82 = .ok (.sipush 144, 3) := by decide +kernel
theorem dX9_strikes_85 : decode cX9_strikes 85 = .ok (.iload_n 1, 1) := by decide +kernel
theorem dX9_strikes_86 : decode cX9_strikes 86 = .ok (.iadd, 1) := by decide +kernel
theorem dX9_strikes_87 : decode cX9_strikes 87 = .ok (.dup2, 1) := by decide +kernel
theorem dX9_strikes_88 : decode cX9_strikes 88 = .ok (.iaload, 1) := by decide +kernel
theorem dX9_strikes_89 : decode cX9_strikes 89 = .ok (.iconst 1, 1) := by decide +kernel
theorem dX9_strikes_90 : decode cX9_strikes 90 = .ok (.iadd, 1) := by decide +kernel
theorem dX9_strikes_91 : decode cX9_strikes 91 = .ok (.iastore, 1) := by decide +kernel
theorem dX9_strikes_92 : decode cX9_strikes 92 = .ok (.aload_n 0, 1) := by decide +kernel
theorem dX9_strikes_93 : decode cX9_strikes 93 = .ok (.getfield 19, 3) := by decide +kernel
theorem dX9_strikes_96 : decode cX9_strikes 96 = .ok (.sipush 153, 3) := by decide +kernel
theorem dX9_strikes_99 : decode cX9_strikes 99 = .ok (.dup2, 1) := by decide +kernel
theorem dX9_strikes_100 : decode cX9_strikes 100 = .ok (.iaload, 1) := by decide +kernel
theorem dX9_strikes_101 : decode cX9_strikes 101 = .ok (.iconst 1, 1) := by decide +kernel
theorem dX9_strikes_102 : decode cX9_strikes 102 = .ok (.iadd, 1) := by decide +kernel
theorem dX9_strikes_103 : decode cX9_strikes 103 = .ok (.iastore, 1) := by decide +kernel
theorem dX9_strikes_104 : decode cX9_strikes 104 = .ok (.aload_n 0, 1) := by decide +kernel
theorem dX9_strikes_105 : decode cX9_strikes 105 = .ok (.getfield 19, 3) := by decide +kernel
theorem dX9_strikes_108 : decode cX9_strikes 108 = .ok (.sipush 154, 3) := by decide +kernel
theorem dX9_strikes_111 : decode cX9_strikes 111 = .ok (.dup2, 1) := by decide +kernel
theorem dX9_strikes_112 : decode cX9_strikes 112 = .ok (.iaload, 1) := by decide +kernel
theorem dX9_strikes_113 : decode cX9_strikes 113 = .ok (.aload_n 0, 1) := by decide +kernel
theorem dX9_strikes_114 : decode cX9_strikes 114 = .ok (.aload_n 0, 1) := by decide +kernel
theorem dX9_strikes_115 : decode cX9_strikes 115 = .ok (.getfield 19, 3) := by decide +kernel
theorem dX9_strikes_118 : decode cX9_strikes 118 = .ok (.sipush 150, 3) := by decide +kernel
theorem dX9_strikes_121 : decode cX9_strikes 121 = .ok (.iaload, 1) := by decide +kernel
theorem dX9_strikes_122 : decode cX9_strikes 122 = .ok (.iload_n 1, 1) := by decide +kernel
theorem dX9_strikes_123 : decode cX9_strikes 123 = .ok (.invokevirtual 143, 3) := by decide +kernel
theorem dX9_strikes_126 : decode cX9_strikes 126 = .ok (.iadd, 1) := by decide +kernel
theorem dX9_strikes_127 : decode cX9_strikes 127 = .ok (.iastore, 1) := by decide +kernel
theorem dX9_strikes_128 : decode cX9_strikes 128 = .ok (.aload_n 0, 1) := by decide +kernel
theorem dX9_strikes_129 : decode cX9_strikes 129 = .ok (.getfield 19, 3) := by decide +kernel
theorem dX9_strikes_132 : decode cX9_strikes 132 = .ok (.sipush 150, 3) := by decide +kernel
theorem dX9_strikes_135 : decode cX9_strikes 135 = .ok (.iload_n 1, 1) := by decide +kernel
theorem dX9_strikes_136 : decode cX9_strikes 136 = .ok (.iastore, 1) := by decide +kernel
theorem dX9_strikes_137 : decode cX9_strikes 137 = .ok (.iload 6, 2) := by decide +kernel
theorem dX9_strikes_139 : decode cX9_strikes 139 = .ok (.ireturn, 1) := by decide +kernel
theorem dX9_hit_0 : decode cX9_hit 0 = .ok (.aload_n 0, 1) := by decide +kernel
theorem dX9_hit_1 : decode cX9_hit 1 = .ok (.iload_n 1, 1) := by decide +kernel
theorem dX9_hit_2 : decode cX9_hit 2 = .ok (.iload_n 2, 1) := by decide +kernel
theorem dX9_hit_3 : decode cX9_hit 3 = .ok (.iload_n 3, 1) := by decide +kernel
theorem dX9_hit_4 : decode cX9_hit 4 = .ok (.iload 4, 2) := by decide +kernel
theorem dX9_hit_6 : decode cX9_hit 6 = .ok (.invokevirtual 146, 3) := by decide +kernel
theorem dX9_hit_9 : decode cX9_hit 9 = .ok (.istore 5, 2) := by decide +kernel
theorem dX9_hit_11 : decode cX9_hit 11 = .ok (.iload 5, 2) := by decide +kernel
theorem dX9_hit_13 : decode cX9_hit 13 = .ok (.ifCond .eq 16, 3) := by decide +kernel
theorem dX9_hit_16 : decode cX9_hit 16 = .ok (.iload 5, 2) := by decide +kernel
theorem dX9_hit_18 : decode cX9_hit 18 = .ok (.iconst (-1), 1) := by decide +kernel
theorem dX9_hit_19 : decode cX9_hit 19 = .ok (.if_icmp .ne 7, 3) := by decide +kernel
theorem dX9_hit_22 : decode cX9_hit 22 = .ok (.iconst (-1), 1) := by decide +kernel
theorem dX9_hit_23 : decode cX9_hit 23 = .ok (.goto 5, 3) := by decide +kernel
theorem dX9_hit_26 : decode cX9_hit 26 = .ok (.bipush (-2), 2) := by decide +kernel
theorem dX9_hit_28 : decode cX9_hit 28 = .ok (.ireturn, 1) := by decide +kernel
theorem dX9_hit_29 : decode cX9_hit 29 = .ok (.aload_n 0, 1) := by decide +kernel
theorem dX9_hit_30 : decode cX9_hit 30 = .ok (.invokevirtual 149, 3) := by decide +kernel
theorem dX9_hit_33 : decode cX9_hit 33 = .ok (.aload_n 0, 1) := by decide +kernel
theorem dX9_hit_34 : decode cX9_hit 34 = .ok (.iload_n 1, 1) := by decide +kernel
theorem dX9_hit_35 : decode cX9_hit 35 = .ok (.iload_n 2, 1) := by decide +kernel
theorem dX9_hit_36 : decode cX9_hit 36 = .ok (.iload_n 3, 1) := by decide +kernel
theorem dX9_hit_37 : decode cX9_hit 37 = .ok (.iload 4, 2) := by decide +kernel
theorem dX9_hit_39 : decode cX9_hit 39 = .ok (.invokevirtual 152, 3) := by decide +kernel
theorem dX9_hit_42 : decode cX9_hit 42 = .ok (.ireturn, 1) := by decide +kernel
theorem dX9_open_0 : decode cX9_open 0 = .ok (.iconst 0, 1) := by decide +kernel
theorem dX9_open_1 : decode cX9_open 1 = .ok (.istore_n 2, 1) := by decide +kernel
theorem dX9_open_2 : decode cX9_open 2 = .ok (.iconst 0, 1) := by decide +kernel
theorem dX9_open_3 : decode cX9_open 3 = .ok (.istore_n 3, 1) := by decide +kernel
theorem dX9_open_4 : decode cX9_open 4 = .ok (.iload_n 3, 1) := by decide +kernel
theorem dX9_open_5 : decode cX9_open 5 = .ok (.sipush 144, 3) := by decide +kernel
theorem dX9_open_8 : decode cX9_open 8 = .ok (.if_icmp .ge 40, 3) := by decide +kernel
theorem dX9_open_11 : decode cX9_open 11 = .ok (.iload_n 2, 1) := by decide +kernel
theorem dX9_open_12 : decode cX9_open 12 = .ok (.aload_n 0, 1) := by decide +kernel
theorem dX9_open_13 : decode cX9_open 13 = .ok (.iload_n 3, 1) := by decide +kernel
theorem dX9_open_14 : decode cX9_open 14 = .ok (.bipush 12, 2) := by decide +kernel
theorem dX9_open_16 : decode cX9_open 16 = .ok (.irem, 1) := by decide +kernel
theorem dX9_open_17 : decode cX9_open 17 = .ok (.iload_n 3, 1) := by decide +kernel
theorem dX9_open_18 : decode cX9_open 18 = .ok (.bipush 12, 2) := by decide +kernel
theorem dX9_open_20 : decode cX9_open 20 = .ok (.idiv, 1) := by decide +kernel
theorem dX9_open_21 : decode cX9_open 21 = .ok (.invokevirtual 124, 3) := by decide +kernel
theorem dX9_open_24 : decode cX9_open 24 = .ok (.iload_n 1, 1) := by decide +kernel
theorem dX9_open_25 : decode cX9_open 25 = .ok (.if_icmp .ne 14, 3) := by decide +kernel
theorem dX9_open_28 : decode cX9_open 28 = .ok (.iconst 1, 1) := by decide +kernel
theorem dX9_open_29 : decode cX9_open 29 = .ok (.aload_n 0, 1) := by decide +kernel
theorem dX9_open_30 : decode cX9_open 30 = .ok (.getfield 19, 3) := by decide +kernel
theorem dX9_open_33 : decode cX9_open 33 = .ok (.iload_n 3, 1) := by decide +kernel
theorem dX9_open_34 : decode cX9_open 34 = .ok (.iaload, 1) := by decide +kernel
theorem dX9_open_35 : decode cX9_open 35 = .ok (.isub, 1) := by decide +kernel
theorem dX9_open_36 : decode cX9_open 36 = .ok (.goto 4, 3) := by decide +kernel
theorem dX9_open_39 : decode cX9_open 39 = .ok (.iconst 0, 1) := by decide +kernel
theorem dX9_open_40 : decode cX9_open 40 = .ok (.iadd, 1) := by decide +kernel
theorem dX9_open_41 : decode cX9_open 41 = .ok (.istore_n 2, 1) := by decide +kernel
theorem dX9_open_42 : decode cX9_open 42 = .ok (.iinc 3 1, 3) := by decide +kernel
theorem dX9_open_45 : decode cX9_open 45 = .ok (.goto (-41), 3) := by decide +kernel
theorem dX9_open_48 : decode cX9_open 48 = .ok (.iload_n 2, 1) := by decide +kernel
theorem dX9_open_49 : decode cX9_open 49 = .ok (.ireturn, 1) := by decide +kernel
theorem dX9_parts_0 : decode cX9_parts 0 = .ok (.iload_n 0, 1) := by decide +kernel
theorem dX9_parts_1 : decode cX9_parts 1 = .ok (.iload_n 1, 1) := by decide +kernel
theorem dX9_parts_2 : decode cX9_parts 2 = .ok (.iadd, 1) := by decide +kernel
theorem dX9_parts_3 : decode cX9_parts 3 = .ok (.iconst 1, 1) := by decide +kernel
end
section
theorem dX9_parts_4 : decode cX9_parts 4 = .ok (.isub, 1) := by decide +kernel
theorem dX9_parts_5 : decode cX9_parts 5 = .ok (.iload_n 1, 1) := by decide +kernel
theorem dX9_parts_6 : decode cX9_parts 6 = .ok (.idiv, 1) := by decide +kernel
theorem dX9_parts_7 : decode cX9_parts 7 = .ok (.ireturn, 1) := by decide +kernel
theorem dX9_nibbles_0 : decode cX9_nibbles 0 = .ok (.aload_n 0, 1) := by decide +kernel
theorem dX9_nibbles_1 : decode cX9_nibbles 1 = .ok (.iload_n 2, 1) := by decide +kernel
theorem dX9_nibbles_2 : decode cX9_nibbles 2 = .ok (.iload_n 3, 1) := by decide +kernel
theorem dX9_nibbles_3 : decode cX9_nibbles 3 = .ok (.invokevirtual 114, 3) := by decide +kernel
theorem dX9_nibbles_6 : decode cX9_nibbles 6 = .ok (.istore 4, 2) := by decide +kernel
theorem dX9_nibbles_8 : decode cX9_nibbles 8 = .ok (.aload_n 0, 1) := by decide +kernel
theorem dX9_nibbles_9 : decode cX9_nibbles 9 = .ok (.iload_n 2, 1) := by decide +kernel
theorem dX9_nibbles_10 : decode cX9_nibbles 10 = .ok (.iload_n 3, 1) := by decide +kernel
theorem dX9_nibbles_11 : decode cX9_nibbles 11 = .ok (.invokevirtual 118, 3) := by decide +kernel
theorem dX9_nibbles_14 : decode cX9_nibbles 14 = .ok (.istore 5, 2) := by decide +kernel
theorem dX9_nibbles_16 : decode cX9_nibbles 16 = .ok (.bipush 29, 2) := by decide +kernel
theorem dX9_nibbles_18 : decode cX9_nibbles 18 = .ok (.iconst 4, 1) := by decide +kernel
theorem dX9_nibbles_19 : decode cX9_nibbles 19 = .ok (.iload_n 1, 1) := by decide +kernel
theorem dX9_nibbles_20 : decode cX9_nibbles 20 = .ok (.imul, 1) := by decide +kernel
theorem dX9_nibbles_21 : decode cX9_nibbles 21 = .ok (.iadd, 1) := by decide +kernel
theorem dX9_nibbles_22 : decode cX9_nibbles 22 = .ok (.istore 6, 2) := by decide +kernel
theorem dX9_nibbles_24 : decode cX9_nibbles 24 = .ok (.iload_n 3, 1) := by decide +kernel
theorem dX9_nibbles_25 : decode cX9_nibbles 25 = .ok (.ifCond .eq 19, 3) := by decide +kernel
theorem dX9_nibbles_28 : decode cX9_nibbles 28 = .ok (.aload_n 0, 1) := by decide +kernel
theorem dX9_nibbles_29 : decode cX9_nibbles 29 = .ok (.getfield 13, 3) := by decide +kernel
theorem dX9_nibbles_32 : decode cX9_nibbles 32 = .ok (.iconst 5, 1) := by decide +kernel
theorem dX9_nibbles_33 : decode cX9_nibbles 33 = .ok (.iconst 4, 1) := by decide +kernel
theorem dX9_nibbles_34 : decode cX9_nibbles 34 = .ok (.iload_n 2, 1) := by decide +kernel
theorem dX9_nibbles_35 : decode cX9_nibbles 35 = .ok (.imul, 1) := by decide +kernel
theorem dX9_nibbles_36 : decode cX9_nibbles 36 = .ok (.iadd, 1) := by decide +kernel
theorem dX9_nibbles_37 : decode cX9_nibbles 37 = .ok (.iconst 2, 1) := by decide +kernel
theorem dX9_nibbles_38 : decode cX9_nibbles 38 = .ok (.iadd, 1) := by decide +kernel
theorem dX9_nibbles_39 : decode cX9_nibbles 39 = .ok (.iaload, 1) := by decide +kernel
theorem dX9_nibbles_40 : decode cX9_nibbles 40 = .ok (.iconst 1, 1) := by decide +kernel
theorem dX9_nibbles_41 : decode cX9_nibbles 41 = .ok (.if_icmp .ne 35, 3) := by decide +kernel
theorem dX9_nibbles_44 : decode cX9_nibbles 44 = .ok (.iload 4, 2) := by decide +kernel
theorem dX9_nibbles_46 : decode cX9_nibbles 46 = .ok (.aload_n 0, 1) := by decide +kernel
theorem dX9_nibbles_47 : decode cX9_nibbles 47 = .ok (.getfield 13, 3) := by decide +kernel
theorem dX9_nibbles_50 : decode cX9_nibbles 50 = .ok (.iload 6, 2) := by decide +kernel
theorem dX9_nibbles_52 : decode cX9_nibbles 52 = .ok (.iconst 2, 1) := by decide +kernel
theorem dX9_nibbles_53 : decode cX9_nibbles 53 = .ok (.iadd, 1) := by decide +kernel
theorem dX9_nibbles_54 : decode cX9_nibbles 54 = .ok (.iaload, 1) := by decide +kernel
theorem dX9_nibbles_55 : decode cX9_nibbles 55 = .ok (.if_icmp .gt 21, 3) := by decide +kernel
theorem dX9_nibbles_58 : decode cX9_nibbles 58 = .ok (.iload 5, 2) := by decide +kernel
theorem dX9_nibbles_60 : decode cX9_nibbles 60 = .ok (.aload_n 0, 1) := by decide +kernel
theorem dX9_nibbles_61 : decode cX9_nibbles 61 = .ok (.getfield 13, 3) := by decide +kernel
theorem dX9_nibbles_64 : decode cX9_nibbles 64 = .ok (.iload 6, 2) := by decide +kernel
theorem dX9_nibbles_66 : decode cX9_nibbles 66 = .ok (.iconst 3, 1) := by decide +kernel
theorem dX9_nibbles_67 : decode cX9_nibbles 67 = .ok (.iadd, 1) := by decide +kernel
theorem dX9_nibbles_68 : decode cX9_nibbles 68 = .ok (.iaload, 1) := by decide +kernel
theorem dX9_nibbles_69 : decode cX9_nibbles 69 = .ok (.if_icmp .gt 7, 3) := by decide +kernel
theorem dX9_nibbles_72 : decode cX9_nibbles 72 = .ok (.iconst 1, 1) := by decide +kernel
theorem dX9_nibbles_73 : decode cX9_nibbles 73 = .ok (.goto 4, 3) := by decide +kernel
theorem dX9_nibbles_76 : decode cX9_nibbles 76 = .ok (.iconst 0, 1) := by decide +kernel
theorem dX9_nibbles_77 : decode cX9_nibbles 77 = .ok (.istore 7, 2) := by decide +kernel
theorem dX9_nibbles_79 : decode cX9_nibbles 79 = .ok (.iload 7, 2) := by decide +kernel
theorem dX9_nibbles_81 : decode cX9_nibbles 81 = .ok (.ifCond .eq 35, 3) := by decide +kernel
theorem dX9_nibbles_84 : decode cX9_nibbles 84 = .ok (.aload_n 0, 1) := by decide +kernel
theorem dX9_nibbles_85 : decode cX9_nibbles 85 = .ok (.getfield 13, 3) := by decide +kernel
theorem dX9_nibbles_88 : decode cX9_nibbles 88 = .ok (.iload 6, 2) := by decide +kernel
theorem dX9_nibbles_90 : decode cX9_nibbles 90 = .ok (.iconst 2, 1) := by decide +kernel
theorem dX9_nibbles_91 : decode cX9_nibbles 91 = .ok (.iadd, 1) := by decide +kernel
theorem dX9_nibbles_92 : decode cX9_nibbles 92 = .ok (.iaload, 1) := by decide +kernel
theorem dX9_nibbles_93 : decode cX9_nibbles 93 = .ok (.iload 4, 2) := by decide +kernel
theorem dX9_nibbles_95 : decode cX9_nibbles 95 = .ok (.invokestatic 155, 3) := by decide +kernel
theorem dX9_nibbles_98 : decode cX9_nibbles 98 = .ok (.aload_n 0, 1) := by decide +kernel
theorem dX9_nibbles_99 : decode cX9_nibbles 99 = .ok (.getfield 13, 3) := by decide +kernel
theorem dX9_nibbles_102 : decode cX9_nibbles 102 = .ok (.iload 6, 2) := by decide +kernel
theorem dX9_nibbles_104 : decode cX9_nibbles 104 = .ok (.iconst 3, 1) := by decide +kernel
theorem dX9_nibbles_105 : decode cX9_nibbles 105 = .ok (.iadd, 1) := by decide +kernel
theorem dX9_nibbles_106 : decode cX9_nibbles 106 = .ok (.iaload, 1) := by decide +kernel
theorem dX9_nibbles_107 : decode cX9_nibbles 107 = .ok (.iload 5, 2) := by decide +kernel
theorem dX9_nibbles_109 : decode cX9_nibbles 109 = .ok (.invokestatic 155, 3) := by decide +kernel
theorem dX9_nibbles_112 : decode cX9_nibbles 112 = .ok (.imul, 1) := by decide +kernel
theorem dX9_nibbles_113 : decode cX9_nibbles 113 = .ok (.goto 5, 3) := by decide +kernel
theorem dX9_nibbles_116 : decode cX9_nibbles 116 = .ok (.bipush (-4), 2) := by decide +kernel
theorem dX9_nibbles_118 : decode cX9_nibbles 118 = .ok (.ireturn, 1) := by decide +kernel
theorem dX9_isCut_0 : decode cX9_isCut 0 = .ok (.aload_n 0, 1) := by decide +kernel
theorem dX9_isCut_1 : decode cX9_isCut 1 = .ok (.iload_n 1, 1) := by decide +kernel
theorem dX9_isCut_2 : decode cX9_isCut 2 = .ok (.iload 4, 2) := by decide +kernel
theorem dX9_isCut_4 : decode cX9_isCut 4 = .ok (.invokevirtual 114, 3) := by decide +kernel
theorem dX9_isCut_7 : decode cX9_isCut 7 = .ok (.istore 5, 2) := by decide +kernel
theorem dX9_isCut_9 : decode cX9_isCut 9 = .ok (.iconst 1, 1) := by decide +kernel
theorem dX9_isCut_10 : decode cX9_isCut 10 = .ok (.istore 6, 2) := by decide +kernel
theorem dX9_isCut_12 : decode cX9_isCut 12 = .ok (.iconst 0, 1) := by decide +kernel
theorem dX9_isCut_13 : decode cX9_isCut 13 = .ok (.istore 7, 2) := by decide +kernel
theorem dX9_isCut_15 : decode cX9_isCut 15 = .ok (.iload 7, 2) := by decide +kernel
theorem dX9_isCut_17 : decode cX9_isCut 17 = .ok (.iload 5, 2) := by decide +kernel
theorem dX9_isCut_19 : decode cX9_isCut 19 = .ok (.aload_n 0, 1) := by decide +kernel
theorem dX9_isCut_20 : decode cX9_isCut 20 = .ok (.iload_n 1, 1) := by decide +kernel
theorem dX9_isCut_21 : decode cX9_isCut 21 = .ok (.iload 4, 2) := by decide +kernel
theorem dX9_isCut_23 : decode cX9_isCut 23 = .ok (.invokevirtual 118, 3) := by decide +kernel
theorem dX9_isCut_26 : decode cX9_isCut 26 = .ok (.imul, 1) := by decide +kernel
theorem dX9_isCut_27 : decode cX9_isCut 27 = .ok (.if_icmp .ge 48, 3) := by decide +kernel
theorem dX9_isCut_30 : decode cX9_isCut 30 = .ok (.iload 6, 2) := by decide +kernel
theorem dX9_isCut_32 : decode cX9_isCut 32 = .ok (.ifCond .eq 34, 3) := by decide +kernel
theorem dX9_isCut_35 : decode cX9_isCut 35 = .ok (.aload_n 0, 1) := by decide +kernel
theorem dX9_isCut_36 : decode cX9_isCut 36 = .ok (.getfield 19, 3) := by decide +kernel
theorem dX9_isCut_39 : decode cX9_isCut 39 = .ok (.bipush 12, 2) := by decide +kernel
theorem dX9_isCut_41 : decode cX9_isCut 41 = .ok (.iload_n 3, 1) := by decide +kernel
theorem dX9_isCut_42 : decode cX9_isCut 42 = .ok (.iload 7, 2) := by decide +kernel
theorem dX9_isCut_44 : decode cX9_isCut 44 = .ok (.iload 5, 2) := by decide +kernel
theorem dX9_isCut_46 : decode cX9_isCut 46 = .ok (.idiv, 1) := by decide +kernel
theorem dX9_isCut_47 : decode cX9_isCut 47 = .ok (.iadd, 1) := by decide +kernel
theorem dX9_isCut_48 : decode cX9_isCut 48 = .ok (.imul, 1) := by decide +kernel
theorem dX9_isCut_49 : decode cX9_isCut 49 = .ok (.iload_n 2, 1) := by decide +kernel
theorem dX9_isCut_50 : decode cX9_isCut 50 = .ok (.iadd, 1) := by decide +kernel
theorem dX9_isCut_51 : decode cX9_isCut 51 = .ok (.iload 7, 2) := by decide +kernel
theorem dX9_isCut_53 : decode cX9_isCut 53 = .ok (.iload 5, 2) := by decide +kernel
theorem dX9_isCut_55 : decode cX9_isCut 55 = .ok (.irem, 1) := by decide +kernel
theorem dX9_isCut_56 : decode cX9_isCut 56 = .ok (.iadd, 1) := by decide +kernel
theorem dX9_isCut_57 : decode cX9_isCut 57 = .ok (.iaload, 1) := by decide +kernel
theorem dX9_isCut_58 : decode cX9_isCut 58 = .ok (.iconst 1, 1) := by decide +kernel
theorem dX9_isCut_59 : decode cX9_isCut 59 = .ok (.if_icmp .ne 7, 3) := by decide +kernel
theorem dX9_isCut_62 : decode cX9_isCut 62 = .ok (.iconst 1, 1) := by decide +kernel
theorem dX9_isCut_63 : decode cX9_isCut 63 = .ok (.goto 4, 3) := by decide +kernel
theorem dX9_isCut_66 : decode cX9_isCut 66 = .ok (.iconst 0, 1) := by decide +kernel
theorem dX9_isCut_67 : decode cX9_isCut 67 = .ok (.istore 6, 2) := by decide +kernel
theorem dX9_isCut_69 : decode cX9_isCut 69 = .ok (.iinc 7 1, 3) := by decide +kernel
theorem dX9_isCut_72 : decode cX9_isCut 72 = .ok (.goto (-57), 3) := by decide +kernel
theorem dX9_isCut_75 : decode cX9_isCut 75 = .ok (.iload 6, 2) := by decide +kernel
theorem dX9_isCut_77 : decode cX9_isCut 77 = .ok (.ireturn, 1) := by decide +kernel
theorem dX9_nibble_0 : decode cX9_nibble 0 = .ok (.aload_n 0, 1) := by decide +kernel
theorem dX9_nibble_1 : decode cX9_nibble 1 = .ok (.iload_n 1, 1) := by decide +kernel
theorem dX9_nibble_2 : decode cX9_nibble 2 = .ok (.invokevirtual 158, 3) := by decide +kernel
theorem dX9_nibble_5 : decode cX9_nibble 5 = .ok (.ifCond .eq 21, 3) := by decide +kernel
theorem dX9_nibble_8 : decode cX9_nibble 8 = .ok (.aload_n 0, 1) := by decide +kernel
theorem dX9_nibble_9 : decode cX9_nibble 9 = .ok (.iload_n 2, 1) := by decide +kernel
theorem dX9_nibble_10 : decode cX9_nibble 10 = .ok (.invokevirtual 134, 3) := by decide +kernel
theorem dX9_nibble_13 : decode cX9_nibble 13 = .ok (.ifCond .eq 13, 3) := by decide +kernel
theorem dX9_nibble_16 : decode cX9_nibble 16 = .ok (.iload_n 3, 1) := by decide +kernel
theorem dX9_nibble_17 : decode cX9_nibble 17 = .ok (.i2l, 1) := by decide +kernel
theorem dX9_nibble_18 : decode cX9_nibble 18 = .ok (.lconst 0, 1) := by decide +kernel
theorem dX9_nibble_19 : decode cX9_nibble 19 = .ok (.lconst 1, 1) := by decide +kernel
theorem dX9_nibble_20 : decode cX9_nibble 20 = .ok (.invokestatic 58, 3) := by decide +kernel
theorem dX9_nibble_23 : decode cX9_nibble 23 = .ok (.ifCond .ne 5, 3) := by decide +kernel
theorem dX9_nibble_26 : decode cX9_nibble 26 = .ok (.iconst (-1), 1) := by decide +kernel
theorem dX9_nibble_27 : decode cX9_nibble 27 = .ok (.ireturn, 1) := by decide +kernel
theorem dX9_nibble_28 : decode cX9_nibble 28 = .ok (.aload_n 0, 1) := by decide +kernel
theorem dX9_nibble_29 : decode cX9_nibble 29 = .ok (.iload_n 1, 1) := by decide +kernel
theorem dX9_nibble_30 : decode cX9_nibble 30 = .ok (.iload_n 2, 1) := by decide +kernel
theorem dX9_nibble_31 : decode cX9_nibble 31 = .ok (.iload_n 3, 1) := by decide +kernel
theorem dX9_nibble_32 : decode cX9_nibble 32 = .ok (.invokevirtual 161, 3) := by decide +kernel
theorem dX9_nibble_35 : decode cX9_nibble 35 = .ok (.istore 4, 2) := by decide +kernel
theorem dX9_nibble_37 : decode cX9_nibble 37 = .ok (.aload_n 0, 1) := by decide +kernel
theorem dX9_nibble_38 : decode cX9_nibble 38 = .ok (.iload_n 1, 1) := by decide +kernel
theorem dX9_nibble_39 : decode cX9_nibble 39 = .ok (.invokevirtual 165, 3) := by decide +kernel
theorem dX9_nibble_42 : decode cX9_nibble 42 = .ok (.ifCond .eq 10, 3) := by decide +kernel
theorem dX9_nibble_45 : decode cX9_nibble 45 = .ok (.iload 4, 2) := by decide +kernel
theorem dX9_nibble_47 : decode cX9_nibble 47 = .ok (.bipush (-4), 2) := by decide +kernel
theorem dX9_nibble_49 : decode cX9_nibble 49 = .ok (.if_icmp .ne 6, 3) := by decide +kernel
theorem dX9_nibble_52 : decode cX9_nibble 52 = .ok (.bipush (-2), 2) := by decide +kernel
theorem dX9_nibble_54 : decode cX9_nibble 54 = .ok (.ireturn, 1) := by decide +kernel
theorem dX9_nibble_55 : decode cX9_nibble 55 = .ok (.bipush 29, 2) := by decide +kernel
theorem dX9_nibble_57 : decode cX9_nibble 57 = .ok (.iconst 4, 1) := by decide +kernel
theorem dX9_nibble_58 : decode cX9_nibble 58 = .ok (.iload_n 1, 1) := by decide +kernel
theorem dX9_nibble_59 : decode cX9_nibble 59 = .ok (.imul, 1) := by decide +kernel
theorem dX9_nibble_60 : decode cX9_nibble 60 = .ok (.iadd, 1) := by decide +kernel
theorem dX9_nibble_61 : decode cX9_nibble 61 = .ok (.istore 5, 2) := by decide +kernel
theorem dX9_nibble_63 : decode cX9_nibble 63 = .ok (.aload_n 0, 1) := by decide +kernel
theorem dX9_nibble_64 : decode cX9_nibble 64 = .ok (.iload_n 2, 1) := by decide +kernel
theorem dX9_nibble_65 : decode cX9_nibble 65 = .ok (.iload_n 3, 1) := by decide +kernel
theorem dX9_nibble_66 : decode cX9_nibble 66 = .ok (.invokevirtual 114, 3) := by decide +kernel
theorem dX9_nibble_69 : decode cX9_nibble 69 = .ok (.istore 6, 2) := by decide +kernel
theorem dX9_nibble_71 : decode cX9_nibble 71 = .ok (.aload_n 0, 1) := by decide +kernel
theorem dX9_nibble_72 : decode cX9_nibble 72 = .ok (.iload_n 2, 1) := by decide +kernel
theorem dX9_nibble_73 : decode cX9_nibble 73 = .ok (.iload_n 3, 1) := by decide +kernel
theorem dX9_nibble_74 : decode cX9_nibble 74 = .ok (.invokevirtual 118, 3) := by decide +kernel
theorem dX9_nibble_77 : decode cX9_nibble 77 = .ok (.istore 7, 2) := by decide +kernel
theorem dX9_nibble_79 : decode cX9_nibble 79 = .ok (.aload_n 0, 1) := by decide +kernel
theorem dX9_nibble_80 : decode cX9_nibble 80 = .ok (.getfield 13, 3) := by decide +kernel
theorem dX9_nibble_83 : decode cX9_nibble 83 = .ok (.iload 5, 2) := by decide +kernel
theorem dX9_nibble_85 : decode cX9_nibble 85 = .ok (.iconst 2, 1) := by decide +kernel
theorem dX9_nibble_86 : decode cX9_nibble 86 = .ok (.iadd, 1) := by decide +kernel
theorem dX9_nibble_87 : decode cX9_nibble 87 = .ok (.iaload, 1) := by decide +kernel
theorem dX9_nibble_88 : decode cX9_nibble 88 = .ok (.iload 6, 2) := by decide +kernel
theorem dX9_nibble_90 : decode cX9_nibble 90 = .ok (.invokestatic 155, 3) := by decide +kernel
theorem dX9_nibble_93 : decode cX9_nibble 93 = .ok (.istore 8, 2) := by decide +kernel
theorem dX9_nibble_95 : decode cX9_nibble 95 = .ok (.iconst 0, 1) := by decide +kernel
theorem dX9_nibble_96 : decode cX9_nibble 96 = .ok (.istore 9, 2) := by decide +kernel
theorem dX9_nibble_98 : decode cX9_nibble 98 = .ok (.iload 9, 2) := by decide +kernel
theorem dX9_nibble_100 : decode cX9_nibble 100 = .ok (.sipush 156, 3) := by decide +kernel
theorem dX9_nibble_103 : decode cX9_nibble 103 = .ok (.if_icmp .ge 23, 3) := by decide +kernel
theorem dX9_nibble_106 : decode cX9_nibble 106 = .ok (.aload_n 0, 1) := by decide +kernel
theorem dX9_nibble_107 : decode cX9_nibble 107 = .ok (.getfield 25, 3) := by decide +kernel
theorem dX9_nibble_110 : decode cX9_nibble 110 = .ok (.iload 9, 2) := by decide +kernel
theorem dX9_nibble_112 : decode cX9_nibble 112 = .ok (.aload_n 0, 1) := by decide +kernel
theorem dX9_nibble_113 : decode cX9_nibble 113 = .ok (.getfield 19, 3) := by decide +kernel
theorem dX9_nibble_116 : decode cX9_nibble 116 = .ok (.iload 9, 2) := by decide +kernel
theorem dX9_nibble_118 : decode cX9_nibble 118 = .ok (.iaload, 1) := by decide +kernel
theorem dX9_nibble_119 : decode cX9_nibble 119 = .ok (.iastore, 1) := by decide +kernel
theorem dX9_nibble_120 : decode cX9_nibble 120 = .ok (.iinc 9 1, 3) := by decide +kernel
theorem dX9_nibble_123 : decode cX9_nibble 123 = .ok (.goto (-25), 3) := by decide +kernel
theorem dX9_nibble_126 : decode cX9_nibble 126 = .ok (.iconst 0, 1) := by decide +kernel
theorem dX9_nibble_127 : decode cX9_nibble 127 = .ok (.istore 9, 2) := by decide +kernel
theorem dX9_nibble_129 : decode cX9_nibble 129 = .ok (.iconst 0, 1) := by decide +kernel
theorem dX9_nibble_130 : decode cX9_nibble 130 = .ok (.istore 10, 2) := by decide +kernel
theorem dX9_nibble_132 : decode cX9_nibble 132 = .ok (.iconst 0, 1) := by decide +kernel
theorem dX9_nibble_133 : decode cX9_nibble 133 = .ok (.istore 11, 2) := by decide +kernel
theorem dX9_nibble_135 : decode cX9_nibble 135 = .ok (.iload 11, 2) := by decide +kernel
theorem dX9_nibble_137 : decode cX9_nibble 137 = .ok (.iload 4, 2) := by decide +kernel
theorem dX9_nibble_139 : decode cX9_nibble 139 = .ok (.if_icmp .ge 229, 3) := by decide +kernel
theorem dX9_nibble_142 : decode cX9_nibble 142 = .ok (.iload 10, 2) := by decide +kernel
theorem dX9_nibble_144 : decode cX9_nibble 144 = .ok (.ifCond .ne 224, 3) := by decide +kernel
theorem dX9_nibble_147 : decode cX9_nibble 147 = .ok (.aload_n 0, 1) := by decide +kernel
theorem dX9_nibble_148 : decode cX9_nibble 148 = .ok (.getfield 13, 3) := by decide +kernel
theorem dX9_nibble_151 : decode cX9_nibble 151 = .ok (.iload 5, 2) := by decide +kernel
theorem dX9_nibble_153 : decode cX9_nibble 153 = .ok (.iaload, 1) := by decide +kernel
theorem dX9_nibble_154 : decode cX9_nibble 154 = .ok (.iload 6, 2) := by decide +kernel
theorem dX9_nibble_156 : decode cX9_nibble 156 = .ok (.iload 11, 2) := by decide +kernel
theorem dX9_nibble_158 : decode cX9_nibble 158 = .ok (.iload 8, 2) := by decide +kernel
theorem dX9_nibble_160 : decode cX9_nibble 160 = .ok (.irem, 1) := by decide +kernel
theorem dX9_nibble_161 : decode cX9_nibble 161 = .ok (.imul, 1) := by decide +kernel
theorem dX9_nibble_162 : decode cX9_nibble 162 = .ok (.iadd, 1) := by decide +kernel
theorem dX9_nibble_163 : decode cX9_nibble 163 = .ok (.istore 12, 2) := by decide +kernel
theorem dX9_nibble_165 : decode cX9_nibble 165 = .ok (.aload_n 0, 1) := by decide +kernel
theorem dX9_nibble_166 : decode cX9_nibble 166 = .ok (.getfield 13, 3) := by decide +kernel
theorem dX9_nibble_169 : decode cX9_nibble 169 = .ok (.iload 5, 2) := by decide +kernel
theorem dX9_nibble_171 : decode cX9_nibble 171 = .ok (.iconst 1, 1) := by decide +kernel
theorem dX9_nibble_172 : decode cX9_nibble 172 = .ok (.iadd, 1) := by decide +kernel
theorem dX9_nibble_173 : decode cX9_nibble 173 = .ok (.iaload, 1) := by decide +kernel
theorem dX9_nibble_174 : decode cX9_nibble 174 = .ok (.iload 7, 2) := by decide +kernel
theorem dX9_nibble_176 : decode cX9_nibble 176 = .ok (.iload 11, 2) := by decide +kernel
theorem dX9_nibble_178 : decode cX9_nibble 178 = .ok (.iload 8, 2) := by decide +kernel
theorem dX9_nibble_180 : decode cX9_nibble 180 = .ok (.idiv, 1) := by decide +kernel
theorem dX9_nibble_181 : decode cX9_nibble 181 = .ok (.imul, 1) := by decide +kernel
theorem dX9_nibble_182 : decode cX9_nibble 182 = .ok (.iadd, 1) := by decide +kernel
theorem dX9_nibble_183 : decode cX9_nibble 183 = .ok (.istore 13, 2) := by decide +kernel
theorem dX9_nibble_185 : decode cX9_nibble 185 = .ok (.iload 12, 2) := by decide +kernel
theorem dX9_nibble_187 : decode cX9_nibble 187 = .ok (.iload 6, 2) := by decide +kernel
theorem dX9_nibble_189 : decode cX9_nibble 189 = .ok (.iadd, 1) := by decide +kernel
theorem dX9_nibble_190 : decode cX9_nibble 190 = .ok (.aload_n 0, 1) := by decide +kernel
theorem dX9_nibble_191 : decode cX9_nibble 191 = .ok (.getfield 13, 3) := by decide +kernel
theorem dX9_nibble_194 : decode cX9_nibble 194 = .ok (.iload 5, 2) := by decide +kernel
theorem dX9_nibble_196 : decode cX9_nibble 196 = .ok (.iaload, 1) := by decide +kernel
theorem dX9_nibble_197 : decode cX9_nibble 197 = .ok (.aload_n 0, 1) := by decide +kernel
theorem dX9_nibble_198 : decode cX9_nibble 198 = .ok (.getfield 13, 3) := by decide +kernel
theorem dX9_nibble_201 : decode cX9_nibble 201 = .ok (.iload 5, 2) := by decide +kernel
theorem dX9_nibble_203 : decode cX9_nibble 203 = .ok (.iconst 2, 1) := by decide +kernel
theorem dX9_nibble_204 : decode cX9_nibble 204 = .ok (.iadd, 1) := by decide +kernel
theorem dX9_nibble_205 : decode cX9_nibble 205 = .ok (.iaload, 1) := by decide +kernel
theorem dX9_nibble_206 : decode cX9_nibble 206 = .ok (.iadd, 1) := by decide +kernel
theorem dX9_nibble_207 : decode cX9_nibble 207 = .ok (.if_icmp .le 26, 3) := by decide +kernel
theorem dX9_nibble_210 : decode cX9_nibble 210 = .ok (.aload_n 0, 1) := by decide +kernel
theorem dX9_nibble_211 : decode cX9_nibble 211 = .ok (.getfield 13, 3) := by decide +kernel
theorem dX9_nibble_214 : decode cX9_nibble 214 = .ok (.iload 5, 2) := by decide +kernel
theorem dX9_nibble_216 : decode cX9_nibble 216 = .ok (.iaload, 1) := by decide +kernel
theorem dX9_nibble_217 : decode cX9_nibble 217 = .ok (.aload_n 0, 1) := by decide +kernel
theorem dX9_nibble_218 : decode cX9_nibble 218 = .ok (.getfield 13, 3) := by decide +kernel
theorem dX9_nibble_221 : decode cX9_nibble 221 = .ok (.iload 5, 2) := by decide +kernel
theorem dX9_nibble_223 : decode cX9_nibble 223 = .ok (.iconst 2, 1) := by decide +kernel
theorem dX9_nibble_224 : decode cX9_nibble 224 = .ok (.iadd, 1) := by decide +kernel
theorem dX9_nibble_225 : decode cX9_nibble 225 = .ok (.iaload, 1) := by decide +kernel
theorem dX9_nibble_226 : decode cX9_nibble 226 = .ok (.iadd, 1) := by decide +kernel
theorem dX9_nibble_227 : decode cX9_nibble 227 = .ok (.iload 6, 2) := by decide +kernel
theorem dX9_nibble_229 : decode cX9_nibble 229 = .ok (.isub, 1) := by decide +kernel
theorem dX9_nibble_230 : decode cX9_nibble 230 = .ok (.goto 5, 3) := by decide +kernel
theorem dX9_nibble_233 : decode cX9_nibble 233 = .ok (.iload 12, 2) := by decide +kernel
theorem dX9_nibble_235 : decode cX9_nibble 235 = .ok (.istore 12, 2) := by decide +kernel
theorem dX9_nibble_237 : decode cX9_nibble 237 = .ok (.iload 13, 2) := by decide +kernel
theorem dX9_nibble_239 : decode cX9_nibble 239 = .ok (.iload 7, 2) := by decide +kernel
theorem dX9_nibble_241 : decode cX9_nibble 241 = .ok (.iadd, 1) := by decide +kernel
theorem dX9_nibble_242 : decode cX9_nibble 242 = .ok (.aload_n 0, 1) := by decide +kernel
theorem dX9_nibble_243 : decode cX9_nibble 243 = .ok (.getfield 13, 3) := by decide +kernel
theorem dX9_nibble_246 : decode cX9_nibble 246 = .ok (.iload 5, 2) := by decide +kernel
theorem dX9_nibble_248 : decode cX9_nibble 248 = .ok (.iconst 1, 1) := by decide +kernel
theorem dX9_nibble_249 : decode cX9_nibble 249 = .ok (.iadd, 1) := by decide +kernel
theorem dX9_nibble_250 : decode cX9_nibble 250 = .ok (.iaload, 1) := by decide +kernel
theorem dX9_nibble_251 : decode cX9_nibble 251 = .ok (.aload_n 0, 1) := by decide +kernel
theorem dX9_nibble_252 : decode cX9_nibble 252 = .ok (.getfield 13, 3) := by decide +kernel
theorem dX9_nibble_255 : decode cX9_nibble 255 = .ok (.iload 5, 2) := by decide +kernel
theorem dX9_nibble_257 : decode cX9_nibble 257 = .ok (.iconst 3, 1) := by decide +kernel
theorem dX9_nibble_258 : decode cX9_nibble 258 = .ok (.iadd, 1) := by decide +kernel
theorem dX9_nibble_259 : decode cX9_nibble 259 = .ok (.iaload, 1) := by decide +kernel
theorem dX9_nibble_260 : decode cX9_nibble 260 = .ok (.iadd, 1) := by decide +kernel
theorem dX9_nibble_261 : decode cX9_nibble 261 = .ok (.if_icmp .le 28, 3) := by decide +kernel
theorem dX9_nibble_264 : decode cX9_nibble 264 = .ok (.aload_n 0, 1) := by decide +kernel
theorem dX9_nibble_265 : decode cX9_nibble 265 = .ok (.getfield 13, 3) := by decide +kernel
theorem dX9_nibble_268 : decode cX9_nibble 268 = .ok (.iload 5, 2) := by decide +kernel
theorem dX9_nibble_270 : decode cX9_nibble 270 = .ok (.iconst 1, 1) := by decide +kernel
theorem dX9_nibble_271 : decode cX9_nibble 271 = .ok (.iadd, 1) := by decide +kernel
theorem dX9_nibble_272 : decode cX9_nibble 272 = .ok (.iaload, 1) := by decide +kernel
theorem dX9_nibble_273 : decode cX9_nibble 273 = .ok (.aload_n 0, 1) := by decide +kernel
theorem dX9_nibble_274 : decode cX9_nibble 274 = .ok (.getfield 13, 3) := by decide +kernel
theorem dX9_nibble_277 : decode cX9_nibble 277 = .ok (.iload 5, 2) := by decide +kernel
theorem dX9_nibble_279 : decode cX9_nibble 279 = .ok (.iconst 3, 1) := by decide +kernel
theorem dX9_nibble_280 : decode cX9_nibble 280 = .ok (.iadd, 1) := by decide +kernel
theorem dX9_nibble_281 : decode cX9_nibble 281 = .ok (.iaload, 1) := by decide +kernel
theorem dX9_nibble_282 : decode cX9_nibble 282 = .ok (.iadd, 1) := by decide +kernel
theorem dX9_nibble_283 : decode cX9_nibble 283 = .ok (.iload 7, 2) := by decide +kernel
theorem dX9_nibble_285 : decode cX9_nibble 285 = .ok (.isub, 1) := by decide +kernel
theorem dX9_nibble_286 : decode cX9_nibble 286 = .ok (.goto 5, 3) := by decide +kernel
theorem dX9_nibble_289 : decode cX9_nibble 289 = .ok (.iload 13, 2) := by decide +kernel
theorem dX9_nibble_291 : decode cX9_nibble 291 = .ok (.istore 13, 2) := by decide +kernel
theorem dX9_nibble_293 : decode cX9_nibble 293 = .ok (.aload_n 0, 1) := by decide +kernel
theorem dX9_nibble_294 : decode cX9_nibble 294 = .ok (.iload_n 2, 1) := by decide +kernel
theorem dX9_nibble_295 : decode cX9_nibble 295 = .ok (.iload 12, 2) := by decide +kernel
theorem dX9_nibble_297 : decode cX9_nibble 297 = .ok (.iload 13, 2) := by decide +kernel
theorem dX9_nibble_299 : decode cX9_nibble 299 = .ok (.iload_n 3, 1) := by decide +kernel
theorem dX9_nibble_300 : decode cX9_nibble 300 = .ok (.invokevirtual 168, 3) := by decide +kernel
theorem dX9_nibble_303 : decode cX9_nibble 303 = .ok (.ifCond .ne 59, 3) := by decide +kernel
theorem dX9_nibble_306 : decode cX9_nibble 306 = .ok (.aload_n 0, 1) := by decide +kernel
theorem dX9_nibble_307 : decode cX9_nibble 307 = .ok (.iload_n 2, 1) := by decide +kernel
theorem dX9_nibble_308 : decode cX9_nibble 308 = .ok (.iload 12, 2) := by decide +kernel
theorem dX9_nibble_310 : decode cX9_nibble 310 = .ok (.iload 13, 2) := by decide +kernel
theorem dX9_nibble_312 : decode cX9_nibble 312 = .ok (.iload_n 3, 1) := by decide +kernel
theorem dX9_nibble_313 : decode cX9_nibble 313 = .ok (.invokevirtual 139, 3) := by decide +kernel
theorem dX9_nibble_316 : decode cX9_nibble 316 = .ok (.ifCond .le 7, 3) := by decide +kernel
theorem dX9_nibble_319 : decode cX9_nibble 319 = .ok (.iconst 1, 1) := by decide +kernel
theorem dX9_nibble_320 : decode cX9_nibble 320 = .ok (.goto 4, 3) := by decide +kernel
theorem dX9_nibble_323 : decode cX9_nibble 323 = .ok (.iconst 0, 1) := by decide +kernel
theorem dX9_nibble_324 : decode cX9_nibble 324 = .ok (.istore 10, 2) := by decide +kernel
theorem dX9_nibble_326 : decode cX9_nibble 326 = .ok (.iload 10, 2) := by decide +kernel
theorem dX9_nibble_328 : decode cX9_nibble 328 = .ok (.ifCond .eq 7, 3) := by decide +kernel
theorem dX9_nibble_331 : decode cX9_nibble 331 = .ok (.iconst 0, 1) := by decide +kernel
theorem dX9_nibble_332 : decode cX9_nibble 332 = .ok (.goto 13, 3) := by decide +kernel
theorem dX9_nibble_335 : decode cX9_nibble 335 = .ok (.aload_n 0, 1) := by decide +kernel
theorem dX9_nibble_336 : decode cX9_nibble 336 = .ok (.iload_n 2, 1) := by decide +kernel
theorem dX9_nibble_337 : decode cX9_nibble 337 = .ok (.iload 12, 2) := by decide +kernel
theorem dX9_nibble_339 : decode cX9_nibble 339 = .ok (.iload 13, 2) := by decide +kernel
theorem dX9_nibble_341 : decode cX9_nibble 341 = .ok (.iload_n 3, 1) := by decide +kernel
theorem dX9_nibble_342 : decode cX9_nibble 342 = .ok (.invokevirtual 152, 3) := by decide +kernel
theorem dX9_nibble_345 : decode cX9_nibble 345 = .ok (.istore 14, 2) := by decide +kernel
theorem dX9_nibble_347 : decode cX9_nibble 347 = .ok (.iload 9, 2) := by decide +kernel
theorem dX9_nibble_349 : decode cX9_nibble 349 = .ok (.iload 14, 2) := by decide +kernel
theorem dX9_nibble_351 : decode cX9_nibble 351 = .ok (.ifCond .le 7, 3) := by decide +kernel
theorem dX9_nibble_354 : decode cX9_nibble 354 = .ok (.iconst 1, 1) := by decide +kernel
theorem dX9_nibble_355 : decode cX9_nibble 355 = .ok (.goto 4, 3) := by decide +kernel
theorem dX9_nibble_358 : decode cX9_nibble 358 = .ok (.iconst 0, 1) := by decide +kernel
theorem dX9_nibble_359 : decode cX9_nibble 359 = .ok (.iadd, 1) := by decide +kernel
theorem dX9_nibble_360 : decode cX9_nibble 360 = .ok (.istore 9, 2) := by decide +kernel
theorem dX9_nibble_362 : decode cX9_nibble 362 = .ok (.iinc 11 1, 3) := by decide +kernel
theorem dX9_nibble_365 : decode cX9_nibble 365 = .ok (.goto (-230), 3) := by decide +kernel
theorem dX9_nibble_368 : decode cX9_nibble 368 = .ok (.aload_n 0, 1) := by decide +kernel
theorem dX9_nibble_369 : decode cX9_nibble 369 = .ok (.invokevirtual 171, 3) := by decide +kernel
theorem dX9_nibble_372 : decode cX9_nibble 372 = .ok (.iload 10, 2) := by decide +kernel
theorem dX9_nibble_374 : decode cX9_nibble 374 = .ok (.ifCond .eq 6, 3) := by decide +kernel
theorem dX9_nibble_377 : decode cX9_nibble 377 = .ok (.bipush (-2), 2) := by decide +kernel
theorem dX9_nibble_379 : decode cX9_nibble 379 = .ok (.ireturn, 1) := by decide +kernel
theorem dX9_nibble_380 : decode cX9_nibble 380 = .ok (.aload_n 0, 1) := by decide +kernel
theorem dX9_nibble_381 : decode cX9_nibble 381 = .ok (.invokevirtual 149, 3) := by decide +kernel
theorem dX9_nibble_384 : decode cX9_nibble 384 = .ok (.aload_n 0, 1) := by decide +kernel
theorem dX9_nibble_385 : decode cX9_nibble 385 = .ok (.invokevirtual 171, 3) := by decide +kernel
theorem dX9_nibble_388 : decode cX9_nibble 388 = .ok (.iload 9, 2) := by decide +kernel
theorem dX9_nibble_390 : decode cX9_nibble 390 = .ok (.ireturn, 1) := by decide +kernel
theorem dX9_swaps_0 : decode cX9_swaps 0 = .ok (.iconst 0, 1) := by decide +kernel
theorem dX9_swaps_1 : decode cX9_swaps 1 = .ok (.istore_n 1, 1) := by decide +kernel
theorem dX9_swaps_2 : decode cX9_swaps 2 = .ok (.iload_n 1, 1) := by decide +kernel
theorem dX9_swaps_3 : decode cX9_swaps 3 = .ok (.sipush 156, 3) := by decide +kernel
theorem dX9_swaps_6 : decode cX9_swaps 6 = .ok (.if_icmp .ge 35, 3) := by decide +kernel
theorem dX9_swaps_9 : decode cX9_swaps 9 = .ok (.aload_n 0, 1) := by decide +kernel
theorem dX9_swaps_10 : decode cX9_swaps 10 = .ok (.getfield 19, 3) := by decide +kernel
theorem dX9_swaps_13 : decode cX9_swaps 13 = .ok (.iload_n 1, 1) := by decide +kernel
theorem dX9_swaps_14 : decode cX9_swaps 14 = .ok (.iaload, 1) := by decide +kernel
theorem dX9_swaps_15 : decode cX9_swaps 15 = .ok (.istore_n 2, 1) := by decide +kernel
theorem dX9_swaps_16 : decode cX9_swaps 16 = .ok (.aload_n 0, 1) := by decide +kernel
theorem dX9_swaps_17 : decode cX9_swaps 17 = .ok (.getfield 19, 3) := by decide +kernel
theorem dX9_swaps_20 : decode cX9_swaps 20 = .ok (.iload_n 1, 1) := by decide +kernel
theorem dX9_swaps_21 : decode cX9_swaps 21 = .ok (.aload_n 0, 1) := by decide +kernel
theorem dX9_swaps_22 : decode cX9_swaps 22 = .ok (.getfield 25, 3) := by decide +kernel
theorem dX9_swaps_25 : decode cX9_swaps 25 = .ok (.iload_n 1, 1) := by decide +kernel
theorem dX9_swaps_26 : decode cX9_swaps 26 = .ok (.iaload, 1) := by decide +kernel
theorem dX9_swaps_27 : decode cX9_swaps 27 = .ok (.iastore, 1) := by decide +kernel
theorem dX9_swaps_28 : decode cX9_swaps 28 = .ok (.aload_n 0, 1) := by decide +kernel
theorem dX9_swaps_29 : decode cX9_swaps 29 = .ok (.getfield 25, 3) := by decide +kernel
theorem dX9_swaps_32 : decode cX9_swaps 32 = .ok (.iload_n 1, 1) := by decide +kernel
theorem dX9_swaps_33 : decode cX9_swaps 33 = .ok (.iload_n 2, 1) := by decide +kernel
theorem dX9_swaps_34 : decode cX9_swaps 34 = .ok (.iastore, 1) := by decide +kernel
theorem dX9_swaps_35 : decode cX9_swaps 35 = .ok (.iinc 1 1, 3) := by decide +kernel
theorem dX9_swaps_38 : decode cX9_swaps 38 = .ok (.goto (-36), 3) := by decide +kernel
theorem dX9_swaps_41 : decode cX9_swaps 41 = .ok (.return_, 1) := by decide +kernel
theorem dX9_clamp_0 : decode cX9_clamp 0 = .ok (.iload_n 1, 1) := by decide +kernel
theorem dX9_clamp_1 : decode cX9_clamp 1 = .ok (.i2l, 1) := by decide +kernel
theorem dX9_clamp_2 : decode cX9_clamp 2 = .ok (.lconst 0, 1) := by decide +kernel
theorem dX9_clamp_3 : decode cX9_clamp 3 = .ok (.aload_n 0, 1) := by decide +kernel
theorem dX9_clamp_4 : decode cX9_clamp 4 = .ok (.getfield 13, 3) := by decide +kernel
theorem dX9_clamp_7 : decode cX9_clamp 7 = .ok (.iconst 4, 1) := by decide +kernel
theorem dX9_clamp_8 : decode cX9_clamp 8 = .ok (.iaload, 1) := by decide +kernel
theorem dX9_clamp_9 : decode cX9_clamp 9 = .ok (.iconst 1, 1) := by decide +kernel
theorem dX9_clamp_10 : decode cX9_clamp 10 = .ok (.isub, 1) := by decide +kernel
theorem dX9_clamp_11 : decode cX9_clamp 11 = .ok (.i2l, 1) := by decide +kernel
theorem dX9_clamp_12 : decode cX9_clamp 12 = .ok (.invokestatic 58, 3) := by decide +kernel
theorem dX9_clamp_15 : decode cX9_clamp 15 = .ok (.ifCond .eq 21, 3) := by decide +kernel
theorem dX9_clamp_18 : decode cX9_clamp 18 = .ok (.iload_n 2, 1) := by decide +kernel
theorem dX9_clamp_19 : decode cX9_clamp 19 = .ok (.i2l, 1) := by decide +kernel
theorem dX9_clamp_20 : decode cX9_clamp 20 = .ok (.lconst 0, 1) := by decide +kernel
theorem dX9_clamp_21 : decode cX9_clamp 21 = .ok (.aload_n 0, 1) := by decide +kernel
theorem dX9_clamp_22 : decode cX9_clamp 22 = .ok (.getfield 13, 3) := by decide +kernel
theorem dX9_clamp_25 : decode cX9_clamp 25 = .ok (.iconst 0, 1) := by decide +kernel
theorem dX9_clamp_26 : decode cX9_clamp 26 = .ok (.iaload, 1) := by decide +kernel
theorem dX9_clamp_27 : decode cX9_clamp 27 = .ok (.iconst 2, 1) := by decide +kernel
theorem dX9_clamp_28 : decode cX9_clamp 28 = .ok (.isub, 1) := by decide +kernel
theorem dX9_clamp_29 : decode cX9_clamp 29 = .ok (.i2l, 1) := by decide +kernel
theorem dX9_clamp_30 : decode cX9_clamp 30 = .ok (.invokestatic 58, 3) := by decide +kernel
theorem dX9_clamp_33 : decode cX9_clamp 33 = .ok (.ifCond .ne 5, 3) := by decide +kernel
theorem dX9_clamp_36 : decode cX9_clamp 36 = .ok (.iconst (-1), 1) := by decide +kernel
theorem dX9_clamp_37 : decode cX9_clamp 37 = .ok (.ireturn, 1) := by decide +kernel
theorem dX9_clamp_38 : decode cX9_clamp 38 = .ok (.aload_n 0, 1) := by decide +kernel
theorem dX9_clamp_39 : decode cX9_clamp 39 = .ok (.getfield 19, 3) := by decide +kernel
theorem dX9_clamp_42 : decode cX9_clamp 42 = .ok (.sipush 151, 3) := by decide +kernel
theorem dX9_clamp_45 : decode cX9_clamp 45 = .ok (.iload_n 1, 1) := by decide +kernel
theorem dX9_clamp_46 : decode cX9_clamp 46 = .ok (.iadd, 1) := by decide +kernel
theorem dX9_clamp_47 : decode cX9_clamp 47 = .ok (.iaload, 1) := by decide +kernel
theorem dX9_clamp_48 : decode cX9_clamp 48 = .ok (.istore_n 3, 1) := by decide +kernel
theorem dX9_clamp_49 : decode cX9_clamp 49 = .ok (.aload_n 0, 1) := by decide +kernel
theorem dX9_clamp_50 : decode cX9_clamp 50 = .ok (.getfield 19, 3) := by decide +kernel
theorem dX9_clamp_53 : decode cX9_clamp 53 = .ok (.sipush 152, 3) := by decide +kernel
theorem dX9_clamp_56 : decode cX9_clamp 56 = .ok (.iload_n 1, 1) := by decide +kernel
theorem dX9_clamp_57 : decode cX9_clamp 57 = .ok (.isub, 1) := by decide +kernel
theorem dX9_clamp_58 : decode cX9_clamp 58 = .ok (.iaload, 1) := by decide +kernel
theorem dX9_clamp_59 : decode cX9_clamp 59 = .ok (.istore 4, 2) := by decide +kernel
theorem dX9_clamp_61 : decode cX9_clamp 61 = .ok (.iload_n 3, 1) := by decide +kernel
theorem dX9_clamp_62 : decode cX9_clamp 62 = .ok (.iload_n 2, 1) := by decide +kernel
theorem dX9_clamp_63 : decode cX9_clamp 63 = .ok (.if_icmp .eq 28, 3) := by decide +kernel
theorem dX9_clamp_66 : decode cX9_clamp 66 = .ok (.aload_n 0, 1) := by decide +kernel
theorem dX9_clamp_67 : decode cX9_clamp 67 = .ok (.getfield 13, 3) := by decide +kernel
theorem dX9_clamp_70 : decode cX9_clamp 70 = .ok (.iconst 4, 1) := by decide +kernel
theorem dX9_clamp_71 : decode cX9_clamp 71 = .ok (.iaload, 1) := by decide +kernel
theorem dX9_clamp_72 : decode cX9_clamp 72 = .ok (.iconst 2, 1) := by decide +kernel
theorem dX9_clamp_73 : decode cX9_clamp 73 = .ok (.if_icmp .ne 21, 3) := by decide +kernel
theorem dX9_clamp_76 : decode cX9_clamp 76 = .ok (.iload_n 2, 1) := by decide +kernel
theorem dX9_clamp_77 : decode cX9_clamp 77 = .ok (.iload 4, 2) := by decide +kernel
theorem dX9_clamp_79 : decode cX9_clamp 79 = .ok (.isub, 1) := by decide +kernel
theorem dX9_clamp_80 : decode cX9_clamp 80 = .ok (.i2l, 1) := by decide +kernel
theorem dX9_clamp_81 : decode cX9_clamp 81 = .ok (.ldc2_w 174, 3) := by decide +kernel
theorem dX9_clamp_84 : decode cX9_clamp 84 = .ok (.lconst 1, 1) := by decide +kernel
theorem dX9_clamp_85 : decode cX9_clamp 85 = .ok (.invokestatic 58, 3) := by decide +kernel
theorem dX9_clamp_88 : decode cX9_clamp 88 = .ok (.ifCond .eq 6, 3) := by decide +kernel
theorem dX9_clamp_91 : decode cX9_clamp 91 = .ok (.bipush (-2), 2) := by decide +kernel
theorem dX9_clamp_93 : decode cX9_clamp 93 = .ok (.ireturn, 1) := by decide +kernel
theorem dX9_clamp_94 : decode cX9_clamp 94 = .ok (.aload_n 0, 1) := by decide +kernel
theorem dX9_clamp_95 : decode cX9_clamp 95 = .ok (.invokevirtual 149, 3) := by decide +kernel
theorem dX9_clamp_98 : decode cX9_clamp 98 = .ok (.aload_n 0, 1) := by decide +kernel
theorem dX9_clamp_99 : decode cX9_clamp 99 = .ok (.getfield 19, 3) := by decide +kernel
theorem dX9_clamp_102 : decode cX9_clamp 102 = .ok (.sipush 151, 3) := by decide +kernel
theorem dX9_clamp_105 : decode cX9_clamp 105 = .ok (.iload_n 1, 1) := by decide +kernel
theorem dX9_clamp_106 : decode cX9_clamp 106 = .ok (.iadd, 1) := by decide +kernel
theorem dX9_clamp_107 : decode cX9_clamp 107 = .ok (.iload_n 2, 1) := by decide +kernel
theorem dX9_clamp_108 : decode cX9_clamp 108 = .ok (.iastore, 1) := by decide +kernel
theorem dX9_clamp_109 : decode cX9_clamp 109 = .ok (.aload_n 0, 1) := by decide +kernel
theorem dX9_clamp_110 : decode cX9_clamp 110 = .ok (.getfield 19, 3) := by decide +kernel
theorem dX9_clamp_113 : decode cX9_clamp 113 = .ok (.sipush 155, 3) := by decide +kernel
theorem dX9_clamp_116 : decode cX9_clamp 116 = .ok (.dup2, 1) := by decide +kernel
theorem dX9_clamp_117 : decode cX9_clamp 117 = .ok (.iaload, 1) := by decide +kernel
theorem dX9_clamp_118 : decode cX9_clamp 118 = .ok (.iconst 1, 1) := by decide +kernel
theorem dX9_clamp_119 : decode cX9_clamp 119 = .ok (.iadd, 1) := by decide +kernel
theorem dX9_clamp_120 : decode cX9_clamp 120 = .ok (.iastore, 1) := by decide +kernel
theorem dX9_clamp_121 : decode cX9_clamp 121 = .ok (.iload_n 3, 1) := by decide +kernel
theorem dX9_clamp_122 : decode cX9_clamp 122 = .ok (.ireturn, 1) := by decide +kernel
theorem dX9_sharpen_0 : decode cX9_sharpen 0 = .ok (.aload_n 0, 1) := by decide +kernel
theorem dX9_sharpen_1 : decode cX9_sharpen 1 = .ok (.iload_n 1, 1) := by decide +kernel
theorem dX9_sharpen_2 : decode cX9_sharpen 2 = .ok (.invokevirtual 134, 3) := by decide +kernel
theorem dX9_sharpen_5 : decode cX9_sharpen 5 = .ok (.ifCond .ne 5, 3) := by decide +kernel
theorem dX9_sharpen_8 : decode cX9_sharpen 8 = .ok (.iconst (-1), 1) := by decide +kernel
theorem dX9_sharpen_9 : decode cX9_sharpen 9 = .ok (.ireturn, 1) := by decide +kernel
theorem dX9_sharpen_10 : decode cX9_sharpen 10 = .ok (.aload_n 0, 1) := by decide +kernel
theorem dX9_sharpen_11 : decode cX9_sharpen 11 = .ok (.getfield 19, 3) := by decide +kernel
theorem dX9_sharpen_14 : decode cX9_sharpen 14 = .ok (.sipush 144, 3) := by decide +kernel
theorem dX9_sharpen_17 : decode cX9_sharpen 17 = .ok (.iload_n 1, 1) := by decide +kernel
theorem dX9_sharpen_18 : decode cX9_sharpen 18 = .ok (.iadd, 1) := by decide +kernel
theorem dX9_sharpen_19 : decode cX9_sharpen 19 = .ok (.iaload, 1) := by decide +kernel
theorem dX9_sharpen_20 : decode cX9_sharpen 20 = .ok (.istore_n 2, 1) := by decide +kernel
theorem dX9_sharpen_21 : decode cX9_sharpen 21 = .ok (.iload_n 2, 1) := by decide +kernel
theorem dX9_sharpen_22 : decode cX9_sharpen 22 = .ok (.ifCond .ne 6, 3) := by decide +kernel
theorem dX9_sharpen_25 : decode cX9_sharpen 25 = .ok (.bipush (-2), 2) := by decide +kernel
theorem dX9_sharpen_27 : decode cX9_sharpen 27 = .ok (.ireturn, 1) := by decide +kernel
theorem dX9_sharpen_28 : decode cX9_sharpen 28 = .ok (.aload_n 0, 1) := by decide +kernel
theorem dX9_sharpen_29 : decode cX9_sharpen 29 = .ok (.invokevirtual 149, 3) := by decide +kernel
theorem dX9_sharpen_32 : decode cX9_sharpen 32 = .ok (.aload_n 0, 1) := by decide +kernel
theorem dX9_sharpen_33 : decode cX9_sharpen 33 = .ok (.getfield 19, 3) := by decide +kernel
theorem dX9_sharpen_36 : decode cX9_sharpen 36 = .ok (.sipush 144, 3) := by decide +kernel
theorem dX9_sharpen_39 : decode cX9_sharpen 39 = .ok (.iload_n 1, 1) := by decide +kernel
theorem dX9_sharpen_40 : decode cX9_sharpen 40 = .ok (.iadd, 1) := by decide +kernel
theorem dX9_sharpen_41 : decode cX9_sharpen 41 = .ok (.iconst 0, 1) := by decide +kernel
theorem dX9_sharpen_42 : decode cX9_sharpen 42 = .ok (.iastore, 1) := by decide +kernel
theorem dX9_sharpen_43 : decode cX9_sharpen 43 = .ok (.iload_n 2, 1) := by decide +kernel
theorem dX9_sharpen_44 : decode cX9_sharpen 44 = .ok (.ireturn, 1) := by decide +kernel
theorem dX9_station_0 : decode cX9_station 0 = .ok (.aload_n 0, 1) := by decide +kernel
theorem dX9_station_1 : decode cX9_station 1 = .ok (.iload_n 1, 1) := by decide +kernel
theorem dX9_station_2 : decode cX9_station 2 = .ok (.invokevirtual 134, 3) := by decide +kernel
theorem dX9_station_5 : decode cX9_station 5 = .ok (.ifCond .eq 15, 3) := by decide +kernel
theorem dX9_station_8 : decode cX9_station 8 = .ok (.iload_n 2, 1) := by decide +kernel
theorem dX9_station_9 : decode cX9_station 9 = .ok (.i2l, 1) := by decide +kernel
theorem dX9_station_10 : decode cX9_station 10 = .ok (.lconst 0, 1) := by decide +kernel
theorem dX9_station_11 : decode cX9_station 11 = .ok (.ldc2_w 176, 3) := by decide +kernel
theorem dX9_station_14 : decode cX9_station 14 = .ok (.invokestatic 58, 3) := by decide +kernel
theorem dX9_station_17 : decode cX9_station 17 = .ok (.ifCond .ne 5, 3) := by decide +kernel
theorem dX9_station_20 : decode cX9_station 20 = .ok (.iconst (-1), 1) := by decide +kernel
theorem dX9_station_21 : decode cX9_station 21 = .ok (.ireturn, 1) := by decide +kernel
theorem dX9_station_22 : decode cX9_station 22 = .ok (.iload_n 2, 1) := by decide +kernel
theorem dX9_station_23 : decode cX9_station 23 = .ok (.tableswitch 75 0 5 #[37, 37, 37, 37, 50, 61], 37) := by decide +kernel
theorem dX9_station_60 : decode cX9_station 60 = .ok (.aload_n 0, 1) := by decide +kernel
theorem dX9_station_61 : decode cX9_station 61 = .ok (.getfield 13, 3) := by decide +kernel
theorem dX9_station_64 : decode cX9_station 64 = .ok (.iconst 5, 1) := by decide +kernel
theorem dX9_station_65 : decode cX9_station 65 = .ok (.iconst 4, 1) := by decide +kernel
theorem dX9_station_66 : decode cX9_station 66 = .ok (.iload_n 1, 1) := by decide +kernel
theorem dX9_station_67 : decode cX9_station 67 = .ok (.imul, 1) := by decide +kernel
theorem dX9_station_68 : decode cX9_station 68 = .ok (.iadd, 1) := by decide +kernel
theorem dX9_station_69 : decode cX9_station 69 = .ok (.iload_n 2, 1) := by decide +kernel
theorem dX9_station_70 : decode cX9_station 70 = .ok (.iadd, 1) := by decide +kernel
theorem dX9_station_71 : decode cX9_station 71 = .ok (.iaload, 1) := by decide +kernel
theorem dX9_station_72 : decode cX9_station 72 = .ok (.ireturn, 1) := by decide +kernel
theorem dX9_station_73 : decode cX9_station 73 = .ok (.aload_n 0, 1) := by decide +kernel
theorem dX9_station_74 : decode cX9_station 74 = .ok (.getfield 19, 3) := by decide +kernel
theorem dX9_station_77 : decode cX9_station 77 = .ok (.sipush 144, 3) := by decide +kernel
theorem dX9_station_80 : decode cX9_station 80 = .ok (.iload_n 1, 1) := by decide +kernel
theorem dX9_station_81 : decode cX9_station 81 = .ok (.iadd, 1) := by decide +kernel
theorem dX9_station_82 : decode cX9_station 82 = .ok (.iaload, 1) := by decide +kernel
theorem dX9_station_83 : decode cX9_station 83 = .ok (.ireturn, 1) := by decide +kernel
theorem dX9_station_84 : decode cX9_station 84 = .ok (.aload_n 0, 1) := by decide +kernel
theorem dX9_station_85 : decode cX9_station 85 = .ok (.iload_n 1, 1) := by decide +kernel
theorem dX9_station_86 : decode cX9_station 86 = .ok (.invokevirtual 130, 3) := by decide +kernel
theorem dX9_station_89 : decode cX9_station 89 = .ok (.ifCond .eq 7, 3) := by decide +kernel
theorem dX9_station_92 : decode cX9_station 92 = .ok (.iconst 1, 1) := by decide +kernel
theorem dX9_station_93 : decode cX9_station 93 = .ok (.goto 4, 3) := by decide +kernel
theorem dX9_station_96 : decode cX9_station 96 = .ok (.iconst 0, 1) := by decide +kernel
theorem dX9_station_97 : decode cX9_station 97 = .ok (.ireturn, 1) := by decide +kernel
theorem dX9_station_98 : decode cX9_station 98 = .ok (.aload_n 0, 1) := by decide +kernel
theorem dX9_station_99 : decode cX9_station 99 = .ok (.aload_n 0, 1) := by decide +kernel
theorem dX9_station_100 : decode cX9_station 100 = .ok (.getfield 19, 3) := by decide +kernel
theorem dX9_station_103 : decode cX9_station 103 = .ok (.sipush 150, 3) := by decide +kernel
theorem dX9_station_106 : decode cX9_station 106 = .ok (.iaload, 1) := by decide +kernel
theorem dX9_station_107 : decode cX9_station 107 = .ok (.iload_n 1, 1) := by decide +kernel
theorem dX9_station_108 : decode cX9_station 108 = .ok (.invokevirtual 143, 3) := by decide +kernel
theorem dX9_station_111 : decode cX9_station 111 = .ok (.ireturn, 1) := by decide +kernel
theorem dX9_hole_0 : decode cX9_hole 0 = .ok (.aload_n 0, 1) := by decide +kernel
theorem dX9_hole_1 : decode cX9_hole 1 = .ok (.iload_n 1, 1) := by decide +kernel
theorem dX9_hole_2 : decode cX9_hole 2 = .ok (.invokevirtual 158, 3) := by decide +kernel
theorem dX9_hole_5 : decode cX9_hole 5 = .ok (.ifCond .eq 15, 3) := by decide +kernel
theorem dX9_hole_8 : decode cX9_hole 8 = .ok (.iload_n 2, 1) := by decide +kernel
theorem dX9_hole_9 : decode cX9_hole 9 = .ok (.i2l, 1) := by decide +kernel
theorem dX9_hole_10 : decode cX9_hole 10 = .ok (.lconst 0, 1) := by decide +kernel
theorem dX9_hole_11 : decode cX9_hole 11 = .ok (.ldc2_w 178, 3) := by decide +kernel
theorem dX9_hole_14 : decode cX9_hole 14 = .ok (.invokestatic 58, 3) := by decide +kernel
theorem dX9_hole_17 : decode cX9_hole 17 = .ok (.ifCond .ne 5, 3) := by decide +kernel
theorem dX9_hole_20 : decode cX9_hole 20 = .ok (.iconst (-1), 1) := by decide +kernel
theorem dX9_hole_21 : decode cX9_hole 21 = .ok (.ireturn, 1) := by decide +kernel
theorem dX9_hole_22 : decode cX9_hole 22 = .ok (.iload_n 2, 1) := by decide +kernel
theorem dX9_hole_23 : decode cX9_hole 23 = .ok (.iconst 4, 1) := by decide +kernel
theorem dX9_hole_24 : decode cX9_hole 24 = .ok (.if_icmp .ge 19, 3) := by decide +kernel
theorem dX9_hole_27 : decode cX9_hole 27 = .ok (.aload_n 0, 1) := by decide +kernel
theorem dX9_hole_28 : decode cX9_hole 28 = .ok (.getfield 13, 3) := by decide +kernel
theorem dX9_hole_31 : decode cX9_hole 31 = .ok (.bipush 29, 2) := by decide +kernel
theorem dX9_hole_33 : decode cX9_hole 33 = .ok (.iconst 4, 1) := by decide +kernel
theorem dX9_hole_34 : decode cX9_hole 34 = .ok (.iload_n 1, 1) := by decide +kernel
theorem dX9_hole_35 : decode cX9_hole 35 = .ok (.imul, 1) := by decide +kernel
theorem dX9_hole_36 : decode cX9_hole 36 = .ok (.iadd, 1) := by decide +kernel
theorem dX9_hole_37 : decode cX9_hole 37 = .ok (.iload_n 2, 1) := by decide +kernel
theorem dX9_hole_38 : decode cX9_hole 38 = .ok (.iadd, 1) := by decide +kernel
theorem dX9_hole_39 : decode cX9_hole 39 = .ok (.iaload, 1) := by decide +kernel
theorem dX9_hole_40 : decode cX9_hole 40 = .ok (.goto 29, 3) := by decide +kernel
theorem dX9_hole_43 : decode cX9_hole 43 = .ok (.iload_n 2, 1) := by decide +kernel
theorem dX9_hole_44 : decode cX9_hole 44 = .ok (.iconst 4, 1) := by decide +kernel
theorem dX9_hole_45 : decode cX9_hole 45 = .ok (.if_icmp .ne 11, 3) := by decide +kernel
theorem dX9_hole_48 : decode cX9_hole 48 = .ok (.aload_n 0, 1) := by decide +kernel
theorem dX9_hole_49 : decode cX9_hole 49 = .ok (.iload_n 1, 1) := by decide +kernel
theorem dX9_hole_50 : decode cX9_hole 50 = .ok (.invokevirtual 165, 3) := by decide +kernel
theorem dX9_hole_53 : decode cX9_hole 53 = .ok (.goto 16, 3) := by decide +kernel
theorem dX9_hole_56 : decode cX9_hole 56 = .ok (.aload_n 0, 1) := by decide +kernel
theorem dX9_hole_57 : decode cX9_hole 57 = .ok (.iload_n 1, 1) := by decide +kernel
theorem dX9_hole_58 : decode cX9_hole 58 = .ok (.invokevirtual 165, 3) := by decide +kernel
theorem dX9_hole_61 : decode cX9_hole 61 = .ok (.ifCond .ne 7, 3) := by decide +kernel
theorem dX9_hole_64 : decode cX9_hole 64 = .ok (.iconst 1, 1) := by decide +kernel
theorem dX9_hole_65 : decode cX9_hole 65 = .ok (.goto 4, 3) := by decide +kernel
theorem dX9_hole_68 : decode cX9_hole 68 = .ok (.iconst 0, 1) := by decide +kernel
theorem dX9_hole_69 : decode cX9_hole 69 = .ok (.ireturn, 1) := by decide +kernel
theorem dX9_hits_0 : decode cX9_hits 0 = .ok (.aload_n 0, 1) := by decide +kernel
theorem dX9_hits_1 : decode cX9_hits 1 = .ok (.iload_n 1, 1) := by decide +kernel
theorem dX9_hits_2 : decode cX9_hits 2 = .ok (.invokevirtual 158, 3) := by decide +kernel
theorem dX9_hits_5 : decode cX9_hits 5 = .ok (.ifCond .eq 31, 3) := by decide +kernel
theorem dX9_hits_8 : decode cX9_hits 8 = .ok (.aload_n 0, 1) := by decide +kernel
theorem dX9_hits_9 : decode cX9_hits 9 = .ok (.iload_n 2, 1) := by decide +kernel
theorem dX9_hits_10 : decode cX9_hits 10 = .ok (.invokevirtual 134, 3) := by decide +kernel
theorem dX9_hits_13 : decode cX9_hits 13 = .ok (.ifCond .eq 23, 3) := by decide +kernel
theorem dX9_hits_16 : decode cX9_hits 16 = .ok (.iload_n 3, 1) := by decide +kernel
theorem dX9_hits_17 : decode cX9_hits 17 = .ok (.i2l, 1) := by decide +kernel
theorem dX9_hits_18 : decode cX9_hits 18 = .ok (.lconst 0, 1) := by decide +kernel
theorem dX9_hits_19 : decode cX9_hits 19 = .ok (.lconst 1, 1) := by decide +kernel
theorem dX9_hits_20 : decode cX9_hits 20 = .ok (.invokestatic 58, 3) := by decide +kernel
theorem dX9_hits_23 : decode cX9_hits 23 = .ok (.ifCond .eq 13, 3) := by decide +kernel
theorem dX9_hits_26 : decode cX9_hits 26 = .ok (.aload_n 0, 1) := by decide +kernel
theorem dX9_hits_27 : decode cX9_hits 27 = .ok (.iload_n 1, 1) := by decide +kernel
theorem dX9_hits_28 : decode cX9_hits 28 = .ok (.iload_n 2, 1) := by decide +kernel
theorem dX9_hits_29 : decode cX9_hits 29 = .ok (.iload_n 3, 1) := by decide +kernel
theorem dX9_hits_30 : decode cX9_hits 30 = .ok (.invokevirtual 161, 3) := by decide +kernel
theorem dX9_hits_33 : decode cX9_hits 33 = .ok (.goto 4, 3) := by decide +kernel
theorem dX9_hits_36 : decode cX9_hits 36 = .ok (.iconst (-1), 1) := by decide +kernel
theorem dX9_hits_37 : decode cX9_hits 37 = .ok (.ireturn, 1) := by decide +kernel
theorem dX9_cell_0 : decode cX9_cell 0 = .ok (.aload_n 0, 1) := by decide +kernel
theorem dX9_cell_1 : decode cX9_cell 1 = .ok (.iload_n 1, 1) := by decide +kernel
theorem dX9_cell_2 : decode cX9_cell 2 = .ok (.iload_n 2, 1) := by decide +kernel
theorem dX9_cell_3 : decode cX9_cell 3 = .ok (.invokevirtual 121, 3) := by decide +kernel
theorem dX9_cell_6 : decode cX9_cell 6 = .ok (.ifCond .eq 15, 3) := by decide +kernel
theorem dX9_cell_9 : decode cX9_cell 9 = .ok (.iload_n 3, 1) := by decide +kernel
theorem dX9_cell_10 : decode cX9_cell 10 = .ok (.i2l, 1) := by decide +kernel
theorem dX9_cell_11 : decode cX9_cell 11 = .ok (.lconst 0, 1) := by decide +kernel
theorem dX9_cell_12 : decode cX9_cell 12 = .ok (.ldc2_w 180, 3) := by decide +kernel
theorem dX9_cell_15 : decode cX9_cell 15 = .ok (.invokestatic 58, 3) := by decide +kernel
theorem dX9_cell_18 : decode cX9_cell 18 = .ok (.ifCond .ne 5, 3) := by decide +kernel
theorem dX9_cell_21 : decode cX9_cell 21 = .ok (.iconst (-1), 1) := by decide +kernel
theorem dX9_cell_22 : decode cX9_cell 22 = .ok (.ireturn, 1) := by decide +kernel
end
section
theorem dX9_cell_23 : decode cX9_cell 23 = .ok (.iload_n 3, 1) := by decide +kernel
theorem dX9_cell_24 : decode cX9_cell 24 = .ok (.ifCond .ne 17, 3) := by decide +kernel
theorem dX9_cell_27 : decode cX9_cell 27 = .ok (.aload_n 0, 1) := by decide +kernel
theorem dX9_cell_28 : decode cX9_cell 28 = .ok (.getfield 19, 3) := by decide +kernel
theorem dX9_cell_31 : decode cX9_cell 31 = .ok (.bipush 12, 2) := by decide +kernel
theorem dX9_cell_33 : decode cX9_cell 33 = .ok (.iload_n 2, 1) := by decide +kernel
theorem dX9_cell_34 : decode cX9_cell 34 = .ok (.imul, 1) := by decide +kernel
theorem dX9_cell_35 : decode cX9_cell 35 = .ok (.iload_n 1, 1) := by decide +kernel
theorem dX9_cell_36 : decode cX9_cell 36 = .ok (.iadd, 1) := by decide +kernel
theorem dX9_cell_37 : decode cX9_cell 37 = .ok (.iaload, 1) := by decide +kernel
theorem dX9_cell_38 : decode cX9_cell 38 = .ok (.goto 23, 3) := by decide +kernel
theorem dX9_cell_41 : decode cX9_cell 41 = .ok (.iload_n 3, 1) := by decide +kernel
theorem dX9_cell_42 : decode cX9_cell 42 = .ok (.iconst 1, 1) := by decide +kernel
theorem dX9_cell_43 : decode cX9_cell 43 = .ok (.if_icmp .ne 12, 3) := by decide +kernel
theorem dX9_cell_46 : decode cX9_cell 46 = .ok (.aload_n 0, 1) := by decide +kernel
theorem dX9_cell_47 : decode cX9_cell 47 = .ok (.iload_n 1, 1) := by decide +kernel
theorem dX9_cell_48 : decode cX9_cell 48 = .ok (.iload_n 2, 1) := by decide +kernel
theorem dX9_cell_49 : decode cX9_cell 49 = .ok (.invokevirtual 124, 3) := by decide +kernel
theorem dX9_cell_52 : decode cX9_cell 52 = .ok (.goto 9, 3) := by decide +kernel
theorem dX9_cell_55 : decode cX9_cell 55 = .ok (.aload_n 0, 1) := by decide +kernel
theorem dX9_cell_56 : decode cX9_cell 56 = .ok (.iload_n 1, 1) := by decide +kernel
theorem dX9_cell_57 : decode cX9_cell 57 = .ok (.iload_n 2, 1) := by decide +kernel
theorem dX9_cell_58 : decode cX9_cell 58 = .ok (.invokevirtual 127, 3) := by decide +kernel
theorem dX9_cell_61 : decode cX9_cell 61 = .ok (.ireturn, 1) := by decide +kernel
theorem dX9_column_0 : decode cX9_column 0 = .ok (.iload_n 1, 1) := by decide +kernel
theorem dX9_column_1 : decode cX9_column 1 = .ok (.i2l, 1) := by decide +kernel
theorem dX9_column_2 : decode cX9_column 2 = .ok (.lconst 0, 1) := by decide +kernel
theorem dX9_column_3 : decode cX9_column 3 = .ok (.aload_n 0, 1) := by decide +kernel
theorem dX9_column_4 : decode cX9_column 4 = .ok (.getfield 13, 3) := by decide +kernel
theorem dX9_column_7 : decode cX9_column 7 = .ok (.iconst 4, 1) := by decide +kernel
theorem dX9_column_8 : decode cX9_column 8 = .ok (.iaload, 1) := by decide +kernel
theorem dX9_column_9 : decode cX9_column 9 = .ok (.iconst 1, 1) := by decide +kernel
theorem dX9_column_10 : decode cX9_column 10 = .ok (.isub, 1) := by decide +kernel
theorem dX9_column_11 : decode cX9_column 11 = .ok (.i2l, 1) := by decide +kernel
theorem dX9_column_12 : decode cX9_column 12 = .ok (.invokestatic 58, 3) := by decide +kernel
theorem dX9_column_15 : decode cX9_column 15 = .ok (.ifCond .eq 16, 3) := by decide +kernel
theorem dX9_column_18 : decode cX9_column 18 = .ok (.aload_n 0, 1) := by decide +kernel
theorem dX9_column_19 : decode cX9_column 19 = .ok (.getfield 19, 3) := by decide +kernel
theorem dX9_column_22 : decode cX9_column 22 = .ok (.sipush 151, 3) := by decide +kernel
theorem dX9_column_25 : decode cX9_column 25 = .ok (.iload_n 1, 1) := by decide +kernel
theorem dX9_column_26 : decode cX9_column 26 = .ok (.iadd, 1) := by decide +kernel
theorem dX9_column_27 : decode cX9_column 27 = .ok (.iaload, 1) := by decide +kernel
theorem dX9_column_28 : decode cX9_column 28 = .ok (.goto 4, 3) := by decide +kernel
theorem dX9_column_31 : decode cX9_column 31 = .ok (.iconst (-1), 1) := by decide +kernel
theorem dX9_column_32 : decode cX9_column 32 = .ok (.ireturn, 1) := by decide +kernel
theorem dX9_round_0 : decode cX9_round 0 = .ok (.aload_n 0, 1) := by decide +kernel
theorem dX9_round_1 : decode cX9_round 1 = .ok (.getfield 13, 3) := by decide +kernel
theorem dX9_round_4 : decode cX9_round 4 = .ok (.iconst 2, 1) := by decide +kernel
theorem dX9_round_5 : decode cX9_round 5 = .ok (.iaload, 1) := by decide +kernel
theorem dX9_round_6 : decode cX9_round 6 = .ok (.istore_n 2, 1) := by decide +kernel
theorem dX9_round_7 : decode cX9_round 7 = .ok (.bipush 100, 2) := by decide +kernel
theorem dX9_round_9 : decode cX9_round 9 = .ok (.istore_n 3, 1) := by decide +kernel
theorem dX9_round_10 : decode cX9_round 10 = .ok (.iconst 0, 1) := by decide +kernel
theorem dX9_round_11 : decode cX9_round 11 = .ok (.istore 4, 2) := by decide +kernel
theorem dX9_round_13 : decode cX9_round 13 = .ok (.iload 4, 2) := by decide +kernel
theorem dX9_round_15 : decode cX9_round 15 = .ok (.iload_n 2, 1) := by decide +kernel
theorem dX9_round_16 : decode cX9_round 16 = .ok (.if_icmp .ge 120, 3) := by decide +kernel
theorem dX9_round_19 : decode cX9_round 19 = .ok (.iconst 0, 1) := by decide +kernel
theorem dX9_round_20 : decode cX9_round 20 = .ok (.istore 5, 2) := by decide +kernel
theorem dX9_round_22 : decode cX9_round 22 = .ok (.iconst 0, 1) := by decide +kernel
theorem dX9_round_23 : decode cX9_round 23 = .ok (.istore 6, 2) := by decide +kernel
theorem dX9_round_25 : decode cX9_round 25 = .ok (.iload 6, 2) := by decide +kernel
theorem dX9_round_27 : decode cX9_round 27 = .ok (.iload_n 2, 1) := by decide +kernel
theorem dX9_round_28 : decode cX9_round 28 = .ok (.if_icmp .ge 63, 3) := by decide +kernel
theorem dX9_round_31 : decode cX9_round 31 = .ok (.iload 6, 2) := by decide +kernel
theorem dX9_round_33 : decode cX9_round 33 = .ok (.aload_n 0, 1) := by decide +kernel
theorem dX9_round_34 : decode cX9_round 34 = .ok (.getfield 19, 3) := by decide +kernel
theorem dX9_round_37 : decode cX9_round 37 = .ok (.sipush 150, 3) := by decide +kernel
theorem dX9_round_40 : decode cX9_round 40 = .ok (.iaload, 1) := by decide +kernel
theorem dX9_round_41 : decode cX9_round 41 = .ok (.isub, 1) := by decide +kernel
theorem dX9_round_42 : decode cX9_round 42 = .ok (.iload_n 2, 1) := by decide +kernel
theorem dX9_round_43 : decode cX9_round 43 = .ok (.iadd, 1) := by decide +kernel
theorem dX9_round_44 : decode cX9_round 44 = .ok (.iload_n 2, 1) := by decide +kernel
theorem dX9_round_45 : decode cX9_round 45 = .ok (.irem, 1) := by decide +kernel
theorem dX9_round_46 : decode cX9_round 46 = .ok (.istore 7, 2) := by decide +kernel
theorem dX9_round_48 : decode cX9_round 48 = .ok (.iload_n 1, 1) := by decide +kernel
theorem dX9_round_49 : decode cX9_round 49 = .ok (.iload 6, 2) := by decide +kernel
theorem dX9_round_51 : decode cX9_round 51 = .ok (.ishr, 1) := by decide +kernel
theorem dX9_round_52 : decode cX9_round 52 = .ok (.iconst 1, 1) := by decide +kernel
theorem dX9_round_53 : decode cX9_round 53 = .ok (.iand, 1) := by decide +kernel
theorem dX9_round_54 : decode cX9_round 54 = .ok (.iconst 1, 1) := by decide +kernel
theorem dX9_round_55 : decode cX9_round 55 = .ok (.if_icmp .ne 26, 3) := by decide +kernel
theorem dX9_round_58 : decode cX9_round 58 = .ok (.iload 7, 2) := by decide +kernel
theorem dX9_round_60 : decode cX9_round 60 = .ok (.iload 4, 2) := by decide +kernel
theorem dX9_round_62 : decode cX9_round 62 = .ok (.if_icmp .le 19, 3) := by decide +kernel
theorem dX9_round_65 : decode cX9_round 65 = .ok (.iload_n 2, 1) := by decide +kernel
theorem dX9_round_66 : decode cX9_round 66 = .ok (.iload 7, 2) := by decide +kernel
theorem dX9_round_68 : decode cX9_round 68 = .ok (.isub, 1) := by decide +kernel
theorem dX9_round_69 : decode cX9_round 69 = .ok (.iload 5, 2) := by decide +kernel
theorem dX9_round_71 : decode cX9_round 71 = .ok (.if_icmp .le 10, 3) := by decide +kernel
theorem dX9_round_74 : decode cX9_round 74 = .ok (.iload_n 2, 1) := by decide +kernel
theorem dX9_round_75 : decode cX9_round 75 = .ok (.iload 7, 2) := by decide +kernel
theorem dX9_round_77 : decode cX9_round 77 = .ok (.isub, 1) := by decide +kernel
theorem dX9_round_78 : decode cX9_round 78 = .ok (.goto 5, 3) := by decide +kernel
theorem dX9_round_81 : decode cX9_round 81 = .ok (.iload 5, 2) := by decide +kernel
theorem dX9_round_83 : decode cX9_round 83 = .ok (.istore 5, 2) := by decide +kernel
theorem dX9_round_85 : decode cX9_round 85 = .ok (.iinc 6 1, 3) := by decide +kernel
theorem dX9_round_88 : decode cX9_round 88 = .ok (.goto (-63), 3) := by decide +kernel
theorem dX9_round_91 : decode cX9_round 91 = .ok (.iload 4, 2) := by decide +kernel
theorem dX9_round_93 : decode cX9_round 93 = .ok (.iload 5, 2) := by decide +kernel
theorem dX9_round_95 : decode cX9_round 95 = .ok (.if_icmp .ge 13, 3) := by decide +kernel
theorem dX9_round_98 : decode cX9_round 98 = .ok (.iconst 2, 1) := by decide +kernel
theorem dX9_round_99 : decode cX9_round 99 = .ok (.iload 4, 2) := by decide +kernel
theorem dX9_round_101 : decode cX9_round 101 = .ok (.imul, 1) := by decide +kernel
theorem dX9_round_102 : decode cX9_round 102 = .ok (.iload 5, 2) := by decide +kernel
theorem dX9_round_104 : decode cX9_round 104 = .ok (.iadd, 1) := by decide +kernel
theorem dX9_round_105 : decode cX9_round 105 = .ok (.goto 10, 3) := by decide +kernel
theorem dX9_round_108 : decode cX9_round 108 = .ok (.iload 4, 2) := by decide +kernel
theorem dX9_round_110 : decode cX9_round 110 = .ok (.iconst 2, 1) := by decide +kernel
theorem dX9_round_111 : decode cX9_round 111 = .ok (.iload 5, 2) := by decide +kernel
theorem dX9_round_113 : decode cX9_round 113 = .ok (.imul, 1) := by decide +kernel
theorem dX9_round_114 : decode cX9_round 114 = .ok (.iadd, 1) := by decide +kernel
theorem dX9_round_115 : decode cX9_round 115 = .ok (.istore 6, 2) := by decide +kernel
theorem dX9_round_117 : decode cX9_round 117 = .ok (.iload 6, 2) := by decide +kernel
theorem dX9_round_119 : decode cX9_round 119 = .ok (.iload_n 3, 1) := by decide +kernel
theorem dX9_round_120 : decode cX9_round 120 = .ok (.if_icmp .ge 8, 3) := by decide +kernel
theorem dX9_round_123 : decode cX9_round 123 = .ok (.iload 6, 2) := by decide +kernel
theorem dX9_round_125 : decode cX9_round 125 = .ok (.goto 4, 3) := by decide +kernel
theorem dX9_round_128 : decode cX9_round 128 = .ok (.iload_n 3, 1) := by decide +kernel
theorem dX9_round_129 : decode cX9_round 129 = .ok (.istore_n 3, 1) := by decide +kernel
theorem dX9_round_130 : decode cX9_round 130 = .ok (.iinc 4 1, 3) := by decide +kernel
theorem dX9_round_133 : decode cX9_round 133 = .ok (.goto (-120), 3) := by decide +kernel
theorem dX9_round_136 : decode cX9_round 136 = .ok (.iload_n 3, 1) := by decide +kernel
theorem dX9_round_137 : decode cX9_round 137 = .ok (.ireturn, 1) := by decide +kernel
theorem dX9_plans_0 : decode cX9_plans 0 = .ok (.aload_n 0, 1) := by decide +kernel
theorem dX9_plans_1 : decode cX9_plans 1 = .ok (.getfield 13, 3) := by decide +kernel
theorem dX9_plans_4 : decode cX9_plans 4 = .ok (.iconst 2, 1) := by decide +kernel
theorem dX9_plans_5 : decode cX9_plans 5 = .ok (.iaload, 1) := by decide +kernel
theorem dX9_plans_6 : decode cX9_plans 6 = .ok (.istore_n 1, 1) := by decide +kernel
theorem dX9_plans_7 : decode cX9_plans 7 = .ok (.iconst 0, 1) := by decide +kernel
theorem dX9_plans_8 : decode cX9_plans 8 = .ok (.istore_n 2, 1) := by decide +kernel
theorem dX9_plans_9 : decode cX9_plans 9 = .ok (.iload_n 2, 1) := by decide +kernel
theorem dX9_plans_10 : decode cX9_plans 10 = .ok (.iconst 1, 1) := by decide +kernel
theorem dX9_plans_11 : decode cX9_plans 11 = .ok (.iload_n 1, 1) := by decide +kernel
theorem dX9_plans_12 : decode cX9_plans 12 = .ok (.ishl, 1) := by decide +kernel
theorem dX9_plans_13 : decode cX9_plans 13 = .ok (.if_icmp .ge 20, 3) := by decide +kernel
theorem dX9_plans_16 : decode cX9_plans 16 = .ok (.aload_n 0, 1) := by decide +kernel
theorem dX9_plans_17 : decode cX9_plans 17 = .ok (.getfield 28, 3) := by decide +kernel
theorem dX9_plans_20 : decode cX9_plans 20 = .ok (.iload_n 2, 1) := by decide +kernel
theorem dX9_plans_21 : decode cX9_plans 21 = .ok (.aload_n 0, 1) := by decide +kernel
theorem dX9_plans_22 : decode cX9_plans 22 = .ok (.iload_n 2, 1) := by decide +kernel
theorem dX9_plans_23 : decode cX9_plans 23 = .ok (.invokevirtual 182, 3) := by decide +kernel
theorem dX9_plans_26 : decode cX9_plans 26 = .ok (.iastore, 1) := by decide +kernel
theorem dX9_plans_27 : decode cX9_plans 27 = .ok (.iinc 2 1, 3) := by decide +kernel
theorem dX9_plans_30 : decode cX9_plans 30 = .ok (.goto (-21), 3) := by decide +kernel
theorem dX9_plans_33 : decode cX9_plans 33 = .ok (.iconst 1, 1) := by decide +kernel
theorem dX9_plans_34 : decode cX9_plans 34 = .ok (.istore_n 2, 1) := by decide +kernel
theorem dX9_plans_35 : decode cX9_plans 35 = .ok (.iconst 0, 1) := by decide +kernel
theorem dX9_plans_36 : decode cX9_plans 36 = .ok (.istore_n 3, 1) := by decide +kernel
theorem dX9_plans_37 : decode cX9_plans 37 = .ok (.iload_n 3, 1) := by decide +kernel
theorem dX9_plans_38 : decode cX9_plans 38 = .ok (.aload_n 0, 1) := by decide +kernel
theorem dX9_plans_39 : decode cX9_plans 39 = .ok (.getfield 13, 3) := by decide +kernel
theorem dX9_plans_42 : decode cX9_plans 42 = .ok (.iconst 3, 1) := by decide +kernel
theorem dX9_plans_43 : decode cX9_plans 43 = .ok (.iaload, 1) := by decide +kernel
theorem dX9_plans_44 : decode cX9_plans 44 = .ok (.if_icmp .ge 27, 3) := by decide +kernel
theorem dX9_plans_47 : decode cX9_plans 47 = .ok (.iload_n 2, 1) := by decide +kernel
theorem dX9_plans_48 : decode cX9_plans 48 = .ok (.aload_n 0, 1) := by decide +kernel
theorem dX9_plans_49 : decode cX9_plans 49 = .ok (.iload_n 3, 1) := by decide +kernel
theorem dX9_plans_50 : decode cX9_plans 50 = .ok (.invokevirtual 165, 3) := by decide +kernel
theorem dX9_plans_53 : decode cX9_plans 53 = .ok (.ifCond .le 9, 3) := by decide +kernel
theorem dX9_plans_56 : decode cX9_plans 56 = .ok (.iconst 2, 1) := by decide +kernel
theorem dX9_plans_57 : decode cX9_plans 57 = .ok (.iload_n 1, 1) := by decide +kernel
theorem dX9_plans_58 : decode cX9_plans 58 = .ok (.imul, 1) := by decide +kernel
theorem dX9_plans_59 : decode cX9_plans 59 = .ok (.goto 4, 3) := by decide +kernel
theorem dX9_plans_62 : decode cX9_plans 62 = .ok (.iconst 1, 1) := by decide +kernel
theorem dX9_plans_63 : decode cX9_plans 63 = .ok (.imul, 1) := by decide +kernel
theorem dX9_plans_64 : decode cX9_plans 64 = .ok (.istore_n 2, 1) := by decide +kernel
theorem dX9_plans_65 : decode cX9_plans 65 = .ok (.iinc 3 1, 3) := by decide +kernel
theorem dX9_plans_68 : decode cX9_plans 68 = .ok (.goto (-31), 3) := by decide +kernel
theorem dX9_plans_71 : decode cX9_plans 71 = .ok (.iconst 0, 1) := by decide +kernel
theorem dX9_plans_72 : decode cX9_plans 72 = .ok (.istore_n 3, 1) := by decide +kernel
theorem dX9_plans_73 : decode cX9_plans 73 = .ok (.iconst 0, 1) := by decide +kernel
theorem dX9_plans_74 : decode cX9_plans 74 = .ok (.istore 4, 2) := by decide +kernel
theorem dX9_plans_76 : decode cX9_plans 76 = .ok (.iload 4, 2) := by decide +kernel
theorem dX9_plans_78 : decode cX9_plans 78 = .ok (.iload_n 2, 1) := by decide +kernel
theorem dX9_plans_79 : decode cX9_plans 79 = .ok (.if_icmp .ge 309, 3) := by decide +kernel
theorem dX9_plans_82 : decode cX9_plans 82 = .ok (.iload 4, 2) := by decide +kernel
theorem dX9_plans_84 : decode cX9_plans 84 = .ok (.istore 5, 2) := by decide +kernel
theorem dX9_plans_86 : decode cX9_plans 86 = .ok (.iconst 0, 1) := by decide +kernel
theorem dX9_plans_87 : decode cX9_plans 87 = .ok (.istore 6, 2) := by decide +kernel
theorem dX9_plans_89 : decode cX9_plans 89 = .ok (.iconst 0, 1) := by decide +kernel
theorem dX9_plans_90 : decode cX9_plans 90 = .ok (.istore 7, 2) := by decide +kernel
theorem dX9_plans_92 : decode cX9_plans 92 = .ok (.iconst 1, 1) := by decide +kernel
theorem dX9_plans_93 : decode cX9_plans 93 = .ok (.istore 8, 2) := by decide +kernel
theorem dX9_plans_95 : decode cX9_plans 95 = .ok (.aload_n 0, 1) := by decide +kernel
theorem dX9_plans_96 : decode cX9_plans 96 = .ok (.getfield 13, 3) := by decide +kernel
theorem dX9_plans_99 : decode cX9_plans 99 = .ok (.iconst 3, 1) := by decide +kernel
theorem dX9_plans_100 : decode cX9_plans 100 = .ok (.iaload, 1) := by decide +kernel
theorem dX9_plans_101 : decode cX9_plans 101 = .ok (.iconst 1, 1) := by decide +kernel
theorem dX9_plans_102 : decode cX9_plans 102 = .ok (.isub, 1) := by decide +kernel
theorem dX9_plans_103 : decode cX9_plans 103 = .ok (.istore 9, 2) := by decide +kernel
theorem dX9_plans_105 : decode cX9_plans 105 = .ok (.iload 9, 2) := by decide +kernel
theorem dX9_plans_107 : decode cX9_plans 107 = .ok (.ifCond .lt 147, 3) := by decide +kernel
theorem dX9_plans_110 : decode cX9_plans 110 = .ok (.aload_n 0, 1) := by decide +kernel
theorem dX9_plans_111 : decode cX9_plans 111 = .ok (.getfield 34, 3) := by decide +kernel
theorem dX9_plans_114 : decode cX9_plans 114 = .ok (.iload 9, 2) := by decide +kernel
theorem dX9_plans_116 : decode cX9_plans 116 = .ok (.iaload, 1) := by decide +kernel
theorem dX9_plans_117 : decode cX9_plans 117 = .ok (.iconst 1, 1) := by decide +kernel
theorem dX9_plans_118 : decode cX9_plans 118 = .ok (.if_icmp .ne 12, 3) := by decide +kernel
theorem dX9_plans_121 : decode cX9_plans 121 = .ok (.iload 5, 2) := by decide +kernel
theorem dX9_plans_123 : decode cX9_plans 123 = .ok (.iconst 2, 1) := by decide +kernel
theorem dX9_plans_124 : decode cX9_plans 124 = .ok (.iload_n 1, 1) := by decide +kernel
theorem dX9_plans_125 : decode cX9_plans 125 = .ok (.imul, 1) := by decide +kernel
theorem dX9_plans_126 : decode cX9_plans 126 = .ok (.irem, 1) := by decide +kernel
theorem dX9_plans_127 : decode cX9_plans 127 = .ok (.goto 4, 3) := by decide +kernel
theorem dX9_plans_130 : decode cX9_plans 130 = .ok (.iconst 0, 1) := by decide +kernel
theorem dX9_plans_131 : decode cX9_plans 131 = .ok (.istore 10, 2) := by decide +kernel
theorem dX9_plans_133 : decode cX9_plans 133 = .ok (.aload_n 0, 1) := by decide +kernel
theorem dX9_plans_134 : decode cX9_plans 134 = .ok (.getfield 34, 3) := by decide +kernel
theorem dX9_plans_137 : decode cX9_plans 137 = .ok (.iload 9, 2) := by decide +kernel
theorem dX9_plans_139 : decode cX9_plans 139 = .ok (.iaload, 1) := by decide +kernel
theorem dX9_plans_140 : decode cX9_plans 140 = .ok (.iconst 1, 1) := by decide +kernel
theorem dX9_plans_141 : decode cX9_plans 141 = .ok (.if_icmp .ne 19, 3) := by decide +kernel
theorem dX9_plans_144 : decode cX9_plans 144 = .ok (.aload_n 0, 1) := by decide +kernel
theorem dX9_plans_145 : decode cX9_plans 145 = .ok (.getfield 37, 3) := by decide +kernel
theorem dX9_plans_148 : decode cX9_plans 148 = .ok (.bipush 12, 2) := by decide +kernel
theorem dX9_plans_150 : decode cX9_plans 150 = .ok (.iload 9, 2) := by decide +kernel
theorem dX9_plans_152 : decode cX9_plans 152 = .ok (.imul, 1) := by decide +kernel
theorem dX9_plans_153 : decode cX9_plans 153 = .ok (.iload 10, 2) := by decide +kernel
theorem dX9_plans_155 : decode cX9_plans 155 = .ok (.iadd, 1) := by decide +kernel
theorem dX9_plans_156 : decode cX9_plans 156 = .ok (.iaload, 1) := by decide +kernel
theorem dX9_plans_157 : decode cX9_plans 157 = .ok (.goto 4, 3) := by decide +kernel
theorem dX9_plans_160 : decode cX9_plans 160 = .ok (.iconst 0, 1) := by decide +kernel
theorem dX9_plans_161 : decode cX9_plans 161 = .ok (.istore 11, 2) := by decide +kernel
theorem dX9_plans_163 : decode cX9_plans 163 = .ok (.aload_n 0, 1) := by decide +kernel
theorem dX9_plans_164 : decode cX9_plans 164 = .ok (.getfield 34, 3) := by decide +kernel
theorem dX9_plans_167 : decode cX9_plans 167 = .ok (.iload 9, 2) := by decide +kernel
theorem dX9_plans_169 : decode cX9_plans 169 = .ok (.iaload, 1) := by decide +kernel
theorem dX9_plans_170 : decode cX9_plans 170 = .ok (.iconst 1, 1) := by decide +kernel
theorem dX9_plans_171 : decode cX9_plans 171 = .ok (.if_icmp .ne 12, 3) := by decide +kernel
theorem dX9_plans_174 : decode cX9_plans 174 = .ok (.iload 5, 2) := by decide +kernel
theorem dX9_plans_176 : decode cX9_plans 176 = .ok (.iconst 2, 1) := by decide +kernel
theorem dX9_plans_177 : decode cX9_plans 177 = .ok (.iload_n 1, 1) := by decide +kernel
theorem dX9_plans_178 : decode cX9_plans 178 = .ok (.imul, 1) := by decide +kernel
theorem dX9_plans_179 : decode cX9_plans 179 = .ok (.idiv, 1) := by decide +kernel
theorem dX9_plans_180 : decode cX9_plans 180 = .ok (.goto 5, 3) := by decide +kernel
theorem dX9_plans_183 : decode cX9_plans 183 = .ok (.iload 5, 2) := by decide +kernel
theorem dX9_plans_185 : decode cX9_plans 185 = .ok (.istore 5, 2) := by decide +kernel
theorem dX9_plans_187 : decode cX9_plans 187 = .ok (.iload 6, 2) := by decide +kernel
theorem dX9_plans_189 : decode cX9_plans 189 = .ok (.aload_n 0, 1) := by decide +kernel
theorem dX9_plans_190 : decode cX9_plans 190 = .ok (.getfield 34, 3) := by decide +kernel
theorem dX9_plans_193 : decode cX9_plans 193 = .ok (.iload 9, 2) := by decide +kernel
theorem dX9_plans_195 : decode cX9_plans 195 = .ok (.iaload, 1) := by decide +kernel
theorem dX9_plans_196 : decode cX9_plans 196 = .ok (.iconst 1, 1) := by decide +kernel
theorem dX9_plans_197 : decode cX9_plans 197 = .ok (.if_icmp .ne 12, 3) := by decide +kernel
theorem dX9_plans_200 : decode cX9_plans 200 = .ok (.iconst 1, 1) := by decide +kernel
theorem dX9_plans_201 : decode cX9_plans 201 = .ok (.iload 10, 2) := by decide +kernel
theorem dX9_plans_203 : decode cX9_plans 203 = .ok (.iconst 2, 1) := by decide +kernel
theorem dX9_plans_204 : decode cX9_plans 204 = .ok (.idiv, 1) := by decide +kernel
theorem dX9_plans_205 : decode cX9_plans 205 = .ok (.ishl, 1) := by decide +kernel
theorem dX9_plans_206 : decode cX9_plans 206 = .ok (.goto 4, 3) := by decide +kernel
theorem dX9_plans_209 : decode cX9_plans 209 = .ok (.iconst 0, 1) := by decide +kernel
theorem dX9_plans_210 : decode cX9_plans 210 = .ok (.ior, 1) := by decide +kernel
theorem dX9_plans_211 : decode cX9_plans 211 = .ok (.istore 6, 2) := by decide +kernel
theorem dX9_plans_213 : decode cX9_plans 213 = .ok (.iload 8, 2) := by decide +kernel
theorem dX9_plans_215 : decode cX9_plans 215 = .ok (.ifCond .eq 14, 3) := by decide +kernel
theorem dX9_plans_218 : decode cX9_plans 218 = .ok (.iload 11, 2) := by decide +kernel
theorem dX9_plans_220 : decode cX9_plans 220 = .ok (.bipush (-4), 2) := by decide +kernel
theorem dX9_plans_222 : decode cX9_plans 222 = .ok (.if_icmp .eq 7, 3) := by decide +kernel
theorem dX9_plans_225 : decode cX9_plans 225 = .ok (.iconst 1, 1) := by decide +kernel
theorem dX9_plans_226 : decode cX9_plans 226 = .ok (.goto 4, 3) := by decide +kernel
theorem dX9_plans_229 : decode cX9_plans 229 = .ok (.iconst 0, 1) := by decide +kernel
theorem dX9_plans_230 : decode cX9_plans 230 = .ok (.istore 8, 2) := by decide +kernel
theorem dX9_plans_232 : decode cX9_plans 232 = .ok (.iload 7, 2) := by decide +kernel
theorem dX9_plans_234 : decode cX9_plans 234 = .ok (.iload 11, 2) := by decide +kernel
theorem dX9_plans_236 : decode cX9_plans 236 = .ok (.iadd, 1) := by decide +kernel
theorem dX9_plans_237 : decode cX9_plans 237 = .ok (.istore 7, 2) := by decide +kernel
theorem dX9_plans_239 : decode cX9_plans 239 = .ok (.aload_n 0, 1) := by decide +kernel
theorem dX9_plans_240 : decode cX9_plans 240 = .ok (.getfield 40, 3) := by decide +kernel
theorem dX9_plans_243 : decode cX9_plans 243 = .ok (.iload 9, 2) := by decide +kernel
theorem dX9_plans_245 : decode cX9_plans 245 = .ok (.iload 10, 2) := by decide +kernel
theorem dX9_plans_247 : decode cX9_plans 247 = .ok (.iastore, 1) := by decide +kernel
theorem dX9_plans_248 : decode cX9_plans 248 = .ok (.iinc 9 (-1), 3) := by decide +kernel
theorem dX9_plans_251 : decode cX9_plans 251 = .ok (.goto (-146), 3) := by decide +kernel
theorem dX9_plans_254 : decode cX9_plans 254 = .ok (.iload 7, 2) := by decide +kernel
theorem dX9_plans_256 : decode cX9_plans 256 = .ok (.aload_n 0, 1) := by decide +kernel
theorem dX9_plans_257 : decode cX9_plans 257 = .ok (.getfield 28, 3) := by decide +kernel
theorem dX9_plans_260 : decode cX9_plans 260 = .ok (.iload 6, 2) := by decide +kernel
theorem dX9_plans_262 : decode cX9_plans 262 = .ok (.iaload, 1) := by decide +kernel
theorem dX9_plans_263 : decode cX9_plans 263 = .ok (.iadd, 1) := by decide +kernel
theorem dX9_plans_264 : decode cX9_plans 264 = .ok (.istore 9, 2) := by decide +kernel
theorem dX9_plans_266 : decode cX9_plans 266 = .ok (.iload 8, 2) := by decide +kernel
theorem dX9_plans_268 : decode cX9_plans 268 = .ok (.ifCond .eq 53, 3) := by decide +kernel
theorem dX9_plans_271 : decode cX9_plans 271 = .ok (.iload_n 3, 1) := by decide +kernel
theorem dX9_plans_272 : decode cX9_plans 272 = .ok (.ifCond .eq 45, 3) := by decide +kernel
theorem dX9_plans_275 : decode cX9_plans 275 = .ok (.iload 9, 2) := by decide +kernel
theorem dX9_plans_277 : decode cX9_plans 277 = .ok (.aload_n 0, 1) := by decide +kernel
theorem dX9_plans_278 : decode cX9_plans 278 = .ok (.getfield 185, 3) := by decide +kernel
theorem dX9_plans_281 : decode cX9_plans 281 = .ok (.aload_n 0, 1) := by decide +kernel
theorem dX9_plans_282 : decode cX9_plans 282 = .ok (.getfield 188, 3) := by decide +kernel
theorem dX9_plans_285 : decode cX9_plans 285 = .ok (.iadd, 1) := by decide +kernel
theorem dX9_plans_286 : decode cX9_plans 286 = .ok (.if_icmp .lt 31, 3) := by decide +kernel
theorem dX9_plans_289 : decode cX9_plans 289 = .ok (.iload 9, 2) := by decide +kernel
theorem dX9_plans_291 : decode cX9_plans 291 = .ok (.aload_n 0, 1) := by decide +kernel
theorem dX9_plans_292 : decode cX9_plans 292 = .ok (.getfield 185, 3) := by decide +kernel
theorem dX9_plans_295 : decode cX9_plans 295 = .ok (.aload_n 0, 1) := by decide +kernel
theorem dX9_plans_296 : decode cX9_plans 296 = .ok (.getfield 188, 3) := by decide +kernel
theorem dX9_plans_299 : decode cX9_plans 299 = .ok (.iadd, 1) := by decide +kernel
theorem dX9_plans_300 : decode cX9_plans 300 = .ok (.if_icmp .ne 21, 3) := by decide +kernel
theorem dX9_plans_303 : decode cX9_plans 303 = .ok (.aload_n 0, 1) := by decide +kernel
theorem dX9_plans_304 : decode cX9_plans 304 = .ok (.getfield 28, 3) := by decide +kernel
theorem dX9_plans_307 : decode cX9_plans 307 = .ok (.iload 6, 2) := by decide +kernel
theorem dX9_plans_309 : decode cX9_plans 309 = .ok (.iaload, 1) := by decide +kernel
theorem dX9_plans_310 : decode cX9_plans 310 = .ok (.aload_n 0, 1) := by decide +kernel
theorem dX9_plans_311 : decode cX9_plans 311 = .ok (.getfield 188, 3) := by decide +kernel
theorem dX9_plans_314 : decode cX9_plans 314 = .ok (.if_icmp .ge 7, 3) := by decide +kernel
theorem dX9_plans_317 : decode cX9_plans 317 = .ok (.iconst 1, 1) := by decide +kernel
theorem dX9_plans_318 : decode cX9_plans 318 = .ok (.goto 4, 3) := by decide +kernel
theorem dX9_plans_321 : decode cX9_plans 321 = .ok (.iconst 0, 1) := by decide +kernel
theorem dX9_plans_322 : decode cX9_plans 322 = .ok (.istore 10, 2) := by decide +kernel
theorem dX9_plans_324 : decode cX9_plans 324 = .ok (.iload 10, 2) := by decide +kernel
theorem dX9_plans_326 : decode cX9_plans 326 = .ok (.ifCond .eq 56, 3) := by decide +kernel
theorem dX9_plans_329 : decode cX9_plans 329 = .ok (.iconst 1, 1) := by decide +kernel
theorem dX9_plans_330 : decode cX9_plans 330 = .ok (.istore_n 3, 1) := by decide +kernel
theorem dX9_plans_331 : decode cX9_plans 331 = .ok (.aload_n 0, 1) := by decide +kernel
theorem dX9_plans_332 : decode cX9_plans 332 = .ok (.iload 7, 2) := by decide +kernel
theorem dX9_plans_334 : decode cX9_plans 334 = .ok (.putfield 185, 3) := by decide +kernel
theorem dX9_plans_337 : decode cX9_plans 337 = .ok (.aload_n 0, 1) := by decide +kernel
theorem dX9_plans_338 : decode cX9_plans 338 = .ok (.aload_n 0, 1) := by decide +kernel
theorem dX9_plans_339 : decode cX9_plans 339 = .ok (.getfield 28, 3) := by decide +kernel
theorem dX9_plans_342 : decode cX9_plans 342 = .ok (.iload 6, 2) := by decide +kernel
theorem dX9_plans_344 : decode cX9_plans 344 = .ok (.iaload, 1) := by decide +kernel
theorem dX9_plans_345 : decode cX9_plans 345 = .ok (.putfield 188, 3) := by decide +kernel
theorem dX9_plans_348 : decode cX9_plans 348 = .ok (.iconst 0, 1) := by decide +kernel
theorem dX9_plans_349 : decode cX9_plans 349 = .ok (.istore 11, 2) := by decide +kernel
theorem dX9_plans_351 : decode cX9_plans 351 = .ok (.iload 11, 2) := by decide +kernel
theorem dX9_plans_353 : decode cX9_plans 353 = .ok (.aload_n 0, 1) := by decide +kernel
theorem dX9_plans_354 : decode cX9_plans 354 = .ok (.getfield 13, 3) := by decide +kernel
theorem dX9_plans_357 : decode cX9_plans 357 = .ok (.iconst 3, 1) := by decide +kernel
theorem dX9_plans_358 : decode cX9_plans 358 = .ok (.iaload, 1) := by decide +kernel
theorem dX9_plans_359 : decode cX9_plans 359 = .ok (.if_icmp .ge 23, 3) := by decide +kernel
theorem dX9_plans_362 : decode cX9_plans 362 = .ok (.aload_n 0, 1) := by decide +kernel
theorem dX9_plans_363 : decode cX9_plans 363 = .ok (.getfield 31, 3) := by decide +kernel
theorem dX9_plans_366 : decode cX9_plans 366 = .ok (.iload 11, 2) := by decide +kernel
theorem dX9_plans_368 : decode cX9_plans 368 = .ok (.aload_n 0, 1) := by decide +kernel
theorem dX9_plans_369 : decode cX9_plans 369 = .ok (.getfield 40, 3) := by decide +kernel
theorem dX9_plans_372 : decode cX9_plans 372 = .ok (.iload 11, 2) := by decide +kernel
theorem dX9_plans_374 : decode cX9_plans 374 = .ok (.iaload, 1) := by decide +kernel
theorem dX9_plans_375 : decode cX9_plans 375 = .ok (.iastore, 1) := by decide +kernel
theorem dX9_plans_376 : decode cX9_plans 376 = .ok (.iinc 11 1, 3) := by decide +kernel
theorem dX9_plans_379 : decode cX9_plans 379 = .ok (.goto (-28), 3) := by decide +kernel
theorem dX9_plans_382 : decode cX9_plans 382 = .ok (.iinc 4 1, 3) := by decide +kernel
theorem dX9_plans_385 : decode cX9_plans 385 = .ok (.goto (-309), 3) := by decide +kernel
theorem dX9_plans_388 : decode cX9_plans 388 = .ok (.iload_n 3, 1) := by decide +kernel
theorem dX9_plans_389 : decode cX9_plans 389 = .ok (.ireturn, 1) := by decide +kernel
theorem dX9_looks_0 : decode cX9_looks 0 = .ok (.iconst 0, 1) := by decide +kernel
theorem dX9_looks_1 : decode cX9_looks 1 = .ok (.istore_n 1, 1) := by decide +kernel
theorem dX9_looks_2 : decode cX9_looks 2 = .ok (.iload_n 1, 1) := by decide +kernel
theorem dX9_looks_3 : decode cX9_looks 3 = .ok (.aload_n 0, 1) := by decide +kernel
theorem dX9_looks_4 : decode cX9_looks 4 = .ok (.getfield 13, 3) := by decide +kernel
theorem dX9_looks_7 : decode cX9_looks 7 = .ok (.iconst 3, 1) := by decide +kernel
theorem dX9_looks_8 : decode cX9_looks 8 = .ok (.iaload, 1) := by decide +kernel
theorem dX9_looks_9 : decode cX9_looks 9 = .ok (.if_icmp .ge 70, 3) := by decide +kernel
theorem dX9_looks_12 : decode cX9_looks 12 = .ok (.aload_n 0, 1) := by decide +kernel
theorem dX9_looks_13 : decode cX9_looks 13 = .ok (.getfield 34, 3) := by decide +kernel
theorem dX9_looks_16 : decode cX9_looks 16 = .ok (.iload_n 1, 1) := by decide +kernel
theorem dX9_looks_17 : decode cX9_looks 17 = .ok (.aload_n 0, 1) := by decide +kernel
theorem dX9_looks_18 : decode cX9_looks 18 = .ok (.iload_n 1, 1) := by decide +kernel
theorem dX9_looks_19 : decode cX9_looks 19 = .ok (.invokevirtual 165, 3) := by decide +kernel
theorem dX9_looks_22 : decode cX9_looks 22 = .ok (.ifCond .le 7, 3) := by decide +kernel
theorem dX9_looks_25 : decode cX9_looks 25 = .ok (.iconst 1, 1) := by decide +kernel
theorem dX9_looks_26 : decode cX9_looks 26 = .ok (.goto 4, 3) := by decide +kernel
theorem dX9_looks_29 : decode cX9_looks 29 = .ok (.iconst 0, 1) := by decide +kernel
theorem dX9_looks_30 : decode cX9_looks 30 = .ok (.iastore, 1) := by decide +kernel
theorem dX9_looks_31 : decode cX9_looks 31 = .ok (.iconst 0, 1) := by decide +kernel
theorem dX9_looks_32 : decode cX9_looks 32 = .ok (.istore_n 2, 1) := by decide +kernel
theorem dX9_looks_33 : decode cX9_looks 33 = .ok (.iload_n 2, 1) := by decide +kernel
theorem dX9_looks_34 : decode cX9_looks 34 = .ok (.iconst 2, 1) := by decide +kernel
theorem dX9_looks_35 : decode cX9_looks 35 = .ok (.aload_n 0, 1) := by decide +kernel
theorem dX9_looks_36 : decode cX9_looks 36 = .ok (.getfield 13, 3) := by decide +kernel
theorem dX9_looks_39 : decode cX9_looks 39 = .ok (.iconst 2, 1) := by decide +kernel
theorem dX9_looks_40 : decode cX9_looks 40 = .ok (.iaload, 1) := by decide +kernel
theorem dX9_looks_41 : decode cX9_looks 41 = .ok (.imul, 1) := by decide +kernel
theorem dX9_looks_42 : decode cX9_looks 42 = .ok (.if_icmp .ge 31, 3) := by decide +kernel
theorem dX9_looks_45 : decode cX9_looks 45 = .ok (.aload_n 0, 1) := by decide +kernel
theorem dX9_looks_46 : decode cX9_looks 46 = .ok (.getfield 37, 3) := by decide +kernel
theorem dX9_looks_49 : decode cX9_looks 49 = .ok (.bipush 12, 2) := by decide +kernel
theorem dX9_looks_51 : decode cX9_looks 51 = .ok (.iload_n 1, 1) := by decide +kernel
theorem dX9_looks_52 : decode cX9_looks 52 = .ok (.imul, 1) := by decide +kernel
theorem dX9_looks_53 : decode cX9_looks 53 = .ok (.iload_n 2, 1) := by decide +kernel
theorem dX9_looks_54 : decode cX9_looks 54 = .ok (.iadd, 1) := by decide +kernel
theorem dX9_looks_55 : decode cX9_looks 55 = .ok (.aload_n 0, 1) := by decide +kernel
theorem dX9_looks_56 : decode cX9_looks 56 = .ok (.iload_n 1, 1) := by decide +kernel
theorem dX9_looks_57 : decode cX9_looks 57 = .ok (.iload_n 2, 1) := by decide +kernel
theorem dX9_looks_58 : decode cX9_looks 58 = .ok (.iconst 2, 1) := by decide +kernel
theorem dX9_looks_59 : decode cX9_looks 59 = .ok (.idiv, 1) := by decide +kernel
theorem dX9_looks_60 : decode cX9_looks 60 = .ok (.iload_n 2, 1) := by decide +kernel
theorem dX9_looks_61 : decode cX9_looks 61 = .ok (.iconst 2, 1) := by decide +kernel
theorem dX9_looks_62 : decode cX9_looks 62 = .ok (.irem, 1) := by decide +kernel
theorem dX9_looks_63 : decode cX9_looks 63 = .ok (.invokevirtual 161, 3) := by decide +kernel
theorem dX9_looks_66 : decode cX9_looks 66 = .ok (.iastore, 1) := by decide +kernel
theorem dX9_looks_67 : decode cX9_looks 67 = .ok (.iinc 2 1, 3) := by decide +kernel
theorem dX9_looks_70 : decode cX9_looks 70 = .ok (.goto (-37), 3) := by decide +kernel
theorem dX9_looks_73 : decode cX9_looks 73 = .ok (.iinc 1 1, 3) := by decide +kernel
theorem dX9_looks_76 : decode cX9_looks 76 = .ok (.goto (-74), 3) := by decide +kernel
theorem dX9_looks_79 : decode cX9_looks 79 = .ok (.return_, 1) := by decide +kernel
theorem dX9_plan_0 : decode cX9_plan 0 = .ok (.iload_n 1, 1) := by decide +kernel
theorem dX9_plan_1 : decode cX9_plan 1 = .ok (.i2l, 1) := by decide +kernel
theorem dX9_plan_2 : decode cX9_plan 2 = .ok (.ldc2_w 191, 3) := by decide +kernel
theorem dX9_plan_5 : decode cX9_plan 5 = .ok (.aload_n 0, 1) := by decide +kernel
theorem dX9_plan_6 : decode cX9_plan 6 = .ok (.getfield 13, 3) := by decide +kernel
theorem dX9_plan_9 : decode cX9_plan 9 = .ok (.iconst 3, 1) := by decide +kernel
theorem dX9_plan_10 : decode cX9_plan 10 = .ok (.iaload, 1) := by decide +kernel
theorem dX9_plan_11 : decode cX9_plan 11 = .ok (.iconst 1, 1) := by decide +kernel
theorem dX9_plan_12 : decode cX9_plan 12 = .ok (.isub, 1) := by decide +kernel
theorem dX9_plan_13 : decode cX9_plan 13 = .ok (.i2l, 1) := by decide +kernel
theorem dX9_plan_14 : decode cX9_plan 14 = .ok (.invokestatic 58, 3) := by decide +kernel
theorem dX9_plan_17 : decode cX9_plan 17 = .ok (.ifCond .ne 5, 3) := by decide +kernel
theorem dX9_plan_20 : decode cX9_plan 20 = .ok (.iconst (-1), 1) := by decide +kernel
theorem dX9_plan_21 : decode cX9_plan 21 = .ok (.ireturn, 1) := by decide +kernel
theorem dX9_plan_22 : decode cX9_plan 22 = .ok (.aload_n 0, 1) := by decide +kernel
theorem dX9_plan_23 : decode cX9_plan 23 = .ok (.invokevirtual 193, 3) := by decide +kernel
theorem dX9_plan_26 : decode cX9_plan 26 = .ok (.aload_n 0, 1) := by decide +kernel
theorem dX9_plan_27 : decode cX9_plan 27 = .ok (.invokevirtual 196, 3) := by decide +kernel
theorem dX9_plan_30 : decode cX9_plan 30 = .ok (.ifCond .ne 6, 3) := by decide +kernel
theorem dX9_plan_33 : decode cX9_plan 33 = .ok (.bipush (-4), 2) := by decide +kernel
theorem dX9_plan_35 : decode cX9_plan 35 = .ok (.ireturn, 1) := by decide +kernel
theorem dX9_plan_36 : decode cX9_plan 36 = .ok (.iload_n 1, 1) := by decide +kernel
theorem dX9_plan_37 : decode cX9_plan 37 = .ok (.iconst (-1), 1) := by decide +kernel
theorem dX9_plan_38 : decode cX9_plan 38 = .ok (.if_icmp .ne 10, 3) := by decide +kernel
theorem dX9_plan_41 : decode cX9_plan 41 = .ok (.aload_n 0, 1) := by decide +kernel
theorem dX9_plan_42 : decode cX9_plan 42 = .ok (.getfield 185, 3) := by decide +kernel
theorem dX9_plan_45 : decode cX9_plan 45 = .ok (.goto 37, 3) := by decide +kernel
theorem dX9_plan_48 : decode cX9_plan 48 = .ok (.iload_n 1, 1) := by decide +kernel
theorem dX9_plan_49 : decode cX9_plan 49 = .ok (.bipush (-2), 2) := by decide +kernel
theorem dX9_plan_51 : decode cX9_plan 51 = .ok (.if_icmp .ne 10, 3) := by decide +kernel
theorem dX9_plan_54 : decode cX9_plan 54 = .ok (.aload_n 0, 1) := by decide +kernel
theorem dX9_plan_55 : decode cX9_plan 55 = .ok (.getfield 188, 3) := by decide +kernel
theorem dX9_plan_58 : decode cX9_plan 58 = .ok (.goto 24, 3) := by decide +kernel
theorem dX9_plan_61 : decode cX9_plan 61 = .ok (.aload_n 0, 1) := by decide +kernel
theorem dX9_plan_62 : decode cX9_plan 62 = .ok (.getfield 34, 3) := by decide +kernel
theorem dX9_plan_65 : decode cX9_plan 65 = .ok (.iload_n 1, 1) := by decide +kernel
theorem dX9_plan_66 : decode cX9_plan 66 = .ok (.iaload, 1) := by decide +kernel
theorem dX9_plan_67 : decode cX9_plan 67 = .ok (.iconst 1, 1) := by decide +kernel
theorem dX9_plan_68 : decode cX9_plan 68 = .ok (.if_icmp .ne 12, 3) := by decide +kernel
theorem dX9_plan_71 : decode cX9_plan 71 = .ok (.aload_n 0, 1) := by decide +kernel
theorem dX9_plan_72 : decode cX9_plan 72 = .ok (.getfield 31, 3) := by decide +kernel
theorem dX9_plan_75 : decode cX9_plan 75 = .ok (.iload_n 1, 1) := by decide +kernel
theorem dX9_plan_76 : decode cX9_plan 76 = .ok (.iaload, 1) := by decide +kernel
theorem dX9_plan_77 : decode cX9_plan 77 = .ok (.goto 5, 3) := by decide +kernel
theorem dX9_plan_80 : decode cX9_plan 80 = .ok (.bipush (-4), 2) := by decide +kernel
theorem dX9_plan_82 : decode cX9_plan 82 = .ok (.ireturn, 1) := by decide +kernel
theorem dX9_drawn_0 : decode cX9_drawn 0 = .ok (.iload_n 1, 1) := by decide +kernel
theorem dX9_drawn_1 : decode cX9_drawn 1 = .ok (.ifCond .ge 5, 3) := by decide +kernel
theorem dX9_drawn_4 : decode cX9_drawn 4 = .ok (.iconst (-1), 1) := by decide +kernel
theorem dX9_drawn_5 : decode cX9_drawn 5 = .ok (.ireturn, 1) := by decide +kernel
theorem dX9_drawn_6 : decode cX9_drawn 6 = .ok (.aload_n 0, 1) := by decide +kernel
theorem dX9_drawn_7 : decode cX9_drawn 7 = .ok (.getfield 13, 3) := by decide +kernel
theorem dX9_drawn_10 : decode cX9_drawn 10 = .ok (.iconst 0, 1) := by decide +kernel
theorem dX9_drawn_11 : decode cX9_drawn 11 = .ok (.iaload, 1) := by decide +kernel
theorem dX9_drawn_12 : decode cX9_drawn 12 = .ok (.iconst 1, 1) := by decide +kernel
theorem dX9_drawn_13 : decode cX9_drawn 13 = .ok (.iadd, 1) := by decide +kernel
theorem dX9_drawn_14 : decode cX9_drawn 14 = .ok (.istore_n 2, 1) := by decide +kernel
theorem dX9_drawn_15 : decode cX9_drawn 15 = .ok (.iload_n 1, 1) := by decide +kernel
theorem dX9_drawn_16 : decode cX9_drawn 16 = .ok (.iload_n 2, 1) := by decide +kernel
theorem dX9_drawn_17 : decode cX9_drawn 17 = .ok (.irem, 1) := by decide +kernel
theorem dX9_drawn_18 : decode cX9_drawn 18 = .ok (.istore_n 3, 1) := by decide +kernel
theorem dX9_drawn_19 : decode cX9_drawn 19 = .ok (.iload_n 1, 1) := by decide +kernel
theorem dX9_drawn_20 : decode cX9_drawn 20 = .ok (.iload_n 2, 1) := by decide +kernel
theorem dX9_drawn_21 : decode cX9_drawn 21 = .ok (.idiv, 1) := by decide +kernel
theorem dX9_drawn_22 : decode cX9_drawn 22 = .ok (.istore 4, 2) := by decide +kernel
theorem dX9_drawn_24 : decode cX9_drawn 24 = .ok (.iload 4, 2) := by decide +kernel
theorem dX9_drawn_26 : decode cX9_drawn 26 = .ok (.aload_n 0, 1) := by decide +kernel
theorem dX9_drawn_27 : decode cX9_drawn 27 = .ok (.getfield 13, 3) := by decide +kernel
theorem dX9_drawn_30 : decode cX9_drawn 30 = .ok (.iconst 1, 1) := by decide +kernel
theorem dX9_drawn_31 : decode cX9_drawn 31 = .ok (.iaload, 1) := by decide +kernel
theorem dX9_drawn_32 : decode cX9_drawn 32 = .ok (.if_icmp .lt 6, 3) := by decide +kernel
theorem dX9_drawn_35 : decode cX9_drawn 35 = .ok (.bipush (-4), 2) := by decide +kernel
theorem dX9_drawn_37 : decode cX9_drawn 37 = .ok (.ireturn, 1) := by decide +kernel
theorem dX9_drawn_38 : decode cX9_drawn 38 = .ok (.iload_n 3, 1) := by decide +kernel
theorem dX9_drawn_39 : decode cX9_drawn 39 = .ok (.aload_n 0, 1) := by decide +kernel
theorem dX9_drawn_40 : decode cX9_drawn 40 = .ok (.getfield 13, 3) := by decide +kernel
theorem dX9_drawn_43 : decode cX9_drawn 43 = .ok (.iconst 0, 1) := by decide +kernel
theorem dX9_drawn_44 : decode cX9_drawn 44 = .ok (.iaload, 1) := by decide +kernel
theorem dX9_drawn_45 : decode cX9_drawn 45 = .ok (.if_icmp .ne 8, 3) := by decide +kernel
theorem dX9_drawn_48 : decode cX9_drawn 48 = .ok (.bipush 47, 2) := by decide +kernel
theorem dX9_drawn_50 : decode cX9_drawn 50 = .ok (.goto 60, 3) := by decide +kernel
theorem dX9_drawn_53 : decode cX9_drawn 53 = .ok (.aload_n 0, 1) := by decide +kernel
theorem dX9_drawn_54 : decode cX9_drawn 54 = .ok (.iload_n 3, 1) := by decide +kernel
theorem dX9_drawn_55 : decode cX9_drawn 55 = .ok (.iload 4, 2) := by decide +kernel
theorem dX9_drawn_57 : decode cX9_drawn 57 = .ok (.invokevirtual 127, 3) := by decide +kernel
theorem dX9_drawn_60 : decode cX9_drawn 60 = .ok (.bipush (-4), 2) := by decide +kernel
theorem dX9_drawn_62 : decode cX9_drawn 62 = .ok (.if_icmp .eq 8, 3) := by decide +kernel
theorem dX9_drawn_65 : decode cX9_drawn 65 = .ok (.bipush 99, 2) := by decide +kernel
theorem dX9_drawn_67 : decode cX9_drawn 67 = .ok (.goto 43, 3) := by decide +kernel
theorem dX9_drawn_70 : decode cX9_drawn 70 = .ok (.aload_n 0, 1) := by decide +kernel
theorem dX9_drawn_71 : decode cX9_drawn 71 = .ok (.getfield 19, 3) := by decide +kernel
theorem dX9_drawn_74 : decode cX9_drawn 74 = .ok (.bipush 12, 2) := by decide +kernel
theorem dX9_drawn_76 : decode cX9_drawn 76 = .ok (.iload 4, 2) := by decide +kernel
theorem dX9_drawn_78 : decode cX9_drawn 78 = .ok (.imul, 1) := by decide +kernel
theorem dX9_drawn_79 : decode cX9_drawn 79 = .ok (.iload_n 3, 1) := by decide +kernel
theorem dX9_drawn_80 : decode cX9_drawn 80 = .ok (.iadd, 1) := by decide +kernel
theorem dX9_drawn_81 : decode cX9_drawn 81 = .ok (.iaload, 1) := by decide +kernel
theorem dX9_drawn_82 : decode cX9_drawn 82 = .ok (.iconst 1, 1) := by decide +kernel
theorem dX9_drawn_83 : decode cX9_drawn 83 = .ok (.if_icmp .ne 8, 3) := by decide +kernel
theorem dX9_drawn_86 : decode cX9_drawn 86 = .ok (.bipush 111, 2) := by decide +kernel
theorem dX9_drawn_88 : decode cX9_drawn 88 = .ok (.goto 22, 3) := by decide +kernel
theorem dX9_drawn_91 : decode cX9_drawn 91 = .ok (.aload_n 0, 1) := by decide +kernel
theorem dX9_drawn_92 : decode cX9_drawn 92 = .ok (.iload_n 3, 1) := by decide +kernel
theorem dX9_drawn_93 : decode cX9_drawn 93 = .ok (.iload 4, 2) := by decide +kernel
theorem dX9_drawn_95 : decode cX9_drawn 95 = .ok (.invokevirtual 124, 3) := by decide +kernel
theorem dX9_drawn_98 : decode cX9_drawn 98 = .ok (.bipush (-4), 2) := by decide +kernel
theorem dX9_drawn_100 : decode cX9_drawn 100 = .ok (.if_icmp .eq 8, 3) := by decide +kernel
theorem dX9_drawn_103 : decode cX9_drawn 103 = .ok (.bipush 35, 2) := by decide +kernel
theorem dX9_drawn_105 : decode cX9_drawn 105 = .ok (.goto 5, 3) := by decide +kernel
theorem dX9_drawn_108 : decode cX9_drawn 108 = .ok (.bipush 46, 2) := by decide +kernel
theorem dX9_drawn_110 : decode cX9_drawn 110 = .ok (.ireturn, 1) := by decide +kernel
theorem dX9_count_0 : decode cX9_count 0 = .ok (.iconst 0, 1) := by decide +kernel
theorem dX9_count_1 : decode cX9_count 1 = .ok (.istore_n 2, 1) := by decide +kernel
theorem dX9_count_2 : decode cX9_count 2 = .ok (.iconst 0, 1) := by decide +kernel
theorem dX9_count_3 : decode cX9_count 3 = .ok (.istore_n 3, 1) := by decide +kernel
theorem dX9_count_4 : decode cX9_count 4 = .ok (.iload_n 3, 1) := by decide +kernel
theorem dX9_count_5 : decode cX9_count 5 = .ok (.sipush 144, 3) := by decide +kernel
theorem dX9_count_8 : decode cX9_count 8 = .ok (.if_icmp .ge 18, 3) := by decide +kernel
theorem dX9_count_11 : decode cX9_count 11 = .ok (.iload_n 2, 1) := by decide +kernel
theorem dX9_count_12 : decode cX9_count 12 = .ok (.aload_n 0, 1) := by decide +kernel
theorem dX9_count_13 : decode cX9_count 13 = .ok (.getfield 19, 3) := by decide +kernel
theorem dX9_count_16 : decode cX9_count 16 = .ok (.iload_n 3, 1) := by decide +kernel
theorem dX9_count_17 : decode cX9_count 17 = .ok (.iaload, 1) := by decide +kernel
theorem dX9_count_18 : decode cX9_count 18 = .ok (.iadd, 1) := by decide +kernel
theorem dX9_count_19 : decode cX9_count 19 = .ok (.istore_n 2, 1) := by decide +kernel
theorem dX9_count_20 : decode cX9_count 20 = .ok (.iinc 3 1, 3) := by decide +kernel
theorem dX9_count_23 : decode cX9_count 23 = .ok (.goto (-19), 3) := by decide +kernel
theorem dX9_count_26 : decode cX9_count 26 = .ok (.iconst 0, 1) := by decide +kernel
theorem dX9_count_27 : decode cX9_count 27 = .ok (.istore_n 3, 1) := by decide +kernel
theorem dX9_count_28 : decode cX9_count 28 = .ok (.iconst 0, 1) := by decide +kernel
theorem dX9_count_29 : decode cX9_count 29 = .ok (.istore 4, 2) := by decide +kernel
theorem dX9_count_31 : decode cX9_count 31 = .ok (.iload 4, 2) := by decide +kernel
theorem dX9_count_33 : decode cX9_count 33 = .ok (.aload_n 0, 1) := by decide +kernel
theorem dX9_count_34 : decode cX9_count 34 = .ok (.getfield 13, 3) := by decide +kernel
theorem dX9_count_37 : decode cX9_count 37 = .ok (.iconst 3, 1) := by decide +kernel
theorem dX9_count_38 : decode cX9_count 38 = .ok (.iaload, 1) := by decide +kernel
theorem dX9_count_39 : decode cX9_count 39 = .ok (.if_icmp .ge 26, 3) := by decide +kernel
theorem dX9_count_42 : decode cX9_count 42 = .ok (.iload_n 3, 1) := by decide +kernel
theorem dX9_count_43 : decode cX9_count 43 = .ok (.aload_n 0, 1) := by decide +kernel
theorem dX9_count_44 : decode cX9_count 44 = .ok (.iload 4, 2) := by decide +kernel
theorem dX9_count_46 : decode cX9_count 46 = .ok (.invokevirtual 165, 3) := by decide +kernel
theorem dX9_count_49 : decode cX9_count 49 = .ok (.ifCond .ne 7, 3) := by decide +kernel
theorem dX9_count_52 : decode cX9_count 52 = .ok (.iconst 1, 1) := by decide +kernel
theorem dX9_count_53 : decode cX9_count 53 = .ok (.goto 4, 3) := by decide +kernel
theorem dX9_count_56 : decode cX9_count 56 = .ok (.iconst 0, 1) := by decide +kernel
theorem dX9_count_57 : decode cX9_count 57 = .ok (.iadd, 1) := by decide +kernel
theorem dX9_count_58 : decode cX9_count 58 = .ok (.istore_n 3, 1) := by decide +kernel
theorem dX9_count_59 : decode cX9_count 59 = .ok (.iinc 4 1, 3) := by decide +kernel
theorem dX9_count_62 : decode cX9_count 62 = .ok (.goto (-31), 3) := by decide +kernel
theorem dX9_count_65 : decode cX9_count 65 = .ok (.iload_n 1, 1) := by decide +kernel
theorem dX9_count_66 : decode cX9_count 66 = .ok (.tableswitch 109 0 12 #[66, 66, 66, 66, 66, 73, 73, 73, 86, 88, 90, 99, 104], 66) := by decide +kernel
theorem dX9_count_132 : decode cX9_count 132 = .ok (.aload_n 0, 1) := by decide +kernel
theorem dX9_count_133 : decode cX9_count 133 = .ok (.getfield 13, 3) := by decide +kernel
theorem dX9_count_136 : decode cX9_count 136 = .ok (.iload_n 1, 1) := by decide +kernel
theorem dX9_count_137 : decode cX9_count 137 = .ok (.iaload, 1) := by decide +kernel
theorem dX9_count_138 : decode cX9_count 138 = .ok (.ireturn, 1) := by decide +kernel
theorem dX9_count_139 : decode cX9_count 139 = .ok (.aload_n 0, 1) := by decide +kernel
theorem dX9_count_140 : decode cX9_count 140 = .ok (.getfield 19, 3) := by decide +kernel
theorem dX9_count_143 : decode cX9_count 143 = .ok (.sipush 153, 3) := by decide +kernel
theorem dX9_count_146 : decode cX9_count 146 = .ok (.iload_n 1, 1) := by decide +kernel
theorem dX9_count_147 : decode cX9_count 147 = .ok (.iadd, 1) := by decide +kernel
theorem dX9_count_148 : decode cX9_count 148 = .ok (.iconst 5, 1) := by decide +kernel
theorem dX9_count_149 : decode cX9_count 149 = .ok (.isub, 1) := by decide +kernel
theorem dX9_count_150 : decode cX9_count 150 = .ok (.iaload, 1) := by decide +kernel
theorem dX9_count_151 : decode cX9_count 151 = .ok (.ireturn, 1) := by decide +kernel
theorem dX9_count_152 : decode cX9_count 152 = .ok (.iload_n 2, 1) := by decide +kernel
theorem dX9_count_153 : decode cX9_count 153 = .ok (.ireturn, 1) := by decide +kernel
theorem dX9_count_154 : decode cX9_count 154 = .ok (.iload_n 3, 1) := by decide +kernel
theorem dX9_count_155 : decode cX9_count 155 = .ok (.ireturn, 1) := by decide +kernel
theorem dX9_count_156 : decode cX9_count 156 = .ok (.aload_n 0, 1) := by decide +kernel
theorem dX9_count_157 : decode cX9_count 157 = .ok (.getfield 19, 3) := by decide +kernel
theorem dX9_count_160 : decode cX9_count 160 = .ok (.sipush 150, 3) := by decide +kernel
theorem dX9_count_163 : decode cX9_count 163 = .ok (.iaload, 1) := by decide +kernel
theorem dX9_count_164 : decode cX9_count 164 = .ok (.ireturn, 1) := by decide +kernel
theorem dX9_count_165 : decode cX9_count 165 = .ok (.aload_n 0, 1) := by decide +kernel
theorem dX9_count_166 : decode cX9_count 166 = .ok (.getfield 50, 3) := by decide +kernel
theorem dX9_count_169 : decode cX9_count 169 = .ok (.ireturn, 1) := by decide +kernel
theorem dX9_count_170 : decode cX9_count 170 = .ok (.aload_n 0, 1) := by decide +kernel
theorem dX9_count_171 : decode cX9_count 171 = .ok (.getfield 62, 3) := by decide +kernel
theorem dX9_count_174 : decode cX9_count 174 = .ok (.ireturn, 1) := by decide +kernel
theorem dX9_count_175 : decode cX9_count 175 = .ok (.iconst (-1), 1) := by decide +kernel
theorem dX9_count_176 : decode cX9_count 176 = .ok (.ireturn, 1) := by decide +kernel
theorem dJ6_bitCount_0f7a4_0 : decode cJ6_bitCount_0f7a4 0 = .ok (.iload_n 0, 1) := by decide +kernel
theorem dJ6_bitCount_0f7a4_1 : decode cJ6_bitCount_0f7a4 1 = .ok (.iload_n 0, 1) := by decide +kernel
theorem dJ6_bitCount_0f7a4_2 : decode cJ6_bitCount_0f7a4 2 = .ok (.iconst 1, 1) := by decide +kernel
theorem dJ6_bitCount_0f7a4_3 : decode cJ6_bitCount_0f7a4 3 = .ok (.iushr, 1) := by decide +kernel
theorem dJ6_bitCount_0f7a4_4 : decode cJ6_bitCount_0f7a4 4 = .ok (.ldc_w 265, 3) := by decide +kernel
theorem dJ6_bitCount_0f7a4_7 : decode cJ6_bitCount_0f7a4 7 = .ok (.iand, 1) := by decide +kernel
theorem dJ6_bitCount_0f7a4_8 : decode cJ6_bitCount_0f7a4 8 = .ok (.isub, 1) := by decide +kernel
theorem dJ6_bitCount_0f7a4_9 : decode cJ6_bitCount_0f7a4 9 = .ok (.istore_n 0, 1) := by decide +kernel
theorem dJ6_bitCount_0f7a4_10 : decode cJ6_bitCount_0f7a4 10 = .ok (.iload_n 0, 1) := by decide +kernel
theorem dJ6_bitCount_0f7a4_11 : decode cJ6_bitCount_0f7a4 11 = .ok (.ldc_w 266, 3) := by decide +kernel
theorem dJ6_bitCount_0f7a4_14 : decode cJ6_bitCount_0f7a4 14 = .ok (.iand, 1) := by decide +kernel
theorem dJ6_bitCount_0f7a4_15 : decode cJ6_bitCount_0f7a4 15 = .ok (.iload_n 0, 1) := by decide +kernel
theorem dJ6_bitCount_0f7a4_16 : decode cJ6_bitCount_0f7a4 16 = .ok (.iconst 2, 1) := by decide +kernel
theorem dJ6_bitCount_0f7a4_17 : decode cJ6_bitCount_0f7a4 17 = .ok (.iushr, 1) := by decide +kernel
theorem dJ6_bitCount_0f7a4_18 : decode cJ6_bitCount_0f7a4 18 = .ok (.ldc_w 266, 3) := by decide +kernel
theorem dJ6_bitCount_0f7a4_21 : decode cJ6_bitCount_0f7a4 21 = .ok (.iand, 1) := by decide +kernel
theorem dJ6_bitCount_0f7a4_22 : decode cJ6_bitCount_0f7a4 22 = .ok (.iadd, 1) := by decide +kernel
theorem dJ6_bitCount_0f7a4_23 : decode cJ6_bitCount_0f7a4 23 = .ok (.istore_n 0, 1) := by decide +kernel
theorem dJ6_bitCount_0f7a4_24 : decode cJ6_bitCount_0f7a4 24 = .ok (.iload_n 0, 1) := by decide +kernel
theorem dJ6_bitCount_0f7a4_25 : decode cJ6_bitCount_0f7a4 25 = .ok (.iload_n 0, 1) := by decide +kernel
theorem dJ6_bitCount_0f7a4_26 : decode cJ6_bitCount_0f7a4 26 = .ok (.iconst 4, 1) := by decide +kernel
theorem dJ6_bitCount_0f7a4_27 : decode cJ6_bitCount_0f7a4 27 = .ok (.iushr, 1) := by decide +kernel
end
section
theorem dJ6_bitCount_0f7a4_28 : decode cJ6_bitCount_0f7a4 28 = .ok (.iadd, 1) := by decide +kernel
theorem dJ6_bitCount_0f7a4_29 : decode cJ6_bitCount_0f7a4 29 = .ok (.ldc_w 267, 3) := by decide +kernel
theorem dJ6_bitCount_0f7a4_32 : decode cJ6_bitCount_0f7a4 32 = .ok (.iand, 1) := by decide +kernel
theorem dJ6_bitCount_0f7a4_33 : decode cJ6_bitCount_0f7a4 33 = .ok (.istore_n 0, 1) := by decide +kernel
theorem dJ6_bitCount_0f7a4_34 : decode cJ6_bitCount_0f7a4 34 = .ok (.iload_n 0, 1) := by decide +kernel
theorem dJ6_bitCount_0f7a4_35 : decode cJ6_bitCount_0f7a4 35 = .ok (.iload_n 0, 1) := by decide +kernel
theorem dJ6_bitCount_0f7a4_36 : decode cJ6_bitCount_0f7a4 36 = .ok (.bipush 8, 2) := by decide +kernel
theorem dJ6_bitCount_0f7a4_38 : decode cJ6_bitCount_0f7a4 38 = .ok (.iushr, 1) := by decide +kernel
theorem dJ6_bitCount_0f7a4_39 : decode cJ6_bitCount_0f7a4 39 = .ok (.iadd, 1) := by decide +kernel
theorem dJ6_bitCount_0f7a4_40 : decode cJ6_bitCount_0f7a4 40 = .ok (.istore_n 0, 1) := by decide +kernel
theorem dJ6_bitCount_0f7a4_41 : decode cJ6_bitCount_0f7a4 41 = .ok (.iload_n 0, 1) := by decide +kernel
theorem dJ6_bitCount_0f7a4_42 : decode cJ6_bitCount_0f7a4 42 = .ok (.iload_n 0, 1) := by decide +kernel
theorem dJ6_bitCount_0f7a4_43 : decode cJ6_bitCount_0f7a4 43 = .ok (.bipush 16, 2) := by decide +kernel
theorem dJ6_bitCount_0f7a4_45 : decode cJ6_bitCount_0f7a4 45 = .ok (.iushr, 1) := by decide +kernel
theorem dJ6_bitCount_0f7a4_46 : decode cJ6_bitCount_0f7a4 46 = .ok (.iadd, 1) := by decide +kernel
theorem dJ6_bitCount_0f7a4_47 : decode cJ6_bitCount_0f7a4 47 = .ok (.istore_n 0, 1) := by decide +kernel
theorem dJ6_bitCount_0f7a4_48 : decode cJ6_bitCount_0f7a4 48 = .ok (.iload_n 0, 1) := by decide +kernel
theorem dJ6_bitCount_0f7a4_49 : decode cJ6_bitCount_0f7a4 49 = .ok (.bipush 63, 2) := by decide +kernel
theorem dJ6_bitCount_0f7a4_51 : decode cJ6_bitCount_0f7a4 51 = .ok (.iand, 1) := by decide +kernel
theorem dJ6_bitCount_0f7a4_52 : decode cJ6_bitCount_0f7a4 52 = .ok (.ireturn, 1) := by decide +kernel
theorem dJ9_abs_0f7a4_0 : decode cJ9_abs_0f7a4 0 = .ok (.iload_n 0, 1) := by decide +kernel
theorem dJ9_abs_0f7a4_1 : decode cJ9_abs_0f7a4 1 = .ok (.ifCond .ge 8, 3) := by decide +kernel
theorem dJ9_abs_0f7a4_4 : decode cJ9_abs_0f7a4 4 = .ok (.iload_n 0, 1) := by decide +kernel
theorem dJ9_abs_0f7a4_5 : decode cJ9_abs_0f7a4 5 = .ok (.ineg, 1) := by decide +kernel
theorem dJ9_abs_0f7a4_6 : decode cJ9_abs_0f7a4 6 = .ok (.goto 4, 3) := by decide +kernel
theorem dJ9_abs_0f7a4_9 : decode cJ9_abs_0f7a4 9 = .ok (.iload_n 0, 1) := by decide +kernel
theorem dJ9_abs_0f7a4_10 : decode cJ9_abs_0f7a4 10 = .ok (.ireturn, 1) := by decide +kernel
theorem dJ9_min_7cf53_0 : decode cJ9_min_7cf53 0 = .ok (.iload_n 0, 1) := by decide +kernel
theorem dJ9_min_7cf53_1 : decode cJ9_min_7cf53 1 = .ok (.iload_n 1, 1) := by decide +kernel
theorem dJ9_min_7cf53_2 : decode cJ9_min_7cf53 2 = .ok (.if_icmp .gt 7, 3) := by decide +kernel
theorem dJ9_min_7cf53_5 : decode cJ9_min_7cf53 5 = .ok (.iload_n 0, 1) := by decide +kernel
theorem dJ9_min_7cf53_6 : decode cJ9_min_7cf53 6 = .ok (.goto 4, 3) := by decide +kernel
theorem dJ9_min_7cf53_9 : decode cJ9_min_7cf53 9 = .ok (.iload_n 1, 1) := by decide +kernel
theorem dJ9_min_7cf53_10 : decode cJ9_min_7cf53 10 = .ok (.ireturn, 1) := by decide +kernel
theorem dJ0_length_8abf5_0 : decode cJ0_length_8abf5 0 = .ok (.aload_n 0, 1) := by decide +kernel
theorem dJ0_length_8abf5_1 : decode cJ0_length_8abf5 1 = .ok (.getfield 9, 3) := by decide +kernel
theorem dJ0_length_8abf5_4 : decode cJ0_length_8abf5 4 = .ok (.arraylength, 1) := by decide +kernel
theorem dJ0_length_8abf5_5 : decode cJ0_length_8abf5 5 = .ok (.aload_n 0, 1) := by decide +kernel
theorem dJ0_length_8abf5_6 : decode cJ0_length_8abf5 6 = .ok (.invokevirtual 335, 3) := by decide +kernel
theorem dJ0_length_8abf5_9 : decode cJ0_length_8abf5 9 = .ok (.ishr, 1) := by decide +kernel
theorem dJ0_length_8abf5_10 : decode cJ0_length_8abf5 10 = .ok (.ireturn, 1) := by decide +kernel
theorem dJ0_charAt_5068e_0 : decode cJ0_charAt_5068e 0 = .ok (.aload_n 0, 1) := by decide +kernel
theorem dJ0_charAt_5068e_1 : decode cJ0_charAt_5068e 1 = .ok (.invokevirtual 492, 3) := by decide +kernel
theorem dJ0_charAt_5068e_4 : decode cJ0_charAt_5068e 4 = .ok (.ifCond .eq 12, 3) := by decide +kernel
theorem dJ0_charAt_5068e_7 : decode cJ0_charAt_5068e 7 = .ok (.aload_n 0, 1) := by decide +kernel
theorem dJ0_charAt_5068e_8 : decode cJ0_charAt_5068e 8 = .ok (.getfield 9, 3) := by decide +kernel
theorem dJ0_charAt_5068e_11 : decode cJ0_charAt_5068e 11 = .ok (.iload_n 1, 1) := by decide +kernel
theorem dJ0_charAt_5068e_12 : decode cJ0_charAt_5068e 12 = .ok (.invokestatic 495, 3) := by decide +kernel
theorem dJ0_charAt_5068e_15 : decode cJ0_charAt_5068e 15 = .ok (.ireturn, 1) := by decide +kernel
theorem dJ0_charAt_5068e_16 : decode cJ0_charAt_5068e 16 = .ok (.aload_n 0, 1) := by decide +kernel
theorem dJ0_charAt_5068e_17 : decode cJ0_charAt_5068e 17 = .ok (.getfield 9, 3) := by decide +kernel
theorem dJ0_charAt_5068e_20 : decode cJ0_charAt_5068e 20 = .ok (.iload_n 1, 1) := by decide +kernel
theorem dJ0_charAt_5068e_21 : decode cJ0_charAt_5068e 21 = .ok (.invokestatic 498, 3) := by decide +kernel
theorem dJ0_charAt_5068e_24 : decode cJ0_charAt_5068e 24 = .ok (.ireturn, 1) := by decide +kernel
theorem dJ0_coder_7d493_0 : decode cJ0_coder_7d493 0 = .ok (.getstatic 38, 3) := by decide +kernel
theorem dJ0_coder_7d493_3 : decode cJ0_coder_7d493 3 = .ok (.ifCond .eq 10, 3) := by decide +kernel
theorem dJ0_coder_7d493_6 : decode cJ0_coder_7d493 6 = .ok (.aload_n 0, 1) := by decide +kernel
theorem dJ0_coder_7d493_7 : decode cJ0_coder_7d493 7 = .ok (.getfield 15, 3) := by decide +kernel
theorem dJ0_coder_7d493_10 : decode cJ0_coder_7d493 10 = .ok (.goto 4, 3) := by decide +kernel
theorem dJ0_coder_7d493_13 : decode cJ0_coder_7d493 13 = .ok (.iconst 1, 1) := by decide +kernel
theorem dJ0_coder_7d493_14 : decode cJ0_coder_7d493 14 = .ok (.ireturn, 1) := by decide +kernel
theorem dJ0_isLatin1_aae02_0 : decode cJ0_isLatin1_aae02 0 = .ok (.getstatic 38, 3) := by decide +kernel
theorem dJ0_isLatin1_aae02_3 : decode cJ0_isLatin1_aae02 3 = .ok (.ifCond .eq 14, 3) := by decide +kernel
theorem dJ0_isLatin1_aae02_6 : decode cJ0_isLatin1_aae02 6 = .ok (.aload_n 0, 1) := by decide +kernel
theorem dJ0_isLatin1_aae02_7 : decode cJ0_isLatin1_aae02 7 = .ok (.getfield 15, 3) := by decide +kernel
theorem dJ0_isLatin1_aae02_10 : decode cJ0_isLatin1_aae02 10 = .ok (.ifCond .ne 7, 3) := by decide +kernel
theorem dJ0_isLatin1_aae02_13 : decode cJ0_isLatin1_aae02 13 = .ok (.iconst 1, 1) := by decide +kernel
theorem dJ0_isLatin1_aae02_14 : decode cJ0_isLatin1_aae02 14 = .ok (.goto 4, 3) := by decide +kernel
theorem dJ0_isLatin1_aae02_17 : decode cJ0_isLatin1_aae02 17 = .ok (.iconst 0, 1) := by decide +kernel
theorem dJ0_isLatin1_aae02_18 : decode cJ0_isLatin1_aae02 18 = .ok (.ireturn, 1) := by decide +kernel
theorem dJ0_checkIndex_df160_0 : decode cJ0_checkIndex_df160 0 = .ok (.iload_n 0, 1) := by decide +kernel
theorem dJ0_checkIndex_df160_1 : decode cJ0_checkIndex_df160 1 = .ok (.iload_n 1, 1) := by decide +kernel
theorem dJ0_checkIndex_df160_2 : decode cJ0_checkIndex_df160 2 = .ok (.getstatic 1053, 3) := by decide +kernel
theorem dJ0_checkIndex_df160_5 : decode cJ0_checkIndex_df160 5 = .ok (.invokestatic 1059, 3) := by decide +kernel
theorem dJ0_checkIndex_df160_8 : decode cJ0_checkIndex_df160 8 = .ok (.pop, 1) := by decide +kernel
theorem dJ0_checkIndex_df160_9 : decode cJ0_checkIndex_df160 9 = .ok (.return_, 1) := by decide +kernel
theorem dJ1_charAt_3b067_0 : decode cJ1_charAt_3b067 0 = .ok (.iload_n 1, 1) := by decide +kernel
theorem dJ1_charAt_3b067_1 : decode cJ1_charAt_3b067 1 = .ok (.aload_n 0, 1) := by decide +kernel
theorem dJ1_charAt_3b067_2 : decode cJ1_charAt_3b067 2 = .ok (.arraylength, 1) := by decide +kernel
theorem dJ1_charAt_3b067_3 : decode cJ1_charAt_3b067 3 = .ok (.invokestatic 9, 3) := by decide +kernel
theorem dJ1_charAt_3b067_6 : decode cJ1_charAt_3b067 6 = .ok (.aload_n 0, 1) := by decide +kernel
theorem dJ1_charAt_3b067_7 : decode cJ1_charAt_3b067 7 = .ok (.iload_n 1, 1) := by decide +kernel
theorem dJ1_charAt_3b067_8 : decode cJ1_charAt_3b067 8 = .ok (.baload, 1) := by decide +kernel
theorem dJ1_charAt_3b067_9 : decode cJ1_charAt_3b067 9 = .ok (.sipush 255, 3) := by decide +kernel
theorem dJ1_charAt_3b067_12 : decode cJ1_charAt_3b067 12 = .ok (.iand, 1) := by decide +kernel
theorem dJ1_charAt_3b067_13 : decode cJ1_charAt_3b067 13 = .ok (.i2c, 1) := by decide +kernel
theorem dJ1_charAt_3b067_14 : decode cJ1_charAt_3b067 14 = .ok (.ireturn, 1) := by decide +kernel
theorem dJ7_fill_53178_0 : decode cJ7_fill_53178 0 = .ok (.iconst 0, 1) := by decide +kernel
theorem dJ7_fill_53178_1 : decode cJ7_fill_53178 1 = .ok (.istore_n 2, 1) := by decide +kernel
theorem dJ7_fill_53178_2 : decode cJ7_fill_53178 2 = .ok (.aload_n 0, 1) := by decide +kernel
theorem dJ7_fill_53178_3 : decode cJ7_fill_53178 3 = .ok (.arraylength, 1) := by decide +kernel
theorem dJ7_fill_53178_4 : decode cJ7_fill_53178 4 = .ok (.istore_n 3, 1) := by decide +kernel
theorem dJ7_fill_53178_5 : decode cJ7_fill_53178 5 = .ok (.iload_n 2, 1) := by decide +kernel
theorem dJ7_fill_53178_6 : decode cJ7_fill_53178 6 = .ok (.iload_n 3, 1) := by decide +kernel
theorem dJ7_fill_53178_7 : decode cJ7_fill_53178 7 = .ok (.if_icmp .ge 13, 3) := by decide +kernel
theorem dJ7_fill_53178_10 : decode cJ7_fill_53178 10 = .ok (.aload_n 0, 1) := by decide +kernel
theorem dJ7_fill_53178_11 : decode cJ7_fill_53178 11 = .ok (.iload_n 2, 1) := by decide +kernel
theorem dJ7_fill_53178_12 : decode cJ7_fill_53178 12 = .ok (.iload_n 1, 1) := by decide +kernel
theorem dJ7_fill_53178_13 : decode cJ7_fill_53178 13 = .ok (.iastore, 1) := by decide +kernel
theorem dJ7_fill_53178_14 : decode cJ7_fill_53178 14 = .ok (.iinc 2 1, 3) := by decide +kernel
theorem dJ7_fill_53178_17 : decode cJ7_fill_53178 17 = .ok (.goto (-12), 3) := by decide +kernel
theorem dJ7_fill_53178_20 : decode cJ7_fill_53178 20 = .ok (.return_, 1) := by decide +kernel
theorem dJ3_checkIndex_8e157_0 : decode cJ3_checkIndex_8e157 0 = .ok (.iload_n 0, 1) := by decide +kernel
theorem dJ3_checkIndex_8e157_1 : decode cJ3_checkIndex_8e157 1 = .ok (.ifCond .lt 8, 3) := by decide +kernel
theorem dJ3_checkIndex_8e157_4 : decode cJ3_checkIndex_8e157 4 = .ok (.iload_n 0, 1) := by decide +kernel
theorem dJ3_checkIndex_8e157_5 : decode cJ3_checkIndex_8e157 5 = .ok (.iload_n 1, 1) := by decide +kernel
theorem dJ3_checkIndex_8e157_6 : decode cJ3_checkIndex_8e157 6 = .ok (.if_icmp .lt 10, 3) := by decide +kernel
theorem dJ3_checkIndex_8e157_9 : decode cJ3_checkIndex_8e157 9 = .ok (.aload_n 2, 1) := by decide +kernel
theorem dJ3_checkIndex_8e157_10 : decode cJ3_checkIndex_8e157 10 = .ok (.iload_n 0, 1) := by decide +kernel
theorem dJ3_checkIndex_8e157_11 : decode cJ3_checkIndex_8e157 11 = .ok (.iload_n 1, 1) := by decide +kernel
theorem dJ3_checkIndex_8e157_12 : decode cJ3_checkIndex_8e157 12 = .ok (.invokestatic 95, 3) := by decide +kernel
theorem dJ3_checkIndex_8e157_15 : decode cJ3_checkIndex_8e157 15 = .ok (.athrow, 1) := by decide +kernel
theorem dJ3_checkIndex_8e157_16 : decode cJ3_checkIndex_8e157 16 = .ok (.iload_n 0, 1) := by decide +kernel
theorem dJ3_checkIndex_8e157_17 : decode cJ3_checkIndex_8e157 17 = .ok (.ireturn, 1) := by decide +kernel
theorem dL_law_0 : decode cL_law 0 = .ok (.new 7, 3) := by decide +kernel
theorem dL_law_3 : decode cL_law 3 = .ok (.dup, 1) := by decide +kernel
theorem dL_law_4 : decode cL_law 4 = .ok (.invokespecial 9, 3) := by decide +kernel
theorem dL_law_7 : decode cL_law 7 = .ok (.astore_n 1, 1) := by decide +kernel
theorem dL_law_8 : decode cL_law 8 = .ok (.new 10, 3) := by decide +kernel
theorem dL_law_11 : decode cL_law 11 = .ok (.dup, 1) := by decide +kernel
theorem dL_law_12 : decode cL_law 12 = .ok (.invokespecial 12, 3) := by decide +kernel
theorem dL_law_15 : decode cL_law 15 = .ok (.astore_n 2, 1) := by decide +kernel
theorem dL_law_16 : decode cL_law 16 = .ok (.iconst 0, 1) := by decide +kernel
theorem dL_law_17 : decode cL_law 17 = .ok (.istore_n 3, 1) := by decide +kernel
theorem dL_law_18 : decode cL_law 18 = .ok (.iload_n 3, 1) := by decide +kernel
theorem dL_law_19 : decode cL_law 19 = .ok (.aload_n 0, 1) := by decide +kernel
theorem dL_law_20 : decode cL_law 20 = .ok (.arraylength, 1) := by decide +kernel
theorem dL_law_21 : decode cL_law 21 = .ok (.iconst 5, 1) := by decide +kernel
theorem dL_law_22 : decode cL_law 22 = .ok (.isub, 1) := by decide +kernel
theorem dL_law_23 : decode cL_law 23 = .ok (.if_icmp .gt 627, 3) := by decide +kernel
theorem dL_law_26 : decode cL_law 26 = .ok (.aload_n 0, 1) := by decide +kernel
theorem dL_law_27 : decode cL_law 27 = .ok (.iload_n 3, 1) := by decide +kernel
theorem dL_law_28 : decode cL_law 28 = .ok (.iaload, 1) := by decide +kernel
theorem dL_law_29 : decode cL_law 29 = .ok (.bipush 31, 2) := by decide +kernel
theorem dL_law_31 : decode cL_law 31 = .ok (.iand, 1) := by decide +kernel
theorem dL_law_32 : decode cL_law 32 = .ok (.tableswitch 612 0 17 #[88, 111, 124, 137, 150, 203, 256, 299, 332, 355, 368, 401, 434, 477, 520, 543, 566, 589], 88) := by decide +kernel
theorem dL_law_120 : decode cL_law 120 = .ok (.aload_n 1, 1) := by decide +kernel
theorem dL_law_121 : decode cL_law 121 = .ok (.aload_n 0, 1) := by decide +kernel
theorem dL_law_122 : decode cL_law 122 = .ok (.iload_n 3, 1) := by decide +kernel
theorem dL_law_123 : decode cL_law 123 = .ok (.iconst 1, 1) := by decide +kernel
theorem dL_law_124 : decode cL_law 124 = .ok (.iadd, 1) := by decide +kernel
theorem dL_law_125 : decode cL_law 125 = .ok (.iaload, 1) := by decide +kernel
theorem dL_law_126 : decode cL_law 126 = .ok (.invokevirtual 13, 3) := by decide +kernel
theorem dL_law_129 : decode cL_law 129 = .ok (.aload_n 2, 1) := by decide +kernel
theorem dL_law_130 : decode cL_law 130 = .ok (.aload_n 0, 1) := by decide +kernel
theorem dL_law_131 : decode cL_law 131 = .ok (.iload_n 3, 1) := by decide +kernel
theorem dL_law_132 : decode cL_law 132 = .ok (.iconst 1, 1) := by decide +kernel
theorem dL_law_133 : decode cL_law 133 = .ok (.iadd, 1) := by decide +kernel
theorem dL_law_134 : decode cL_law 134 = .ok (.iaload, 1) := by decide +kernel
theorem dL_law_135 : decode cL_law 135 = .ok (.invokevirtual 17, 3) := by decide +kernel
theorem dL_law_138 : decode cL_law 138 = .ok (.if_icmp .eq 506, 3) := by decide +kernel
theorem dL_law_141 : decode cL_law 141 = .ok (.iconst 0, 1) := by decide +kernel
theorem dL_law_142 : decode cL_law 142 = .ok (.ireturn, 1) := by decide +kernel
theorem dL_law_143 : decode cL_law 143 = .ok (.aload_n 1, 1) := by decide +kernel
theorem dL_law_144 : decode cL_law 144 = .ok (.invokevirtual 18, 3) := by decide +kernel
theorem dL_law_147 : decode cL_law 147 = .ok (.aload_n 2, 1) := by decide +kernel
theorem dL_law_148 : decode cL_law 148 = .ok (.invokevirtual 22, 3) := by decide +kernel
theorem dL_law_151 : decode cL_law 151 = .ok (.if_icmp .eq 493, 3) := by decide +kernel
theorem dL_law_154 : decode cL_law 154 = .ok (.iconst 0, 1) := by decide +kernel
theorem dL_law_155 : decode cL_law 155 = .ok (.ireturn, 1) := by decide +kernel
theorem dL_law_156 : decode cL_law 156 = .ok (.aload_n 1, 1) := by decide +kernel
theorem dL_law_157 : decode cL_law 157 = .ok (.invokevirtual 23, 3) := by decide +kernel
theorem dL_law_160 : decode cL_law 160 = .ok (.aload_n 2, 1) := by decide +kernel
theorem dL_law_161 : decode cL_law 161 = .ok (.invokevirtual 26, 3) := by decide +kernel
theorem dL_law_164 : decode cL_law 164 = .ok (.if_icmp .eq 480, 3) := by decide +kernel
theorem dL_law_167 : decode cL_law 167 = .ok (.iconst 0, 1) := by decide +kernel
theorem dL_law_168 : decode cL_law 168 = .ok (.ireturn, 1) := by decide +kernel
theorem dL_law_169 : decode cL_law 169 = .ok (.aload_n 1, 1) := by decide +kernel
theorem dL_law_170 : decode cL_law 170 = .ok (.invokevirtual 27, 3) := by decide +kernel
theorem dL_law_173 : decode cL_law 173 = .ok (.aload_n 2, 1) := by decide +kernel
theorem dL_law_174 : decode cL_law 174 = .ok (.invokevirtual 30, 3) := by decide +kernel
theorem dL_law_177 : decode cL_law 177 = .ok (.if_icmp .eq 467, 3) := by decide +kernel
theorem dL_law_180 : decode cL_law 180 = .ok (.iconst 0, 1) := by decide +kernel
theorem dL_law_181 : decode cL_law 181 = .ok (.ireturn, 1) := by decide +kernel
theorem dL_law_182 : decode cL_law 182 = .ok (.aload_n 1, 1) := by decide +kernel
theorem dL_law_183 : decode cL_law 183 = .ok (.aload_n 0, 1) := by decide +kernel
theorem dL_law_184 : decode cL_law 184 = .ok (.iload_n 3, 1) := by decide +kernel
theorem dL_law_185 : decode cL_law 185 = .ok (.iconst 1, 1) := by decide +kernel
theorem dL_law_186 : decode cL_law 186 = .ok (.iadd, 1) := by decide +kernel
theorem dL_law_187 : decode cL_law 187 = .ok (.iaload, 1) := by decide +kernel
theorem dL_law_188 : decode cL_law 188 = .ok (.aload_n 0, 1) := by decide +kernel
theorem dL_law_189 : decode cL_law 189 = .ok (.iload_n 3, 1) := by decide +kernel
theorem dL_law_190 : decode cL_law 190 = .ok (.iconst 2, 1) := by decide +kernel
theorem dL_law_191 : decode cL_law 191 = .ok (.iadd, 1) := by decide +kernel
theorem dL_law_192 : decode cL_law 192 = .ok (.iaload, 1) := by decide +kernel
theorem dL_law_193 : decode cL_law 193 = .ok (.aload_n 0, 1) := by decide +kernel
theorem dL_law_194 : decode cL_law 194 = .ok (.iload_n 3, 1) := by decide +kernel
theorem dL_law_195 : decode cL_law 195 = .ok (.iconst 3, 1) := by decide +kernel
theorem dL_law_196 : decode cL_law 196 = .ok (.iadd, 1) := by decide +kernel
theorem dL_law_197 : decode cL_law 197 = .ok (.iaload, 1) := by decide +kernel
theorem dL_law_198 : decode cL_law 198 = .ok (.aload_n 0, 1) := by decide +kernel
theorem dL_law_199 : decode cL_law 199 = .ok (.iload_n 3, 1) := by decide +kernel
theorem dL_law_200 : decode cL_law 200 = .ok (.iconst 4, 1) := by decide +kernel
theorem dL_law_201 : decode cL_law 201 = .ok (.iadd, 1) := by decide +kernel
theorem dL_law_202 : decode cL_law 202 = .ok (.iaload, 1) := by decide +kernel
theorem dL_law_203 : decode cL_law 203 = .ok (.invokevirtual 31, 3) := by decide +kernel
theorem dL_law_206 : decode cL_law 206 = .ok (.aload_n 2, 1) := by decide +kernel
theorem dL_law_207 : decode cL_law 207 = .ok (.aload_n 0, 1) := by decide +kernel
theorem dL_law_208 : decode cL_law 208 = .ok (.iload_n 3, 1) := by decide +kernel
theorem dL_law_209 : decode cL_law 209 = .ok (.iconst 1, 1) := by decide +kernel
theorem dL_law_210 : decode cL_law 210 = .ok (.iadd, 1) := by decide +kernel
theorem dL_law_211 : decode cL_law 211 = .ok (.iaload, 1) := by decide +kernel
theorem dL_law_212 : decode cL_law 212 = .ok (.aload_n 0, 1) := by decide +kernel
theorem dL_law_213 : decode cL_law 213 = .ok (.iload_n 3, 1) := by decide +kernel
theorem dL_law_214 : decode cL_law 214 = .ok (.iconst 2, 1) := by decide +kernel
theorem dL_law_215 : decode cL_law 215 = .ok (.iadd, 1) := by decide +kernel
theorem dL_law_216 : decode cL_law 216 = .ok (.iaload, 1) := by decide +kernel
theorem dL_law_217 : decode cL_law 217 = .ok (.aload_n 0, 1) := by decide +kernel
theorem dL_law_218 : decode cL_law 218 = .ok (.iload_n 3, 1) := by decide +kernel
theorem dL_law_219 : decode cL_law 219 = .ok (.iconst 3, 1) := by decide +kernel
theorem dL_law_220 : decode cL_law 220 = .ok (.iadd, 1) := by decide +kernel
theorem dL_law_221 : decode cL_law 221 = .ok (.iaload, 1) := by decide +kernel
theorem dL_law_222 : decode cL_law 222 = .ok (.aload_n 0, 1) := by decide +kernel
theorem dL_law_223 : decode cL_law 223 = .ok (.iload_n 3, 1) := by decide +kernel
theorem dL_law_224 : decode cL_law 224 = .ok (.iconst 4, 1) := by decide +kernel
theorem dL_law_225 : decode cL_law 225 = .ok (.iadd, 1) := by decide +kernel
theorem dL_law_226 : decode cL_law 226 = .ok (.iaload, 1) := by decide +kernel
theorem dL_law_227 : decode cL_law 227 = .ok (.invokevirtual 35, 3) := by decide +kernel
theorem dL_law_230 : decode cL_law 230 = .ok (.if_icmp .eq 414, 3) := by decide +kernel
theorem dL_law_233 : decode cL_law 233 = .ok (.iconst 0, 1) := by decide +kernel
theorem dL_law_234 : decode cL_law 234 = .ok (.ireturn, 1) := by decide +kernel
theorem dL_law_235 : decode cL_law 235 = .ok (.aload_n 1, 1) := by decide +kernel
theorem dL_law_236 : decode cL_law 236 = .ok (.aload_n 0, 1) := by decide +kernel
theorem dL_law_237 : decode cL_law 237 = .ok (.iload_n 3, 1) := by decide +kernel
theorem dL_law_238 : decode cL_law 238 = .ok (.iconst 1, 1) := by decide +kernel
theorem dL_law_239 : decode cL_law 239 = .ok (.iadd, 1) := by decide +kernel
theorem dL_law_240 : decode cL_law 240 = .ok (.iaload, 1) := by decide +kernel
theorem dL_law_241 : decode cL_law 241 = .ok (.aload_n 0, 1) := by decide +kernel
theorem dL_law_242 : decode cL_law 242 = .ok (.iload_n 3, 1) := by decide +kernel
theorem dL_law_243 : decode cL_law 243 = .ok (.iconst 2, 1) := by decide +kernel
theorem dL_law_244 : decode cL_law 244 = .ok (.iadd, 1) := by decide +kernel
theorem dL_law_245 : decode cL_law 245 = .ok (.iaload, 1) := by decide +kernel
theorem dL_law_246 : decode cL_law 246 = .ok (.aload_n 0, 1) := by decide +kernel
theorem dL_law_247 : decode cL_law 247 = .ok (.iload_n 3, 1) := by decide +kernel
theorem dL_law_248 : decode cL_law 248 = .ok (.iconst 3, 1) := by decide +kernel
theorem dL_law_249 : decode cL_law 249 = .ok (.iadd, 1) := by decide +kernel
theorem dL_law_250 : decode cL_law 250 = .ok (.iaload, 1) := by decide +kernel
theorem dL_law_251 : decode cL_law 251 = .ok (.aload_n 0, 1) := by decide +kernel
theorem dL_law_252 : decode cL_law 252 = .ok (.iload_n 3, 1) := by decide +kernel
theorem dL_law_253 : decode cL_law 253 = .ok (.iconst 4, 1) := by decide +kernel
theorem dL_law_254 : decode cL_law 254 = .ok (.iadd, 1) := by decide +kernel
theorem dL_law_255 : decode cL_law 255 = .ok (.iaload, 1) := by decide +kernel
theorem dL_law_256 : decode cL_law 256 = .ok (.invokevirtual 36, 3) := by decide +kernel
theorem dL_law_259 : decode cL_law 259 = .ok (.aload_n 2, 1) := by decide +kernel
theorem dL_law_260 : decode cL_law 260 = .ok (.aload_n 0, 1) := by decide +kernel
theorem dL_law_261 : decode cL_law 261 = .ok (.iload_n 3, 1) := by decide +kernel
theorem dL_law_262 : decode cL_law 262 = .ok (.iconst 1, 1) := by decide +kernel
theorem dL_law_263 : decode cL_law 263 = .ok (.iadd, 1) := by decide +kernel
theorem dL_law_264 : decode cL_law 264 = .ok (.iaload, 1) := by decide +kernel
theorem dL_law_265 : decode cL_law 265 = .ok (.aload_n 0, 1) := by decide +kernel
theorem dL_law_266 : decode cL_law 266 = .ok (.iload_n 3, 1) := by decide +kernel
theorem dL_law_267 : decode cL_law 267 = .ok (.iconst 2, 1) := by decide +kernel
theorem dL_law_268 : decode cL_law 268 = .ok (.iadd, 1) := by decide +kernel
theorem dL_law_269 : decode cL_law 269 = .ok (.iaload, 1) := by decide +kernel
theorem dL_law_270 : decode cL_law 270 = .ok (.aload_n 0, 1) := by decide +kernel
theorem dL_law_271 : decode cL_law 271 = .ok (.iload_n 3, 1) := by decide +kernel
theorem dL_law_272 : decode cL_law 272 = .ok (.iconst 3, 1) := by decide +kernel
theorem dL_law_273 : decode cL_law 273 = .ok (.iadd, 1) := by decide +kernel
theorem dL_law_274 : decode cL_law 274 = .ok (.iaload, 1) := by decide +kernel
theorem dL_law_275 : decode cL_law 275 = .ok (.aload_n 0, 1) := by decide +kernel
theorem dL_law_276 : decode cL_law 276 = .ok (.iload_n 3, 1) := by decide +kernel
theorem dL_law_277 : decode cL_law 277 = .ok (.iconst 4, 1) := by decide +kernel
theorem dL_law_278 : decode cL_law 278 = .ok (.iadd, 1) := by decide +kernel
theorem dL_law_279 : decode cL_law 279 = .ok (.iaload, 1) := by decide +kernel
theorem dL_law_280 : decode cL_law 280 = .ok (.invokevirtual 39, 3) := by decide +kernel
theorem dL_law_283 : decode cL_law 283 = .ok (.if_icmp .eq 361, 3) := by decide +kernel
theorem dL_law_286 : decode cL_law 286 = .ok (.iconst 0, 1) := by decide +kernel
theorem dL_law_287 : decode cL_law 287 = .ok (.ireturn, 1) := by decide +kernel
theorem dL_law_288 : decode cL_law 288 = .ok (.aload_n 1, 1) := by decide +kernel
theorem dL_law_289 : decode cL_law 289 = .ok (.aload_n 0, 1) := by decide +kernel
theorem dL_law_290 : decode cL_law 290 = .ok (.iload_n 3, 1) := by decide +kernel
theorem dL_law_291 : decode cL_law 291 = .ok (.iconst 1, 1) := by decide +kernel
theorem dL_law_292 : decode cL_law 292 = .ok (.iadd, 1) := by decide +kernel
theorem dL_law_293 : decode cL_law 293 = .ok (.iaload, 1) := by decide +kernel
theorem dL_law_294 : decode cL_law 294 = .ok (.aload_n 0, 1) := by decide +kernel
theorem dL_law_295 : decode cL_law 295 = .ok (.iload_n 3, 1) := by decide +kernel
theorem dL_law_296 : decode cL_law 296 = .ok (.iconst 2, 1) := by decide +kernel
theorem dL_law_297 : decode cL_law 297 = .ok (.iadd, 1) := by decide +kernel
theorem dL_law_298 : decode cL_law 298 = .ok (.iaload, 1) := by decide +kernel
theorem dL_law_299 : decode cL_law 299 = .ok (.aload_n 0, 1) := by decide +kernel
theorem dL_law_300 : decode cL_law 300 = .ok (.iload_n 3, 1) := by decide +kernel
theorem dL_law_301 : decode cL_law 301 = .ok (.iconst 3, 1) := by decide +kernel
theorem dL_law_302 : decode cL_law 302 = .ok (.iadd, 1) := by decide +kernel
theorem dL_law_303 : decode cL_law 303 = .ok (.iaload, 1) := by decide +kernel
theorem dL_law_304 : decode cL_law 304 = .ok (.invokevirtual 40, 3) := by decide +kernel
theorem dL_law_307 : decode cL_law 307 = .ok (.aload_n 2, 1) := by decide +kernel
theorem dL_law_308 : decode cL_law 308 = .ok (.aload_n 0, 1) := by decide +kernel
theorem dL_law_309 : decode cL_law 309 = .ok (.iload_n 3, 1) := by decide +kernel
theorem dL_law_310 : decode cL_law 310 = .ok (.iconst 1, 1) := by decide +kernel
theorem dL_law_311 : decode cL_law 311 = .ok (.iadd, 1) := by decide +kernel
theorem dL_law_312 : decode cL_law 312 = .ok (.iaload, 1) := by decide +kernel
theorem dL_law_313 : decode cL_law 313 = .ok (.aload_n 0, 1) := by decide +kernel
theorem dL_law_314 : decode cL_law 314 = .ok (.iload_n 3, 1) := by decide +kernel
theorem dL_law_315 : decode cL_law 315 = .ok (.iconst 2, 1) := by decide +kernel
theorem dL_law_316 : decode cL_law 316 = .ok (.iadd, 1) := by decide +kernel
theorem dL_law_317 : decode cL_law 317 = .ok (.iaload, 1) := by decide +kernel
theorem dL_law_318 : decode cL_law 318 = .ok (.aload_n 0, 1) := by decide +kernel
theorem dL_law_319 : decode cL_law 319 = .ok (.iload_n 3, 1) := by decide +kernel
theorem dL_law_320 : decode cL_law 320 = .ok (.iconst 3, 1) := by decide +kernel
theorem dL_law_321 : decode cL_law 321 = .ok (.iadd, 1) := by decide +kernel
theorem dL_law_322 : decode cL_law 322 = .ok (.iaload, 1) := by decide +kernel
theorem dL_law_323 : decode cL_law 323 = .ok (.invokevirtual 44, 3) := by decide +kernel
theorem dL_law_326 : decode cL_law 326 = .ok (.if_icmp .eq 318, 3) := by decide +kernel
theorem dL_law_329 : decode cL_law 329 = .ok (.iconst 0, 1) := by decide +kernel
theorem dL_law_330 : decode cL_law 330 = .ok (.ireturn, 1) := by decide +kernel
theorem dL_law_331 : decode cL_law 331 = .ok (.aload_n 1, 1) := by decide +kernel
theorem dL_law_332 : decode cL_law 332 = .ok (.aload_n 0, 1) := by decide +kernel
theorem dL_law_333 : decode cL_law 333 = .ok (.iload_n 3, 1) := by decide +kernel
theorem dL_law_334 : decode cL_law 334 = .ok (.iconst 1, 1) := by decide +kernel
theorem dL_law_335 : decode cL_law 335 = .ok (.iadd, 1) := by decide +kernel
theorem dL_law_336 : decode cL_law 336 = .ok (.iaload, 1) := by decide +kernel
theorem dL_law_337 : decode cL_law 337 = .ok (.aload_n 0, 1) := by decide +kernel
theorem dL_law_338 : decode cL_law 338 = .ok (.iload_n 3, 1) := by decide +kernel
theorem dL_law_339 : decode cL_law 339 = .ok (.iconst 2, 1) := by decide +kernel
theorem dL_law_340 : decode cL_law 340 = .ok (.iadd, 1) := by decide +kernel
theorem dL_law_341 : decode cL_law 341 = .ok (.iaload, 1) := by decide +kernel
theorem dL_law_342 : decode cL_law 342 = .ok (.invokevirtual 45, 3) := by decide +kernel
theorem dL_law_345 : decode cL_law 345 = .ok (.aload_n 2, 1) := by decide +kernel
theorem dL_law_346 : decode cL_law 346 = .ok (.aload_n 0, 1) := by decide +kernel
theorem dL_law_347 : decode cL_law 347 = .ok (.iload_n 3, 1) := by decide +kernel
theorem dL_law_348 : decode cL_law 348 = .ok (.iconst 1, 1) := by decide +kernel
theorem dL_law_349 : decode cL_law 349 = .ok (.iadd, 1) := by decide +kernel
theorem dL_law_350 : decode cL_law 350 = .ok (.iaload, 1) := by decide +kernel
theorem dL_law_351 : decode cL_law 351 = .ok (.aload_n 0, 1) := by decide +kernel
theorem dL_law_352 : decode cL_law 352 = .ok (.iload_n 3, 1) := by decide +kernel
theorem dL_law_353 : decode cL_law 353 = .ok (.iconst 2, 1) := by decide +kernel
theorem dL_law_354 : decode cL_law 354 = .ok (.iadd, 1) := by decide +kernel
theorem dL_law_355 : decode cL_law 355 = .ok (.iaload, 1) := by decide +kernel
theorem dL_law_356 : decode cL_law 356 = .ok (.invokevirtual 49, 3) := by decide +kernel
theorem dL_law_359 : decode cL_law 359 = .ok (.if_icmp .eq 285, 3) := by decide +kernel
theorem dL_law_362 : decode cL_law 362 = .ok (.iconst 0, 1) := by decide +kernel
theorem dL_law_363 : decode cL_law 363 = .ok (.ireturn, 1) := by decide +kernel
theorem dL_law_364 : decode cL_law 364 = .ok (.aload_n 1, 1) := by decide +kernel
theorem dL_law_365 : decode cL_law 365 = .ok (.aload_n 0, 1) := by decide +kernel
theorem dL_law_366 : decode cL_law 366 = .ok (.iload_n 3, 1) := by decide +kernel
theorem dL_law_367 : decode cL_law 367 = .ok (.iconst 1, 1) := by decide +kernel
theorem dL_law_368 : decode cL_law 368 = .ok (.iadd, 1) := by decide +kernel
theorem dL_law_369 : decode cL_law 369 = .ok (.iaload, 1) := by decide +kernel
theorem dL_law_370 : decode cL_law 370 = .ok (.invokevirtual 50, 3) := by decide +kernel
theorem dL_law_373 : decode cL_law 373 = .ok (.aload_n 2, 1) := by decide +kernel
theorem dL_law_374 : decode cL_law 374 = .ok (.aload_n 0, 1) := by decide +kernel
theorem dL_law_375 : decode cL_law 375 = .ok (.iload_n 3, 1) := by decide +kernel
theorem dL_law_376 : decode cL_law 376 = .ok (.iconst 1, 1) := by decide +kernel
theorem dL_law_377 : decode cL_law 377 = .ok (.iadd, 1) := by decide +kernel
theorem dL_law_378 : decode cL_law 378 = .ok (.iaload, 1) := by decide +kernel
theorem dL_law_379 : decode cL_law 379 = .ok (.invokevirtual 53, 3) := by decide +kernel
theorem dL_law_382 : decode cL_law 382 = .ok (.if_icmp .eq 262, 3) := by decide +kernel
theorem dL_law_385 : decode cL_law 385 = .ok (.iconst 0, 1) := by decide +kernel
theorem dL_law_386 : decode cL_law 386 = .ok (.ireturn, 1) := by decide +kernel
theorem dL_law_387 : decode cL_law 387 = .ok (.aload_n 1, 1) := by decide +kernel
theorem dL_law_388 : decode cL_law 388 = .ok (.invokevirtual 54, 3) := by decide +kernel
theorem dL_law_391 : decode cL_law 391 = .ok (.aload_n 2, 1) := by decide +kernel
theorem dL_law_392 : decode cL_law 392 = .ok (.invokevirtual 57, 3) := by decide +kernel
theorem dL_law_395 : decode cL_law 395 = .ok (.if_icmp .eq 249, 3) := by decide +kernel
theorem dL_law_398 : decode cL_law 398 = .ok (.iconst 0, 1) := by decide +kernel
theorem dL_law_399 : decode cL_law 399 = .ok (.ireturn, 1) := by decide +kernel
theorem dL_law_400 : decode cL_law 400 = .ok (.aload_n 1, 1) := by decide +kernel
theorem dL_law_401 : decode cL_law 401 = .ok (.aload_n 0, 1) := by decide +kernel
theorem dL_law_402 : decode cL_law 402 = .ok (.iload_n 3, 1) := by decide +kernel
theorem dL_law_403 : decode cL_law 403 = .ok (.iconst 1, 1) := by decide +kernel
theorem dL_law_404 : decode cL_law 404 = .ok (.iadd, 1) := by decide +kernel
theorem dL_law_405 : decode cL_law 405 = .ok (.iaload, 1) := by decide +kernel
theorem dL_law_406 : decode cL_law 406 = .ok (.aload_n 0, 1) := by decide +kernel
theorem dL_law_407 : decode cL_law 407 = .ok (.iload_n 3, 1) := by decide +kernel
theorem dL_law_408 : decode cL_law 408 = .ok (.iconst 2, 1) := by decide +kernel
theorem dL_law_409 : decode cL_law 409 = .ok (.iadd, 1) := by decide +kernel
theorem dL_law_410 : decode cL_law 410 = .ok (.iaload, 1) := by decide +kernel
theorem dL_law_411 : decode cL_law 411 = .ok (.invokevirtual 58, 3) := by decide +kernel
theorem dL_law_414 : decode cL_law 414 = .ok (.aload_n 2, 1) := by decide +kernel
theorem dL_law_415 : decode cL_law 415 = .ok (.aload_n 0, 1) := by decide +kernel
theorem dL_law_416 : decode cL_law 416 = .ok (.iload_n 3, 1) := by decide +kernel
theorem dL_law_417 : decode cL_law 417 = .ok (.iconst 1, 1) := by decide +kernel
theorem dL_law_418 : decode cL_law 418 = .ok (.iadd, 1) := by decide +kernel
theorem dL_law_419 : decode cL_law 419 = .ok (.iaload, 1) := by decide +kernel
theorem dL_law_420 : decode cL_law 420 = .ok (.aload_n 0, 1) := by decide +kernel
theorem dL_law_421 : decode cL_law 421 = .ok (.iload_n 3, 1) := by decide +kernel
theorem dL_law_422 : decode cL_law 422 = .ok (.iconst 2, 1) := by decide +kernel
theorem dL_law_423 : decode cL_law 423 = .ok (.iadd, 1) := by decide +kernel
theorem dL_law_424 : decode cL_law 424 = .ok (.iaload, 1) := by decide +kernel
theorem dL_law_425 : decode cL_law 425 = .ok (.invokevirtual 61, 3) := by decide +kernel
theorem dL_law_428 : decode cL_law 428 = .ok (.if_icmp .eq 216, 3) := by decide +kernel
theorem dL_law_431 : decode cL_law 431 = .ok (.iconst 0, 1) := by decide +kernel
theorem dL_law_432 : decode cL_law 432 = .ok (.ireturn, 1) := by decide +kernel
theorem dL_law_433 : decode cL_law 433 = .ok (.aload_n 1, 1) := by decide +kernel
theorem dL_law_434 : decode cL_law 434 = .ok (.aload_n 0, 1) := by decide +kernel
theorem dL_law_435 : decode cL_law 435 = .ok (.iload_n 3, 1) := by decide +kernel
theorem dL_law_436 : decode cL_law 436 = .ok (.iconst 1, 1) := by decide +kernel
theorem dL_law_437 : decode cL_law 437 = .ok (.iadd, 1) := by decide +kernel
theorem dL_law_438 : decode cL_law 438 = .ok (.iaload, 1) := by decide +kernel
theorem dL_law_439 : decode cL_law 439 = .ok (.aload_n 0, 1) := by decide +kernel
theorem dL_law_440 : decode cL_law 440 = .ok (.iload_n 3, 1) := by decide +kernel
theorem dL_law_441 : decode cL_law 441 = .ok (.iconst 2, 1) := by decide +kernel
theorem dL_law_442 : decode cL_law 442 = .ok (.iadd, 1) := by decide +kernel
theorem dL_law_443 : decode cL_law 443 = .ok (.iaload, 1) := by decide +kernel
theorem dL_law_444 : decode cL_law 444 = .ok (.invokevirtual 62, 3) := by decide +kernel
theorem dL_law_447 : decode cL_law 447 = .ok (.aload_n 2, 1) := by decide +kernel
theorem dL_law_448 : decode cL_law 448 = .ok (.aload_n 0, 1) := by decide +kernel
theorem dL_law_449 : decode cL_law 449 = .ok (.iload_n 3, 1) := by decide +kernel
theorem dL_law_450 : decode cL_law 450 = .ok (.iconst 1, 1) := by decide +kernel
theorem dL_law_451 : decode cL_law 451 = .ok (.iadd, 1) := by decide +kernel
theorem dL_law_452 : decode cL_law 452 = .ok (.iaload, 1) := by decide +kernel
theorem dL_law_453 : decode cL_law 453 = .ok (.aload_n 0, 1) := by decide +kernel
theorem dL_law_454 : decode cL_law 454 = .ok (.iload_n 3, 1) := by decide +kernel
theorem dL_law_455 : decode cL_law 455 = .ok (.iconst 2, 1) := by decide +kernel
theorem dL_law_456 : decode cL_law 456 = .ok (.iadd, 1) := by decide +kernel
theorem dL_law_457 : decode cL_law 457 = .ok (.iaload, 1) := by decide +kernel
theorem dL_law_458 : decode cL_law 458 = .ok (.invokevirtual 65, 3) := by decide +kernel
theorem dL_law_461 : decode cL_law 461 = .ok (.if_icmp .eq 183, 3) := by decide +kernel
theorem dL_law_464 : decode cL_law 464 = .ok (.iconst 0, 1) := by decide +kernel
theorem dL_law_465 : decode cL_law 465 = .ok (.ireturn, 1) := by decide +kernel
theorem dL_law_466 : decode cL_law 466 = .ok (.aload_n 1, 1) := by decide +kernel
theorem dL_law_467 : decode cL_law 467 = .ok (.aload_n 0, 1) := by decide +kernel
theorem dL_law_468 : decode cL_law 468 = .ok (.iload_n 3, 1) := by decide +kernel
theorem dL_law_469 : decode cL_law 469 = .ok (.iconst 1, 1) := by decide +kernel
theorem dL_law_470 : decode cL_law 470 = .ok (.iadd, 1) := by decide +kernel
theorem dL_law_471 : decode cL_law 471 = .ok (.iaload, 1) := by decide +kernel
theorem dL_law_472 : decode cL_law 472 = .ok (.aload_n 0, 1) := by decide +kernel
theorem dL_law_473 : decode cL_law 473 = .ok (.iload_n 3, 1) := by decide +kernel
theorem dL_law_474 : decode cL_law 474 = .ok (.iconst 2, 1) := by decide +kernel
theorem dL_law_475 : decode cL_law 475 = .ok (.iadd, 1) := by decide +kernel
theorem dL_law_476 : decode cL_law 476 = .ok (.iaload, 1) := by decide +kernel
theorem dL_law_477 : decode cL_law 477 = .ok (.aload_n 0, 1) := by decide +kernel
theorem dL_law_478 : decode cL_law 478 = .ok (.iload_n 3, 1) := by decide +kernel
theorem dL_law_479 : decode cL_law 479 = .ok (.iconst 3, 1) := by decide +kernel
theorem dL_law_480 : decode cL_law 480 = .ok (.iadd, 1) := by decide +kernel
theorem dL_law_481 : decode cL_law 481 = .ok (.iaload, 1) := by decide +kernel
theorem dL_law_482 : decode cL_law 482 = .ok (.invokevirtual 66, 3) := by decide +kernel
theorem dL_law_485 : decode cL_law 485 = .ok (.aload_n 2, 1) := by decide +kernel
theorem dL_law_486 : decode cL_law 486 = .ok (.aload_n 0, 1) := by decide +kernel
theorem dL_law_487 : decode cL_law 487 = .ok (.iload_n 3, 1) := by decide +kernel
theorem dL_law_488 : decode cL_law 488 = .ok (.iconst 1, 1) := by decide +kernel
theorem dL_law_489 : decode cL_law 489 = .ok (.iadd, 1) := by decide +kernel
theorem dL_law_490 : decode cL_law 490 = .ok (.iaload, 1) := by decide +kernel
theorem dL_law_491 : decode cL_law 491 = .ok (.aload_n 0, 1) := by decide +kernel
theorem dL_law_492 : decode cL_law 492 = .ok (.iload_n 3, 1) := by decide +kernel
theorem dL_law_493 : decode cL_law 493 = .ok (.iconst 2, 1) := by decide +kernel
theorem dL_law_494 : decode cL_law 494 = .ok (.iadd, 1) := by decide +kernel
theorem dL_law_495 : decode cL_law 495 = .ok (.iaload, 1) := by decide +kernel
theorem dL_law_496 : decode cL_law 496 = .ok (.aload_n 0, 1) := by decide +kernel
theorem dL_law_497 : decode cL_law 497 = .ok (.iload_n 3, 1) := by decide +kernel
theorem dL_law_498 : decode cL_law 498 = .ok (.iconst 3, 1) := by decide +kernel
theorem dL_law_499 : decode cL_law 499 = .ok (.iadd, 1) := by decide +kernel
theorem dL_law_500 : decode cL_law 500 = .ok (.iaload, 1) := by decide +kernel
theorem dL_law_501 : decode cL_law 501 = .ok (.invokevirtual 69, 3) := by decide +kernel
theorem dL_law_504 : decode cL_law 504 = .ok (.if_icmp .eq 140, 3) := by decide +kernel
theorem dL_law_507 : decode cL_law 507 = .ok (.iconst 0, 1) := by decide +kernel
theorem dL_law_508 : decode cL_law 508 = .ok (.ireturn, 1) := by decide +kernel
theorem dL_law_509 : decode cL_law 509 = .ok (.aload_n 1, 1) := by decide +kernel
theorem dL_law_510 : decode cL_law 510 = .ok (.aload_n 0, 1) := by decide +kernel
theorem dL_law_511 : decode cL_law 511 = .ok (.iload_n 3, 1) := by decide +kernel
theorem dL_law_512 : decode cL_law 512 = .ok (.iconst 1, 1) := by decide +kernel
theorem dL_law_513 : decode cL_law 513 = .ok (.iadd, 1) := by decide +kernel
theorem dL_law_514 : decode cL_law 514 = .ok (.iaload, 1) := by decide +kernel
theorem dL_law_515 : decode cL_law 515 = .ok (.aload_n 0, 1) := by decide +kernel
theorem dL_law_516 : decode cL_law 516 = .ok (.iload_n 3, 1) := by decide +kernel
theorem dL_law_517 : decode cL_law 517 = .ok (.iconst 2, 1) := by decide +kernel
theorem dL_law_518 : decode cL_law 518 = .ok (.iadd, 1) := by decide +kernel
theorem dL_law_519 : decode cL_law 519 = .ok (.iaload, 1) := by decide +kernel
theorem dL_law_520 : decode cL_law 520 = .ok (.aload_n 0, 1) := by decide +kernel
theorem dL_law_521 : decode cL_law 521 = .ok (.iload_n 3, 1) := by decide +kernel
theorem dL_law_522 : decode cL_law 522 = .ok (.iconst 3, 1) := by decide +kernel
theorem dL_law_523 : decode cL_law 523 = .ok (.iadd, 1) := by decide +kernel
theorem dL_law_524 : decode cL_law 524 = .ok (.iaload, 1) := by decide +kernel
theorem dL_law_525 : decode cL_law 525 = .ok (.invokevirtual 70, 3) := by decide +kernel
theorem dL_law_528 : decode cL_law 528 = .ok (.aload_n 2, 1) := by decide +kernel
theorem dL_law_529 : decode cL_law 529 = .ok (.aload_n 0, 1) := by decide +kernel
theorem dL_law_530 : decode cL_law 530 = .ok (.iload_n 3, 1) := by decide +kernel
theorem dL_law_531 : decode cL_law 531 = .ok (.iconst 1, 1) := by decide +kernel
theorem dL_law_532 : decode cL_law 532 = .ok (.iadd, 1) := by decide +kernel
theorem dL_law_533 : decode cL_law 533 = .ok (.iaload, 1) := by decide +kernel
theorem dL_law_534 : decode cL_law 534 = .ok (.aload_n 0, 1) := by decide +kernel
theorem dL_law_535 : decode cL_law 535 = .ok (.iload_n 3, 1) := by decide +kernel
theorem dL_law_536 : decode cL_law 536 = .ok (.iconst 2, 1) := by decide +kernel
theorem dL_law_537 : decode cL_law 537 = .ok (.iadd, 1) := by decide +kernel
theorem dL_law_538 : decode cL_law 538 = .ok (.iaload, 1) := by decide +kernel
theorem dL_law_539 : decode cL_law 539 = .ok (.aload_n 0, 1) := by decide +kernel
theorem dL_law_540 : decode cL_law 540 = .ok (.iload_n 3, 1) := by decide +kernel
theorem dL_law_541 : decode cL_law 541 = .ok (.iconst 3, 1) := by decide +kernel
theorem dL_law_542 : decode cL_law 542 = .ok (.iadd, 1) := by decide +kernel
theorem dL_law_543 : decode cL_law 543 = .ok (.iaload, 1) := by decide +kernel
theorem dL_law_544 : decode cL_law 544 = .ok (.invokevirtual 73, 3) := by decide +kernel
theorem dL_law_547 : decode cL_law 547 = .ok (.if_icmp .eq 97, 3) := by decide +kernel
theorem dL_law_550 : decode cL_law 550 = .ok (.iconst 0, 1) := by decide +kernel
theorem dL_law_551 : decode cL_law 551 = .ok (.ireturn, 1) := by decide +kernel
theorem dL_law_552 : decode cL_law 552 = .ok (.aload_n 1, 1) := by decide +kernel
theorem dL_law_553 : decode cL_law 553 = .ok (.aload_n 0, 1) := by decide +kernel
theorem dL_law_554 : decode cL_law 554 = .ok (.iload_n 3, 1) := by decide +kernel
theorem dL_law_555 : decode cL_law 555 = .ok (.iconst 1, 1) := by decide +kernel
theorem dL_law_556 : decode cL_law 556 = .ok (.iadd, 1) := by decide +kernel
theorem dL_law_557 : decode cL_law 557 = .ok (.iaload, 1) := by decide +kernel
theorem dL_law_558 : decode cL_law 558 = .ok (.invokevirtual 74, 3) := by decide +kernel
theorem dL_law_561 : decode cL_law 561 = .ok (.aload_n 2, 1) := by decide +kernel
theorem dL_law_562 : decode cL_law 562 = .ok (.aload_n 0, 1) := by decide +kernel
theorem dL_law_563 : decode cL_law 563 = .ok (.iload_n 3, 1) := by decide +kernel
theorem dL_law_564 : decode cL_law 564 = .ok (.iconst 1, 1) := by decide +kernel
theorem dL_law_565 : decode cL_law 565 = .ok (.iadd, 1) := by decide +kernel
theorem dL_law_566 : decode cL_law 566 = .ok (.iaload, 1) := by decide +kernel
theorem dL_law_567 : decode cL_law 567 = .ok (.invokevirtual 77, 3) := by decide +kernel
theorem dL_law_570 : decode cL_law 570 = .ok (.if_icmp .eq 74, 3) := by decide +kernel
theorem dL_law_573 : decode cL_law 573 = .ok (.iconst 0, 1) := by decide +kernel
theorem dL_law_574 : decode cL_law 574 = .ok (.ireturn, 1) := by decide +kernel
theorem dL_law_575 : decode cL_law 575 = .ok (.aload_n 1, 1) := by decide +kernel
theorem dL_law_576 : decode cL_law 576 = .ok (.aload_n 0, 1) := by decide +kernel
theorem dL_law_577 : decode cL_law 577 = .ok (.iload_n 3, 1) := by decide +kernel
theorem dL_law_578 : decode cL_law 578 = .ok (.iconst 1, 1) := by decide +kernel
theorem dL_law_579 : decode cL_law 579 = .ok (.iadd, 1) := by decide +kernel
theorem dL_law_580 : decode cL_law 580 = .ok (.iaload, 1) := by decide +kernel
theorem dL_law_581 : decode cL_law 581 = .ok (.invokevirtual 78, 3) := by decide +kernel
theorem dL_law_584 : decode cL_law 584 = .ok (.aload_n 2, 1) := by decide +kernel
theorem dL_law_585 : decode cL_law 585 = .ok (.aload_n 0, 1) := by decide +kernel
theorem dL_law_586 : decode cL_law 586 = .ok (.iload_n 3, 1) := by decide +kernel
theorem dL_law_587 : decode cL_law 587 = .ok (.iconst 1, 1) := by decide +kernel
theorem dL_law_588 : decode cL_law 588 = .ok (.iadd, 1) := by decide +kernel
theorem dL_law_589 : decode cL_law 589 = .ok (.iaload, 1) := by decide +kernel
theorem dL_law_590 : decode cL_law 590 = .ok (.invokevirtual 81, 3) := by decide +kernel
theorem dL_law_593 : decode cL_law 593 = .ok (.if_icmp .eq 51, 3) := by decide +kernel
theorem dL_law_596 : decode cL_law 596 = .ok (.iconst 0, 1) := by decide +kernel
theorem dL_law_597 : decode cL_law 597 = .ok (.ireturn, 1) := by decide +kernel
theorem dL_law_598 : decode cL_law 598 = .ok (.aload_n 1, 1) := by decide +kernel
theorem dL_law_599 : decode cL_law 599 = .ok (.aload_n 0, 1) := by decide +kernel
theorem dL_law_600 : decode cL_law 600 = .ok (.iload_n 3, 1) := by decide +kernel
theorem dL_law_601 : decode cL_law 601 = .ok (.iconst 1, 1) := by decide +kernel
theorem dL_law_602 : decode cL_law 602 = .ok (.iadd, 1) := by decide +kernel
theorem dL_law_603 : decode cL_law 603 = .ok (.iaload, 1) := by decide +kernel
theorem dL_law_604 : decode cL_law 604 = .ok (.invokevirtual 82, 3) := by decide +kernel
theorem dL_law_607 : decode cL_law 607 = .ok (.aload_n 2, 1) := by decide +kernel
theorem dL_law_608 : decode cL_law 608 = .ok (.aload_n 0, 1) := by decide +kernel
theorem dL_law_609 : decode cL_law 609 = .ok (.iload_n 3, 1) := by decide +kernel
theorem dL_law_610 : decode cL_law 610 = .ok (.iconst 1, 1) := by decide +kernel
theorem dL_law_611 : decode cL_law 611 = .ok (.iadd, 1) := by decide +kernel
theorem dL_law_612 : decode cL_law 612 = .ok (.iaload, 1) := by decide +kernel
theorem dL_law_613 : decode cL_law 613 = .ok (.invokevirtual 85, 3) := by decide +kernel
theorem dL_law_616 : decode cL_law 616 = .ok (.if_icmp .eq 28, 3) := by decide +kernel
theorem dL_law_619 : decode cL_law 619 = .ok (.iconst 0, 1) := by decide +kernel
theorem dL_law_620 : decode cL_law 620 = .ok (.ireturn, 1) := by decide +kernel
theorem dL_law_621 : decode cL_law 621 = .ok (.aload_n 1, 1) := by decide +kernel
theorem dL_law_622 : decode cL_law 622 = .ok (.aload_n 0, 1) := by decide +kernel
theorem dL_law_623 : decode cL_law 623 = .ok (.iload_n 3, 1) := by decide +kernel
theorem dL_law_624 : decode cL_law 624 = .ok (.iconst 1, 1) := by decide +kernel
theorem dL_law_625 : decode cL_law 625 = .ok (.iadd, 1) := by decide +kernel
theorem dL_law_626 : decode cL_law 626 = .ok (.iaload, 1) := by decide +kernel
theorem dL_law_627 : decode cL_law 627 = .ok (.invokevirtual 86, 3) := by decide +kernel
theorem dL_law_630 : decode cL_law 630 = .ok (.aload_n 2, 1) := by decide +kernel
theorem dL_law_631 : decode cL_law 631 = .ok (.aload_n 0, 1) := by decide +kernel
theorem dL_law_632 : decode cL_law 632 = .ok (.iload_n 3, 1) := by decide +kernel
theorem dL_law_633 : decode cL_law 633 = .ok (.iconst 1, 1) := by decide +kernel
theorem dL_law_634 : decode cL_law 634 = .ok (.iadd, 1) := by decide +kernel
theorem dL_law_635 : decode cL_law 635 = .ok (.iaload, 1) := by decide +kernel
theorem dL_law_636 : decode cL_law 636 = .ok (.invokevirtual 89, 3) := by decide +kernel
theorem dL_law_639 : decode cL_law 639 = .ok (.if_icmp .eq 5, 3) := by decide +kernel
theorem dL_law_642 : decode cL_law 642 = .ok (.iconst 0, 1) := by decide +kernel
theorem dL_law_643 : decode cL_law 643 = .ok (.ireturn, 1) := by decide +kernel
theorem dL_law_644 : decode cL_law 644 = .ok (.iinc 3 5, 3) := by decide +kernel
theorem dL_law_647 : decode cL_law 647 = .ok (.goto (-629), 3) := by decide +kernel
theorem dL_law_650 : decode cL_law 650 = .ok (.iconst 1, 1) := by decide +kernel
theorem dL_law_651 : decode cL_law 651 = .ok (.ireturn, 1) := by decide +kernel
end
section
/-- a method: its name, bytes, locals, answer, how many it takes; room: frames, words, cells, slots -/
abbrev g_MD : Type := MethodName × ByteArray × Nat × Option FieldType × Nat × Nat × Nat × Nat × Nat
abbrev mX0_init : g_MD := (yX0_init, cX0_init, 1, none, 0, 1, 12, 0, 0)
abbrev mX0_put : g_MD := (yX0_put, cX0_put, 5, none, 4, 0, 0, 0, 0)
abbrev mX0_has : g_MD := (yX0_has, cX0_has, 3, (some .boolean), 2, 0, 0, 0, 0)
abbrev mX0_covers : g_MD := (yX0_covers, cX0_covers, 2, (some .boolean), 1, 0, 0, 0, 0)
abbrev mX0_meets : g_MD := (yX0_meets, cX0_meets, 2, (some .boolean), 1, 0, 0, 0, 0)
abbrev mX0_rowBits : g_MD := (yX0_rowBits, cX0_rowBits, 1, (some .int), 0, 0, 0, 0, 0)
abbrev mX1_init : g_MD := (yX1_init, cX1_init, 2, none, 0, 2, 32, 25, 168)
abbrev mX1_forget : g_MD := (yX1_forget, cX1_forget, 1, none, 0, 0, 0, 0, 0)
abbrev mX1_keep : g_MD := (yX1_keep, cX1_keep, 2, none, 1, 2, 47, 0, 0)
abbrev mX1_giveBack : g_MD := (yX1_giveBack, cX1_giveBack, 2, (some .boolean), 1, 2, 47, 0, 0)
abbrev mX2_init : g_MD := (yX2_init, cX2_init, 2, none, 0, 2, 32, 15, 61)
abbrev mX2_clear : g_MD := (yX2_clear, cX2_clear, 1, none, 0, 1, 24, 0, 0)
abbrev mX2_hasSheet : g_MD := (yX2_hasSheet, cX2_hasSheet, 1, (some .boolean), 0, 0, 0, 0, 0)
abbrev mX2_takeSheet : g_MD := (yX2_takeSheet, cX2_takeSheet, 3, (some .boolean), 2, 1, 24, 0, 0)
abbrev mX2_takeTool : g_MD := (yX2_takeTool, cX2_takeTool, 6, (some .boolean), 4, 1, 22, 0, 0)
abbrev mX2_takeHole : g_MD := (yX2_takeHole, cX2_takeHole, 7, (some .boolean), 4, 1, 24, 0, 0)
abbrev mX2_takeClamp : g_MD := (yX2_takeClamp, cX2_takeClamp, 3, (some .boolean), 1, 2, 43, 0, 0)
abbrev mX2_isColumn : g_MD := (yX2_isColumn, cX2_isColumn, 2, (some .boolean), 1, 1, 22, 0, 0)
abbrev mX2_areTooNear : g_MD := (yX2_areTooNear, cX2_areTooNear, 2, (some .boolean), 2, 1, 22, 0, 0)
abbrev mX2_holeAt : g_MD := (yX2_holeAt, cX2_holeAt, 4, (some .int), 2, 1, 22, 0, 0)
abbrev mX2_isOfOneHole : g_MD := (yX2_isOfOneHole, cX2_isOfOneHole, 3, (some .boolean), 1, 1, 21, 0, 0)
abbrev mX2_turnsBetween : g_MD := (yX2_turnsBetween, cX2_turnsBetween, 4, (some .int), 2, 1, 21, 0, 0)
abbrev mX2_turnsThrough : g_MD := (yX2_turnsThrough, cX2_turnsThrough, 6, (some .int), 2, 1, 25, 0, 0)
abbrev mX2_downBeyond : g_MD := (yX2_downBeyond, cX2_downBeyond, 6, (some .int), 3, 0, 0, 0, 0)
abbrev mX3_init : g_MD := (yX3_init, cX3_init, 1, none, 0, 1, 12, 4, 70)
abbrev mX3_work : g_MD := (yX3_work, cX3_work, 5, none, 2, 4, 89, 0, 0)
abbrev mX3_weighWays : g_MD := (yX3_weighWays, cX3_weighWays, 7, none, 1, 2, 45, 0, 0)
abbrev mX3_triesSet : g_MD := (yX3_triesSet, cX3_triesSet, 6, (some .boolean), 3, 3, 64, 0, 0)
abbrev mX3_takeFirstFewest : g_MD := (yX3_takeFirstFewest, cX3_takeFirstFewest, 7, (some .int), 3, 0, 0, 0, 0)
abbrev mX3_isBetter : g_MD := (yX3_isBetter, cX3_isBetter, 4, (some .boolean), 2, 0, 0, 0, 0)
abbrev mX3_keepTried : g_MD := (yX3_keepTried, cX3_keepTried, 2, none, 1, 1, 26, 0, 0)
abbrev mX4_init : g_MD := (yX4_init, cX4_init, 1, none, 0, 1, 12, 1, 4)
abbrev mX4_firstFault : g_MD := (yX4_firstFault, cX4_firstFault, 5, (some .int), 2, 6, 130, 0, 0)
abbrev mX4_takesItem : g_MD := (yX4_takesItem, cX4_takesItem, 3, (some .boolean), 2, 5, 108, 0, 0)
abbrev mX4_takesWord : g_MD := (yX4_takesWord, cX4_takesWord, 4, (some .boolean), 2, 4, 85, 0, 0)
abbrev mX4_takesNumbers : g_MD := (yX4_takesNumbers, cX4_takesNumbers, 4, (some .boolean), 2, 2, 43, 0, 0)
abbrev mX4_takeNumber : g_MD := (yX4_takeNumber, cX4_takeNumber, 3, (some .int), 1, 1, 21, 0, 0)
abbrev mX4_isFigure : g_MD := (yX4_isFigure, cX4_isFigure, 1, (some .boolean), 1, 0, 0, 0, 0)
abbrev mX5_init : g_MD := (yX5_init, cX5_init, 1, none, 0, 1, 12, 3, 20)
abbrev mX5_begin : g_MD := (yX5_begin, cX5_begin, 2, none, 1, 1, 26, 0, 0)
abbrev mX5_copyFrom : g_MD := (yX5_copyFrom, cX5_copyFrom, 2, none, 1, 1, 26, 0, 0)
abbrev mX5_refusal : g_MD := (yX5_refusal, cX5_refusal, 5, (some .int), 4, 3, 64, 0, 0)
abbrev mX5_punch : g_MD := (yX5_punch, cX5_punch, 6, (some .int), 3, 2, 44, 0, 0)
abbrev mX5_isDull : g_MD := (yX5_isDull, cX5_isDull, 3, (some .boolean), 2, 0, 0, 0, 0)
abbrev mX5_uncutIn : g_MD := (yX5_uncutIn, cX5_uncutIn, 4, (some .int), 1, 1, 20, 0, 0)
abbrev mX5_isCut : g_MD := (yX5_isCut, cX5_isCut, 2, (some .boolean), 1, 2, 43, 0, 0)
abbrev mX5_isCellCut : g_MD := (yX5_isCellCut, cX5_isCellCut, 3, (some .boolean), 2, 0, 0, 0, 0)
abbrev mX5_cutCells : g_MD := (yX5_cutCells, cX5_cutCells, 3, (some .int), 0, 1, 20, 0, 0)
abbrev mX5_holesDone : g_MD := (yX5_holesDone, cX5_holesDone, 4, (some .int), 1, 3, 64, 0, 0)
abbrev mX5_clampAt : g_MD := (yX5_clampAt, cX5_clampAt, 5, (some .int), 3, 1, 22, 0, 0)
abbrev mX5_isTakenByOther : g_MD := (yX5_isTakenByOther, cX5_isTakenByOther, 5, (some .boolean), 3, 2, 43, 0, 0)
abbrev mX5_isClamped : g_MD := (yX5_isClamped, cX5_isClamped, 5, (some .boolean), 2, 1, 22, 0, 0)
abbrev mX6_init : g_MD := (yX6_init, cX6_init, 1, none, 0, 1, 12, 1, 200)
abbrev mX6_append : g_MD := (yX6_append, cX6_append, 2, (some .boolean), 1, 0, 0, 0, 0)
abbrev mX6_clear : g_MD := (yX6_clear, cX6_clear, 1, none, 0, 0, 0, 0, 0)
abbrev mX6_letterAt : g_MD := (yX6_letterAt, cX6_letterAt, 2, (some .char), 1, 0, 0, 0, 0)
abbrev mX7_init : g_MD := (yX7_init, cX7_init, 1, none, 0, 1, 12, 0, 0)
abbrev mX7_wideWhen : g_MD := (yX7_wideWhen, cX7_wideWhen, 2, (some .int), 1, 0, 0, 0, 0)
abbrev mX7_highWhen : g_MD := (yX7_highWhen, cX7_highWhen, 2, (some .int), 1, 0, 0, 0, 0)
abbrev mX7_stampAt : g_MD := (yX7_stampAt, cX7_stampAt, 5, none, 4, 1, 24, 0, 0)
abbrev mX7_hitsFor : g_MD := (yX7_hitsFor, cX7_hitsFor, 5, (some .int), 2, 1, 21, 0, 0)
abbrev mX8_init : g_MD := (yX8_init, cX8_init, 2, none, 0, 8, 175, 76, 651)
abbrev mX8_write : g_MD := (yX8_write, cX8_write, 2, (some .int), 1, 1, 21, 0, 0)
abbrev mX8_wipe : g_MD := (yX8_wipe, cX8_wipe, 2, (some .int), 0, 1, 20, 0, 0)
abbrev mX8_fault : g_MD := (yX8_fault, cX8_fault, 1, (some .int), 0, 7, 154, 0, 0)
abbrev mX8_lay : g_MD := (yX8_lay, cX8_lay, 1, (some .int), 0, 8, 175, 0, 0)
abbrev mX8_hit : g_MD := (yX8_hit, cX8_hit, 5, (some .int), 4, 4, 88, 0, 0)
abbrev mX8_why : g_MD := (yX8_why, cX8_why, 5, (some .int), 4, 4, 88, 0, 0)
abbrev mX8_nibble : g_MD := (yX8_nibble, cX8_nibble, 5, (some .int), 3, 5, 117, 0, 0)
abbrev mX8_clamp : g_MD := (yX8_clamp, cX8_clamp, 4, (some .int), 2, 3, 68, 0, 0)
abbrev mX8_sharpen : g_MD := (yX8_sharpen, cX8_sharpen, 3, (some .int), 1, 3, 68, 0, 0)
abbrev mX8_undo : g_MD := (yX8_undo, cX8_undo, 1, (some .int), 0, 3, 68, 0, 0)
abbrev mX8_station : g_MD := (yX8_station, cX8_station, 4, (some .int), 2, 2, 44, 0, 0)
abbrev mX8_hole : g_MD := (yX8_hole, cX8_hole, 4, (some .int), 2, 3, 64, 0, 0)
abbrev mX8_hits : g_MD := (yX8_hits, cX8_hits, 5, (some .int), 3, 2, 45, 0, 0)
abbrev mX8_cell : g_MD := (yX8_cell, cX8_cell, 4, (some .int), 3, 2, 46, 0, 0)
abbrev mX8_column : g_MD := (yX8_column, cX8_column, 2, (some .int), 1, 1, 21, 0, 0)
abbrev mX8_plan : g_MD := (yX8_plan, cX8_plan, 2, (some .int), 1, 5, 113, 0, 0)
abbrev mX8_drawn : g_MD := (yX8_drawn, cX8_drawn, 4, (some .int), 1, 3, 68, 0, 0)
abbrev mX8_count : g_MD := (yX8_count, cX8_count, 2, (some .int), 1, 4, 87, 0, 0)
abbrev mX8_layDraft : g_MD := (yX8_layDraft, cX8_layDraft, 2, (some .boolean), 0, 7, 154, 0, 0)
abbrev mX8_punchAll : g_MD := (yX8_punchAll, cX8_punchAll, 10, (some .int), 3, 4, 88, 0, 0)
abbrev mX8_signAt : g_MD := (yX8_signAt, cX8_signAt, 3, (some .char), 2, 2, 46, 0, 0)
abbrev mX8_isHitTold : g_MD := (yX8_isHitTold, cX8_isHitTold, 5, (some .boolean), 4, 1, 22, 0, 0)
abbrev mX8_isStation : g_MD := (yX8_isStation, cX8_isStation, 2, (some .boolean), 1, 0, 0, 0, 0)
abbrev mX8_isHole : g_MD := (yX8_isHole, cX8_isHole, 2, (some .boolean), 1, 0, 0, 0, 0)
abbrev mX8_isClamp : g_MD := (yX8_isClamp, cX8_isClamp, 2, (some .boolean), 1, 0, 0, 0, 0)
abbrev mX8_isFlag : g_MD := (yX8_isFlag, cX8_isFlag, 1, (some .boolean), 1, 0, 0, 0, 0)
abbrev mX8_asFlag : g_MD := (yX8_asFlag, cX8_asFlag, 1, (some .int), 1, 0, 0, 0, 0)
abbrev mX8_isWithin : g_MD := (yX8_isWithin, cX8_isWithin, 3, (some .boolean), 3, 0, 0, 0, 0)
abbrev mX8_stepsOver : g_MD := (yX8_stepsOver, cX8_stepsOver, 2, (some .int), 2, 0, 0, 0, 0)
abbrev mX9_init : g_MD := (yX9_init, cX9_init, 1, none, 0, 1, 27, 11, 1689)
abbrev mX9_adds : g_MD := (yX9_adds, cX9_adds, 8, none, 6, 0, 0, 0, 0)
abbrev mX9_anew : g_MD := (yX9_anew, cX9_anew, 2, none, 0, 0, 0, 0, 0)
abbrev mX9_in : g_MD := (yX9_in, cX9_in, 6, (some .boolean), 3, 0, 0, 0, 0)
abbrev mX9_write : g_MD := (yX9_write, cX9_write, 2, (some .int), 1, 1, 25, 0, 0)
abbrev mX9_wipe : g_MD := (yX9_wipe, cX9_wipe, 2, (some .int), 0, 0, 0, 0, 0)
abbrev mX9_byteAt : g_MD := (yX9_byteAt, cX9_byteAt, 2, (some .int), 1, 0, 0, 0, 0)
abbrev mX9_number : g_MD := (yX9_number, cX9_number, 7, (some .boolean), 4, 1, 25, 0, 0)
abbrev mX9_word : g_MD := (yX9_word, cX9_word, 5, (some .boolean), 2, 1, 21, 0, 0)
abbrev mX9_word5 : g_MD := (yX9_word5, cX9_word5, 5, (some .long), 5, 0, 0, 0, 0)
abbrev mX9_word4 : g_MD := (yX9_word4, cX9_word4, 4, (some .long), 4, 0, 0, 0, 0)
abbrev mX9_isApart : g_MD := (yX9_isApart, cX9_isApart, 5, (some .boolean), 2, 0, 0, 0, 0)
abbrev mX9_holeItem : g_MD := (yX9_holeItem, cX9_holeItem, 5, (some .boolean), 0, 2, 51, 0, 0)
abbrev mX9_item : g_MD := (yX9_item, cX9_item, 2, (some .boolean), 0, 3, 75, 0, 0)
abbrev mX9_fault : g_MD := (yX9_fault, cX9_fault, 2, (some .int), 0, 4, 96, 0, 0)
abbrev mX9_lay : g_MD := (yX9_lay, cX9_lay, 2, (some .int), 0, 5, 117, 0, 0)
abbrev mX9_note : g_MD := (yX9_note, cX9_note, 2, none, 0, 0, 0, 0, 0)
abbrev mX9_takesBack : g_MD := (yX9_takesBack, cX9_takesBack, 2, none, 0, 0, 0, 0, 0)
abbrev mX9_undo : g_MD := (yX9_undo, cX9_undo, 1, (some .int), 0, 1, 21, 0, 0)
abbrev mX9_isCell : g_MD := (yX9_isCell, cX9_isCell, 3, (some .boolean), 2, 1, 25, 0, 0)
abbrev mX9_isStation : g_MD := (yX9_isStation, cX9_isStation, 2, (some .boolean), 1, 1, 25, 0, 0)
abbrev mX9_isHole : g_MD := (yX9_isHole, cX9_isHole, 2, (some .boolean), 1, 1, 25, 0, 0)
abbrev mX9_holeAt : g_MD := (yX9_holeAt, cX9_holeAt, 5, (some .int), 2, 1, 25, 0, 0)
abbrev mX9_clampAt : g_MD := (yX9_clampAt, cX9_clampAt, 4, (some .int), 2, 1, 25, 0, 0)
abbrev mX9_wide : g_MD := (yX9_wide, cX9_wide, 3, (some .int), 2, 0, 0, 0, 0)
abbrev mX9_high : g_MD := (yX9_high, cX9_high, 3, (some .int), 2, 0, 0, 0, 0)
abbrev mX9_isDull : g_MD := (yX9_isDull, cX9_isDull, 2, (some .boolean), 1, 0, 0, 0, 0)
abbrev mX9_ring : g_MD := (yX9_ring, cX9_ring, 4, (some .int), 2, 0, 0, 0, 0)
abbrev mX9_whyNot : g_MD := (yX9_whyNot, cX9_whyNot, 14, (some .int), 4, 2, 49, 0, 0)
abbrev mX9_why : g_MD := (yX9_why, cX9_why, 5, (some .int), 4, 3, 82, 0, 0)
abbrev mX9_strikes : g_MD := (yX9_strikes, cX9_strikes, 9, (some .int), 4, 1, 23, 0, 0)
abbrev mX9_hit : g_MD := (yX9_hit, cX9_hit, 6, (some .int), 4, 4, 106, 0, 0)
abbrev mX9_open : g_MD := (yX9_open, cX9_open, 4, (some .int), 1, 2, 49, 0, 0)
abbrev mX9_parts : g_MD := (yX9_parts, cX9_parts, 2, (some .int), 2, 0, 0, 0, 0)
abbrev mX9_nibbles : g_MD := (yX9_nibbles, cX9_nibbles, 8, (some .int), 3, 1, 22, 0, 0)
abbrev mX9_isCut : g_MD := (yX9_isCut, cX9_isCut, 8, (some .boolean), 4, 1, 22, 0, 0)
abbrev mX9_nibble : g_MD := (yX9_nibble, cX9_nibble, 15, (some .int), 3, 3, 82, 0, 0)
abbrev mX9_swaps : g_MD := (yX9_swaps, cX9_swaps, 3, none, 0, 0, 0, 0, 0)
abbrev mX9_clamp : g_MD := (yX9_clamp, cX9_clamp, 5, (some .int), 2, 1, 25, 0, 0)
abbrev mX9_sharpen : g_MD := (yX9_sharpen, cX9_sharpen, 3, (some .int), 1, 2, 46, 0, 0)
abbrev mX9_station : g_MD := (yX9_station, cX9_station, 3, (some .int), 2, 2, 46, 0, 0)
abbrev mX9_hole : g_MD := (yX9_hole, cX9_hole, 3, (some .int), 2, 3, 72, 0, 0)
abbrev mX9_hits : g_MD := (yX9_hits, cX9_hits, 4, (some .int), 3, 2, 49, 0, 0)
abbrev mX9_cell : g_MD := (yX9_cell, cX9_cell, 4, (some .int), 3, 2, 49, 0, 0)
abbrev mX9_column : g_MD := (yX9_column, cX9_column, 2, (some .int), 1, 1, 25, 0, 0)
abbrev mX9_round : g_MD := (yX9_round, cX9_round, 8, (some .int), 1, 0, 0, 0, 0)
abbrev mX9_plans : g_MD := (yX9_plans, cX9_plans, 12, (some .boolean), 0, 3, 72, 0, 0)
abbrev mX9_looks : g_MD := (yX9_looks, cX9_looks, 3, none, 0, 3, 72, 0, 0)
abbrev mX9_plan : g_MD := (yX9_plan, cX9_plan, 2, (some .int), 1, 4, 103, 0, 0)
abbrev mX9_drawn : g_MD := (yX9_drawn, cX9_drawn, 5, (some .int), 1, 2, 49, 0, 0)
abbrev mX9_count : g_MD := (yX9_count, cX9_count, 5, (some .int), 1, 3, 72, 0, 0)
abbrev mJ6_bitCount_0f7a4 : g_MD := (yJ6_bitCount_0f7a4, cJ6_bitCount_0f7a4, 1, (some .int), 1, 0, 0, 0, 0)
abbrev mJ9_abs_0f7a4 : g_MD := (yJ9_abs_0f7a4, cJ9_abs_0f7a4, 1, (some .int), 1, 0, 0, 0, 0)
abbrev mJ9_min_7cf53 : g_MD := (yJ9_min_7cf53, cJ9_min_7cf53, 2, (some .int), 2, 0, 0, 0, 0)
abbrev mJ0_length_8abf5 : g_MD := (yJ0_length_8abf5, cJ0_length_8abf5, 1, (some .int), 0, 1, 20, 0, 0)
abbrev mJ0_charAt_5068e : g_MD := (yJ0_charAt_5068e, cJ0_charAt_5068e, 2, (some .char), 1, 3, 64, 0, 0)
abbrev mJ0_coder_7d493 : g_MD := (yJ0_coder_7d493, cJ0_coder_7d493, 1, (some .byte), 0, 0, 0, 0, 0)
abbrev mJ0_isLatin1_aae02 : g_MD := (yJ0_isLatin1_aae02, cJ0_isLatin1_aae02, 1, (some .boolean), 0, 0, 0, 0, 0)
abbrev mJ0_checkIndex_df160 : g_MD := (yJ0_checkIndex_df160, cJ0_checkIndex_df160, 2, none, 2, 1, 22, 0, 0)
abbrev mJ1_charAt_3b067 : g_MD := (yJ1_charAt_3b067, cJ1_charAt_3b067, 2, (some .char), 2, 2, 43, 0, 0)
abbrev mJ7_fill_53178 : g_MD := (yJ7_fill_53178, cJ7_fill_53178, 4, none, 2, 0, 0, 0, 0)
abbrev mJ3_checkIndex_8e157 : g_MD := (yJ3_checkIndex_8e157, cJ3_checkIndex_8e157, 3, (some .int), 3, 0, 0, 0, 0)
abbrev mL_law : g_MD := (yL_law, cL_law, 4, (some .boolean), 1, 12, 434, 600000, 7302250)
/-- a field's link: class number ci, its place k -/
def g_FL (own : String) (idx ci k : Nat) : Prop := ∃ (C : String) (F : u_T) (n : Nat), vwCl[ci]? = some (C, F, n) ∧ k < n ∧ Cond.fieldLink own idx (F k).1 (F k).2.1 (F k).2.2.1 ∈ gTb ∧ ∀ w ∈ u_ws C F n, w ∈ gTb
/-- a field that may be written: its type, final or not -/
def g_FP (own : String) (idx ci k : Nat) (ty : FieldType) (fin : Bool) : Prop := ∃ (C : String) (F : u_T) (n : Nat) (ty0 : Nat → FieldType), vwCl[ci]? = some (C, F, n) ∧ k < n ∧ Cond.fieldLink own idx (F k).1 (F k).2.1 (F k).2.2.1 ∈ gTb ∧ (∀ w ∈ u_ws C F n, w ∈ gTb) ∧ (∀ k, k < n → parseFieldDescriptor (F k).2.2.1 = some (ty0 k)) ∧ (∀ a, a < n → ∀ b, b < n → a ≠ b → (F a).2.1 ≠ (F b).2.1) ∧ (F k).2.2.2 = fin ∧ parseFieldDescriptor (F k).2.2.1 = some ty ∧ (fin = true → (F k).1 = own)
/-- what the tables say of a method -/
def g_MO (M : g_MD) : Prop := Cond.code M.1 M.2.1 M.2.2.1 M.2.2.2.1 ∈ gTb ∧ Cond.initialized M.1.cls ∈ gTb ∧ plainName M.1.cls = true ∧ (M.1.cls ≠ "java/lang/invoke/MethodHandle" ∧ M.1.cls ≠ "java/lang/invoke/VarHandle") ∧ (parseMethodDescriptor M.1.desc).map (fun d => d.parameters.length) = some M.2.2.2.2.1
def g_MI (M : g_MD) : Prop := g_MO M ∧ Cond.instanceMethod M.1 ∈ gTb ∧ Cond.selects M.1.cls M.1 M.1 ∈ gTb
def g_MS (M : g_MD) : Prop := g_MO M ∧ Cond.static M.1 ∈ gTb
def g_MN (M : g_MD) : Prop := g_MO M ∧ Cond.instanceMethod M.1 ∈ gTb ∧ M.1.name = "<init>"
/-- a call's link, and the room that the called one wants -/
def g_LK (M M' : g_MD) (idx : Nat) : Prop := Cond.methodLink M.1.cls idx M'.1 ∈ gTb ∧ M'.2.2.2.2.2.1 + 1 ≤ M.2.2.2.2.2.1 ∧ 8 + (M'.2.2.1 + 11) + M'.2.2.2.2.2.2.1 ≤ M.2.2.2.2.2.2.1
def g_LN (M M' : g_MD) (idx : Nat) : Prop := (∃ host, Cond.methodLinkNest M.1.cls idx M'.1 host ∈ tables_1) ∧ M'.2.2.2.2.2.1 + 1 ≤ M.2.2.2.2.2.1 ∧ 8 + (M'.2.2.1 + 11) + M'.2.2.2.2.2.2.1 ≤ M.2.2.2.2.2.2.1
theorem flX6_9 : g_FL RX6 9 6 0 := ⟨RX6, TX6, 2, rfl, by decide, g_tb 33 (by decide +kernel) (by decide +kernel), g_in6⟩
theorem fpX6_9 : g_FP RX6 9 6 0 (.array .char) true := ⟨RX6, TX6, 2, tyX6, rfl, by decide, g_tb 33 (by decide +kernel) (by decide +kernel), g_in6, tyX6_ok, nmX6, rfl, by decide +kernel, fun _ => rfl⟩
theorem flX6_15 : g_FL RX6 15 6 1 := ⟨RX6, TX6, 2, rfl, by decide, g_tb 34 (by decide +kernel) (by decide +kernel), g_in6⟩
theorem fpX6_15 : g_FP RX6 15 6 1 .int false := ⟨RX6, TX6, 2, tyX6, rfl, by decide, g_tb 34 (by decide +kernel) (by decide +kernel), g_in6, tyX6_ok, nmX6, rfl, by decide +kernel, fun h => by cases h⟩
theorem flX4_24 : g_FL RX4 24 6 1 := ⟨RX6, TX6, 2, rfl, by decide, g_tb 35 (by decide +kernel) (by decide +kernel), g_in6⟩
theorem fpX4_24 : g_FP RX4 24 6 1 .int false := ⟨RX6, TX6, 2, tyX6, rfl, by decide, g_tb 35 (by decide +kernel) (by decide +kernel), g_in6, tyX6_ok, nmX6, rfl, by decide +kernel, fun h => by cases h⟩
theorem flX8_87 : g_FL RX8 87 6 1 := ⟨RX6, TX6, 2, rfl, by decide, g_tb 36 (by decide +kernel) (by decide +kernel), g_in6⟩
theorem fpX8_87 : g_FP RX8 87 6 1 .int false := ⟨RX6, TX6, 2, tyX6, rfl, by decide, g_tb 36 (by decide +kernel) (by decide +kernel), g_in6, tyX6_ok, nmX6, rfl, by decide +kernel, fun h => by cases h⟩
theorem flX4_9 : g_FL RX4 9 4 0 := ⟨RX4, TX4, 2, rfl, by decide, g_tb 49 (by decide +kernel) (by decide +kernel), g_in4⟩
theorem fpX4_9 : g_FP RX4 9 4 0 (.array .int) true := ⟨RX4, TX4, 2, tyX4, rfl, by decide, g_tb 49 (by decide +kernel) (by decide +kernel), g_in4, tyX4_ok, nmX4, rfl, by decide +kernel, fun _ => rfl⟩
theorem flX4_20 : g_FL RX4 20 4 1 := ⟨RX4, TX4, 2, rfl, by decide, g_tb 50 (by decide +kernel) (by decide +kernel), g_in4⟩
theorem fpX4_20 : g_FP RX4 20 4 1 .int false := ⟨RX4, TX4, 2, tyX4, rfl, by decide, g_tb 50 (by decide +kernel) (by decide +kernel), g_in4, tyX4_ok, nmX4, rfl, by decide +kernel, fun h => by cases h⟩
theorem flX5_9 : g_FL RX5 9 5 0 := ⟨RX5, TX5, 7, rfl, by decide, g_tb 63 (by decide +kernel) (by decide +kernel), g_in5⟩
theorem fpX5_9 : g_FP RX5 9 5 0 (.array .int) true := ⟨RX5, TX5, 7, tyX5, rfl, by decide, g_tb 63 (by decide +kernel) (by decide +kernel), g_in5, tyX5_ok, nmX5, rfl, by decide +kernel, fun _ => rfl⟩
theorem flX5_15 : g_FL RX5 15 5 1 := ⟨RX5, TX5, 7, rfl, by decide, g_tb 64 (by decide +kernel) (by decide +kernel), g_in5⟩
theorem fpX5_15 : g_FP RX5 15 5 1 (.array .int) true := ⟨RX5, TX5, 7, tyX5, rfl, by decide, g_tb 64 (by decide +kernel) (by decide +kernel), g_in5, tyX5_ok, nmX5, rfl, by decide +kernel, fun _ => rfl⟩
theorem flX8_165 : g_FL RX8 165 5 1 := ⟨RX5, TX5, 7, rfl, by decide, g_tb 65 (by decide +kernel) (by decide +kernel), g_in5⟩
theorem flX5_18 : g_FL RX5 18 5 2 := ⟨RX5, TX5, 7, rfl, by decide, g_tb 66 (by decide +kernel) (by decide +kernel), g_in5⟩
theorem fpX5_18 : g_FP RX5 18 5 2 (.array .int) true := ⟨RX5, TX5, 7, tyX5, rfl, by decide, g_tb 66 (by decide +kernel) (by decide +kernel), g_in5, tyX5_ok, nmX5, rfl, by decide +kernel, fun _ => rfl⟩
theorem flX8_154 : g_FL RX8 154 5 2 := ⟨RX5, TX5, 7, rfl, by decide, g_tb 67 (by decide +kernel) (by decide +kernel), g_in5⟩
theorem flX5_36 : g_FL RX5 36 5 3 := ⟨RX5, TX5, 7, rfl, by decide, g_tb 68 (by decide +kernel) (by decide +kernel), g_in5⟩
theorem fpX5_36 : g_FP RX5 36 5 3 .int false := ⟨RX5, TX5, 7, tyX5, rfl, by decide, g_tb 68 (by decide +kernel) (by decide +kernel), g_in5, tyX5_ok, nmX5, rfl, by decide +kernel, fun h => by cases h⟩
theorem flX3_42 : g_FL RX3 42 5 3 := ⟨RX5, TX5, 7, rfl, by decide, g_tb 69 (by decide +kernel) (by decide +kernel), g_in5⟩
theorem fpX3_42 : g_FP RX3 42 5 3 .int false := ⟨RX5, TX5, 7, tyX5, rfl, by decide, g_tb 69 (by decide +kernel) (by decide +kernel), g_in5, tyX5_ok, nmX5, rfl, by decide +kernel, fun h => by cases h⟩
theorem flX8_196 : g_FL RX8 196 5 3 := ⟨RX5, TX5, 7, rfl, by decide, g_tb 70 (by decide +kernel) (by decide +kernel), g_in5⟩
theorem fpX8_196 : g_FP RX8 196 5 3 .int false := ⟨RX5, TX5, 7, tyX5, rfl, by decide, g_tb 70 (by decide +kernel) (by decide +kernel), g_in5, tyX5_ok, nmX5, rfl, by decide +kernel, fun h => by cases h⟩
theorem flX5_40 : g_FL RX5 40 5 4 := ⟨RX5, TX5, 7, rfl, by decide, g_tb 71 (by decide +kernel) (by decide +kernel), g_in5⟩
theorem fpX5_40 : g_FP RX5 40 5 4 .int false := ⟨RX5, TX5, 7, tyX5, rfl, by decide, g_tb 71 (by decide +kernel) (by decide +kernel), g_in5, tyX5_ok, nmX5, rfl, by decide +kernel, fun h => by cases h⟩
theorem flX8_262 : g_FL RX8 262 5 4 := ⟨RX5, TX5, 7, rfl, by decide, g_tb 72 (by decide +kernel) (by decide +kernel), g_in5⟩
theorem fpX8_262 : g_FP RX8 262 5 4 .int false := ⟨RX5, TX5, 7, tyX5, rfl, by decide, g_tb 72 (by decide +kernel) (by decide +kernel), g_in5, tyX5_ok, nmX5, rfl, by decide +kernel, fun h => by cases h⟩
theorem flX5_43 : g_FL RX5 43 5 5 := ⟨RX5, TX5, 7, rfl, by decide, g_tb 73 (by decide +kernel) (by decide +kernel), g_in5⟩
theorem fpX5_43 : g_FP RX5 43 5 5 .int false := ⟨RX5, TX5, 7, tyX5, rfl, by decide, g_tb 73 (by decide +kernel) (by decide +kernel), g_in5, tyX5_ok, nmX5, rfl, by decide +kernel, fun h => by cases h⟩
theorem flX8_265 : g_FL RX8 265 5 5 := ⟨RX5, TX5, 7, rfl, by decide, g_tb 74 (by decide +kernel) (by decide +kernel), g_in5⟩
theorem fpX8_265 : g_FP RX8 265 5 5 .int false := ⟨RX5, TX5, 7, tyX5, rfl, by decide, g_tb 74 (by decide +kernel) (by decide +kernel), g_in5, tyX5_ok, nmX5, rfl, by decide +kernel, fun h => by cases h⟩
theorem flX5_46 : g_FL RX5 46 5 6 := ⟨RX5, TX5, 7, rfl, by decide, g_tb 75 (by decide +kernel) (by decide +kernel), g_in5⟩
theorem fpX5_46 : g_FP RX5 46 5 6 .int false := ⟨RX5, TX5, 7, tyX5, rfl, by decide, g_tb 75 (by decide +kernel) (by decide +kernel), g_in5, tyX5_ok, nmX5, rfl, by decide +kernel, fun h => by cases h⟩
theorem flX8_162 : g_FL RX8 162 5 6 := ⟨RX5, TX5, 7, rfl, by decide, g_tb 76 (by decide +kernel) (by decide +kernel), g_in5⟩
theorem fpX8_162 : g_FP RX8 162 5 6 .int false := ⟨RX5, TX5, 7, tyX5, rfl, by decide, g_tb 76 (by decide +kernel) (by decide +kernel), g_in5, tyX5_ok, nmX5, rfl, by decide +kernel, fun h => by cases h⟩
theorem flX1_11 : g_FL RX1 11 1 0 := ⟨RX1, TX1, 3, rfl, by decide, g_tb 101 (by decide +kernel) (by decide +kernel), g_in1⟩
theorem fpX1_11 : g_FP RX1 11 1 0 (.array (.object "TurretPunch$State")) true := ⟨RX1, TX1, 3, tyX1, rfl, by decide, g_tb 101 (by decide +kernel) (by decide +kernel), g_in1, tyX1_ok, nmX1, rfl, by decide +kernel, fun _ => rfl⟩
theorem flX1_22 : g_FL RX1 22 1 1 := ⟨RX1, TX1, 3, rfl, by decide, g_tb 102 (by decide +kernel) (by decide +kernel), g_in1⟩
theorem fpX1_22 : g_FP RX1 22 1 1 .int false := ⟨RX1, TX1, 3, tyX1, rfl, by decide, g_tb 102 (by decide +kernel) (by decide +kernel), g_in1, tyX1_ok, nmX1, rfl, by decide +kernel, fun h => by cases h⟩
theorem flX1_18 : g_FL RX1 18 1 2 := ⟨RX1, TX1, 3, rfl, by decide, g_tb 103 (by decide +kernel) (by decide +kernel), g_in1⟩
theorem fpX1_18 : g_FP RX1 18 1 2 .int false := ⟨RX1, TX1, 3, tyX1, rfl, by decide, g_tb 103 (by decide +kernel) (by decide +kernel), g_in1, tyX1_ok, nmX1, rfl, by decide +kernel, fun h => by cases h⟩
theorem flX8_172 : g_FL RX8 172 1 2 := ⟨RX1, TX1, 3, rfl, by decide, g_tb 104 (by decide +kernel) (by decide +kernel), g_in1⟩
theorem fpX8_172 : g_FP RX8 172 1 2 .int false := ⟨RX1, TX1, 3, tyX1, rfl, by decide, g_tb 104 (by decide +kernel) (by decide +kernel), g_in1, tyX1_ok, nmX1, rfl, by decide +kernel, fun h => by cases h⟩
theorem flX3_9 : g_FL RX3 9 3 0 := ⟨RX3, TX3, 8, rfl, by decide, g_tb 118 (by decide +kernel) (by decide +kernel), g_in3⟩
theorem fpX3_9 : g_FP RX3 9 3 0 (.array .int) true := ⟨RX3, TX3, 8, tyX3, rfl, by decide, g_tb 118 (by decide +kernel) (by decide +kernel), g_in3, tyX3_ok, nmX3, rfl, by decide +kernel, fun _ => rfl⟩
theorem flX3_15 : g_FL RX3 15 3 1 := ⟨RX3, TX3, 8, rfl, by decide, g_tb 119 (by decide +kernel) (by decide +kernel), g_in3⟩
theorem fpX3_15 : g_FP RX3 15 3 1 (.array .int) true := ⟨RX3, TX3, 8, tyX3, rfl, by decide, g_tb 119 (by decide +kernel) (by decide +kernel), g_in3, tyX3_ok, nmX3, rfl, by decide +kernel, fun _ => rfl⟩
theorem flX3_18 : g_FL RX3 18 3 2 := ⟨RX3, TX3, 8, rfl, by decide, g_tb 120 (by decide +kernel) (by decide +kernel), g_in3⟩
theorem fpX3_18 : g_FP RX3 18 3 2 (.array .int) true := ⟨RX3, TX3, 8, tyX3, rfl, by decide, g_tb 120 (by decide +kernel) (by decide +kernel), g_in3, tyX3_ok, nmX3, rfl, by decide +kernel, fun _ => rfl⟩
theorem flX3_80 : g_FL RX3 80 3 3 := ⟨RX3, TX3, 8, rfl, by decide, g_tb 121 (by decide +kernel) (by decide +kernel), g_in3⟩
theorem fpX3_80 : g_FP RX3 80 3 3 .int false := ⟨RX3, TX3, 8, tyX3, rfl, by decide, g_tb 121 (by decide +kernel) (by decide +kernel), g_in3, tyX3_ok, nmX3, rfl, by decide +kernel, fun h => by cases h⟩
theorem flX3_21 : g_FL RX3 21 3 4 := ⟨RX3, TX3, 8, rfl, by decide, g_tb 122 (by decide +kernel) (by decide +kernel), g_in3⟩
theorem fpX3_21 : g_FP RX3 21 3 4 (.array .int) true := ⟨RX3, TX3, 8, tyX3, rfl, by decide, g_tb 122 (by decide +kernel) (by decide +kernel), g_in3, tyX3_ok, nmX3, rfl, by decide +kernel, fun _ => rfl⟩
theorem flX8_249 : g_FL RX8 249 3 4 := ⟨RX3, TX3, 8, rfl, by decide, g_tb 123 (by decide +kernel) (by decide +kernel), g_in3⟩
theorem flX3_91 : g_FL RX3 91 3 5 := ⟨RX3, TX3, 8, rfl, by decide, g_tb 124 (by decide +kernel) (by decide +kernel), g_in3⟩
theorem fpX3_91 : g_FP RX3 91 3 5 .int false := ⟨RX3, TX3, 8, tyX3, rfl, by decide, g_tb 124 (by decide +kernel) (by decide +kernel), g_in3, tyX3_ok, nmX3, rfl, by decide +kernel, fun h => by cases h⟩
theorem flX8_243 : g_FL RX8 243 3 5 := ⟨RX3, TX3, 8, rfl, by decide, g_tb 125 (by decide +kernel) (by decide +kernel), g_in3⟩
theorem fpX8_243 : g_FP RX8 243 3 5 .int false := ⟨RX3, TX3, 8, tyX3, rfl, by decide, g_tb 125 (by decide +kernel) (by decide +kernel), g_in3, tyX3_ok, nmX3, rfl, by decide +kernel, fun h => by cases h⟩
theorem flX3_94 : g_FL RX3 94 3 6 := ⟨RX3, TX3, 8, rfl, by decide, g_tb 126 (by decide +kernel) (by decide +kernel), g_in3⟩
theorem fpX3_94 : g_FP RX3 94 3 6 .int false := ⟨RX3, TX3, 8, tyX3, rfl, by decide, g_tb 126 (by decide +kernel) (by decide +kernel), g_in3, tyX3_ok, nmX3, rfl, by decide +kernel, fun h => by cases h⟩
theorem flX8_246 : g_FL RX8 246 3 6 := ⟨RX3, TX3, 8, rfl, by decide, g_tb 127 (by decide +kernel) (by decide +kernel), g_in3⟩
theorem fpX8_246 : g_FP RX8 246 3 6 .int false := ⟨RX3, TX3, 8, tyX3, rfl, by decide, g_tb 127 (by decide +kernel) (by decide +kernel), g_in3, tyX3_ok, nmX3, rfl, by decide +kernel, fun h => by cases h⟩
theorem flX3_24 : g_FL RX3 24 3 7 := ⟨RX3, TX3, 8, rfl, by decide, g_tb 128 (by decide +kernel) (by decide +kernel), g_in3⟩
theorem fpX3_24 : g_FP RX3 24 3 7 .boolean false := ⟨RX3, TX3, 8, tyX3, rfl, by decide, g_tb 128 (by decide +kernel) (by decide +kernel), g_in3, tyX3_ok, nmX3, rfl, by decide +kernel, fun h => by cases h⟩
theorem flX8_240 : g_FL RX8 240 3 7 := ⟨RX3, TX3, 8, rfl, by decide, g_tb 129 (by decide +kernel) (by decide +kernel), g_in3⟩
theorem fpX8_240 : g_FP RX8 240 3 7 .boolean false := ⟨RX3, TX3, 8, tyX3, rfl, by decide, g_tb 129 (by decide +kernel) (by decide +kernel), g_in3, tyX3_ok, nmX3, rfl, by decide +kernel, fun h => by cases h⟩
theorem flX0_7 : g_FL RX0 7 0 0 := ⟨RX0, TX0, 4, rfl, by decide, g_tb 153 (by decide +kernel) (by decide +kernel), g_in0⟩
theorem fpX0_7 : g_FP RX0 7 0 0 .int false := ⟨RX0, TX0, 4, tyX0, rfl, by decide, g_tb 153 (by decide +kernel) (by decide +kernel), g_in0, tyX0_ok, nmX0, rfl, by decide +kernel, fun h => by cases h⟩
theorem flX8_203 : g_FL RX8 203 0 0 := ⟨RX0, TX0, 4, rfl, by decide, g_tb 154 (by decide +kernel) (by decide +kernel), g_in0⟩
theorem fpX8_203 : g_FP RX8 203 0 0 .int false := ⟨RX0, TX0, 4, tyX0, rfl, by decide, g_tb 154 (by decide +kernel) (by decide +kernel), g_in0, tyX0_ok, nmX0, rfl, by decide +kernel, fun h => by cases h⟩
theorem flX0_13 : g_FL RX0 13 0 1 := ⟨RX0, TX0, 4, rfl, by decide, g_tb 155 (by decide +kernel) (by decide +kernel), g_in0⟩
theorem fpX0_13 : g_FP RX0 13 0 1 .int false := ⟨RX0, TX0, 4, tyX0, rfl, by decide, g_tb 155 (by decide +kernel) (by decide +kernel), g_in0, tyX0_ok, nmX0, rfl, by decide +kernel, fun h => by cases h⟩
theorem flX5_87 : g_FL RX5 87 0 1 := ⟨RX0, TX0, 4, rfl, by decide, g_tb 156 (by decide +kernel) (by decide +kernel), g_in0⟩
theorem fpX5_87 : g_FP RX5 87 0 1 .int false := ⟨RX0, TX0, 4, tyX0, rfl, by decide, g_tb 156 (by decide +kernel) (by decide +kernel), g_in0, tyX0_ok, nmX0, rfl, by decide +kernel, fun h => by cases h⟩
theorem flX8_206 : g_FL RX8 206 0 1 := ⟨RX0, TX0, 4, rfl, by decide, g_tb 157 (by decide +kernel) (by decide +kernel), g_in0⟩
theorem fpX8_206 : g_FP RX8 206 0 1 .int false := ⟨RX0, TX0, 4, tyX0, rfl, by decide, g_tb 157 (by decide +kernel) (by decide +kernel), g_in0, tyX0_ok, nmX0, rfl, by decide +kernel, fun h => by cases h⟩
theorem flX0_16 : g_FL RX0 16 0 2 := ⟨RX0, TX0, 4, rfl, by decide, g_tb 158 (by decide +kernel) (by decide +kernel), g_in0⟩
theorem fpX0_16 : g_FP RX0 16 0 2 .int false := ⟨RX0, TX0, 4, tyX0, rfl, by decide, g_tb 158 (by decide +kernel) (by decide +kernel), g_in0, tyX0_ok, nmX0, rfl, by decide +kernel, fun h => by cases h⟩
theorem flX2_47 : g_FL RX2 47 0 2 := ⟨RX0, TX0, 4, rfl, by decide, g_tb 159 (by decide +kernel) (by decide +kernel), g_in0⟩
theorem fpX2_47 : g_FP RX2 47 0 2 .int false := ⟨RX0, TX0, 4, tyX0, rfl, by decide, g_tb 159 (by decide +kernel) (by decide +kernel), g_in0, tyX0_ok, nmX0, rfl, by decide +kernel, fun h => by cases h⟩
theorem flX7_33 : g_FL RX7 33 0 2 := ⟨RX0, TX0, 4, rfl, by decide, g_tb 160 (by decide +kernel) (by decide +kernel), g_in0⟩
theorem fpX7_33 : g_FP RX7 33 0 2 .int false := ⟨RX0, TX0, 4, tyX0, rfl, by decide, g_tb 160 (by decide +kernel) (by decide +kernel), g_in0, tyX0_ok, nmX0, rfl, by decide +kernel, fun h => by cases h⟩
theorem flX8_209 : g_FL RX8 209 0 2 := ⟨RX0, TX0, 4, rfl, by decide, g_tb 161 (by decide +kernel) (by decide +kernel), g_in0⟩
theorem fpX8_209 : g_FP RX8 209 0 2 .int false := ⟨RX0, TX0, 4, tyX0, rfl, by decide, g_tb 161 (by decide +kernel) (by decide +kernel), g_in0, tyX0_ok, nmX0, rfl, by decide +kernel, fun h => by cases h⟩
theorem flX0_19 : g_FL RX0 19 0 3 := ⟨RX0, TX0, 4, rfl, by decide, g_tb 162 (by decide +kernel) (by decide +kernel), g_in0⟩
theorem fpX0_19 : g_FP RX0 19 0 3 .int false := ⟨RX0, TX0, 4, tyX0, rfl, by decide, g_tb 162 (by decide +kernel) (by decide +kernel), g_in0, tyX0_ok, nmX0, rfl, by decide +kernel, fun h => by cases h⟩
theorem flX5_90 : g_FL RX5 90 0 3 := ⟨RX0, TX0, 4, rfl, by decide, g_tb 163 (by decide +kernel) (by decide +kernel), g_in0⟩
theorem fpX5_90 : g_FP RX5 90 0 3 .int false := ⟨RX0, TX0, 4, tyX0, rfl, by decide, g_tb 163 (by decide +kernel) (by decide +kernel), g_in0, tyX0_ok, nmX0, rfl, by decide +kernel, fun h => by cases h⟩
theorem flX7_34 : g_FL RX7 34 0 3 := ⟨RX0, TX0, 4, rfl, by decide, g_tb 164 (by decide +kernel) (by decide +kernel), g_in0⟩
theorem fpX7_34 : g_FP RX7 34 0 3 .int false := ⟨RX0, TX0, 4, tyX0, rfl, by decide, g_tb 164 (by decide +kernel) (by decide +kernel), g_in0, tyX0_ok, nmX0, rfl, by decide +kernel, fun h => by cases h⟩
theorem flX8_210 : g_FL RX8 210 0 3 := ⟨RX0, TX0, 4, rfl, by decide, g_tb 165 (by decide +kernel) (by decide +kernel), g_in0⟩
theorem fpX8_210 : g_FP RX8 210 0 3 .int false := ⟨RX0, TX0, 4, tyX0, rfl, by decide, g_tb 165 (by decide +kernel) (by decide +kernel), g_in0, tyX0_ok, nmX0, rfl, by decide +kernel, fun h => by cases h⟩
theorem flX7_13 : g_FL RX7 13 7 0 := ⟨RX7, TX7, 4, rfl, by decide, g_tb 191 (by decide +kernel) (by decide +kernel), g_in7⟩
theorem fpX7_13 : g_FP RX7 13 7 0 .int false := ⟨RX7, TX7, 4, tyX7, rfl, by decide, g_tb 191 (by decide +kernel) (by decide +kernel), g_in7, tyX7_ok, nmX7, rfl, by decide +kernel, fun h => by cases h⟩
theorem flX2_62 : g_FL RX2 62 7 0 := ⟨RX7, TX7, 4, rfl, by decide, g_tb 192 (by decide +kernel) (by decide +kernel), g_in7⟩
theorem fpX2_62 : g_FP RX2 62 7 0 .int false := ⟨RX7, TX7, 4, tyX7, rfl, by decide, g_tb 192 (by decide +kernel) (by decide +kernel), g_in7, tyX7_ok, nmX7, rfl, by decide +kernel, fun h => by cases h⟩
theorem flX8_175 : g_FL RX8 175 7 0 := ⟨RX7, TX7, 4, rfl, by decide, g_tb 193 (by decide +kernel) (by decide +kernel), g_in7⟩
theorem fpX8_175 : g_FP RX8 175 7 0 .int false := ⟨RX7, TX7, 4, tyX7, rfl, by decide, g_tb 193 (by decide +kernel) (by decide +kernel), g_in7, tyX7_ok, nmX7, rfl, by decide +kernel, fun h => by cases h⟩
theorem flX7_7 : g_FL RX7 7 7 1 := ⟨RX7, TX7, 4, rfl, by decide, g_tb 194 (by decide +kernel) (by decide +kernel), g_in7⟩
theorem fpX7_7 : g_FP RX7 7 7 1 .int false := ⟨RX7, TX7, 4, tyX7, rfl, by decide, g_tb 194 (by decide +kernel) (by decide +kernel), g_in7, tyX7_ok, nmX7, rfl, by decide +kernel, fun h => by cases h⟩
theorem flX2_63 : g_FL RX2 63 7 1 := ⟨RX7, TX7, 4, rfl, by decide, g_tb 195 (by decide +kernel) (by decide +kernel), g_in7⟩
theorem fpX2_63 : g_FP RX2 63 7 1 .int false := ⟨RX7, TX7, 4, tyX7, rfl, by decide, g_tb 195 (by decide +kernel) (by decide +kernel), g_in7, tyX7_ok, nmX7, rfl, by decide +kernel, fun h => by cases h⟩
theorem flX8_178 : g_FL RX8 178 7 1 := ⟨RX7, TX7, 4, rfl, by decide, g_tb 196 (by decide +kernel) (by decide +kernel), g_in7⟩
theorem fpX8_178 : g_FP RX8 178 7 1 .int false := ⟨RX7, TX7, 4, tyX7, rfl, by decide, g_tb 196 (by decide +kernel) (by decide +kernel), g_in7, tyX7_ok, nmX7, rfl, by decide +kernel, fun h => by cases h⟩
theorem flX2_70 : g_FL RX2 70 7 2 := ⟨RX7, TX7, 4, rfl, by decide, g_tb 197 (by decide +kernel) (by decide +kernel), g_in7⟩
theorem fpX2_70 : g_FP RX2 70 7 2 .int false := ⟨RX7, TX7, 4, tyX7, rfl, by decide, g_tb 197 (by decide +kernel) (by decide +kernel), g_in7, tyX7_ok, nmX7, rfl, by decide +kernel, fun h => by cases h⟩
theorem flX5_101 : g_FL RX5 101 7 2 := ⟨RX7, TX7, 4, rfl, by decide, g_tb 198 (by decide +kernel) (by decide +kernel), g_in7⟩
theorem fpX5_101 : g_FP RX5 101 7 2 .int false := ⟨RX7, TX7, 4, tyX7, rfl, by decide, g_tb 198 (by decide +kernel) (by decide +kernel), g_in7, tyX7_ok, nmX7, rfl, by decide +kernel, fun h => by cases h⟩
theorem flX8_189 : g_FL RX8 189 7 2 := ⟨RX7, TX7, 4, rfl, by decide, g_tb 199 (by decide +kernel) (by decide +kernel), g_in7⟩
theorem fpX8_189 : g_FP RX8 189 7 2 .int false := ⟨RX7, TX7, 4, tyX7, rfl, by decide, g_tb 199 (by decide +kernel) (by decide +kernel), g_in7, tyX7_ok, nmX7, rfl, by decide +kernel, fun h => by cases h⟩
theorem flX5_53 : g_FL RX5 53 7 3 := ⟨RX7, TX7, 4, rfl, by decide, g_tb 200 (by decide +kernel) (by decide +kernel), g_in7⟩
theorem fpX5_53 : g_FP RX5 53 7 3 .boolean false := ⟨RX7, TX7, 4, tyX7, rfl, by decide, g_tb 200 (by decide +kernel) (by decide +kernel), g_in7, tyX7_ok, nmX7, rfl, by decide +kernel, fun h => by cases h⟩
theorem flX7_29 : g_FL RX7 29 7 3 := ⟨RX7, TX7, 4, rfl, by decide, g_tb 201 (by decide +kernel) (by decide +kernel), g_in7⟩
theorem fpX7_29 : g_FP RX7 29 7 3 .boolean false := ⟨RX7, TX7, 4, tyX7, rfl, by decide, g_tb 201 (by decide +kernel) (by decide +kernel), g_in7, tyX7_ok, nmX7, rfl, by decide +kernel, fun h => by cases h⟩
theorem flX2_66 : g_FL RX2 66 7 3 := ⟨RX7, TX7, 4, rfl, by decide, g_tb 202 (by decide +kernel) (by decide +kernel), g_in7⟩
theorem fpX2_66 : g_FP RX2 66 7 3 .boolean false := ⟨RX7, TX7, 4, tyX7, rfl, by decide, g_tb 202 (by decide +kernel) (by decide +kernel), g_in7, tyX7_ok, nmX7, rfl, by decide +kernel, fun h => by cases h⟩
theorem flX8_181 : g_FL RX8 181 7 3 := ⟨RX7, TX7, 4, rfl, by decide, g_tb 203 (by decide +kernel) (by decide +kernel), g_in7⟩
theorem fpX8_181 : g_FP RX8 181 7 3 .boolean false := ⟨RX7, TX7, 4, tyX7, rfl, by decide, g_tb 203 (by decide +kernel) (by decide +kernel), g_in7, tyX7_ok, nmX7, rfl, by decide +kernel, fun h => by cases h⟩
theorem flX2_12 : g_FL RX2 12 2 0 := ⟨RX2, TX2, 7, rfl, by decide, g_tb 213 (by decide +kernel) (by decide +kernel), g_in2⟩
theorem fpX2_12 : g_FP RX2 12 2 0 (.object "TurretPunch$Area") true := ⟨RX2, TX2, 7, tyX2, rfl, by decide, g_tb 213 (by decide +kernel) (by decide +kernel), g_in2, tyX2_ok, nmX2, rfl, by decide +kernel, fun _ => rfl⟩
theorem flX5_59 : g_FL RX5 59 2 0 := ⟨RX2, TX2, 7, rfl, by decide, g_tb 214 (by decide +kernel) (by decide +kernel), g_in2⟩
theorem flX8_219 : g_FL RX8 219 2 0 := ⟨RX2, TX2, 7, rfl, by decide, g_tb 215 (by decide +kernel) (by decide +kernel), g_in2⟩
theorem flX2_20 : g_FL RX2 20 2 1 := ⟨RX2, TX2, 7, rfl, by decide, g_tb 216 (by decide +kernel) (by decide +kernel), g_in2⟩
theorem fpX2_20 : g_FP RX2 20 2 1 (.array (.object "TurretPunch$Tool")) true := ⟨RX2, TX2, 7, tyX2, rfl, by decide, g_tb 216 (by decide +kernel) (by decide +kernel), g_in2, tyX2_ok, nmX2, rfl, by decide +kernel, fun _ => rfl⟩
theorem flX3_62 : g_FL RX3 62 2 1 := ⟨RX2, TX2, 7, rfl, by decide, g_tb 217 (by decide +kernel) (by decide +kernel), g_in2⟩
theorem flX5_49 : g_FL RX5 49 2 1 := ⟨RX2, TX2, 7, rfl, by decide, g_tb 218 (by decide +kernel) (by decide +kernel), g_in2⟩
theorem flX8_101 : g_FL RX8 101 2 1 := ⟨RX2, TX2, 7, rfl, by decide, g_tb 219 (by decide +kernel) (by decide +kernel), g_in2⟩
theorem flX2_24 : g_FL RX2 24 2 2 := ⟨RX2, TX2, 7, rfl, by decide, g_tb 220 (by decide +kernel) (by decide +kernel), g_in2⟩
theorem fpX2_24 : g_FP RX2 24 2 2 (.array (.object "TurretPunch$Area")) true := ⟨RX2, TX2, 7, tyX2, rfl, by decide, g_tb 220 (by decide +kernel) (by decide +kernel), g_in2, tyX2_ok, nmX2, rfl, by decide +kernel, fun _ => rfl⟩
theorem flX3_66 : g_FL RX3 66 2 2 := ⟨RX2, TX2, 7, rfl, by decide, g_tb 221 (by decide +kernel) (by decide +kernel), g_in2⟩
theorem flX8_133 : g_FL RX8 133 2 2 := ⟨RX2, TX2, 7, rfl, by decide, g_tb 222 (by decide +kernel) (by decide +kernel), g_in2⟩
theorem flX5_113 : g_FL RX5 113 2 2 := ⟨RX2, TX2, 7, rfl, by decide, g_tb 223 (by decide +kernel) (by decide +kernel), g_in2⟩
theorem flX2_28 : g_FL RX2 28 2 3 := ⟨RX2, TX2, 7, rfl, by decide, g_tb 224 (by decide +kernel) (by decide +kernel), g_in2⟩
theorem fpX2_28 : g_FP RX2 28 2 3 (.array .int) true := ⟨RX2, TX2, 7, tyX2, rfl, by decide, g_tb 224 (by decide +kernel) (by decide +kernel), g_in2, tyX2_ok, nmX2, rfl, by decide +kernel, fun _ => rfl⟩
theorem flX5_27 : g_FL RX5 27 2 3 := ⟨RX2, TX2, 7, rfl, by decide, g_tb 225 (by decide +kernel) (by decide +kernel), g_in2⟩
theorem flX2_37 : g_FL RX2 37 2 4 := ⟨RX2, TX2, 7, rfl, by decide, g_tb 226 (by decide +kernel) (by decide +kernel), g_in2⟩
theorem fpX2_37 : g_FP RX2 37 2 4 .int false := ⟨RX2, TX2, 7, tyX2, rfl, by decide, g_tb 226 (by decide +kernel) (by decide +kernel), g_in2, tyX2_ok, nmX2, rfl, by decide +kernel, fun h => by cases h⟩
theorem flX3_32 : g_FL RX3 32 2 4 := ⟨RX2, TX2, 7, rfl, by decide, g_tb 227 (by decide +kernel) (by decide +kernel), g_in2⟩
theorem fpX3_32 : g_FP RX3 32 2 4 .int false := ⟨RX2, TX2, 7, tyX2, rfl, by decide, g_tb 227 (by decide +kernel) (by decide +kernel), g_in2, tyX2_ok, nmX2, rfl, by decide +kernel, fun h => by cases h⟩
theorem flX8_94 : g_FL RX8 94 2 4 := ⟨RX2, TX2, 7, rfl, by decide, g_tb 228 (by decide +kernel) (by decide +kernel), g_in2⟩
theorem fpX8_94 : g_FP RX8 94 2 4 .int false := ⟨RX2, TX2, 7, tyX2, rfl, by decide, g_tb 228 (by decide +kernel) (by decide +kernel), g_in2, tyX2_ok, nmX2, rfl, by decide +kernel, fun h => by cases h⟩
theorem flX2_41 : g_FL RX2 41 2 5 := ⟨RX2, TX2, 7, rfl, by decide, g_tb 229 (by decide +kernel) (by decide +kernel), g_in2⟩
theorem fpX2_41 : g_FP RX2 41 2 5 .int false := ⟨RX2, TX2, 7, tyX2, rfl, by decide, g_tb 229 (by decide +kernel) (by decide +kernel), g_in2, tyX2_ok, nmX2, rfl, by decide +kernel, fun h => by cases h⟩
theorem flX3_51 : g_FL RX3 51 2 5 := ⟨RX2, TX2, 7, rfl, by decide, g_tb 230 (by decide +kernel) (by decide +kernel), g_in2⟩
theorem fpX3_51 : g_FP RX3 51 2 5 .int false := ⟨RX2, TX2, 7, tyX2, rfl, by decide, g_tb 230 (by decide +kernel) (by decide +kernel), g_in2, tyX2_ok, nmX2, rfl, by decide +kernel, fun h => by cases h⟩
theorem flX5_110 : g_FL RX5 110 2 5 := ⟨RX2, TX2, 7, rfl, by decide, g_tb 231 (by decide +kernel) (by decide +kernel), g_in2⟩
theorem fpX5_110 : g_FP RX5 110 2 5 .int false := ⟨RX2, TX2, 7, tyX2, rfl, by decide, g_tb 231 (by decide +kernel) (by decide +kernel), g_in2, tyX2_ok, nmX2, rfl, by decide +kernel, fun h => by cases h⟩
theorem flX8_256 : g_FL RX8 256 2 5 := ⟨RX2, TX2, 7, rfl, by decide, g_tb 232 (by decide +kernel) (by decide +kernel), g_in2⟩
theorem fpX8_256 : g_FP RX8 256 2 5 .int false := ⟨RX2, TX2, 7, tyX2, rfl, by decide, g_tb 232 (by decide +kernel) (by decide +kernel), g_in2, tyX2_ok, nmX2, rfl, by decide +kernel, fun h => by cases h⟩
theorem flX2_44 : g_FL RX2 44 2 6 := ⟨RX2, TX2, 7, rfl, by decide, g_tb 233 (by decide +kernel) (by decide +kernel), g_in2⟩
theorem fpX2_44 : g_FP RX2 44 2 6 .int false := ⟨RX2, TX2, 7, tyX2, rfl, by decide, g_tb 233 (by decide +kernel) (by decide +kernel), g_in2, tyX2_ok, nmX2, rfl, by decide +kernel, fun h => by cases h⟩
theorem flX5_117 : g_FL RX5 117 2 6 := ⟨RX2, TX2, 7, rfl, by decide, g_tb 234 (by decide +kernel) (by decide +kernel), g_in2⟩
theorem fpX5_117 : g_FP RX5 117 2 6 .int false := ⟨RX2, TX2, 7, tyX2, rfl, by decide, g_tb 234 (by decide +kernel) (by decide +kernel), g_in2, tyX2_ok, nmX2, rfl, by decide +kernel, fun h => by cases h⟩
theorem flX8_259 : g_FL RX8 259 2 6 := ⟨RX2, TX2, 7, rfl, by decide, g_tb 235 (by decide +kernel) (by decide +kernel), g_in2⟩
theorem fpX8_259 : g_FP RX8 259 2 6 .int false := ⟨RX2, TX2, 7, tyX2, rfl, by decide, g_tb 235 (by decide +kernel) (by decide +kernel), g_in2, tyX2_ok, nmX2, rfl, by decide +kernel, fun h => by cases h⟩
theorem flX8_10 : g_FL RX8 10 8 0 := ⟨RX8, TX8, 9, rfl, by decide, g_tb 408 (by decide +kernel) (by decide +kernel), g_in8⟩
theorem fpX8_10 : g_FP RX8 10 8 0 (.object "TurretPunch$Text") true := ⟨RX8, TX8, 9, tyX8, rfl, by decide, g_tb 408 (by decide +kernel) (by decide +kernel), g_in8, tyX8_ok, nmX8, rfl, by decide +kernel, fun _ => rfl⟩
theorem flX8_19 : g_FL RX8 19 8 1 := ⟨RX8, TX8, 9, rfl, by decide, g_tb 409 (by decide +kernel) (by decide +kernel), g_in8⟩
theorem fpX8_19 : g_FP RX8 19 8 1 (.object "TurretPunch$Reader") true := ⟨RX8, TX8, 9, tyX8, rfl, by decide, g_tb 409 (by decide +kernel) (by decide +kernel), g_in8, tyX8_ok, nmX8, rfl, by decide +kernel, fun _ => rfl⟩
theorem flX8_26 : g_FL RX8 26 8 2 := ⟨RX8, TX8, 9, rfl, by decide, g_tb 410 (by decide +kernel) (by decide +kernel), g_in8⟩
theorem fpX8_26 : g_FP RX8 26 8 2 (.object "TurretPunch$State") true := ⟨RX8, TX8, 9, tyX8, rfl, by decide, g_tb 410 (by decide +kernel) (by decide +kernel), g_in8, tyX8_ok, nmX8, rfl, by decide +kernel, fun _ => rfl⟩
theorem flX8_30 : g_FL RX8 30 8 3 := ⟨RX8, TX8, 9, rfl, by decide, g_tb 411 (by decide +kernel) (by decide +kernel), g_in8⟩
theorem fpX8_30 : g_FP RX8 30 8 3 (.object "TurretPunch$State") true := ⟨RX8, TX8, 9, tyX8, rfl, by decide, g_tb 411 (by decide +kernel) (by decide +kernel), g_in8, tyX8_ok, nmX8, rfl, by decide +kernel, fun _ => rfl⟩
theorem flX8_36 : g_FL RX8 36 8 4 := ⟨RX8, TX8, 9, rfl, by decide, g_tb 412 (by decide +kernel) (by decide +kernel), g_in8⟩
theorem fpX8_36 : g_FP RX8 36 8 4 (.object "TurretPunch$History") true := ⟨RX8, TX8, 9, tyX8, rfl, by decide, g_tb 412 (by decide +kernel) (by decide +kernel), g_in8, tyX8_ok, nmX8, rfl, by decide +kernel, fun _ => rfl⟩
theorem flX8_43 : g_FL RX8 43 8 5 := ⟨RX8, TX8, 9, rfl, by decide, g_tb 413 (by decide +kernel) (by decide +kernel), g_in8⟩
theorem fpX8_43 : g_FP RX8 43 8 5 (.object "TurretPunch$Planner") true := ⟨RX8, TX8, 9, tyX8, rfl, by decide, g_tb 413 (by decide +kernel) (by decide +kernel), g_in8, tyX8_ok, nmX8, rfl, by decide +kernel, fun _ => rfl⟩
theorem flX8_50 : g_FL RX8 50 8 6 := ⟨RX8, TX8, 9, rfl, by decide, g_tb 414 (by decide +kernel) (by decide +kernel), g_in8⟩
theorem fpX8_50 : g_FP RX8 50 8 6 (.object "TurretPunch$Area") true := ⟨RX8, TX8, 9, tyX8, rfl, by decide, g_tb 414 (by decide +kernel) (by decide +kernel), g_in8, tyX8_ok, nmX8, rfl, by decide +kernel, fun _ => rfl⟩
theorem flX8_57 : g_FL RX8 57 8 7 := ⟨RX8, TX8, 9, rfl, by decide, g_tb 415 (by decide +kernel) (by decide +kernel), g_in8⟩
theorem fpX8_57 : g_FP RX8 57 8 7 (.object "TurretPunch$Job") false := ⟨RX8, TX8, 9, tyX8, rfl, by decide, g_tb 415 (by decide +kernel) (by decide +kernel), g_in8, tyX8_ok, nmX8, rfl, by decide +kernel, fun h => by cases h⟩
theorem flX8_61 : g_FL RX8 61 8 8 := ⟨RX8, TX8, 9, rfl, by decide, g_tb 416 (by decide +kernel) (by decide +kernel), g_in8⟩
theorem fpX8_61 : g_FP RX8 61 8 8 (.object "TurretPunch$Job") false := ⟨RX8, TX8, 9, tyX8, rfl, by decide, g_tb 416 (by decide +kernel) (by decide +kernel), g_in8, tyX8_ok, nmX8, rfl, by decide +kernel, fun h => by cases h⟩
theorem flX9_62 : g_FL RX9 62 9 0 := ⟨RX9, TX9, 16, rfl, by decide, g_tb 712 (by decide +kernel) (by decide +kernel), g_in9⟩
theorem fpX9_62 : g_FP RX9 62 9 0 .int false := ⟨RX9, TX9, 16, tyX9, rfl, by decide, g_tb 712 (by decide +kernel) (by decide +kernel), g_in9, tyX9_ok, nmX9, rfl, by decide +kernel, fun h => by cases h⟩
theorem flX9_7 : g_FL RX9 7 9 1 := ⟨RX9, TX9, 16, rfl, by decide, g_tb 713 (by decide +kernel) (by decide +kernel), g_in9⟩
theorem fpX9_7 : g_FP RX9 7 9 1 (.array .int) true := ⟨RX9, TX9, 16, tyX9, rfl, by decide, g_tb 713 (by decide +kernel) (by decide +kernel), g_in9, tyX9_ok, nmX9, rfl, by decide +kernel, fun _ => rfl⟩
theorem flX9_65 : g_FL RX9 65 9 2 := ⟨RX9, TX9, 16, rfl, by decide, g_tb 714 (by decide +kernel) (by decide +kernel), g_in9⟩
theorem fpX9_65 : g_FP RX9 65 9 2 .int false := ⟨RX9, TX9, 16, tyX9, rfl, by decide, g_tb 714 (by decide +kernel) (by decide +kernel), g_in9, tyX9_ok, nmX9, rfl, by decide +kernel, fun h => by cases h⟩
theorem flX9_13 : g_FL RX9 13 9 3 := ⟨RX9, TX9, 16, rfl, by decide, g_tb 715 (by decide +kernel) (by decide +kernel), g_in9⟩
theorem fpX9_13 : g_FP RX9 13 9 3 (.array .int) true := ⟨RX9, TX9, 16, tyX9, rfl, by decide, g_tb 715 (by decide +kernel) (by decide +kernel), g_in9, tyX9_ok, nmX9, rfl, by decide +kernel, fun _ => rfl⟩
theorem flX9_16 : g_FL RX9 16 9 4 := ⟨RX9, TX9, 16, rfl, by decide, g_tb 716 (by decide +kernel) (by decide +kernel), g_in9⟩
theorem fpX9_16 : g_FP RX9 16 9 4 (.array .int) true := ⟨RX9, TX9, 16, tyX9, rfl, by decide, g_tb 716 (by decide +kernel) (by decide +kernel), g_in9, tyX9_ok, nmX9, rfl, by decide +kernel, fun _ => rfl⟩
theorem flX9_19 : g_FL RX9 19 9 5 := ⟨RX9, TX9, 16, rfl, by decide, g_tb 717 (by decide +kernel) (by decide +kernel), g_in9⟩
theorem fpX9_19 : g_FP RX9 19 9 5 (.array .int) true := ⟨RX9, TX9, 16, tyX9, rfl, by decide, g_tb 717 (by decide +kernel) (by decide +kernel), g_in9, tyX9_ok, nmX9, rfl, by decide +kernel, fun _ => rfl⟩
theorem flX9_22 : g_FL RX9 22 9 6 := ⟨RX9, TX9, 16, rfl, by decide, g_tb 718 (by decide +kernel) (by decide +kernel), g_in9⟩
theorem fpX9_22 : g_FP RX9 22 9 6 (.array .int) true := ⟨RX9, TX9, 16, tyX9, rfl, by decide, g_tb 718 (by decide +kernel) (by decide +kernel), g_in9, tyX9_ok, nmX9, rfl, by decide +kernel, fun _ => rfl⟩
theorem flX9_50 : g_FL RX9 50 9 7 := ⟨RX9, TX9, 16, rfl, by decide, g_tb 719 (by decide +kernel) (by decide +kernel), g_in9⟩
theorem fpX9_50 : g_FP RX9 50 9 7 .int false := ⟨RX9, TX9, 16, tyX9, rfl, by decide, g_tb 719 (by decide +kernel) (by decide +kernel), g_in9, tyX9_ok, nmX9, rfl, by decide +kernel, fun h => by cases h⟩
theorem flX9_25 : g_FL RX9 25 9 8 := ⟨RX9, TX9, 16, rfl, by decide, g_tb 720 (by decide +kernel) (by decide +kernel), g_in9⟩
theorem fpX9_25 : g_FP RX9 25 9 8 (.array .int) true := ⟨RX9, TX9, 16, tyX9, rfl, by decide, g_tb 720 (by decide +kernel) (by decide +kernel), g_in9, tyX9_ok, nmX9, rfl, by decide +kernel, fun _ => rfl⟩
theorem flX9_28 : g_FL RX9 28 9 9 := ⟨RX9, TX9, 16, rfl, by decide, g_tb 721 (by decide +kernel) (by decide +kernel), g_in9⟩
theorem fpX9_28 : g_FP RX9 28 9 9 (.array .int) true := ⟨RX9, TX9, 16, tyX9, rfl, by decide, g_tb 721 (by decide +kernel) (by decide +kernel), g_in9, tyX9_ok, nmX9, rfl, by decide +kernel, fun _ => rfl⟩
theorem flX9_31 : g_FL RX9 31 9 10 := ⟨RX9, TX9, 16, rfl, by decide, g_tb 722 (by decide +kernel) (by decide +kernel), g_in9⟩
theorem fpX9_31 : g_FP RX9 31 9 10 (.array .int) true := ⟨RX9, TX9, 16, tyX9, rfl, by decide, g_tb 722 (by decide +kernel) (by decide +kernel), g_in9, tyX9_ok, nmX9, rfl, by decide +kernel, fun _ => rfl⟩
theorem flX9_185 : g_FL RX9 185 9 11 := ⟨RX9, TX9, 16, rfl, by decide, g_tb 723 (by decide +kernel) (by decide +kernel), g_in9⟩
theorem fpX9_185 : g_FP RX9 185 9 11 .int false := ⟨RX9, TX9, 16, tyX9, rfl, by decide, g_tb 723 (by decide +kernel) (by decide +kernel), g_in9, tyX9_ok, nmX9, rfl, by decide +kernel, fun h => by cases h⟩
theorem flX9_188 : g_FL RX9 188 9 12 := ⟨RX9, TX9, 16, rfl, by decide, g_tb 724 (by decide +kernel) (by decide +kernel), g_in9⟩
theorem fpX9_188 : g_FP RX9 188 9 12 .int false := ⟨RX9, TX9, 16, tyX9, rfl, by decide, g_tb 724 (by decide +kernel) (by decide +kernel), g_in9, tyX9_ok, nmX9, rfl, by decide +kernel, fun h => by cases h⟩
theorem flX9_34 : g_FL RX9 34 9 13 := ⟨RX9, TX9, 16, rfl, by decide, g_tb 725 (by decide +kernel) (by decide +kernel), g_in9⟩
theorem fpX9_34 : g_FP RX9 34 9 13 (.array .int) true := ⟨RX9, TX9, 16, tyX9, rfl, by decide, g_tb 725 (by decide +kernel) (by decide +kernel), g_in9, tyX9_ok, nmX9, rfl, by decide +kernel, fun _ => rfl⟩
theorem flX9_37 : g_FL RX9 37 9 14 := ⟨RX9, TX9, 16, rfl, by decide, g_tb 726 (by decide +kernel) (by decide +kernel), g_in9⟩
theorem fpX9_37 : g_FP RX9 37 9 14 (.array .int) true := ⟨RX9, TX9, 16, tyX9, rfl, by decide, g_tb 726 (by decide +kernel) (by decide +kernel), g_in9, tyX9_ok, nmX9, rfl, by decide +kernel, fun _ => rfl⟩
theorem flX9_40 : g_FL RX9 40 9 15 := ⟨RX9, TX9, 16, rfl, by decide, g_tb 727 (by decide +kernel) (by decide +kernel), g_in9⟩
theorem fpX9_40 : g_FP RX9 40 9 15 (.array .int) true := ⟨RX9, TX9, 16, tyX9, rfl, by decide, g_tb 727 (by decide +kernel) (by decide +kernel), g_in9, tyX9_ok, nmX9, rfl, by decide +kernel, fun _ => rfl⟩
end
section
theorem moX0_init : g_MN mX0_init := ⟨⟨g_tb 151 (by decide +kernel) (by decide +kernel), g_tb 7 (by decide +kernel) (by decide +kernel), by decide +kernel, by decide +kernel, by decide +kernel⟩, g_tb 150 (by decide +kernel) (by decide +kernel), rfl⟩
theorem moX0_put : g_MI mX0_put := ⟨⟨g_tb 319 (by decide +kernel) (by decide +kernel), g_tb 7 (by decide +kernel) (by decide +kernel), by decide +kernel, by decide +kernel, by decide +kernel⟩, g_tb 317 (by decide +kernel) (by decide +kernel), g_tb 318 (by decide +kernel) (by decide +kernel)⟩
theorem moX0_has : g_MI mX0_has := ⟨⟨g_tb 496 (by decide +kernel) (by decide +kernel), g_tb 7 (by decide +kernel) (by decide +kernel), by decide +kernel, by decide +kernel, by decide +kernel⟩, g_tb 494 (by decide +kernel) (by decide +kernel), g_tb 495 (by decide +kernel) (by decide +kernel)⟩
theorem moX0_covers : g_MI mX0_covers := ⟨⟨g_tb 373 (by decide +kernel) (by decide +kernel), g_tb 7 (by decide +kernel) (by decide +kernel), by decide +kernel, by decide +kernel, by decide +kernel⟩, g_tb 371 (by decide +kernel) (by decide +kernel), g_tb 372 (by decide +kernel) (by decide +kernel)⟩
theorem moX0_meets : g_MI mX0_meets := ⟨⟨g_tb 377 (by decide +kernel) (by decide +kernel), g_tb 7 (by decide +kernel) (by decide +kernel), by decide +kernel, by decide +kernel, by decide +kernel⟩, g_tb 375 (by decide +kernel) (by decide +kernel), g_tb 376 (by decide +kernel) (by decide +kernel)⟩
theorem moX0_rowBits : g_MI mX0_rowBits := ⟨⟨g_tb 508 (by decide +kernel) (by decide +kernel), g_tb 7 (by decide +kernel) (by decide +kernel), by decide +kernel, by decide +kernel, by decide +kernel⟩, g_tb 506 (by decide +kernel) (by decide +kernel), g_tb 507 (by decide +kernel) (by decide +kernel)⟩
theorem moX1_init : g_MN mX1_init := ⟨⟨g_tb 96 (by decide +kernel) (by decide +kernel), g_tb 5 (by decide +kernel) (by decide +kernel), by decide +kernel, by decide +kernel, by decide +kernel⟩, g_tb 95 (by decide +kernel) (by decide +kernel), rfl⟩
theorem moX1_forget : g_MI mX1_forget := ⟨⟨g_tb 403 (by decide +kernel) (by decide +kernel), g_tb 5 (by decide +kernel) (by decide +kernel), by decide +kernel, by decide +kernel, by decide +kernel⟩, g_tb 401 (by decide +kernel) (by decide +kernel), g_tb 402 (by decide +kernel) (by decide +kernel)⟩
theorem moX1_keep : g_MI mX1_keep := ⟨⟨g_tb 522 (by decide +kernel) (by decide +kernel), g_tb 5 (by decide +kernel) (by decide +kernel), by decide +kernel, by decide +kernel, by decide +kernel⟩, g_tb 520 (by decide +kernel) (by decide +kernel), g_tb 521 (by decide +kernel) (by decide +kernel)⟩
theorem moX1_giveBack : g_MI mX1_giveBack := ⟨⟨g_tb 596 (by decide +kernel) (by decide +kernel), g_tb 5 (by decide +kernel) (by decide +kernel), by decide +kernel, by decide +kernel, by decide +kernel⟩, g_tb 594 (by decide +kernel) (by decide +kernel), g_tb 595 (by decide +kernel) (by decide +kernel)⟩
theorem moX2_init : g_MN mX2_init := ⟨⟨g_tb 179 (by decide +kernel) (by decide +kernel), g_tb 8 (by decide +kernel) (by decide +kernel), by decide +kernel, by decide +kernel, by decide +kernel⟩, g_tb 178 (by decide +kernel) (by decide +kernel), rfl⟩
theorem moX2_clear : g_MI mX2_clear := ⟨⟨g_tb 315 (by decide +kernel) (by decide +kernel), g_tb 8 (by decide +kernel) (by decide +kernel), by decide +kernel, by decide +kernel, by decide +kernel⟩, g_tb 313 (by decide +kernel) (by decide +kernel), g_tb 314 (by decide +kernel) (by decide +kernel)⟩
theorem moX2_hasSheet : g_MI mX2_hasSheet := ⟨⟨g_tb 353 (by decide +kernel) (by decide +kernel), g_tb 8 (by decide +kernel) (by decide +kernel), by decide +kernel, by decide +kernel, by decide +kernel⟩, g_tb 351 (by decide +kernel) (by decide +kernel), g_tb 352 (by decide +kernel) (by decide +kernel)⟩
theorem moX2_takeSheet : g_MI mX2_takeSheet := ⟨⟨g_tb 349 (by decide +kernel) (by decide +kernel), g_tb 8 (by decide +kernel) (by decide +kernel), by decide +kernel, by decide +kernel, by decide +kernel⟩, g_tb 347 (by decide +kernel) (by decide +kernel), g_tb 348 (by decide +kernel) (by decide +kernel)⟩
theorem moX2_takeTool : g_MI mX2_takeTool := ⟨⟨g_tb 361 (by decide +kernel) (by decide +kernel), g_tb 8 (by decide +kernel) (by decide +kernel), by decide +kernel, by decide +kernel, by decide +kernel⟩, g_tb 359 (by decide +kernel) (by decide +kernel), g_tb 360 (by decide +kernel) (by decide +kernel)⟩
theorem moX2_takeHole : g_MI mX2_takeHole := ⟨⟨g_tb 369 (by decide +kernel) (by decide +kernel), g_tb 8 (by decide +kernel) (by decide +kernel), by decide +kernel, by decide +kernel, by decide +kernel⟩, g_tb 367 (by decide +kernel) (by decide +kernel), g_tb 368 (by decide +kernel) (by decide +kernel)⟩
theorem moX2_takeClamp : g_MI mX2_takeClamp := ⟨⟨g_tb 382 (by decide +kernel) (by decide +kernel), g_tb 8 (by decide +kernel) (by decide +kernel), by decide +kernel, by decide +kernel, by decide +kernel⟩, g_tb 380 (by decide +kernel) (by decide +kernel), g_tb 381 (by decide +kernel) (by decide +kernel)⟩
theorem moX2_isColumn : g_MI mX2_isColumn := ⟨⟨g_tb 386 (by decide +kernel) (by decide +kernel), g_tb 8 (by decide +kernel) (by decide +kernel), by decide +kernel, by decide +kernel, by decide +kernel⟩, g_tb 384 (by decide +kernel) (by decide +kernel), g_tb 385 (by decide +kernel) (by decide +kernel)⟩
theorem moX2_areTooNear : g_MS mX2_areTooNear := ⟨⟨g_tb 389 (by decide +kernel) (by decide +kernel), g_tb 8 (by decide +kernel) (by decide +kernel), by decide +kernel, by decide +kernel, by decide +kernel⟩, g_tb 388 (by decide +kernel) (by decide +kernel)⟩
theorem moX2_holeAt : g_MI mX2_holeAt := ⟨⟨g_tb 627 (by decide +kernel) (by decide +kernel), g_tb 8 (by decide +kernel) (by decide +kernel), by decide +kernel, by decide +kernel, by decide +kernel⟩, g_tb 625 (by decide +kernel) (by decide +kernel), g_tb 626 (by decide +kernel) (by decide +kernel)⟩
theorem moX2_isOfOneHole : g_MI mX2_isOfOneHole := ⟨⟨g_tb 488 (by decide +kernel) (by decide +kernel), g_tb 8 (by decide +kernel) (by decide +kernel), by decide +kernel, by decide +kernel, by decide +kernel⟩, g_tb 486 (by decide +kernel) (by decide +kernel), g_tb 487 (by decide +kernel) (by decide +kernel)⟩
theorem moX2_turnsBetween : g_MI mX2_turnsBetween := ⟨⟨g_tb 537 (by decide +kernel) (by decide +kernel), g_tb 8 (by decide +kernel) (by decide +kernel), by decide +kernel, by decide +kernel, by decide +kernel⟩, g_tb 535 (by decide +kernel) (by decide +kernel), g_tb 536 (by decide +kernel) (by decide +kernel)⟩
theorem moX2_turnsThrough : g_MI mX2_turnsThrough := ⟨⟨g_tb 664 (by decide +kernel) (by decide +kernel), g_tb 8 (by decide +kernel) (by decide +kernel), by decide +kernel, by decide +kernel, by decide +kernel⟩, g_tb 662 (by decide +kernel) (by decide +kernel), g_tb 663 (by decide +kernel) (by decide +kernel)⟩
theorem moX2_downBeyond : g_MI mX2_downBeyond := ⟨⟨g_tb 668 (by decide +kernel) (by decide +kernel), g_tb 8 (by decide +kernel) (by decide +kernel), by decide +kernel, by decide +kernel, by decide +kernel⟩, g_tb 667 (by decide +kernel) (by decide +kernel), g_tp 14 (by decide +kernel) (by decide +kernel)⟩
theorem moX3_init : g_MN mX3_init := ⟨⟨g_tb 116 (by decide +kernel) (by decide +kernel), g_tb 6 (by decide +kernel) (by decide +kernel), by decide +kernel, by decide +kernel, by decide +kernel⟩, g_tb 115 (by decide +kernel) (by decide +kernel), rfl⟩
theorem moX3_work : g_MI mX3_work := ⟨⟨g_tb 645 (by decide +kernel) (by decide +kernel), g_tb 6 (by decide +kernel) (by decide +kernel), by decide +kernel, by decide +kernel, by decide +kernel⟩, g_tb 643 (by decide +kernel) (by decide +kernel), g_tb 644 (by decide +kernel) (by decide +kernel)⟩
theorem moX3_weighWays : g_MI mX3_weighWays := ⟨⟨g_tb 649 (by decide +kernel) (by decide +kernel), g_tb 6 (by decide +kernel) (by decide +kernel), by decide +kernel, by decide +kernel, by decide +kernel⟩, g_tb 648 (by decide +kernel) (by decide +kernel), g_tp 11 (by decide +kernel) (by decide +kernel)⟩
theorem moX3_triesSet : g_MI mX3_triesSet := ⟨⟨g_tb 655 (by decide +kernel) (by decide +kernel), g_tb 6 (by decide +kernel) (by decide +kernel), by decide +kernel, by decide +kernel, by decide +kernel⟩, g_tb 654 (by decide +kernel) (by decide +kernel), g_tp 12 (by decide +kernel) (by decide +kernel)⟩
theorem moX3_takeFirstFewest : g_MI mX3_takeFirstFewest := ⟨⟨g_tb 660 (by decide +kernel) (by decide +kernel), g_tb 6 (by decide +kernel) (by decide +kernel), by decide +kernel, by decide +kernel, by decide +kernel⟩, g_tb 659 (by decide +kernel) (by decide +kernel), g_tp 13 (by decide +kernel) (by decide +kernel)⟩
theorem moX3_isBetter : g_MI mX3_isBetter := ⟨⟨g_tb 672 (by decide +kernel) (by decide +kernel), g_tb 6 (by decide +kernel) (by decide +kernel), by decide +kernel, by decide +kernel, by decide +kernel⟩, g_tb 671 (by decide +kernel) (by decide +kernel), g_tp 15 (by decide +kernel) (by decide +kernel)⟩
theorem moX3_keepTried : g_MI mX3_keepTried := ⟨⟨g_tb 676 (by decide +kernel) (by decide +kernel), g_tb 6 (by decide +kernel) (by decide +kernel), by decide +kernel, by decide +kernel, by decide +kernel⟩, g_tb 675 (by decide +kernel) (by decide +kernel), g_tp 16 (by decide +kernel) (by decide +kernel)⟩
theorem moX4_init : g_MN mX4_init := ⟨⟨g_tb 47 (by decide +kernel) (by decide +kernel), g_tb 3 (by decide +kernel) (by decide +kernel), by decide +kernel, by decide +kernel, by decide +kernel⟩, g_tb 46 (by decide +kernel) (by decide +kernel), rfl⟩
theorem moX4_firstFault : g_MI mX4_firstFault := ⟨⟨g_tb 311 (by decide +kernel) (by decide +kernel), g_tb 3 (by decide +kernel) (by decide +kernel), by decide +kernel, by decide +kernel, by decide +kernel⟩, g_tb 309 (by decide +kernel) (by decide +kernel), g_tb 310 (by decide +kernel) (by decide +kernel)⟩
theorem moX4_takesItem : g_MI mX4_takesItem := ⟨⟨g_tb 323 (by decide +kernel) (by decide +kernel), g_tb 3 (by decide +kernel) (by decide +kernel), by decide +kernel, by decide +kernel, by decide +kernel⟩, g_tb 322 (by decide +kernel) (by decide +kernel), g_tp 1 (by decide +kernel) (by decide +kernel)⟩
theorem moX4_takesWord : g_MI mX4_takesWord := ⟨⟨g_tb 328 (by decide +kernel) (by decide +kernel), g_tb 3 (by decide +kernel) (by decide +kernel), by decide +kernel, by decide +kernel, by decide +kernel⟩, g_tb 327 (by decide +kernel) (by decide +kernel), g_tp 2 (by decide +kernel) (by decide +kernel)⟩
theorem moX4_takesNumbers : g_MI mX4_takesNumbers := ⟨⟨g_tb 338 (by decide +kernel) (by decide +kernel), g_tb 3 (by decide +kernel) (by decide +kernel), by decide +kernel, by decide +kernel, by decide +kernel⟩, g_tb 337 (by decide +kernel) (by decide +kernel), g_tp 3 (by decide +kernel) (by decide +kernel)⟩
theorem moX4_takeNumber : g_MI mX4_takeNumber := ⟨⟨g_tb 345 (by decide +kernel) (by decide +kernel), g_tb 3 (by decide +kernel) (by decide +kernel), by decide +kernel, by decide +kernel, by decide +kernel⟩, g_tb 344 (by decide +kernel) (by decide +kernel), g_tp 4 (by decide +kernel) (by decide +kernel)⟩
theorem moX4_isFigure : g_MS mX4_isFigure := ⟨⟨g_tb 341 (by decide +kernel) (by decide +kernel), g_tb 3 (by decide +kernel) (by decide +kernel), by decide +kernel, by decide +kernel, by decide +kernel⟩, g_tb 340 (by decide +kernel) (by decide +kernel)⟩
theorem moX5_init : g_MN mX5_init := ⟨⟨g_tb 61 (by decide +kernel) (by decide +kernel), g_tb 4 (by decide +kernel) (by decide +kernel), by decide +kernel, by decide +kernel, by decide +kernel⟩, g_tb 60 (by decide +kernel) (by decide +kernel), rfl⟩
theorem moX5_begin : g_MI mX5_begin := ⟨⟨g_tb 393 (by decide +kernel) (by decide +kernel), g_tb 4 (by decide +kernel) (by decide +kernel), by decide +kernel, by decide +kernel, by decide +kernel⟩, g_tb 391 (by decide +kernel) (by decide +kernel), g_tb 392 (by decide +kernel) (by decide +kernel)⟩
theorem moX5_copyFrom : g_MI mX5_copyFrom := ⟨⟨g_tb 526 (by decide +kernel) (by decide +kernel), g_tb 4 (by decide +kernel) (by decide +kernel), by decide +kernel, by decide +kernel, by decide +kernel⟩, g_tb 524 (by decide +kernel) (by decide +kernel), g_tb 525 (by decide +kernel) (by decide +kernel)⟩
theorem moX5_refusal : g_MI mX5_refusal := ⟨⟨g_tb 483 (by decide +kernel) (by decide +kernel), g_tb 4 (by decide +kernel) (by decide +kernel), by decide +kernel, by decide +kernel, by decide +kernel⟩, g_tb 481 (by decide +kernel) (by decide +kernel), g_tb 482 (by decide +kernel) (by decide +kernel)⟩
theorem moX5_punch : g_MI mX5_punch := ⟨⟨g_tb 533 (by decide +kernel) (by decide +kernel), g_tb 4 (by decide +kernel) (by decide +kernel), by decide +kernel, by decide +kernel, by decide +kernel⟩, g_tb 531 (by decide +kernel) (by decide +kernel), g_tb 532 (by decide +kernel) (by decide +kernel)⟩
theorem moX5_isDull : g_MI mX5_isDull := ⟨⟨g_tb 518 (by decide +kernel) (by decide +kernel), g_tb 4 (by decide +kernel) (by decide +kernel), by decide +kernel, by decide +kernel, by decide +kernel⟩, g_tb 516 (by decide +kernel) (by decide +kernel), g_tb 517 (by decide +kernel) (by decide +kernel)⟩
theorem moX5_uncutIn : g_MI mX5_uncutIn := ⟨⟨g_tb 504 (by decide +kernel) (by decide +kernel), g_tb 4 (by decide +kernel) (by decide +kernel), by decide +kernel, by decide +kernel, by decide +kernel⟩, g_tb 502 (by decide +kernel) (by decide +kernel), g_tb 503 (by decide +kernel) (by decide +kernel)⟩
theorem moX5_isCut : g_MI mX5_isCut := ⟨⟨g_tb 500 (by decide +kernel) (by decide +kernel), g_tb 4 (by decide +kernel) (by decide +kernel), by decide +kernel, by decide +kernel, by decide +kernel⟩, g_tb 498 (by decide +kernel) (by decide +kernel), g_tb 499 (by decide +kernel) (by decide +kernel)⟩
theorem moX5_isCellCut : g_MI mX5_isCellCut := ⟨⟨g_tb 623 (by decide +kernel) (by decide +kernel), g_tb 4 (by decide +kernel) (by decide +kernel), by decide +kernel, by decide +kernel, by decide +kernel⟩, g_tb 621 (by decide +kernel) (by decide +kernel), g_tb 622 (by decide +kernel) (by decide +kernel)⟩
theorem moX5_cutCells : g_MI mX5_cutCells := ⟨⟨g_tb 693 (by decide +kernel) (by decide +kernel), g_tb 4 (by decide +kernel) (by decide +kernel), by decide +kernel, by decide +kernel, by decide +kernel⟩, g_tb 691 (by decide +kernel) (by decide +kernel), g_tb 692 (by decide +kernel) (by decide +kernel)⟩
theorem moX5_holesDone : g_MI mX5_holesDone := ⟨⟨g_tb 697 (by decide +kernel) (by decide +kernel), g_tb 4 (by decide +kernel) (by decide +kernel), by decide +kernel, by decide +kernel, by decide +kernel⟩, g_tb 695 (by decide +kernel) (by decide +kernel), g_tb 696 (by decide +kernel) (by decide +kernel)⟩
theorem moX5_clampAt : g_MI mX5_clampAt := ⟨⟨g_tb 632 (by decide +kernel) (by decide +kernel), g_tb 4 (by decide +kernel) (by decide +kernel), by decide +kernel, by decide +kernel, by decide +kernel⟩, g_tb 630 (by decide +kernel) (by decide +kernel), g_tb 631 (by decide +kernel) (by decide +kernel)⟩
theorem moX5_isTakenByOther : g_MI mX5_isTakenByOther := ⟨⟨g_tb 583 (by decide +kernel) (by decide +kernel), g_tb 4 (by decide +kernel) (by decide +kernel), by decide +kernel, by decide +kernel, by decide +kernel⟩, g_tb 581 (by decide +kernel) (by decide +kernel), g_tb 582 (by decide +kernel) (by decide +kernel)⟩
theorem moX5_isClamped : g_MI mX5_isClamped := ⟨⟨g_tb 492 (by decide +kernel) (by decide +kernel), g_tb 4 (by decide +kernel) (by decide +kernel), by decide +kernel, by decide +kernel, by decide +kernel⟩, g_tb 491 (by decide +kernel) (by decide +kernel), g_tp 7 (by decide +kernel) (by decide +kernel)⟩
theorem moX6_init : g_MN mX6_init := ⟨⟨g_tb 31 (by decide +kernel) (by decide +kernel), g_tb 2 (by decide +kernel) (by decide +kernel), by decide +kernel, by decide +kernel, by decide +kernel⟩, g_tb 30 (by decide +kernel) (by decide +kernel), rfl⟩
theorem moX6_append : g_MI mX6_append := ⟨⟨g_tb 303 (by decide +kernel) (by decide +kernel), g_tb 2 (by decide +kernel) (by decide +kernel), by decide +kernel, by decide +kernel, by decide +kernel⟩, g_tb 301 (by decide +kernel) (by decide +kernel), g_tb 302 (by decide +kernel) (by decide +kernel)⟩
theorem moX6_clear : g_MI mX6_clear := ⟨⟨g_tb 407 (by decide +kernel) (by decide +kernel), g_tb 2 (by decide +kernel) (by decide +kernel), by decide +kernel, by decide +kernel, by decide +kernel⟩, g_tb 405 (by decide +kernel) (by decide +kernel), g_tb 406 (by decide +kernel) (by decide +kernel)⟩
theorem moX6_letterAt : g_MI mX6_letterAt := ⟨⟨g_tb 333 (by decide +kernel) (by decide +kernel), g_tb 2 (by decide +kernel) (by decide +kernel), by decide +kernel, by decide +kernel, by decide +kernel⟩, g_tb 331 (by decide +kernel) (by decide +kernel), g_tb 332 (by decide +kernel) (by decide +kernel)⟩
theorem moX7_init : g_MN mX7_init := ⟨⟨g_tb 189 (by decide +kernel) (by decide +kernel), g_tb 9 (by decide +kernel) (by decide +kernel), by decide +kernel, by decide +kernel, by decide +kernel⟩, g_tb 188 (by decide +kernel) (by decide +kernel), rfl⟩
theorem moX7_wideWhen : g_MI mX7_wideWhen := ⟨⟨g_tb 474 (by decide +kernel) (by decide +kernel), g_tb 9 (by decide +kernel) (by decide +kernel), by decide +kernel, by decide +kernel, by decide +kernel⟩, g_tb 472 (by decide +kernel) (by decide +kernel), g_tb 473 (by decide +kernel) (by decide +kernel)⟩
theorem moX7_highWhen : g_MI mX7_highWhen := ⟨⟨g_tb 478 (by decide +kernel) (by decide +kernel), g_tb 9 (by decide +kernel) (by decide +kernel), by decide +kernel, by decide +kernel, by decide +kernel⟩, g_tb 476 (by decide +kernel) (by decide +kernel), g_tb 477 (by decide +kernel) (by decide +kernel)⟩
theorem moX7_stampAt : g_MI mX7_stampAt := ⟨⟨g_tb 470 (by decide +kernel) (by decide +kernel), g_tb 9 (by decide +kernel) (by decide +kernel), by decide +kernel, by decide +kernel, by decide +kernel⟩, g_tb 468 (by decide +kernel) (by decide +kernel), g_tb 469 (by decide +kernel) (by decide +kernel)⟩
theorem moX7_hitsFor : g_MI mX7_hitsFor := ⟨⟨g_tb 563 (by decide +kernel) (by decide +kernel), g_tb 9 (by decide +kernel) (by decide +kernel), by decide +kernel, by decide +kernel, by decide +kernel⟩, g_tb 561 (by decide +kernel) (by decide +kernel), g_tb 562 (by decide +kernel) (by decide +kernel)⟩
theorem moX8_init : g_MN mX8_init := ⟨⟨g_tb 23 (by decide +kernel) (by decide +kernel), g_tb 1 (by decide +kernel) (by decide +kernel), by decide +kernel, by decide +kernel, by decide +kernel⟩, g_tb 22 (by decide +kernel) (by decide +kernel), rfl⟩
theorem moX8_write : g_MI mX8_write := ⟨⟨g_tb 440 (by decide +kernel) (by decide +kernel), g_tb 1 (by decide +kernel) (by decide +kernel), by decide +kernel, by decide +kernel, by decide +kernel⟩, g_tb 438 (by decide +kernel) (by decide +kernel), g_tb 439 (by decide +kernel) (by decide +kernel)⟩
theorem moX8_wipe : g_MI mX8_wipe := ⟨⟨g_tb 444 (by decide +kernel) (by decide +kernel), g_tb 1 (by decide +kernel) (by decide +kernel), by decide +kernel, by decide +kernel, by decide +kernel⟩, g_tb 442 (by decide +kernel) (by decide +kernel), g_tb 443 (by decide +kernel) (by decide +kernel)⟩
theorem moX8_fault : g_MI mX8_fault := ⟨⟨g_tb 448 (by decide +kernel) (by decide +kernel), g_tb 1 (by decide +kernel) (by decide +kernel), by decide +kernel, by decide +kernel, by decide +kernel⟩, g_tb 446 (by decide +kernel) (by decide +kernel), g_tb 447 (by decide +kernel) (by decide +kernel)⟩
theorem moX8_lay : g_MI mX8_lay := ⟨⟨g_tb 452 (by decide +kernel) (by decide +kernel), g_tb 1 (by decide +kernel) (by decide +kernel), by decide +kernel, by decide +kernel, by decide +kernel⟩, g_tb 450 (by decide +kernel) (by decide +kernel), g_tb 451 (by decide +kernel) (by decide +kernel)⟩
theorem moX8_hit : g_MI mX8_hit := ⟨⟨g_tb 456 (by decide +kernel) (by decide +kernel), g_tb 1 (by decide +kernel) (by decide +kernel), by decide +kernel, by decide +kernel, by decide +kernel⟩, g_tb 454 (by decide +kernel) (by decide +kernel), g_tb 455 (by decide +kernel) (by decide +kernel)⟩
theorem moX8_why : g_MI mX8_why := ⟨⟨g_tb 545 (by decide +kernel) (by decide +kernel), g_tb 1 (by decide +kernel) (by decide +kernel), by decide +kernel, by decide +kernel, by decide +kernel⟩, g_tb 543 (by decide +kernel) (by decide +kernel), g_tb 544 (by decide +kernel) (by decide +kernel)⟩
theorem moX8_nibble : g_MI mX8_nibble := ⟨⟨g_tb 549 (by decide +kernel) (by decide +kernel), g_tb 1 (by decide +kernel) (by decide +kernel), by decide +kernel, by decide +kernel, by decide +kernel⟩, g_tb 547 (by decide +kernel) (by decide +kernel), g_tb 548 (by decide +kernel) (by decide +kernel)⟩
theorem moX8_clamp : g_MI mX8_clamp := ⟨⟨g_tb 574 (by decide +kernel) (by decide +kernel), g_tb 1 (by decide +kernel) (by decide +kernel), by decide +kernel, by decide +kernel, by decide +kernel⟩, g_tb 572 (by decide +kernel) (by decide +kernel), g_tb 573 (by decide +kernel) (by decide +kernel)⟩
theorem moX8_sharpen : g_MI mX8_sharpen := ⟨⟨g_tb 588 (by decide +kernel) (by decide +kernel), g_tb 1 (by decide +kernel) (by decide +kernel), by decide +kernel, by decide +kernel, by decide +kernel⟩, g_tb 586 (by decide +kernel) (by decide +kernel), g_tb 587 (by decide +kernel) (by decide +kernel)⟩
theorem moX8_undo : g_MI mX8_undo := ⟨⟨g_tb 592 (by decide +kernel) (by decide +kernel), g_tb 1 (by decide +kernel) (by decide +kernel), by decide +kernel, by decide +kernel, by decide +kernel⟩, g_tb 590 (by decide +kernel) (by decide +kernel), g_tb 591 (by decide +kernel) (by decide +kernel)⟩
theorem moX8_station : g_MI mX8_station := ⟨⟨g_tb 600 (by decide +kernel) (by decide +kernel), g_tb 1 (by decide +kernel) (by decide +kernel), by decide +kernel, by decide +kernel, by decide +kernel⟩, g_tb 598 (by decide +kernel) (by decide +kernel), g_tb 599 (by decide +kernel) (by decide +kernel)⟩
theorem moX8_hole : g_MI mX8_hole := ⟨⟨g_tb 609 (by decide +kernel) (by decide +kernel), g_tb 1 (by decide +kernel) (by decide +kernel), by decide +kernel, by decide +kernel, by decide +kernel⟩, g_tb 607 (by decide +kernel) (by decide +kernel), g_tb 608 (by decide +kernel) (by decide +kernel)⟩
theorem moX8_hits : g_MI mX8_hits := ⟨⟨g_tb 614 (by decide +kernel) (by decide +kernel), g_tb 1 (by decide +kernel) (by decide +kernel), by decide +kernel, by decide +kernel, by decide +kernel⟩, g_tb 612 (by decide +kernel) (by decide +kernel), g_tb 613 (by decide +kernel) (by decide +kernel)⟩
theorem moX8_cell : g_MI mX8_cell := ⟨⟨g_tb 618 (by decide +kernel) (by decide +kernel), g_tb 1 (by decide +kernel) (by decide +kernel), by decide +kernel, by decide +kernel, by decide +kernel⟩, g_tb 616 (by decide +kernel) (by decide +kernel), g_tb 617 (by decide +kernel) (by decide +kernel)⟩
theorem moX8_column : g_MI mX8_column := ⟨⟨g_tb 637 (by decide +kernel) (by decide +kernel), g_tb 1 (by decide +kernel) (by decide +kernel), by decide +kernel, by decide +kernel, by decide +kernel⟩, g_tb 635 (by decide +kernel) (by decide +kernel), g_tb 636 (by decide +kernel) (by decide +kernel)⟩
theorem moX8_plan : g_MI mX8_plan := ⟨⟨g_tb 641 (by decide +kernel) (by decide +kernel), g_tb 1 (by decide +kernel) (by decide +kernel), by decide +kernel, by decide +kernel, by decide +kernel⟩, g_tb 639 (by decide +kernel) (by decide +kernel), g_tb 640 (by decide +kernel) (by decide +kernel)⟩
theorem moX8_drawn : g_MI mX8_drawn := ⟨⟨g_tb 681 (by decide +kernel) (by decide +kernel), g_tb 1 (by decide +kernel) (by decide +kernel), by decide +kernel, by decide +kernel, by decide +kernel⟩, g_tb 679 (by decide +kernel) (by decide +kernel), g_tb 680 (by decide +kernel) (by decide +kernel)⟩
theorem moX8_count : g_MI mX8_count := ⟨⟨g_tb 689 (by decide +kernel) (by decide +kernel), g_tb 1 (by decide +kernel) (by decide +kernel), by decide +kernel, by decide +kernel, by decide +kernel⟩, g_tb 687 (by decide +kernel) (by decide +kernel), g_tb 688 (by decide +kernel) (by decide +kernel)⟩
theorem moX8_layDraft : g_MI mX8_layDraft := ⟨⟨g_tb 307 (by decide +kernel) (by decide +kernel), g_tb 1 (by decide +kernel) (by decide +kernel), by decide +kernel, by decide +kernel, by decide +kernel⟩, g_tb 306 (by decide +kernel) (by decide +kernel), g_tp 0 (by decide +kernel) (by decide +kernel)⟩
theorem moX8_punchAll : g_MI mX8_punchAll := ⟨⟨g_tb 559 (by decide +kernel) (by decide +kernel), g_tb 1 (by decide +kernel) (by decide +kernel), by decide +kernel, by decide +kernel, by decide +kernel⟩, g_tb 558 (by decide +kernel) (by decide +kernel), g_tp 9 (by decide +kernel) (by decide +kernel)⟩
theorem moX8_signAt : g_MI mX8_signAt := ⟨⟨g_tb 685 (by decide +kernel) (by decide +kernel), g_tb 1 (by decide +kernel) (by decide +kernel), by decide +kernel, by decide +kernel, by decide +kernel⟩, g_tb 684 (by decide +kernel) (by decide +kernel), g_tp 17 (by decide +kernel) (by decide +kernel)⟩
theorem moX8_isHitTold : g_MI mX8_isHitTold := ⟨⟨g_tb 460 (by decide +kernel) (by decide +kernel), g_tb 1 (by decide +kernel) (by decide +kernel), by decide +kernel, by decide +kernel, by decide +kernel⟩, g_tb 459 (by decide +kernel) (by decide +kernel), g_tp 5 (by decide +kernel) (by decide +kernel)⟩
theorem moX8_isStation : g_MI mX8_isStation := ⟨⟨g_tb 464 (by decide +kernel) (by decide +kernel), g_tb 1 (by decide +kernel) (by decide +kernel), by decide +kernel, by decide +kernel, by decide +kernel⟩, g_tb 463 (by decide +kernel) (by decide +kernel), g_tp 6 (by decide +kernel) (by decide +kernel)⟩
theorem moX8_isHole : g_MI mX8_isHole := ⟨⟨g_tb 553 (by decide +kernel) (by decide +kernel), g_tb 1 (by decide +kernel) (by decide +kernel), by decide +kernel, by decide +kernel, by decide +kernel⟩, g_tb 552 (by decide +kernel) (by decide +kernel), g_tp 8 (by decide +kernel) (by decide +kernel)⟩
theorem moX8_isClamp : g_MI mX8_isClamp := ⟨⟨g_tb 578 (by decide +kernel) (by decide +kernel), g_tb 1 (by decide +kernel) (by decide +kernel), by decide +kernel, by decide +kernel, by decide +kernel⟩, g_tb 577 (by decide +kernel) (by decide +kernel), g_tp 10 (by decide +kernel) (by decide +kernel)⟩
theorem moX8_isFlag : g_MS mX8_isFlag := ⟨⟨g_tb 364 (by decide +kernel) (by decide +kernel), g_tb 1 (by decide +kernel) (by decide +kernel), by decide +kernel, by decide +kernel, by decide +kernel⟩, g_tb 363 (by decide +kernel) (by decide +kernel)⟩
theorem moX8_asFlag : g_MS mX8_asFlag := ⟨⟨g_tb 603 (by decide +kernel) (by decide +kernel), g_tb 1 (by decide +kernel) (by decide +kernel), by decide +kernel, by decide +kernel, by decide +kernel⟩, g_tb 602 (by decide +kernel) (by decide +kernel)⟩
theorem moX8_isWithin : g_MS mX8_isWithin := ⟨⟨g_tb 356 (by decide +kernel) (by decide +kernel), g_tb 1 (by decide +kernel) (by decide +kernel), by decide +kernel, by decide +kernel, by decide +kernel⟩, g_tb 355 (by decide +kernel) (by decide +kernel)⟩
theorem moX8_stepsOver : g_MS mX8_stepsOver := ⟨⟨g_tb 566 (by decide +kernel) (by decide +kernel), g_tb 1 (by decide +kernel) (by decide +kernel), by decide +kernel, by decide +kernel, by decide +kernel⟩, g_tb 565 (by decide +kernel) (by decide +kernel)⟩
theorem moX9_init : g_MN mX9_init := ⟨⟨g_tb 702 (by decide +kernel) (by decide +kernel), g_tb 16 (by decide +kernel) (by decide +kernel), by decide +kernel, by decide +kernel, by decide +kernel⟩, g_tb 701 (by decide +kernel) (by decide +kernel), rfl⟩
theorem moX9_adds : g_MI mX9_adds := ⟨⟨g_tb 707 (by decide +kernel) (by decide +kernel), g_tb 16 (by decide +kernel) (by decide +kernel), by decide +kernel, by decide +kernel, by decide +kernel⟩, g_tb 706 (by decide +kernel) (by decide +kernel), g_tp 18 (by decide +kernel) (by decide +kernel)⟩
theorem moX9_anew : g_MI mX9_anew := ⟨⟨g_tb 711 (by decide +kernel) (by decide +kernel), g_tb 16 (by decide +kernel) (by decide +kernel), by decide +kernel, by decide +kernel, by decide +kernel⟩, g_tb 710 (by decide +kernel) (by decide +kernel), g_tp 19 (by decide +kernel) (by decide +kernel)⟩
theorem moX9_in : g_MS mX9_in := ⟨⟨g_tb 769 (by decide +kernel) (by decide +kernel), g_tb 16 (by decide +kernel) (by decide +kernel), by decide +kernel, by decide +kernel, by decide +kernel⟩, g_tb 768 (by decide +kernel) (by decide +kernel)⟩
theorem moX9_write : g_MI mX9_write := ⟨⟨g_tb 764 (by decide +kernel) (by decide +kernel), g_tb 16 (by decide +kernel) (by decide +kernel), by decide +kernel, by decide +kernel, by decide +kernel⟩, g_tb 762 (by decide +kernel) (by decide +kernel), g_tb 763 (by decide +kernel) (by decide +kernel)⟩
theorem moX9_wipe : g_MI mX9_wipe := ⟨⟨g_tb 773 (by decide +kernel) (by decide +kernel), g_tb 16 (by decide +kernel) (by decide +kernel), by decide +kernel, by decide +kernel, by decide +kernel⟩, g_tb 771 (by decide +kernel) (by decide +kernel), g_tb 772 (by decide +kernel) (by decide +kernel)⟩
theorem moX9_byteAt : g_MI mX9_byteAt := ⟨⟨g_tb 793 (by decide +kernel) (by decide +kernel), g_tb 16 (by decide +kernel) (by decide +kernel), by decide +kernel, by decide +kernel, by decide +kernel⟩, g_tb 792 (by decide +kernel) (by decide +kernel), g_tp 22 (by decide +kernel) (by decide +kernel)⟩
theorem moX9_number : g_MI mX9_number := ⟨⟨g_tb 798 (by decide +kernel) (by decide +kernel), g_tb 16 (by decide +kernel) (by decide +kernel), by decide +kernel, by decide +kernel, by decide +kernel⟩, g_tb 797 (by decide +kernel) (by decide +kernel), g_tp 23 (by decide +kernel) (by decide +kernel)⟩
theorem moX9_word : g_MI mX9_word := ⟨⟨g_tb 789 (by decide +kernel) (by decide +kernel), g_tb 16 (by decide +kernel) (by decide +kernel), by decide +kernel, by decide +kernel, by decide +kernel⟩, g_tb 788 (by decide +kernel) (by decide +kernel), g_tp 21 (by decide +kernel) (by decide +kernel)⟩
theorem moX9_word5 : g_MS mX9_word5 := ⟨⟨g_tb 784 (by decide +kernel) (by decide +kernel), g_tb 16 (by decide +kernel) (by decide +kernel), by decide +kernel, by decide +kernel, by decide +kernel⟩, g_tb 783 (by decide +kernel) (by decide +kernel)⟩
theorem moX9_word4 : g_MS mX9_word4 := ⟨⟨g_tb 803 (by decide +kernel) (by decide +kernel), g_tb 16 (by decide +kernel) (by decide +kernel), by decide +kernel, by decide +kernel, by decide +kernel⟩, g_tb 802 (by decide +kernel) (by decide +kernel)⟩
theorem moX9_isApart : g_MI mX9_isApart := ⟨⟨g_tb 811 (by decide +kernel) (by decide +kernel), g_tb 16 (by decide +kernel) (by decide +kernel), by decide +kernel, by decide +kernel, by decide +kernel⟩, g_tb 810 (by decide +kernel) (by decide +kernel), g_tp 25 (by decide +kernel) (by decide +kernel)⟩
theorem moX9_holeItem : g_MI mX9_holeItem := ⟨⟨g_tb 807 (by decide +kernel) (by decide +kernel), g_tb 16 (by decide +kernel) (by decide +kernel), by decide +kernel, by decide +kernel, by decide +kernel⟩, g_tb 806 (by decide +kernel) (by decide +kernel), g_tp 24 (by decide +kernel) (by decide +kernel)⟩
theorem moX9_item : g_MI mX9_item := ⟨⟨g_tb 781 (by decide +kernel) (by decide +kernel), g_tb 16 (by decide +kernel) (by decide +kernel), by decide +kernel, by decide +kernel, by decide +kernel⟩, g_tb 780 (by decide +kernel) (by decide +kernel), g_tp 20 (by decide +kernel) (by decide +kernel)⟩
theorem moX9_fault : g_MI mX9_fault := ⟨⟨g_tb 777 (by decide +kernel) (by decide +kernel), g_tb 16 (by decide +kernel) (by decide +kernel), by decide +kernel, by decide +kernel, by decide +kernel⟩, g_tb 775 (by decide +kernel) (by decide +kernel), g_tb 776 (by decide +kernel) (by decide +kernel)⟩
theorem moX9_lay : g_MI mX9_lay := ⟨⟨g_tb 815 (by decide +kernel) (by decide +kernel), g_tb 16 (by decide +kernel) (by decide +kernel), by decide +kernel, by decide +kernel, by decide +kernel⟩, g_tb 813 (by decide +kernel) (by decide +kernel), g_tb 814 (by decide +kernel) (by decide +kernel)⟩
theorem moX9_note : g_MI mX9_note := ⟨⟨g_tb 870 (by decide +kernel) (by decide +kernel), g_tb 16 (by decide +kernel) (by decide +kernel), by decide +kernel, by decide +kernel, by decide +kernel⟩, g_tb 869 (by decide +kernel) (by decide +kernel), g_tp 35 (by decide +kernel) (by decide +kernel)⟩
theorem moX9_takesBack : g_MI mX9_takesBack := ⟨⟨g_tb 824 (by decide +kernel) (by decide +kernel), g_tb 16 (by decide +kernel) (by decide +kernel), by decide +kernel, by decide +kernel, by decide +kernel⟩, g_tb 823 (by decide +kernel) (by decide +kernel), g_tp 26 (by decide +kernel) (by decide +kernel)⟩
theorem moX9_undo : g_MI mX9_undo := ⟨⟨g_tb 820 (by decide +kernel) (by decide +kernel), g_tb 16 (by decide +kernel) (by decide +kernel), by decide +kernel, by decide +kernel, by decide +kernel⟩, g_tb 818 (by decide +kernel) (by decide +kernel), g_tb 819 (by decide +kernel) (by decide +kernel)⟩
theorem moX9_isCell : g_MI mX9_isCell := ⟨⟨g_tb 849 (by decide +kernel) (by decide +kernel), g_tb 16 (by decide +kernel) (by decide +kernel), by decide +kernel, by decide +kernel, by decide +kernel⟩, g_tb 848 (by decide +kernel) (by decide +kernel), g_tp 31 (by decide +kernel) (by decide +kernel)⟩
theorem moX9_isStation : g_MI mX9_isStation := ⟨⟨g_tb 832 (by decide +kernel) (by decide +kernel), g_tb 16 (by decide +kernel) (by decide +kernel), by decide +kernel, by decide +kernel, by decide +kernel⟩, g_tb 831 (by decide +kernel) (by decide +kernel), g_tp 27 (by decide +kernel) (by decide +kernel)⟩
theorem moX9_isHole : g_MI mX9_isHole := ⟨⟨g_tb 886 (by decide +kernel) (by decide +kernel), g_tb 16 (by decide +kernel) (by decide +kernel), by decide +kernel, by decide +kernel, by decide +kernel⟩, g_tb 885 (by decide +kernel) (by decide +kernel), g_tp 38 (by decide +kernel) (by decide +kernel)⟩
theorem moX9_holeAt : g_MI mX9_holeAt := ⟨⟨g_tb 853 (by decide +kernel) (by decide +kernel), g_tb 16 (by decide +kernel) (by decide +kernel), by decide +kernel, by decide +kernel, by decide +kernel⟩, g_tb 852 (by decide +kernel) (by decide +kernel), g_tp 32 (by decide +kernel) (by decide +kernel)⟩
theorem moX9_clampAt : g_MI mX9_clampAt := ⟨⟨g_tb 857 (by decide +kernel) (by decide +kernel), g_tb 16 (by decide +kernel) (by decide +kernel), by decide +kernel, by decide +kernel, by decide +kernel⟩, g_tb 856 (by decide +kernel) (by decide +kernel), g_tp 33 (by decide +kernel) (by decide +kernel)⟩
theorem moX9_wide : g_MI mX9_wide := ⟨⟨g_tb 841 (by decide +kernel) (by decide +kernel), g_tb 16 (by decide +kernel) (by decide +kernel), by decide +kernel, by decide +kernel, by decide +kernel⟩, g_tb 840 (by decide +kernel) (by decide +kernel), g_tp 29 (by decide +kernel) (by decide +kernel)⟩
theorem moX9_high : g_MI mX9_high := ⟨⟨g_tb 845 (by decide +kernel) (by decide +kernel), g_tb 16 (by decide +kernel) (by decide +kernel), by decide +kernel, by decide +kernel, by decide +kernel⟩, g_tb 844 (by decide +kernel) (by decide +kernel), g_tp 30 (by decide +kernel) (by decide +kernel)⟩
theorem moX9_isDull : g_MI mX9_isDull := ⟨⟨g_tb 861 (by decide +kernel) (by decide +kernel), g_tb 16 (by decide +kernel) (by decide +kernel), by decide +kernel, by decide +kernel, by decide +kernel⟩, g_tb 860 (by decide +kernel) (by decide +kernel), g_tp 34 (by decide +kernel) (by decide +kernel)⟩
theorem moX9_ring : g_MI mX9_ring := ⟨⟨g_tb 878 (by decide +kernel) (by decide +kernel), g_tb 16 (by decide +kernel) (by decide +kernel), by decide +kernel, by decide +kernel, by decide +kernel⟩, g_tb 877 (by decide +kernel) (by decide +kernel), g_tp 37 (by decide +kernel) (by decide +kernel)⟩
theorem moX9_whyNot : g_MI mX9_whyNot := ⟨⟨g_tb 837 (by decide +kernel) (by decide +kernel), g_tb 16 (by decide +kernel) (by decide +kernel), by decide +kernel, by decide +kernel, by decide +kernel⟩, g_tb 836 (by decide +kernel) (by decide +kernel), g_tp 28 (by decide +kernel) (by decide +kernel)⟩
theorem moX9_why : g_MI mX9_why := ⟨⟨g_tb 828 (by decide +kernel) (by decide +kernel), g_tb 16 (by decide +kernel) (by decide +kernel), by decide +kernel, by decide +kernel, by decide +kernel⟩, g_tb 826 (by decide +kernel) (by decide +kernel), g_tb 827 (by decide +kernel) (by decide +kernel)⟩
theorem moX9_strikes : g_MI mX9_strikes := ⟨⟨g_tb 874 (by decide +kernel) (by decide +kernel), g_tb 16 (by decide +kernel) (by decide +kernel), by decide +kernel, by decide +kernel, by decide +kernel⟩, g_tb 873 (by decide +kernel) (by decide +kernel), g_tp 36 (by decide +kernel) (by decide +kernel)⟩
theorem moX9_hit : g_MI mX9_hit := ⟨⟨g_tb 865 (by decide +kernel) (by decide +kernel), g_tb 16 (by decide +kernel) (by decide +kernel), by decide +kernel, by decide +kernel, by decide +kernel⟩, g_tb 863 (by decide +kernel) (by decide +kernel), g_tb 864 (by decide +kernel) (by decide +kernel)⟩
theorem moX9_open : g_MI mX9_open := ⟨⟨g_tb 897 (by decide +kernel) (by decide +kernel), g_tb 16 (by decide +kernel) (by decide +kernel), by decide +kernel, by decide +kernel, by decide +kernel⟩, g_tb 896 (by decide +kernel) (by decide +kernel), g_tp 40 (by decide +kernel) (by decide +kernel)⟩
theorem moX9_parts : g_MS mX9_parts := ⟨⟨g_tb 893 (by decide +kernel) (by decide +kernel), g_tb 16 (by decide +kernel) (by decide +kernel), by decide +kernel, by decide +kernel, by decide +kernel⟩, g_tb 892 (by decide +kernel) (by decide +kernel)⟩
theorem moX9_nibbles : g_MI mX9_nibbles := ⟨⟨g_tb 890 (by decide +kernel) (by decide +kernel), g_tb 16 (by decide +kernel) (by decide +kernel), by decide +kernel, by decide +kernel, by decide +kernel⟩, g_tb 889 (by decide +kernel) (by decide +kernel), g_tp 39 (by decide +kernel) (by decide +kernel)⟩
theorem moX9_isCut : g_MI mX9_isCut := ⟨⟨g_tb 901 (by decide +kernel) (by decide +kernel), g_tb 16 (by decide +kernel) (by decide +kernel), by decide +kernel, by decide +kernel, by decide +kernel⟩, g_tb 900 (by decide +kernel) (by decide +kernel), g_tp 41 (by decide +kernel) (by decide +kernel)⟩
theorem moX9_nibble : g_MI mX9_nibble := ⟨⟨g_tb 882 (by decide +kernel) (by decide +kernel), g_tb 16 (by decide +kernel) (by decide +kernel), by decide +kernel, by decide +kernel, by decide +kernel⟩, g_tb 880 (by decide +kernel) (by decide +kernel), g_tb 881 (by decide +kernel) (by decide +kernel)⟩
theorem moX9_swaps : g_MI mX9_swaps := ⟨⟨g_tb 905 (by decide +kernel) (by decide +kernel), g_tb 16 (by decide +kernel) (by decide +kernel), by decide +kernel, by decide +kernel, by decide +kernel⟩, g_tb 904 (by decide +kernel) (by decide +kernel), g_tp 42 (by decide +kernel) (by decide +kernel)⟩
theorem moX9_clamp : g_MI mX9_clamp := ⟨⟨g_tb 909 (by decide +kernel) (by decide +kernel), g_tb 16 (by decide +kernel) (by decide +kernel), by decide +kernel, by decide +kernel, by decide +kernel⟩, g_tb 907 (by decide +kernel) (by decide +kernel), g_tb 908 (by decide +kernel) (by decide +kernel)⟩
theorem moX9_sharpen : g_MI mX9_sharpen := ⟨⟨g_tb 914 (by decide +kernel) (by decide +kernel), g_tb 16 (by decide +kernel) (by decide +kernel), by decide +kernel, by decide +kernel, by decide +kernel⟩, g_tb 912 (by decide +kernel) (by decide +kernel), g_tb 913 (by decide +kernel) (by decide +kernel)⟩
theorem moX9_station : g_MI mX9_station := ⟨⟨g_tb 918 (by decide +kernel) (by decide +kernel), g_tb 16 (by decide +kernel) (by decide +kernel), by decide +kernel, by decide +kernel, by decide +kernel⟩, g_tb 916 (by decide +kernel) (by decide +kernel), g_tb 917 (by decide +kernel) (by decide +kernel)⟩
theorem moX9_hole : g_MI mX9_hole := ⟨⟨g_tb 923 (by decide +kernel) (by decide +kernel), g_tb 16 (by decide +kernel) (by decide +kernel), by decide +kernel, by decide +kernel, by decide +kernel⟩, g_tb 921 (by decide +kernel) (by decide +kernel), g_tb 922 (by decide +kernel) (by decide +kernel)⟩
theorem moX9_hits : g_MI mX9_hits := ⟨⟨g_tb 928 (by decide +kernel) (by decide +kernel), g_tb 16 (by decide +kernel) (by decide +kernel), by decide +kernel, by decide +kernel, by decide +kernel⟩, g_tb 926 (by decide +kernel) (by decide +kernel), g_tb 927 (by decide +kernel) (by decide +kernel)⟩
theorem moX9_cell : g_MI mX9_cell := ⟨⟨g_tb 932 (by decide +kernel) (by decide +kernel), g_tb 16 (by decide +kernel) (by decide +kernel), by decide +kernel, by decide +kernel, by decide +kernel⟩, g_tb 930 (by decide +kernel) (by decide +kernel), g_tb 931 (by decide +kernel) (by decide +kernel)⟩
theorem moX9_column : g_MI mX9_column := ⟨⟨g_tb 937 (by decide +kernel) (by decide +kernel), g_tb 16 (by decide +kernel) (by decide +kernel), by decide +kernel, by decide +kernel, by decide +kernel⟩, g_tb 935 (by decide +kernel) (by decide +kernel), g_tb 936 (by decide +kernel) (by decide +kernel)⟩
theorem moX9_round : g_MI mX9_round := ⟨⟨g_tb 954 (by decide +kernel) (by decide +kernel), g_tb 16 (by decide +kernel) (by decide +kernel), by decide +kernel, by decide +kernel, by decide +kernel⟩, g_tb 953 (by decide +kernel) (by decide +kernel), g_tp 45 (by decide +kernel) (by decide +kernel)⟩
theorem moX9_plans : g_MI mX9_plans := ⟨⟨g_tb 950 (by decide +kernel) (by decide +kernel), g_tb 16 (by decide +kernel) (by decide +kernel), by decide +kernel, by decide +kernel, by decide +kernel⟩, g_tb 949 (by decide +kernel) (by decide +kernel), g_tp 44 (by decide +kernel) (by decide +kernel)⟩
theorem moX9_looks : g_MI mX9_looks := ⟨⟨g_tb 946 (by decide +kernel) (by decide +kernel), g_tb 16 (by decide +kernel) (by decide +kernel), by decide +kernel, by decide +kernel, by decide +kernel⟩, g_tb 945 (by decide +kernel) (by decide +kernel), g_tp 43 (by decide +kernel) (by decide +kernel)⟩
theorem moX9_plan : g_MI mX9_plan := ⟨⟨g_tb 941 (by decide +kernel) (by decide +kernel), g_tb 16 (by decide +kernel) (by decide +kernel), by decide +kernel, by decide +kernel, by decide +kernel⟩, g_tb 939 (by decide +kernel) (by decide +kernel), g_tb 940 (by decide +kernel) (by decide +kernel)⟩
theorem moX9_drawn : g_MI mX9_drawn := ⟨⟨g_tb 958 (by decide +kernel) (by decide +kernel), g_tb 16 (by decide +kernel) (by decide +kernel), by decide +kernel, by decide +kernel, by decide +kernel⟩, g_tb 956 (by decide +kernel) (by decide +kernel), g_tb 957 (by decide +kernel) (by decide +kernel)⟩
theorem moX9_count : g_MI mX9_count := ⟨⟨g_tb 962 (by decide +kernel) (by decide +kernel), g_tb 16 (by decide +kernel) (by decide +kernel), by decide +kernel, by decide +kernel, by decide +kernel⟩, g_tb 960 (by decide +kernel) (by decide +kernel), g_tb 961 (by decide +kernel) (by decide +kernel)⟩
theorem moJ6_bitCount_0f7a4 : g_MS mJ6_bitCount_0f7a4 := ⟨⟨g_tb 511 (by decide +kernel) (by decide +kernel), g_tb 17 (by decide +kernel) (by decide +kernel), by decide +kernel, by decide +kernel, by decide +kernel⟩, g_tb 510 (by decide +kernel) (by decide +kernel)⟩
theorem moJ0_length_8abf5 : g_MI mJ0_length_8abf5 := ⟨⟨g_tb 255 (by decide +kernel) (by decide +kernel), g_tb 10 (by decide +kernel) (by decide +kernel), by decide +kernel, by decide +kernel, by decide +kernel⟩, g_tb 253 (by decide +kernel) (by decide +kernel), g_tb 254 (by decide +kernel) (by decide +kernel)⟩
theorem moJ0_charAt_5068e : g_MI mJ0_charAt_5068e := ⟨⟨g_tb 265 (by decide +kernel) (by decide +kernel), g_tb 10 (by decide +kernel) (by decide +kernel), by decide +kernel, by decide +kernel, by decide +kernel⟩, g_tb 263 (by decide +kernel) (by decide +kernel), g_tb 264 (by decide +kernel) (by decide +kernel)⟩
theorem moJ0_coder_7d493 : g_MI mJ0_coder_7d493 := ⟨⟨g_tb 259 (by decide +kernel) (by decide +kernel), g_tb 10 (by decide +kernel) (by decide +kernel), by decide +kernel, by decide +kernel, by decide +kernel⟩, g_tb 257 (by decide +kernel) (by decide +kernel), g_tb 258 (by decide +kernel) (by decide +kernel)⟩
theorem moJ0_isLatin1_aae02 : g_MI mJ0_isLatin1_aae02 := ⟨⟨g_tb 269 (by decide +kernel) (by decide +kernel), g_tb 10 (by decide +kernel) (by decide +kernel), by decide +kernel, by decide +kernel, by decide +kernel⟩, g_tb 267 (by decide +kernel) (by decide +kernel), g_tb 268 (by decide +kernel) (by decide +kernel)⟩
theorem moJ0_checkIndex_df160 : g_MS mJ0_checkIndex_df160 := ⟨⟨g_tb 275 (by decide +kernel) (by decide +kernel), g_tb 10 (by decide +kernel) (by decide +kernel), by decide +kernel, by decide +kernel, by decide +kernel⟩, g_tb 274 (by decide +kernel) (by decide +kernel)⟩
theorem moJ1_charAt_3b067 : g_MS mJ1_charAt_3b067 := ⟨⟨g_tb 272 (by decide +kernel) (by decide +kernel), g_tb 11 (by decide +kernel) (by decide +kernel), by decide +kernel, by decide +kernel, by decide +kernel⟩, g_tb 271 (by decide +kernel) (by decide +kernel)⟩
theorem moJ7_fill_53178 : g_MS mJ7_fill_53178 := ⟨⟨g_tb 396 (by decide +kernel) (by decide +kernel), g_tb 14 (by decide +kernel) (by decide +kernel), by decide +kernel, by decide +kernel, by decide +kernel⟩, g_tb 395 (by decide +kernel) (by decide +kernel)⟩
theorem moJ3_checkIndex_8e157 : g_MS mJ3_checkIndex_8e157 := ⟨⟨g_tb 280 (by decide +kernel) (by decide +kernel), g_tb 12 (by decide +kernel) (by decide +kernel), by decide +kernel, by decide +kernel, by decide +kernel⟩, g_tb 279 (by decide +kernel) (by decide +kernel)⟩
end
section
theorem lkX1_init_17 : g_LN mX1_init mX5_init 17 := ⟨⟨"TurretPunch", List.mem_of_getElem? (i := 100) (by decide +kernel)⟩, Nat.le_of_ble_eq_true rfl, Nat.le_of_ble_eq_true rfl⟩
theorem lkX1_keep_25 : g_LK mX1_keep mX5_copyFrom 25 := ⟨g_tb 523 (by decide +kernel) (by decide +kernel), Nat.le_of_ble_eq_true rfl, Nat.le_of_ble_eq_true rfl⟩
theorem lkX1_keep_29 : g_LK mX1_keep mJ9_min_7cf53 29 := ⟨g_tb 527 (by decide +kernel) (by decide +kernel), Nat.le_of_ble_eq_true rfl, Nat.le_of_ble_eq_true rfl⟩
theorem lkX1_giveBack_25 : g_LK mX1_giveBack mX5_copyFrom 25 := ⟨g_tb 523 (by decide +kernel) (by decide +kernel), Nat.le_of_ble_eq_true rfl, Nat.le_of_ble_eq_true rfl⟩
theorem lkX2_init_11 : g_LN mX2_init mX0_init 11 := ⟨⟨"TurretPunch", List.mem_of_getElem? (i := 182) (by decide +kernel)⟩, Nat.le_of_ble_eq_true rfl, Nat.le_of_ble_eq_true rfl⟩
theorem lkX2_init_32 : g_LN mX2_init mX7_init 32 := ⟨⟨"TurretPunch", List.mem_of_getElem? (i := 187) (by decide +kernel)⟩, Nat.le_of_ble_eq_true rfl, Nat.le_of_ble_eq_true rfl⟩
theorem lkX2_clear_33 : g_LK mX2_clear mX0_put 33 := ⟨g_tb 316 (by decide +kernel) (by decide +kernel), Nat.le_of_ble_eq_true rfl, Nat.le_of_ble_eq_true rfl⟩
theorem lkX2_takeSheet_50 : g_LK mX2_takeSheet mX2_hasSheet 50 := ⟨g_tb 350 (by decide +kernel) (by decide +kernel), Nat.le_of_ble_eq_true rfl, Nat.le_of_ble_eq_true rfl⟩
theorem lkX2_takeSheet_54 : g_LN mX2_takeSheet mX8_isWithin 54 := ⟨⟨"TurretPunch", List.mem_of_getElem? (i := 354) (by decide +kernel)⟩, Nat.le_of_ble_eq_true rfl, Nat.le_of_ble_eq_true rfl⟩
theorem lkX2_takeSheet_33 : g_LK mX2_takeSheet mX0_put 33 := ⟨g_tb 316 (by decide +kernel) (by decide +kernel), Nat.le_of_ble_eq_true rfl, Nat.le_of_ble_eq_true rfl⟩
theorem lkX2_takeTool_50 : g_LK mX2_takeTool mX2_hasSheet 50 := ⟨g_tb 350 (by decide +kernel) (by decide +kernel), Nat.le_of_ble_eq_true rfl, Nat.le_of_ble_eq_true rfl⟩
theorem lkX2_takeTool_58 : g_LN mX2_takeTool mX8_isFlag 58 := ⟨⟨"TurretPunch", List.mem_of_getElem? (i := 362) (by decide +kernel)⟩, Nat.le_of_ble_eq_true rfl, Nat.le_of_ble_eq_true rfl⟩
theorem lkX2_takeTool_54 : g_LN mX2_takeTool mX8_isWithin 54 := ⟨⟨"TurretPunch", List.mem_of_getElem? (i := 354) (by decide +kernel)⟩, Nat.le_of_ble_eq_true rfl, Nat.le_of_ble_eq_true rfl⟩
theorem lkX2_takeHole_50 : g_LK mX2_takeHole mX2_hasSheet 50 := ⟨g_tb 350 (by decide +kernel) (by decide +kernel), Nat.le_of_ble_eq_true rfl, Nat.le_of_ble_eq_true rfl⟩
theorem lkX2_takeHole_33 : g_LK mX2_takeHole mX0_put 33 := ⟨g_tb 316 (by decide +kernel) (by decide +kernel), Nat.le_of_ble_eq_true rfl, Nat.le_of_ble_eq_true rfl⟩
theorem lkX2_takeHole_73 : g_LK mX2_takeHole mX0_covers 73 := ⟨g_tb 370 (by decide +kernel) (by decide +kernel), Nat.le_of_ble_eq_true rfl, Nat.le_of_ble_eq_true rfl⟩
theorem lkX2_takeHole_77 : g_LK mX2_takeHole mX0_meets 77 := ⟨g_tb 374 (by decide +kernel) (by decide +kernel), Nat.le_of_ble_eq_true rfl, Nat.le_of_ble_eq_true rfl⟩
theorem lkX2_takeClamp_50 : g_LK mX2_takeClamp mX2_hasSheet 50 := ⟨g_tb 350 (by decide +kernel) (by decide +kernel), Nat.le_of_ble_eq_true rfl, Nat.le_of_ble_eq_true rfl⟩
theorem lkX2_takeClamp_80 : g_LK mX2_takeClamp mX2_isColumn 80 := ⟨g_tb 383 (by decide +kernel) (by decide +kernel), Nat.le_of_ble_eq_true rfl, Nat.le_of_ble_eq_true rfl⟩
theorem lkX2_takeClamp_83 : g_LK mX2_takeClamp mX2_areTooNear 83 := ⟨g_tb 387 (by decide +kernel) (by decide +kernel), Nat.le_of_ble_eq_true rfl, Nat.le_of_ble_eq_true rfl⟩
theorem lkX2_isColumn_54 : g_LN mX2_isColumn mX8_isWithin 54 := ⟨⟨"TurretPunch", List.mem_of_getElem? (i := 354) (by decide +kernel)⟩, Nat.le_of_ble_eq_true rfl, Nat.le_of_ble_eq_true rfl⟩
theorem lkX2_areTooNear_54 : g_LN mX2_areTooNear mX8_isWithin 54 := ⟨⟨"TurretPunch", List.mem_of_getElem? (i := 354) (by decide +kernel)⟩, Nat.le_of_ble_eq_true rfl, Nat.le_of_ble_eq_true rfl⟩
theorem lkX2_holeAt_87 : g_LK mX2_holeAt mX0_has 87 := ⟨g_tb 628 (by decide +kernel) (by decide +kernel), Nat.le_of_ble_eq_true rfl, Nat.le_of_ble_eq_true rfl⟩
theorem lkX2_isOfOneHole_73 : g_LK mX2_isOfOneHole mX0_covers 73 := ⟨g_tb 370 (by decide +kernel) (by decide +kernel), Nat.le_of_ble_eq_true rfl, Nat.le_of_ble_eq_true rfl⟩
theorem lkX2_turnsBetween_90 : g_LK mX2_turnsBetween mJ9_abs_0f7a4 90 := ⟨g_tb 538 (by decide +kernel) (by decide +kernel), Nat.le_of_ble_eq_true rfl, Nat.le_of_ble_eq_true rfl⟩
theorem lkX2_turnsBetween_96 : g_LK mX2_turnsBetween mJ9_min_7cf53 96 := ⟨g_tb 541 (by decide +kernel) (by decide +kernel), Nat.le_of_ble_eq_true rfl, Nat.le_of_ble_eq_true rfl⟩
theorem lkX2_turnsThrough_100 : g_LK mX2_turnsThrough mX2_downBeyond 100 := ⟨g_tb 665 (by decide +kernel) (by decide +kernel), Nat.le_of_ble_eq_true rfl, Nat.le_of_ble_eq_true rfl⟩
theorem lkX2_turnsThrough_96 : g_LK mX2_turnsThrough mJ9_min_7cf53 96 := ⟨g_tb 541 (by decide +kernel) (by decide +kernel), Nat.le_of_ble_eq_true rfl, Nat.le_of_ble_eq_true rfl⟩
theorem lkX3_work_28 : g_LK mX3_work mX3_weighWays 28 := ⟨g_tb 646 (by decide +kernel) (by decide +kernel), Nat.le_of_ble_eq_true rfl, Nat.le_of_ble_eq_true rfl⟩
theorem lkX3_work_38 : g_LK mX3_work mX3_triesSet 38 := ⟨g_tb 652 (by decide +kernel) (by decide +kernel), Nat.le_of_ble_eq_true rfl, Nat.le_of_ble_eq_true rfl⟩
theorem lkX3_work_47 : g_LK mX3_work mX2_turnsThrough 47 := ⟨g_tb 661 (by decide +kernel) (by decide +kernel), Nat.le_of_ble_eq_true rfl, Nat.le_of_ble_eq_true rfl⟩
theorem lkX3_work_54 : g_LK mX3_work mX3_isBetter 54 := ⟨g_tb 669 (by decide +kernel) (by decide +kernel), Nat.le_of_ble_eq_true rfl, Nat.le_of_ble_eq_true rfl⟩
theorem lkX3_work_58 : g_LK mX3_work mX3_keepTried 58 := ⟨g_tb 673 (by decide +kernel) (by decide +kernel), Nat.le_of_ble_eq_true rfl, Nat.le_of_ble_eq_true rfl⟩
theorem lkX3_weighWays_70 : g_LK mX3_weighWays mX7_hitsFor 70 := ⟨g_tb 650 (by decide +kernel) (by decide +kernel), Nat.le_of_ble_eq_true rfl, Nat.le_of_ble_eq_true rfl⟩
theorem lkX3_weighWays_76 : g_LN mX3_weighWays mX8_asFlag 76 := ⟨⟨"TurretPunch", List.mem_of_getElem? (i := 651) (by decide +kernel)⟩, Nat.le_of_ble_eq_true rfl, Nat.le_of_ble_eq_true rfl⟩
theorem lkX3_triesSet_83 : g_LK mX3_triesSet mX5_isCut 83 := ⟨g_tb 656 (by decide +kernel) (by decide +kernel), Nat.le_of_ble_eq_true rfl, Nat.le_of_ble_eq_true rfl⟩
theorem lkX3_triesSet_87 : g_LK mX3_triesSet mX3_takeFirstFewest 87 := ⟨g_tb 657 (by decide +kernel) (by decide +kernel), Nat.le_of_ble_eq_true rfl, Nat.le_of_ble_eq_true rfl⟩
theorem lkX4_firstFault_15 : g_LK mX4_firstFault mX2_clear 15 := ⟨g_tb 312 (by decide +kernel) (by decide +kernel), Nat.le_of_ble_eq_true rfl, Nat.le_of_ble_eq_true rfl⟩
theorem lkX4_firstFault_29 : g_LK mX4_firstFault mX4_takesItem 29 := ⟨g_tb 320 (by decide +kernel) (by decide +kernel), Nat.le_of_ble_eq_true rfl, Nat.le_of_ble_eq_true rfl⟩
theorem lkX4_takesItem_35 : g_LK mX4_takesItem mX4_takesWord 35 := ⟨g_tb 325 (by decide +kernel) (by decide +kernel), Nat.le_of_ble_eq_true rfl, Nat.le_of_ble_eq_true rfl⟩
theorem lkX4_takesItem_39 : g_LK mX4_takesItem mX4_takesNumbers 39 := ⟨g_tb 335 (by decide +kernel) (by decide +kernel), Nat.le_of_ble_eq_true rfl, Nat.le_of_ble_eq_true rfl⟩
theorem lkX4_takesItem_43 : g_LK mX4_takesItem mX2_takeSheet 43 := ⟨g_tb 346 (by decide +kernel) (by decide +kernel), Nat.le_of_ble_eq_true rfl, Nat.le_of_ble_eq_true rfl⟩
theorem lkX4_takesItem_49 : g_LK mX4_takesItem mX2_takeTool 49 := ⟨g_tb 358 (by decide +kernel) (by decide +kernel), Nat.le_of_ble_eq_true rfl, Nat.le_of_ble_eq_true rfl⟩
theorem lkX4_takesItem_55 : g_LK mX4_takesItem mX2_takeHole 55 := ⟨g_tb 366 (by decide +kernel) (by decide +kernel), Nat.le_of_ble_eq_true rfl, Nat.le_of_ble_eq_true rfl⟩
theorem lkX4_takesItem_60 : g_LK mX4_takesItem mX2_takeClamp 60 := ⟨g_tb 379 (by decide +kernel) (by decide +kernel), Nat.le_of_ble_eq_true rfl, Nat.le_of_ble_eq_true rfl⟩
theorem lkX4_takesWord_64 : g_LK mX4_takesWord mJ0_length_8abf5 64 := ⟨g_tb 329 (by decide +kernel) (by decide +kernel), Nat.le_of_ble_eq_true rfl, Nat.le_of_ble_eq_true rfl⟩
theorem lkX4_takesWord_69 : g_LK mX4_takesWord mX6_letterAt 69 := ⟨g_tb 330 (by decide +kernel) (by decide +kernel), Nat.le_of_ble_eq_true rfl, Nat.le_of_ble_eq_true rfl⟩
theorem lkX4_takesWord_73 : g_LK mX4_takesWord mJ0_charAt_5068e 73 := ⟨g_tb 334 (by decide +kernel) (by decide +kernel), Nat.le_of_ble_eq_true rfl, Nat.le_of_ble_eq_true rfl⟩
theorem lkX4_takesNumbers_69 : g_LK mX4_takesNumbers mX6_letterAt 69 := ⟨g_tb 330 (by decide +kernel) (by decide +kernel), Nat.le_of_ble_eq_true rfl, Nat.le_of_ble_eq_true rfl⟩
theorem lkX4_takesNumbers_76 : g_LK mX4_takesNumbers mX4_isFigure 76 := ⟨g_tb 339 (by decide +kernel) (by decide +kernel), Nat.le_of_ble_eq_true rfl, Nat.le_of_ble_eq_true rfl⟩
theorem lkX4_takesNumbers_80 : g_LK mX4_takesNumbers mX4_takeNumber 80 := ⟨g_tb 342 (by decide +kernel) (by decide +kernel), Nat.le_of_ble_eq_true rfl, Nat.le_of_ble_eq_true rfl⟩
theorem lkX4_takeNumber_69 : g_LK mX4_takeNumber mX6_letterAt 69 := ⟨g_tb 330 (by decide +kernel) (by decide +kernel), Nat.le_of_ble_eq_true rfl, Nat.le_of_ble_eq_true rfl⟩
theorem lkX4_takeNumber_76 : g_LK mX4_takeNumber mX4_isFigure 76 := ⟨g_tb 339 (by decide +kernel) (by decide +kernel), Nat.le_of_ble_eq_true rfl, Nat.le_of_ble_eq_true rfl⟩
theorem lkX5_begin_21 : g_LK mX5_begin mJ7_fill_53178 21 := ⟨g_tb 394 (by decide +kernel) (by decide +kernel), Nat.le_of_ble_eq_true rfl, Nat.le_of_ble_eq_true rfl⟩
theorem lkX5_refusal_63 : g_LK mX5_refusal mX0_covers 63 := ⟨g_tb 484 (by decide +kernel) (by decide +kernel), Nat.le_of_ble_eq_true rfl, Nat.le_of_ble_eq_true rfl⟩
theorem lkX5_refusal_69 : g_LK mX5_refusal mX2_isOfOneHole 69 := ⟨g_tb 485 (by decide +kernel) (by decide +kernel), Nat.le_of_ble_eq_true rfl, Nat.le_of_ble_eq_true rfl⟩
theorem lkX5_refusal_72 : g_LK mX5_refusal mX5_isClamped 72 := ⟨g_tb 489 (by decide +kernel) (by decide +kernel), Nat.le_of_ble_eq_true rfl, Nat.le_of_ble_eq_true rfl⟩
theorem lkX5_refusal_76 : g_LK mX5_refusal mX5_isCut 76 := ⟨g_tb 497 (by decide +kernel) (by decide +kernel), Nat.le_of_ble_eq_true rfl, Nat.le_of_ble_eq_true rfl⟩
theorem lkX5_refusal_79 : g_LK mX5_refusal mX5_isDull 79 := ⟨g_tb 515 (by decide +kernel) (by decide +kernel), Nat.le_of_ble_eq_true rfl, Nat.le_of_ble_eq_true rfl⟩
theorem lkX5_punch_83 : g_LK mX5_punch mX5_uncutIn 83 := ⟨g_tb 501 (by decide +kernel) (by decide +kernel), Nat.le_of_ble_eq_true rfl, Nat.le_of_ble_eq_true rfl⟩
theorem lkX5_punch_93 : g_LK mX5_punch mX0_rowBits 93 := ⟨g_tb 505 (by decide +kernel) (by decide +kernel), Nat.le_of_ble_eq_true rfl, Nat.le_of_ble_eq_true rfl⟩
theorem lkX5_punch_97 : g_LK mX5_punch mX2_turnsBetween 97 := ⟨g_tb 534 (by decide +kernel) (by decide +kernel), Nat.le_of_ble_eq_true rfl, Nat.le_of_ble_eq_true rfl⟩
theorem lkX5_uncutIn_93 : g_LK mX5_uncutIn mX0_rowBits 93 := ⟨g_tb 505 (by decide +kernel) (by decide +kernel), Nat.le_of_ble_eq_true rfl, Nat.le_of_ble_eq_true rfl⟩
theorem lkX5_uncutIn_104 : g_LK mX5_uncutIn mJ6_bitCount_0f7a4 104 := ⟨g_tb 509 (by decide +kernel) (by decide +kernel), Nat.le_of_ble_eq_true rfl, Nat.le_of_ble_eq_true rfl⟩
theorem lkX5_isCut_83 : g_LK mX5_isCut mX5_uncutIn 83 := ⟨g_tb 501 (by decide +kernel) (by decide +kernel), Nat.le_of_ble_eq_true rfl, Nat.le_of_ble_eq_true rfl⟩
theorem lkX5_cutCells_104 : g_LK mX5_cutCells mJ6_bitCount_0f7a4 104 := ⟨g_tb 509 (by decide +kernel) (by decide +kernel), Nat.le_of_ble_eq_true rfl, Nat.le_of_ble_eq_true rfl⟩
theorem lkX5_holesDone_76 : g_LK mX5_holesDone mX5_isCut 76 := ⟨g_tb 497 (by decide +kernel) (by decide +kernel), Nat.le_of_ble_eq_true rfl, Nat.le_of_ble_eq_true rfl⟩
theorem lkX5_clampAt_120 : g_LN mX5_clampAt mX8_isWithin 120 := ⟨⟨"TurretPunch", List.mem_of_getElem? (i := 633) (by decide +kernel)⟩, Nat.le_of_ble_eq_true rfl, Nat.le_of_ble_eq_true rfl⟩
theorem lkX5_isTakenByOther_124 : g_LK mX5_isTakenByOther mX2_areTooNear 124 := ⟨g_tb 584 (by decide +kernel) (by decide +kernel), Nat.le_of_ble_eq_true rfl, Nat.le_of_ble_eq_true rfl⟩
theorem lkX5_isClamped_128 : g_LK mX5_isClamped mX0_has 128 := ⟨g_tb 493 (by decide +kernel) (by decide +kernel), Nat.le_of_ble_eq_true rfl, Nat.le_of_ble_eq_true rfl⟩
theorem lkX7_stampAt_16 : g_LK mX7_stampAt mX7_wideWhen 16 := ⟨g_tb 471 (by decide +kernel) (by decide +kernel), Nat.le_of_ble_eq_true rfl, Nat.le_of_ble_eq_true rfl⟩
theorem lkX7_stampAt_20 : g_LK mX7_stampAt mX7_highWhen 20 := ⟨g_tb 475 (by decide +kernel) (by decide +kernel), Nat.le_of_ble_eq_true rfl, Nat.le_of_ble_eq_true rfl⟩
theorem lkX7_stampAt_23 : g_LK mX7_stampAt mX0_put 23 := ⟨g_tb 479 (by decide +kernel) (by decide +kernel), Nat.le_of_ble_eq_true rfl, Nat.le_of_ble_eq_true rfl⟩
theorem lkX7_hitsFor_16 : g_LK mX7_hitsFor mX7_wideWhen 16 := ⟨g_tb 471 (by decide +kernel) (by decide +kernel), Nat.le_of_ble_eq_true rfl, Nat.le_of_ble_eq_true rfl⟩
theorem lkX7_hitsFor_20 : g_LK mX7_hitsFor mX7_highWhen 20 := ⟨g_tb 475 (by decide +kernel) (by decide +kernel), Nat.le_of_ble_eq_true rfl, Nat.le_of_ble_eq_true rfl⟩
theorem lkX7_hitsFor_35 : g_LN mX7_hitsFor mX8_stepsOver 35 := ⟨⟨"TurretPunch", List.mem_of_getElem? (i := 564) (by decide +kernel)⟩, Nat.le_of_ble_eq_true rfl, Nat.le_of_ble_eq_true rfl⟩
theorem lkX8_init_9 : g_LN mX8_init mX6_init 9 := ⟨⟨"TurretPunch", List.mem_of_getElem? (i := 29) (by decide +kernel)⟩, Nat.le_of_ble_eq_true rfl, Nat.le_of_ble_eq_true rfl⟩
theorem lkX8_init_18 : g_LN mX8_init mX4_init 18 := ⟨⟨"TurretPunch", List.mem_of_getElem? (i := 45) (by decide +kernel)⟩, Nat.le_of_ble_eq_true rfl, Nat.le_of_ble_eq_true rfl⟩
theorem lkX8_init_25 : g_LN mX8_init mX5_init 25 := ⟨⟨"TurretPunch", List.mem_of_getElem? (i := 59) (by decide +kernel)⟩, Nat.le_of_ble_eq_true rfl, Nat.le_of_ble_eq_true rfl⟩
theorem lkX8_init_35 : g_LK mX8_init mX1_init 35 := ⟨g_tb 94 (by decide +kernel) (by decide +kernel), Nat.le_of_ble_eq_true rfl, Nat.le_of_ble_eq_true rfl⟩
theorem lkX8_init_42 : g_LN mX8_init mX3_init 42 := ⟨⟨"TurretPunch", List.mem_of_getElem? (i := 114) (by decide +kernel)⟩, Nat.le_of_ble_eq_true rfl, Nat.le_of_ble_eq_true rfl⟩
theorem lkX8_init_49 : g_LN mX8_init mX0_init 49 := ⟨⟨"TurretPunch", List.mem_of_getElem? (i := 149) (by decide +kernel)⟩, Nat.le_of_ble_eq_true rfl, Nat.le_of_ble_eq_true rfl⟩
theorem lkX8_init_56 : g_LK mX8_init mX2_init 56 := ⟨g_tb 177 (by decide +kernel) (by decide +kernel), Nat.le_of_ble_eq_true rfl, Nat.le_of_ble_eq_true rfl⟩
theorem lkX8_init_66 : g_LK mX8_init mJ0_length_8abf5 66 := ⟨g_tb 252 (by decide +kernel) (by decide +kernel), Nat.le_of_ble_eq_true rfl, Nat.le_of_ble_eq_true rfl⟩
theorem lkX8_init_72 : g_LK mX8_init mJ0_charAt_5068e 72 := ⟨g_tb 262 (by decide +kernel) (by decide +kernel), Nat.le_of_ble_eq_true rfl, Nat.le_of_ble_eq_true rfl⟩
theorem lkX8_init_76 : g_LK mX8_init mX6_append 76 := ⟨g_tb 300 (by decide +kernel) (by decide +kernel), Nat.le_of_ble_eq_true rfl, Nat.le_of_ble_eq_true rfl⟩
theorem lkX8_init_80 : g_LK mX8_init mX8_layDraft 80 := ⟨g_tb 304 (by decide +kernel) (by decide +kernel), Nat.le_of_ble_eq_true rfl, Nat.le_of_ble_eq_true rfl⟩
theorem lkX8_init_84 : g_LK mX8_init mX6_clear 84 := ⟨g_tb 404 (by decide +kernel) (by decide +kernel), Nat.le_of_ble_eq_true rfl, Nat.le_of_ble_eq_true rfl⟩
theorem lkX8_write_76 : g_LK mX8_write mX6_append 76 := ⟨g_tb 300 (by decide +kernel) (by decide +kernel), Nat.le_of_ble_eq_true rfl, Nat.le_of_ble_eq_true rfl⟩
theorem lkX8_wipe_84 : g_LK mX8_wipe mX6_clear 84 := ⟨g_tb 404 (by decide +kernel) (by decide +kernel), Nat.le_of_ble_eq_true rfl, Nat.le_of_ble_eq_true rfl⟩
theorem lkX8_fault_90 : g_LK mX8_fault mX4_firstFault 90 := ⟨g_tb 308 (by decide +kernel) (by decide +kernel), Nat.le_of_ble_eq_true rfl, Nat.le_of_ble_eq_true rfl⟩
theorem lkX8_lay_80 : g_LK mX8_lay mX8_layDraft 80 := ⟨g_tb 304 (by decide +kernel) (by decide +kernel), Nat.le_of_ble_eq_true rfl, Nat.le_of_ble_eq_true rfl⟩
theorem lkX8_hit_97 : g_LK mX8_hit mX8_isHitTold 97 := ⟨g_tb 457 (by decide +kernel) (by decide +kernel), Nat.le_of_ble_eq_true rfl, Nat.le_of_ble_eq_true rfl⟩
theorem lkX8_hit_105 : g_LK mX8_hit mX7_stampAt 105 := ⟨g_tb 467 (by decide +kernel) (by decide +kernel), Nat.le_of_ble_eq_true rfl, Nat.le_of_ble_eq_true rfl⟩
theorem lkX8_hit_111 : g_LK mX8_hit mX5_refusal 111 := ⟨g_tb 480 (by decide +kernel) (by decide +kernel), Nat.le_of_ble_eq_true rfl, Nat.le_of_ble_eq_true rfl⟩
theorem lkX8_hit_115 : g_LK mX8_hit mX1_keep 115 := ⟨g_tb 519 (by decide +kernel) (by decide +kernel), Nat.le_of_ble_eq_true rfl, Nat.le_of_ble_eq_true rfl⟩
theorem lkX8_hit_119 : g_LK mX8_hit mX5_punch 119 := ⟨g_tb 530 (by decide +kernel) (by decide +kernel), Nat.le_of_ble_eq_true rfl, Nat.le_of_ble_eq_true rfl⟩
theorem lkX8_why_97 : g_LK mX8_why mX8_isHitTold 97 := ⟨g_tb 457 (by decide +kernel) (by decide +kernel), Nat.le_of_ble_eq_true rfl, Nat.le_of_ble_eq_true rfl⟩
theorem lkX8_why_105 : g_LK mX8_why mX7_stampAt 105 := ⟨g_tb 467 (by decide +kernel) (by decide +kernel), Nat.le_of_ble_eq_true rfl, Nat.le_of_ble_eq_true rfl⟩
theorem lkX8_why_111 : g_LK mX8_why mX5_refusal 111 := ⟨g_tb 480 (by decide +kernel) (by decide +kernel), Nat.le_of_ble_eq_true rfl, Nat.le_of_ble_eq_true rfl⟩
theorem lkX8_nibble_123 : g_LK mX8_nibble mX8_isHole 123 := ⟨g_tb 550 (by decide +kernel) (by decide +kernel), Nat.le_of_ble_eq_true rfl, Nat.le_of_ble_eq_true rfl⟩
theorem lkX8_nibble_127 : g_LK mX8_nibble mX8_isStation 127 := ⟨g_tb 461 (by decide +kernel) (by decide +kernel), Nat.le_of_ble_eq_true rfl, Nat.le_of_ble_eq_true rfl⟩
theorem lkX8_nibble_130 : g_LK mX8_nibble mX8_isFlag 130 := ⟨g_tb 466 (by decide +kernel) (by decide +kernel), Nat.le_of_ble_eq_true rfl, Nat.le_of_ble_eq_true rfl⟩
theorem lkX8_nibble_137 : g_LK mX8_nibble mX5_isCut 137 := ⟨g_tb 554 (by decide +kernel) (by decide +kernel), Nat.le_of_ble_eq_true rfl, Nat.le_of_ble_eq_true rfl⟩
theorem lkX8_nibble_141 : g_LK mX8_nibble mX5_copyFrom 141 := ⟨g_tb 555 (by decide +kernel) (by decide +kernel), Nat.le_of_ble_eq_true rfl, Nat.le_of_ble_eq_true rfl⟩
theorem lkX8_nibble_144 : g_LK mX8_nibble mX8_punchAll 144 := ⟨g_tb 556 (by decide +kernel) (by decide +kernel), Nat.le_of_ble_eq_true rfl, Nat.le_of_ble_eq_true rfl⟩
theorem lkX8_nibble_115 : g_LK mX8_nibble mX1_keep 115 := ⟨g_tb 519 (by decide +kernel) (by decide +kernel), Nat.le_of_ble_eq_true rfl, Nat.le_of_ble_eq_true rfl⟩
theorem lkX8_clamp_148 : g_LK mX8_clamp mX8_isClamp 148 := ⟨g_tb 575 (by decide +kernel) (by decide +kernel), Nat.le_of_ble_eq_true rfl, Nat.le_of_ble_eq_true rfl⟩
theorem lkX8_clamp_151 : g_LK mX8_clamp mX2_isColumn 151 := ⟨g_tb 579 (by decide +kernel) (by decide +kernel), Nat.le_of_ble_eq_true rfl, Nat.le_of_ble_eq_true rfl⟩
theorem lkX8_clamp_158 : g_LK mX8_clamp mX5_isTakenByOther 158 := ⟨g_tb 580 (by decide +kernel) (by decide +kernel), Nat.le_of_ble_eq_true rfl, Nat.le_of_ble_eq_true rfl⟩
theorem lkX8_clamp_115 : g_LK mX8_clamp mX1_keep 115 := ⟨g_tb 519 (by decide +kernel) (by decide +kernel), Nat.le_of_ble_eq_true rfl, Nat.le_of_ble_eq_true rfl⟩
theorem lkX8_sharpen_127 : g_LK mX8_sharpen mX8_isStation 127 := ⟨g_tb 461 (by decide +kernel) (by decide +kernel), Nat.le_of_ble_eq_true rfl, Nat.le_of_ble_eq_true rfl⟩
theorem lkX8_sharpen_115 : g_LK mX8_sharpen mX1_keep 115 := ⟨g_tb 519 (by decide +kernel) (by decide +kernel), Nat.le_of_ble_eq_true rfl, Nat.le_of_ble_eq_true rfl⟩
theorem lkX8_undo_168 : g_LK mX8_undo mX1_giveBack 168 := ⟨g_tb 593 (by decide +kernel) (by decide +kernel), Nat.le_of_ble_eq_true rfl, Nat.le_of_ble_eq_true rfl⟩
theorem lkX8_station_127 : g_LK mX8_station mX8_isStation 127 := ⟨g_tb 461 (by decide +kernel) (by decide +kernel), Nat.le_of_ble_eq_true rfl, Nat.le_of_ble_eq_true rfl⟩
theorem lkX8_station_185 : g_LK mX8_station mX8_asFlag 185 := ⟨g_tb 601 (by decide +kernel) (by decide +kernel), Nat.le_of_ble_eq_true rfl, Nat.le_of_ble_eq_true rfl⟩
theorem lkX8_station_192 : g_LK mX8_station mX5_isDull 192 := ⟨g_tb 604 (by decide +kernel) (by decide +kernel), Nat.le_of_ble_eq_true rfl, Nat.le_of_ble_eq_true rfl⟩
theorem lkX8_station_199 : g_LK mX8_station mX2_turnsBetween 199 := ⟨g_tb 605 (by decide +kernel) (by decide +kernel), Nat.le_of_ble_eq_true rfl, Nat.le_of_ble_eq_true rfl⟩
theorem lkX8_hole_123 : g_LK mX8_hole mX8_isHole 123 := ⟨g_tb 550 (by decide +kernel) (by decide +kernel), Nat.le_of_ble_eq_true rfl, Nat.le_of_ble_eq_true rfl⟩
theorem lkX8_hole_211 : g_LK mX8_hole mX5_uncutIn 211 := ⟨g_tb 610 (by decide +kernel) (by decide +kernel), Nat.le_of_ble_eq_true rfl, Nat.le_of_ble_eq_true rfl⟩
theorem lkX8_hole_137 : g_LK mX8_hole mX5_isCut 137 := ⟨g_tb 554 (by decide +kernel) (by decide +kernel), Nat.le_of_ble_eq_true rfl, Nat.le_of_ble_eq_true rfl⟩
theorem lkX8_hole_185 : g_LK mX8_hole mX8_asFlag 185 := ⟨g_tb 601 (by decide +kernel) (by decide +kernel), Nat.le_of_ble_eq_true rfl, Nat.le_of_ble_eq_true rfl⟩
theorem lkX8_hits_123 : g_LK mX8_hits mX8_isHole 123 := ⟨g_tb 550 (by decide +kernel) (by decide +kernel), Nat.le_of_ble_eq_true rfl, Nat.le_of_ble_eq_true rfl⟩
theorem lkX8_hits_127 : g_LK mX8_hits mX8_isStation 127 := ⟨g_tb 461 (by decide +kernel) (by decide +kernel), Nat.le_of_ble_eq_true rfl, Nat.le_of_ble_eq_true rfl⟩
theorem lkX8_hits_130 : g_LK mX8_hits mX8_isFlag 130 := ⟨g_tb 466 (by decide +kernel) (by decide +kernel), Nat.le_of_ble_eq_true rfl, Nat.le_of_ble_eq_true rfl⟩
theorem lkX8_hits_215 : g_LK mX8_hits mX7_hitsFor 215 := ⟨g_tb 560 (by decide +kernel) (by decide +kernel), Nat.le_of_ble_eq_true rfl, Nat.le_of_ble_eq_true rfl⟩
theorem lkX8_cell_222 : g_LK mX8_cell mX0_has 222 := ⟨g_tb 619 (by decide +kernel) (by decide +kernel), Nat.le_of_ble_eq_true rfl, Nat.le_of_ble_eq_true rfl⟩
theorem lkX8_cell_226 : g_LK mX8_cell mX5_isCellCut 226 := ⟨g_tb 620 (by decide +kernel) (by decide +kernel), Nat.le_of_ble_eq_true rfl, Nat.le_of_ble_eq_true rfl⟩
theorem lkX8_cell_185 : g_LK mX8_cell mX8_asFlag 185 := ⟨g_tb 601 (by decide +kernel) (by decide +kernel), Nat.le_of_ble_eq_true rfl, Nat.le_of_ble_eq_true rfl⟩
theorem lkX8_cell_229 : g_LK mX8_cell mX2_holeAt 229 := ⟨g_tb 624 (by decide +kernel) (by decide +kernel), Nat.le_of_ble_eq_true rfl, Nat.le_of_ble_eq_true rfl⟩
theorem lkX8_cell_232 : g_LK mX8_cell mX5_clampAt 232 := ⟨g_tb 629 (by decide +kernel) (by decide +kernel), Nat.le_of_ble_eq_true rfl, Nat.le_of_ble_eq_true rfl⟩
theorem lkX8_column_148 : g_LK mX8_column mX8_isClamp 148 := ⟨g_tb 575 (by decide +kernel) (by decide +kernel), Nat.le_of_ble_eq_true rfl, Nat.le_of_ble_eq_true rfl⟩
theorem lkX8_plan_123 : g_LK mX8_plan mX8_isHole 123 := ⟨g_tb 550 (by decide +kernel) (by decide +kernel), Nat.le_of_ble_eq_true rfl, Nat.le_of_ble_eq_true rfl⟩
theorem lkX8_plan_236 : g_LK mX8_plan mX3_work 236 := ⟨g_tb 642 (by decide +kernel) (by decide +kernel), Nat.le_of_ble_eq_true rfl, Nat.le_of_ble_eq_true rfl⟩
theorem lkX8_drawn_252 : g_LK mX8_drawn mX8_signAt 252 := ⟨g_tb 682 (by decide +kernel) (by decide +kernel), Nat.le_of_ble_eq_true rfl, Nat.le_of_ble_eq_true rfl⟩
theorem lkX8_count_268 : g_LK mX8_count mX5_cutCells 268 := ⟨g_tb 690 (by decide +kernel) (by decide +kernel), Nat.le_of_ble_eq_true rfl, Nat.le_of_ble_eq_true rfl⟩
theorem lkX8_count_271 : g_LK mX8_count mX5_holesDone 271 := ⟨g_tb 694 (by decide +kernel) (by decide +kernel), Nat.le_of_ble_eq_true rfl, Nat.le_of_ble_eq_true rfl⟩
theorem lkX8_layDraft_90 : g_LK mX8_layDraft mX4_firstFault 90 := ⟨g_tb 308 (by decide +kernel) (by decide +kernel), Nat.le_of_ble_eq_true rfl, Nat.le_of_ble_eq_true rfl⟩
theorem lkX8_layDraft_275 : g_LK mX8_layDraft mX5_begin 275 := ⟨g_tb 390 (by decide +kernel) (by decide +kernel), Nat.le_of_ble_eq_true rfl, Nat.le_of_ble_eq_true rfl⟩
theorem lkX8_layDraft_279 : g_LK mX8_layDraft mX1_forget 279 := ⟨g_tb 400 (by decide +kernel) (by decide +kernel), Nat.le_of_ble_eq_true rfl, Nat.le_of_ble_eq_true rfl⟩
theorem lkX8_punchAll_215 : g_LK mX8_punchAll mX7_hitsFor 215 := ⟨g_tb 560 (by decide +kernel) (by decide +kernel), Nat.le_of_ble_eq_true rfl, Nat.le_of_ble_eq_true rfl⟩
theorem lkX8_punchAll_282 : g_LK mX8_punchAll mX7_highWhen 282 := ⟨g_tb 567 (by decide +kernel) (by decide +kernel), Nat.le_of_ble_eq_true rfl, Nat.le_of_ble_eq_true rfl⟩
theorem lkX8_punchAll_285 : g_LK mX8_punchAll mX8_stepsOver 285 := ⟨g_tb 568 (by decide +kernel) (by decide +kernel), Nat.le_of_ble_eq_true rfl, Nat.le_of_ble_eq_true rfl⟩
theorem lkX8_punchAll_288 : g_LK mX8_punchAll mX7_wideWhen 288 := ⟨g_tb 569 (by decide +kernel) (by decide +kernel), Nat.le_of_ble_eq_true rfl, Nat.le_of_ble_eq_true rfl⟩
theorem lkX8_punchAll_105 : g_LK mX8_punchAll mX7_stampAt 105 := ⟨g_tb 467 (by decide +kernel) (by decide +kernel), Nat.le_of_ble_eq_true rfl, Nat.le_of_ble_eq_true rfl⟩
theorem lkX8_punchAll_291 : g_LK mX8_punchAll mJ9_min_7cf53 291 := ⟨g_tb 570 (by decide +kernel) (by decide +kernel), Nat.le_of_ble_eq_true rfl, Nat.le_of_ble_eq_true rfl⟩
theorem lkX8_punchAll_137 : g_LK mX8_punchAll mX5_isCut 137 := ⟨g_tb 554 (by decide +kernel) (by decide +kernel), Nat.le_of_ble_eq_true rfl, Nat.le_of_ble_eq_true rfl⟩
theorem lkX8_punchAll_111 : g_LK mX8_punchAll mX5_refusal 111 := ⟨g_tb 480 (by decide +kernel) (by decide +kernel), Nat.le_of_ble_eq_true rfl, Nat.le_of_ble_eq_true rfl⟩
theorem lkX8_punchAll_119 : g_LK mX8_punchAll mX5_punch 119 := ⟨g_tb 530 (by decide +kernel) (by decide +kernel), Nat.le_of_ble_eq_true rfl, Nat.le_of_ble_eq_true rfl⟩
theorem lkX8_signAt_232 : g_LK mX8_signAt mX5_clampAt 232 := ⟨g_tb 629 (by decide +kernel) (by decide +kernel), Nat.le_of_ble_eq_true rfl, Nat.le_of_ble_eq_true rfl⟩
theorem lkX8_signAt_226 : g_LK mX8_signAt mX5_isCellCut 226 := ⟨g_tb 620 (by decide +kernel) (by decide +kernel), Nat.le_of_ble_eq_true rfl, Nat.le_of_ble_eq_true rfl⟩
theorem lkX8_signAt_229 : g_LK mX8_signAt mX2_holeAt 229 := ⟨g_tb 624 (by decide +kernel) (by decide +kernel), Nat.le_of_ble_eq_true rfl, Nat.le_of_ble_eq_true rfl⟩
theorem lkX8_isHitTold_127 : g_LK mX8_isHitTold mX8_isStation 127 := ⟨g_tb 461 (by decide +kernel) (by decide +kernel), Nat.le_of_ble_eq_true rfl, Nat.le_of_ble_eq_true rfl⟩
theorem lkX8_isHitTold_296 : g_LK mX8_isHitTold mX8_isWithin 296 := ⟨g_tb 465 (by decide +kernel) (by decide +kernel), Nat.le_of_ble_eq_true rfl, Nat.le_of_ble_eq_true rfl⟩
theorem lkX8_isHitTold_130 : g_LK mX8_isHitTold mX8_isFlag 130 := ⟨g_tb 466 (by decide +kernel) (by decide +kernel), Nat.le_of_ble_eq_true rfl, Nat.le_of_ble_eq_true rfl⟩
theorem lkX9_init_43 : g_LK mX9_init mX9_adds 43 := ⟨g_tb 704 (by decide +kernel) (by decide +kernel), Nat.le_of_ble_eq_true rfl, Nat.le_of_ble_eq_true rfl⟩
theorem lkX9_init_47 : g_LK mX9_init mX9_anew 47 := ⟨g_tb 708 (by decide +kernel) (by decide +kernel), Nat.le_of_ble_eq_true rfl, Nat.le_of_ble_eq_true rfl⟩
theorem lkX9_write_58 : g_LK mX9_write mX9_in 58 := ⟨g_tb 767 (by decide +kernel) (by decide +kernel), Nat.le_of_ble_eq_true rfl, Nat.le_of_ble_eq_true rfl⟩
theorem lkX9_number_68 : g_LK mX9_number mX9_byteAt 68 := ⟨g_tb 790 (by decide +kernel) (by decide +kernel), Nat.le_of_ble_eq_true rfl, Nat.le_of_ble_eq_true rfl⟩
theorem lkX9_number_58 : g_LK mX9_number mX9_in 58 := ⟨g_tb 767 (by decide +kernel) (by decide +kernel), Nat.le_of_ble_eq_true rfl, Nat.le_of_ble_eq_true rfl⟩
theorem lkX9_word_68 : g_LK mX9_word mX9_byteAt 68 := ⟨g_tb 790 (by decide +kernel) (by decide +kernel), Nat.le_of_ble_eq_true rfl, Nat.le_of_ble_eq_true rfl⟩
theorem lkX9_holeItem_80 : g_LK mX9_holeItem mX9_number 80 := ⟨g_tb 795 (by decide +kernel) (by decide +kernel), Nat.le_of_ble_eq_true rfl, Nat.le_of_ble_eq_true rfl⟩
theorem lkX9_holeItem_84 : g_LK mX9_holeItem mX9_isApart 84 := ⟨g_tb 808 (by decide +kernel) (by decide +kernel), Nat.le_of_ble_eq_true rfl, Nat.le_of_ble_eq_true rfl⟩
theorem lkX9_item_88 : g_LK mX9_item mX9_word5 88 := ⟨g_tb 782 (by decide +kernel) (by decide +kernel), Nat.le_of_ble_eq_true rfl, Nat.le_of_ble_eq_true rfl⟩
theorem lkX9_item_92 : g_LK mX9_item mX9_word 92 := ⟨g_tb 786 (by decide +kernel) (by decide +kernel), Nat.le_of_ble_eq_true rfl, Nat.le_of_ble_eq_true rfl⟩
theorem lkX9_item_80 : g_LK mX9_item mX9_number 80 := ⟨g_tb 795 (by decide +kernel) (by decide +kernel), Nat.le_of_ble_eq_true rfl, Nat.le_of_ble_eq_true rfl⟩
theorem lkX9_item_96 : g_LK mX9_item mX9_word4 96 := ⟨g_tb 801 (by decide +kernel) (by decide +kernel), Nat.le_of_ble_eq_true rfl, Nat.le_of_ble_eq_true rfl⟩
theorem lkX9_item_100 : g_LK mX9_item mX9_holeItem 100 := ⟨g_tb 804 (by decide +kernel) (by decide +kernel), Nat.le_of_ble_eq_true rfl, Nat.le_of_ble_eq_true rfl⟩
theorem lkX9_fault_104 : g_LK mX9_fault mX9_item 104 := ⟨g_tb 778 (by decide +kernel) (by decide +kernel), Nat.le_of_ble_eq_true rfl, Nat.le_of_ble_eq_true rfl⟩
theorem lkX9_fault_68 : g_LK mX9_fault mX9_byteAt 68 := ⟨g_tb 790 (by decide +kernel) (by decide +kernel), Nat.le_of_ble_eq_true rfl, Nat.le_of_ble_eq_true rfl⟩
theorem lkX9_lay_107 : g_LK mX9_lay mX9_fault 107 := ⟨g_tb 816 (by decide +kernel) (by decide +kernel), Nat.le_of_ble_eq_true rfl, Nat.le_of_ble_eq_true rfl⟩
theorem lkX9_lay_47 : g_LK mX9_lay mX9_anew 47 := ⟨g_tb 708 (by decide +kernel) (by decide +kernel), Nat.le_of_ble_eq_true rfl, Nat.le_of_ble_eq_true rfl⟩
theorem lkX9_undo_111 : g_LK mX9_undo mX9_takesBack 111 := ⟨g_tb 821 (by decide +kernel) (by decide +kernel), Nat.le_of_ble_eq_true rfl, Nat.le_of_ble_eq_true rfl⟩
theorem lkX9_isCell_58 : g_LK mX9_isCell mX9_in 58 := ⟨g_tb 767 (by decide +kernel) (by decide +kernel), Nat.le_of_ble_eq_true rfl, Nat.le_of_ble_eq_true rfl⟩
theorem lkX9_isStation_58 : g_LK mX9_isStation mX9_in 58 := ⟨g_tb 767 (by decide +kernel) (by decide +kernel), Nat.le_of_ble_eq_true rfl, Nat.le_of_ble_eq_true rfl⟩
theorem lkX9_isHole_58 : g_LK mX9_isHole mX9_in 58 := ⟨g_tb 767 (by decide +kernel) (by decide +kernel), Nat.le_of_ble_eq_true rfl, Nat.le_of_ble_eq_true rfl⟩
theorem lkX9_holeAt_58 : g_LK mX9_holeAt mX9_in 58 := ⟨g_tb 767 (by decide +kernel) (by decide +kernel), Nat.le_of_ble_eq_true rfl, Nat.le_of_ble_eq_true rfl⟩
theorem lkX9_clampAt_58 : g_LK mX9_clampAt mX9_in 58 := ⟨g_tb 767 (by decide +kernel) (by decide +kernel), Nat.le_of_ble_eq_true rfl, Nat.le_of_ble_eq_true rfl⟩
theorem lkX9_whyNot_114 : g_LK mX9_whyNot mX9_wide 114 := ⟨g_tb 838 (by decide +kernel) (by decide +kernel), Nat.le_of_ble_eq_true rfl, Nat.le_of_ble_eq_true rfl⟩
theorem lkX9_whyNot_118 : g_LK mX9_whyNot mX9_high 118 := ⟨g_tb 842 (by decide +kernel) (by decide +kernel), Nat.le_of_ble_eq_true rfl, Nat.le_of_ble_eq_true rfl⟩
theorem lkX9_whyNot_121 : g_LK mX9_whyNot mX9_isCell 121 := ⟨g_tb 846 (by decide +kernel) (by decide +kernel), Nat.le_of_ble_eq_true rfl, Nat.le_of_ble_eq_true rfl⟩
theorem lkX9_whyNot_124 : g_LK mX9_whyNot mX9_holeAt 124 := ⟨g_tb 850 (by decide +kernel) (by decide +kernel), Nat.le_of_ble_eq_true rfl, Nat.le_of_ble_eq_true rfl⟩
theorem lkX9_whyNot_127 : g_LK mX9_whyNot mX9_clampAt 127 := ⟨g_tb 854 (by decide +kernel) (by decide +kernel), Nat.le_of_ble_eq_true rfl, Nat.le_of_ble_eq_true rfl⟩
theorem lkX9_whyNot_130 : g_LK mX9_whyNot mX9_isDull 130 := ⟨g_tb 858 (by decide +kernel) (by decide +kernel), Nat.le_of_ble_eq_true rfl, Nat.le_of_ble_eq_true rfl⟩
theorem lkX9_why_134 : g_LK mX9_why mX9_isStation 134 := ⟨g_tb 829 (by decide +kernel) (by decide +kernel), Nat.le_of_ble_eq_true rfl, Nat.le_of_ble_eq_true rfl⟩
theorem lkX9_why_58 : g_LK mX9_why mX9_in 58 := ⟨g_tb 767 (by decide +kernel) (by decide +kernel), Nat.le_of_ble_eq_true rfl, Nat.le_of_ble_eq_true rfl⟩
theorem lkX9_why_139 : g_LK mX9_why mX9_whyNot 139 := ⟨g_tb 834 (by decide +kernel) (by decide +kernel), Nat.le_of_ble_eq_true rfl, Nat.le_of_ble_eq_true rfl⟩
theorem lkX9_strikes_114 : g_LK mX9_strikes mX9_wide 114 := ⟨g_tb 838 (by decide +kernel) (by decide +kernel), Nat.le_of_ble_eq_true rfl, Nat.le_of_ble_eq_true rfl⟩
theorem lkX9_strikes_118 : g_LK mX9_strikes mX9_high 118 := ⟨g_tb 842 (by decide +kernel) (by decide +kernel), Nat.le_of_ble_eq_true rfl, Nat.le_of_ble_eq_true rfl⟩
theorem lkX9_strikes_143 : g_LK mX9_strikes mX9_ring 143 := ⟨g_tb 875 (by decide +kernel) (by decide +kernel), Nat.le_of_ble_eq_true rfl, Nat.le_of_ble_eq_true rfl⟩
theorem lkX9_hit_146 : g_LK mX9_hit mX9_why 146 := ⟨g_tb 866 (by decide +kernel) (by decide +kernel), Nat.le_of_ble_eq_true rfl, Nat.le_of_ble_eq_true rfl⟩
theorem lkX9_hit_149 : g_LK mX9_hit mX9_note 149 := ⟨g_tb 867 (by decide +kernel) (by decide +kernel), Nat.le_of_ble_eq_true rfl, Nat.le_of_ble_eq_true rfl⟩
theorem lkX9_hit_152 : g_LK mX9_hit mX9_strikes 152 := ⟨g_tb 871 (by decide +kernel) (by decide +kernel), Nat.le_of_ble_eq_true rfl, Nat.le_of_ble_eq_true rfl⟩
theorem lkX9_open_124 : g_LK mX9_open mX9_holeAt 124 := ⟨g_tb 850 (by decide +kernel) (by decide +kernel), Nat.le_of_ble_eq_true rfl, Nat.le_of_ble_eq_true rfl⟩
theorem lkX9_nibbles_114 : g_LK mX9_nibbles mX9_wide 114 := ⟨g_tb 838 (by decide +kernel) (by decide +kernel), Nat.le_of_ble_eq_true rfl, Nat.le_of_ble_eq_true rfl⟩
theorem lkX9_nibbles_118 : g_LK mX9_nibbles mX9_high 118 := ⟨g_tb 842 (by decide +kernel) (by decide +kernel), Nat.le_of_ble_eq_true rfl, Nat.le_of_ble_eq_true rfl⟩
theorem lkX9_nibbles_155 : g_LK mX9_nibbles mX9_parts 155 := ⟨g_tb 891 (by decide +kernel) (by decide +kernel), Nat.le_of_ble_eq_true rfl, Nat.le_of_ble_eq_true rfl⟩
theorem lkX9_isCut_114 : g_LK mX9_isCut mX9_wide 114 := ⟨g_tb 838 (by decide +kernel) (by decide +kernel), Nat.le_of_ble_eq_true rfl, Nat.le_of_ble_eq_true rfl⟩
theorem lkX9_isCut_118 : g_LK mX9_isCut mX9_high 118 := ⟨g_tb 842 (by decide +kernel) (by decide +kernel), Nat.le_of_ble_eq_true rfl, Nat.le_of_ble_eq_true rfl⟩
theorem lkX9_nibble_158 : g_LK mX9_nibble mX9_isHole 158 := ⟨g_tb 883 (by decide +kernel) (by decide +kernel), Nat.le_of_ble_eq_true rfl, Nat.le_of_ble_eq_true rfl⟩
theorem lkX9_nibble_134 : g_LK mX9_nibble mX9_isStation 134 := ⟨g_tb 829 (by decide +kernel) (by decide +kernel), Nat.le_of_ble_eq_true rfl, Nat.le_of_ble_eq_true rfl⟩
theorem lkX9_nibble_58 : g_LK mX9_nibble mX9_in 58 := ⟨g_tb 767 (by decide +kernel) (by decide +kernel), Nat.le_of_ble_eq_true rfl, Nat.le_of_ble_eq_true rfl⟩
theorem lkX9_nibble_161 : g_LK mX9_nibble mX9_nibbles 161 := ⟨g_tb 887 (by decide +kernel) (by decide +kernel), Nat.le_of_ble_eq_true rfl, Nat.le_of_ble_eq_true rfl⟩
theorem lkX9_nibble_165 : g_LK mX9_nibble mX9_open 165 := ⟨g_tb 894 (by decide +kernel) (by decide +kernel), Nat.le_of_ble_eq_true rfl, Nat.le_of_ble_eq_true rfl⟩
theorem lkX9_nibble_114 : g_LK mX9_nibble mX9_wide 114 := ⟨g_tb 838 (by decide +kernel) (by decide +kernel), Nat.le_of_ble_eq_true rfl, Nat.le_of_ble_eq_true rfl⟩
theorem lkX9_nibble_118 : g_LK mX9_nibble mX9_high 118 := ⟨g_tb 842 (by decide +kernel) (by decide +kernel), Nat.le_of_ble_eq_true rfl, Nat.le_of_ble_eq_true rfl⟩
theorem lkX9_nibble_155 : g_LK mX9_nibble mX9_parts 155 := ⟨g_tb 891 (by decide +kernel) (by decide +kernel), Nat.le_of_ble_eq_true rfl, Nat.le_of_ble_eq_true rfl⟩
theorem lkX9_nibble_168 : g_LK mX9_nibble mX9_isCut 168 := ⟨g_tb 898 (by decide +kernel) (by decide +kernel), Nat.le_of_ble_eq_true rfl, Nat.le_of_ble_eq_true rfl⟩
theorem lkX9_nibble_139 : g_LK mX9_nibble mX9_whyNot 139 := ⟨g_tb 834 (by decide +kernel) (by decide +kernel), Nat.le_of_ble_eq_true rfl, Nat.le_of_ble_eq_true rfl⟩
theorem lkX9_nibble_152 : g_LK mX9_nibble mX9_strikes 152 := ⟨g_tb 871 (by decide +kernel) (by decide +kernel), Nat.le_of_ble_eq_true rfl, Nat.le_of_ble_eq_true rfl⟩
theorem lkX9_nibble_171 : g_LK mX9_nibble mX9_swaps 171 := ⟨g_tb 902 (by decide +kernel) (by decide +kernel), Nat.le_of_ble_eq_true rfl, Nat.le_of_ble_eq_true rfl⟩
theorem lkX9_nibble_149 : g_LK mX9_nibble mX9_note 149 := ⟨g_tb 867 (by decide +kernel) (by decide +kernel), Nat.le_of_ble_eq_true rfl, Nat.le_of_ble_eq_true rfl⟩
theorem lkX9_clamp_58 : g_LK mX9_clamp mX9_in 58 := ⟨g_tb 767 (by decide +kernel) (by decide +kernel), Nat.le_of_ble_eq_true rfl, Nat.le_of_ble_eq_true rfl⟩
theorem lkX9_clamp_149 : g_LK mX9_clamp mX9_note 149 := ⟨g_tb 867 (by decide +kernel) (by decide +kernel), Nat.le_of_ble_eq_true rfl, Nat.le_of_ble_eq_true rfl⟩
theorem lkX9_sharpen_134 : g_LK mX9_sharpen mX9_isStation 134 := ⟨g_tb 829 (by decide +kernel) (by decide +kernel), Nat.le_of_ble_eq_true rfl, Nat.le_of_ble_eq_true rfl⟩
theorem lkX9_sharpen_149 : g_LK mX9_sharpen mX9_note 149 := ⟨g_tb 867 (by decide +kernel) (by decide +kernel), Nat.le_of_ble_eq_true rfl, Nat.le_of_ble_eq_true rfl⟩
theorem lkX9_station_134 : g_LK mX9_station mX9_isStation 134 := ⟨g_tb 829 (by decide +kernel) (by decide +kernel), Nat.le_of_ble_eq_true rfl, Nat.le_of_ble_eq_true rfl⟩
theorem lkX9_station_58 : g_LK mX9_station mX9_in 58 := ⟨g_tb 767 (by decide +kernel) (by decide +kernel), Nat.le_of_ble_eq_true rfl, Nat.le_of_ble_eq_true rfl⟩
theorem lkX9_station_130 : g_LK mX9_station mX9_isDull 130 := ⟨g_tb 858 (by decide +kernel) (by decide +kernel), Nat.le_of_ble_eq_true rfl, Nat.le_of_ble_eq_true rfl⟩
theorem lkX9_station_143 : g_LK mX9_station mX9_ring 143 := ⟨g_tb 875 (by decide +kernel) (by decide +kernel), Nat.le_of_ble_eq_true rfl, Nat.le_of_ble_eq_true rfl⟩
theorem lkX9_hole_158 : g_LK mX9_hole mX9_isHole 158 := ⟨g_tb 883 (by decide +kernel) (by decide +kernel), Nat.le_of_ble_eq_true rfl, Nat.le_of_ble_eq_true rfl⟩
theorem lkX9_hole_58 : g_LK mX9_hole mX9_in 58 := ⟨g_tb 767 (by decide +kernel) (by decide +kernel), Nat.le_of_ble_eq_true rfl, Nat.le_of_ble_eq_true rfl⟩
theorem lkX9_hole_165 : g_LK mX9_hole mX9_open 165 := ⟨g_tb 894 (by decide +kernel) (by decide +kernel), Nat.le_of_ble_eq_true rfl, Nat.le_of_ble_eq_true rfl⟩
theorem lkX9_hits_158 : g_LK mX9_hits mX9_isHole 158 := ⟨g_tb 883 (by decide +kernel) (by decide +kernel), Nat.le_of_ble_eq_true rfl, Nat.le_of_ble_eq_true rfl⟩
theorem lkX9_hits_134 : g_LK mX9_hits mX9_isStation 134 := ⟨g_tb 829 (by decide +kernel) (by decide +kernel), Nat.le_of_ble_eq_true rfl, Nat.le_of_ble_eq_true rfl⟩
theorem lkX9_hits_58 : g_LK mX9_hits mX9_in 58 := ⟨g_tb 767 (by decide +kernel) (by decide +kernel), Nat.le_of_ble_eq_true rfl, Nat.le_of_ble_eq_true rfl⟩
theorem lkX9_hits_161 : g_LK mX9_hits mX9_nibbles 161 := ⟨g_tb 887 (by decide +kernel) (by decide +kernel), Nat.le_of_ble_eq_true rfl, Nat.le_of_ble_eq_true rfl⟩
theorem lkX9_cell_121 : g_LK mX9_cell mX9_isCell 121 := ⟨g_tb 846 (by decide +kernel) (by decide +kernel), Nat.le_of_ble_eq_true rfl, Nat.le_of_ble_eq_true rfl⟩
theorem lkX9_cell_58 : g_LK mX9_cell mX9_in 58 := ⟨g_tb 767 (by decide +kernel) (by decide +kernel), Nat.le_of_ble_eq_true rfl, Nat.le_of_ble_eq_true rfl⟩
theorem lkX9_cell_124 : g_LK mX9_cell mX9_holeAt 124 := ⟨g_tb 850 (by decide +kernel) (by decide +kernel), Nat.le_of_ble_eq_true rfl, Nat.le_of_ble_eq_true rfl⟩
theorem lkX9_cell_127 : g_LK mX9_cell mX9_clampAt 127 := ⟨g_tb 854 (by decide +kernel) (by decide +kernel), Nat.le_of_ble_eq_true rfl, Nat.le_of_ble_eq_true rfl⟩
theorem lkX9_column_58 : g_LK mX9_column mX9_in 58 := ⟨g_tb 767 (by decide +kernel) (by decide +kernel), Nat.le_of_ble_eq_true rfl, Nat.le_of_ble_eq_true rfl⟩
theorem lkX9_plans_182 : g_LK mX9_plans mX9_round 182 := ⟨g_tb 951 (by decide +kernel) (by decide +kernel), Nat.le_of_ble_eq_true rfl, Nat.le_of_ble_eq_true rfl⟩
theorem lkX9_plans_165 : g_LK mX9_plans mX9_open 165 := ⟨g_tb 894 (by decide +kernel) (by decide +kernel), Nat.le_of_ble_eq_true rfl, Nat.le_of_ble_eq_true rfl⟩
theorem lkX9_looks_165 : g_LK mX9_looks mX9_open 165 := ⟨g_tb 894 (by decide +kernel) (by decide +kernel), Nat.le_of_ble_eq_true rfl, Nat.le_of_ble_eq_true rfl⟩
theorem lkX9_looks_161 : g_LK mX9_looks mX9_nibbles 161 := ⟨g_tb 887 (by decide +kernel) (by decide +kernel), Nat.le_of_ble_eq_true rfl, Nat.le_of_ble_eq_true rfl⟩
theorem lkX9_plan_58 : g_LK mX9_plan mX9_in 58 := ⟨g_tb 767 (by decide +kernel) (by decide +kernel), Nat.le_of_ble_eq_true rfl, Nat.le_of_ble_eq_true rfl⟩
theorem lkX9_plan_193 : g_LK mX9_plan mX9_looks 193 := ⟨g_tb 943 (by decide +kernel) (by decide +kernel), Nat.le_of_ble_eq_true rfl, Nat.le_of_ble_eq_true rfl⟩
theorem lkX9_plan_196 : g_LK mX9_plan mX9_plans 196 := ⟨g_tb 947 (by decide +kernel) (by decide +kernel), Nat.le_of_ble_eq_true rfl, Nat.le_of_ble_eq_true rfl⟩
theorem lkX9_drawn_127 : g_LK mX9_drawn mX9_clampAt 127 := ⟨g_tb 854 (by decide +kernel) (by decide +kernel), Nat.le_of_ble_eq_true rfl, Nat.le_of_ble_eq_true rfl⟩
theorem lkX9_drawn_124 : g_LK mX9_drawn mX9_holeAt 124 := ⟨g_tb 850 (by decide +kernel) (by decide +kernel), Nat.le_of_ble_eq_true rfl, Nat.le_of_ble_eq_true rfl⟩
theorem lkX9_count_165 : g_LK mX9_count mX9_open 165 := ⟨g_tb 894 (by decide +kernel) (by decide +kernel), Nat.le_of_ble_eq_true rfl, Nat.le_of_ble_eq_true rfl⟩
theorem lkJ0_length_8abf5_335 : g_LK mJ0_length_8abf5 mJ0_coder_7d493 335 := ⟨g_tb 256 (by decide +kernel) (by decide +kernel), Nat.le_of_ble_eq_true rfl, Nat.le_of_ble_eq_true rfl⟩
theorem lkJ0_charAt_5068e_492 : g_LK mJ0_charAt_5068e mJ0_isLatin1_aae02 492 := ⟨g_tb 266 (by decide +kernel) (by decide +kernel), Nat.le_of_ble_eq_true rfl, Nat.le_of_ble_eq_true rfl⟩
theorem lkJ0_charAt_5068e_495 : g_LK mJ0_charAt_5068e mJ1_charAt_3b067 495 := ⟨g_tb 270 (by decide +kernel) (by decide +kernel), Nat.le_of_ble_eq_true rfl, Nat.le_of_ble_eq_true rfl⟩
theorem lkJ0_checkIndex_df160_1059 : g_LK mJ0_checkIndex_df160 mJ3_checkIndex_8e157 1059 := ⟨g_tb 278 (by decide +kernel) (by decide +kernel), Nat.le_of_ble_eq_true rfl, Nat.le_of_ble_eq_true rfl⟩
theorem lkJ1_charAt_3b067_9 : g_LK mJ1_charAt_3b067 mJ0_checkIndex_df160 9 := ⟨g_tb 273 (by decide +kernel) (by decide +kernel), Nat.le_of_ble_eq_true rfl, Nat.le_of_ble_eq_true rfl⟩
theorem lkL_law_9 : g_LK mL_law mX8_init 9 := ⟨g_tb 21 (by decide +kernel) (by decide +kernel), Nat.le_of_ble_eq_true rfl, Nat.le_of_ble_eq_true rfl⟩
theorem lkL_law_12 : g_LK mL_law mX9_init 12 := ⟨g_tb 700 (by decide +kernel) (by decide +kernel), Nat.le_of_ble_eq_true rfl, Nat.le_of_ble_eq_true rfl⟩
theorem lkL_law_13 : g_LK mL_law mX8_write 13 := ⟨g_tb 437 (by decide +kernel) (by decide +kernel), Nat.le_of_ble_eq_true rfl, Nat.le_of_ble_eq_true rfl⟩
theorem lkL_law_17 : g_LK mL_law mX9_write 17 := ⟨g_tb 761 (by decide +kernel) (by decide +kernel), Nat.le_of_ble_eq_true rfl, Nat.le_of_ble_eq_true rfl⟩
theorem lkL_law_18 : g_LK mL_law mX8_wipe 18 := ⟨g_tb 441 (by decide +kernel) (by decide +kernel), Nat.le_of_ble_eq_true rfl, Nat.le_of_ble_eq_true rfl⟩
theorem lkL_law_22 : g_LK mL_law mX9_wipe 22 := ⟨g_tb 770 (by decide +kernel) (by decide +kernel), Nat.le_of_ble_eq_true rfl, Nat.le_of_ble_eq_true rfl⟩
theorem lkL_law_23 : g_LK mL_law mX8_fault 23 := ⟨g_tb 445 (by decide +kernel) (by decide +kernel), Nat.le_of_ble_eq_true rfl, Nat.le_of_ble_eq_true rfl⟩
theorem lkL_law_26 : g_LK mL_law mX9_fault 26 := ⟨g_tb 774 (by decide +kernel) (by decide +kernel), Nat.le_of_ble_eq_true rfl, Nat.le_of_ble_eq_true rfl⟩
theorem lkL_law_27 : g_LK mL_law mX8_lay 27 := ⟨g_tb 449 (by decide +kernel) (by decide +kernel), Nat.le_of_ble_eq_true rfl, Nat.le_of_ble_eq_true rfl⟩
theorem lkL_law_30 : g_LK mL_law mX9_lay 30 := ⟨g_tb 812 (by decide +kernel) (by decide +kernel), Nat.le_of_ble_eq_true rfl, Nat.le_of_ble_eq_true rfl⟩
theorem lkL_law_31 : g_LK mL_law mX8_hit 31 := ⟨g_tb 453 (by decide +kernel) (by decide +kernel), Nat.le_of_ble_eq_true rfl, Nat.le_of_ble_eq_true rfl⟩
theorem lkL_law_35 : g_LK mL_law mX9_hit 35 := ⟨g_tb 862 (by decide +kernel) (by decide +kernel), Nat.le_of_ble_eq_true rfl, Nat.le_of_ble_eq_true rfl⟩
theorem lkL_law_36 : g_LK mL_law mX8_why 36 := ⟨g_tb 542 (by decide +kernel) (by decide +kernel), Nat.le_of_ble_eq_true rfl, Nat.le_of_ble_eq_true rfl⟩
theorem lkL_law_39 : g_LK mL_law mX9_why 39 := ⟨g_tb 825 (by decide +kernel) (by decide +kernel), Nat.le_of_ble_eq_true rfl, Nat.le_of_ble_eq_true rfl⟩
theorem lkL_law_40 : g_LK mL_law mX8_nibble 40 := ⟨g_tb 546 (by decide +kernel) (by decide +kernel), Nat.le_of_ble_eq_true rfl, Nat.le_of_ble_eq_true rfl⟩
theorem lkL_law_44 : g_LK mL_law mX9_nibble 44 := ⟨g_tb 879 (by decide +kernel) (by decide +kernel), Nat.le_of_ble_eq_true rfl, Nat.le_of_ble_eq_true rfl⟩
theorem lkL_law_45 : g_LK mL_law mX8_clamp 45 := ⟨g_tb 571 (by decide +kernel) (by decide +kernel), Nat.le_of_ble_eq_true rfl, Nat.le_of_ble_eq_true rfl⟩
theorem lkL_law_49 : g_LK mL_law mX9_clamp 49 := ⟨g_tb 906 (by decide +kernel) (by decide +kernel), Nat.le_of_ble_eq_true rfl, Nat.le_of_ble_eq_true rfl⟩
theorem lkL_law_50 : g_LK mL_law mX8_sharpen 50 := ⟨g_tb 585 (by decide +kernel) (by decide +kernel), Nat.le_of_ble_eq_true rfl, Nat.le_of_ble_eq_true rfl⟩
theorem lkL_law_53 : g_LK mL_law mX9_sharpen 53 := ⟨g_tb 911 (by decide +kernel) (by decide +kernel), Nat.le_of_ble_eq_true rfl, Nat.le_of_ble_eq_true rfl⟩
theorem lkL_law_54 : g_LK mL_law mX8_undo 54 := ⟨g_tb 589 (by decide +kernel) (by decide +kernel), Nat.le_of_ble_eq_true rfl, Nat.le_of_ble_eq_true rfl⟩
theorem lkL_law_57 : g_LK mL_law mX9_undo 57 := ⟨g_tb 817 (by decide +kernel) (by decide +kernel), Nat.le_of_ble_eq_true rfl, Nat.le_of_ble_eq_true rfl⟩
theorem lkL_law_58 : g_LK mL_law mX8_station 58 := ⟨g_tb 597 (by decide +kernel) (by decide +kernel), Nat.le_of_ble_eq_true rfl, Nat.le_of_ble_eq_true rfl⟩
theorem lkL_law_61 : g_LK mL_law mX9_station 61 := ⟨g_tb 915 (by decide +kernel) (by decide +kernel), Nat.le_of_ble_eq_true rfl, Nat.le_of_ble_eq_true rfl⟩
theorem lkL_law_62 : g_LK mL_law mX8_hole 62 := ⟨g_tb 606 (by decide +kernel) (by decide +kernel), Nat.le_of_ble_eq_true rfl, Nat.le_of_ble_eq_true rfl⟩
theorem lkL_law_65 : g_LK mL_law mX9_hole 65 := ⟨g_tb 920 (by decide +kernel) (by decide +kernel), Nat.le_of_ble_eq_true rfl, Nat.le_of_ble_eq_true rfl⟩
theorem lkL_law_66 : g_LK mL_law mX8_hits 66 := ⟨g_tb 611 (by decide +kernel) (by decide +kernel), Nat.le_of_ble_eq_true rfl, Nat.le_of_ble_eq_true rfl⟩
theorem lkL_law_69 : g_LK mL_law mX9_hits 69 := ⟨g_tb 925 (by decide +kernel) (by decide +kernel), Nat.le_of_ble_eq_true rfl, Nat.le_of_ble_eq_true rfl⟩
theorem lkL_law_70 : g_LK mL_law mX8_cell 70 := ⟨g_tb 615 (by decide +kernel) (by decide +kernel), Nat.le_of_ble_eq_true rfl, Nat.le_of_ble_eq_true rfl⟩
theorem lkL_law_73 : g_LK mL_law mX9_cell 73 := ⟨g_tb 929 (by decide +kernel) (by decide +kernel), Nat.le_of_ble_eq_true rfl, Nat.le_of_ble_eq_true rfl⟩
theorem lkL_law_74 : g_LK mL_law mX8_column 74 := ⟨g_tb 634 (by decide +kernel) (by decide +kernel), Nat.le_of_ble_eq_true rfl, Nat.le_of_ble_eq_true rfl⟩
theorem lkL_law_77 : g_LK mL_law mX9_column 77 := ⟨g_tb 934 (by decide +kernel) (by decide +kernel), Nat.le_of_ble_eq_true rfl, Nat.le_of_ble_eq_true rfl⟩
theorem lkL_law_78 : g_LK mL_law mX8_plan 78 := ⟨g_tb 638 (by decide +kernel) (by decide +kernel), Nat.le_of_ble_eq_true rfl, Nat.le_of_ble_eq_true rfl⟩
theorem lkL_law_81 : g_LK mL_law mX9_plan 81 := ⟨g_tb 938 (by decide +kernel) (by decide +kernel), Nat.le_of_ble_eq_true rfl, Nat.le_of_ble_eq_true rfl⟩
theorem lkL_law_82 : g_LK mL_law mX8_drawn 82 := ⟨g_tb 678 (by decide +kernel) (by decide +kernel), Nat.le_of_ble_eq_true rfl, Nat.le_of_ble_eq_true rfl⟩
theorem lkL_law_85 : g_LK mL_law mX9_drawn 85 := ⟨g_tb 955 (by decide +kernel) (by decide +kernel), Nat.le_of_ble_eq_true rfl, Nat.le_of_ble_eq_true rfl⟩
theorem lkL_law_86 : g_LK mL_law mX8_count 86 := ⟨g_tb 686 (by decide +kernel) (by decide +kernel), Nat.le_of_ble_eq_true rfl, Nat.le_of_ble_eq_true rfl⟩
theorem lkL_law_89 : g_LK mL_law mX9_count 89 := ⟨g_tb 959 (by decide +kernel) (by decide +kernel), Nat.le_of_ble_eq_true rfl, Nat.le_of_ble_eq_true rfl⟩
end
section
theorem kiJ6_265 : Cond.constant RJ6 265 (Int32.ofInt (1431655765)) ∈ gTb := g_tb 512 (by decide +kernel) (by decide +kernel)
theorem kiJ6_266 : Cond.constant RJ6 266 (Int32.ofInt (858993459)) ∈ gTb := g_tb 513 (by decide +kernel) (by decide +kernel)
theorem kiJ6_267 : Cond.constant RJ6 267 (Int32.ofInt (252645135)) ∈ gTb := g_tb 514 (by decide +kernel) (by decide +kernel)
theorem klX9_54 : Cond.constantLong RX9 54 (Int64.ofInt (32)) ∈ gTb := g_tb 765 (by decide +kernel) (by decide +kernel)
theorem klX9_56 : Cond.constantLong RX9 56 (Int64.ofInt (126)) ∈ gTb := g_tb 766 (by decide +kernel) (by decide +kernel)
theorem klX9_78 : Cond.constantLong RX9 78 (Int64.ofInt (96)) ∈ gTb := g_tb 785 (by decide +kernel) (by decide +kernel)
theorem klX9_76 : Cond.constantLong RX9 76 (Int64.ofInt (31)) ∈ gTb := g_tb 794 (by decide +kernel) (by decide +kernel)
theorem klX9_72 : Cond.constantLong RX9 72 (Int64.ofInt (48)) ∈ gTb := g_tb 799 (by decide +kernel) (by decide +kernel)
theorem klX9_74 : Cond.constantLong RX9 74 (Int64.ofInt (57)) ∈ gTb := g_tb 800 (by decide +kernel) (by decide +kernel)
theorem klX9_137 : Cond.constantLong RX9 137 (Int64.ofInt (99)) ∈ gTb := g_tb 833 (by decide +kernel) (by decide +kernel)
theorem klX9_174 : Cond.constantLong RX9 174 (Int64.ofInt (-1)) ∈ gTb := g_tb 910 (by decide +kernel) (by decide +kernel)
theorem klX9_176 : Cond.constantLong RX9 176 (Int64.ofInt (6)) ∈ gTb := g_tb 919 (by decide +kernel) (by decide +kernel)
theorem klX9_178 : Cond.constantLong RX9 178 (Int64.ofInt (5)) ∈ gTb := g_tb 924 (by decide +kernel) (by decide +kernel)
theorem klX9_180 : Cond.constantLong RX9 180 (Int64.ofInt (2)) ∈ gTb := g_tb 933 (by decide +kernel) (by decide +kernel)
theorem klX9_191 : Cond.constantLong RX9 191 (Int64.ofInt (-2)) ∈ gTb := g_tb 942 (by decide +kernel) (by decide +kernel)
end
section
/-! A small world over the machine: the heap of the law's own objects as a list (a cell's number is its place; real address = base + place),
    read-only cells (the script, String constants) as .float numbers. 'Go': from here the method comes to its end with 'Φ answer heap'. -/
abbrev g_W : Type := Nat × (Nat → Nat) × va_G × (Nat → ClassId) × Nat × (Nat → Int32) × Value
def g_ba (w : g_W) : Nat := w.1
def g_ro (w : g_W) : Nat → Nat := w.2.1
def g_D (w : g_W) : va_G := w.2.2.1
def g_ca (w : g_W) : Nat → ClassId := w.2.2.2.1
def g_L (w : g_W) : Nat := w.2.2.2.2.1
def g_xs (w : g_W) : Nat → Int32 := w.2.2.2.2.2.1
def g_sv (w : g_W) : Value := w.2.2.2.2.2.2
def g_V (w : g_W) : Value → Value
  | .ref k => .ref (g_ba w + k)
  | .float j => .ref (g_ro w j.toNat)
  | v => v
theorem g_V_cat (w : g_W) (v : Value) : (g_V w v).category = v.category := by cases v <;> rfl
def g_E (w : g_W) : va_E → va_E
  | .inl (t, n, .inl f) => .inl (g_ca w t, n, .inl f)
  | .inl (t, n, .inr (.inr (.inr (.inr f)))) => .inl (g_ca w t, n, .inr (.inr (.inr (.inr (fun j => (f j).map (fun k => g_ba w + k))))))
  | .inl (t, n, .inr (.inl f)) => .inl (g_ca w t, n, .inr (.inl f))
  | .inl (t, n, .inr (.inr (.inl f))) => .inl (g_ca w t, n, .inr (.inr (.inl f)))
  | .inl (t, n, .inr (.inr (.inr (.inl f)))) => .inl (g_ca w t, n, .inr (.inr (.inr (.inl f))))
  | .inr (ci, fs) => .inr (ci, fs.map (g_V w))
abbrev g_H0 : Type := List va_E
def g_S (w : g_W) (σ : g_H0) : va_W := σ.mapIdx (fun i e => (g_ba w + i, g_E w e))
theorem g_S_get (w : g_W) (σ : g_H0) (k : Nat) : (g_S w σ)[k]? = (σ[k]?).map (fun e => (g_ba w + k, g_E w e)) := by
  simp [g_S]
theorem g_S_at {w : g_W} {σ : g_H0} {k : Nat} {e : va_E} (h : σ[k]? = some e) : (g_S w σ)[k]? = some (g_ba w + k, g_E w e) := by
  rw [g_S_get, h]; rfl
theorem g_S_set (w : g_W) (σ : g_H0) (k : Nat) (e : va_E) : g_S w (σ.set k e) = (g_S w σ).set k (g_ba w + k, g_E w e) := by
  apply List.ext_getElem?
  intro i
  rw [g_S_get]
  by_cases h : k = i
  · subst h
    by_cases hl : k < σ.length
    · rw [List.getElem?_set_self hl, List.getElem?_set_self (by simpa [g_S] using hl)]; rfl
    · rw [List.getElem?_eq_none (by simpa using Nat.not_lt.mp hl), List.getElem?_eq_none (by simpa [g_S] using Nat.not_lt.mp hl)]; rfl
  · rw [List.getElem?_set_ne h, List.getElem?_set_ne h, g_S_get]
theorem g_S_push (w : g_W) (σ : g_H0) (e : va_E) : g_S w (σ ++ [e]) = g_S w σ ++ [(g_ba w + σ.length, g_E w e)] := by
  simp [g_S]
def g_A (w : g_W) : Nat → Prop := fun q => g_ba w ≤ q
theorem g_S_D (w : g_W) (σ : g_H0) : va_D (g_A w) (g_S w σ) := by
  refine ⟨fun i j p q hi hj hpq => ?_, fun k q hk => ?_⟩
  · rw [g_S_get] at hi hj
    obtain ⟨e1, -, rfl⟩ := Option.map_eq_some_iff.mp hi
    obtain ⟨e2, -, rfl⟩ := Option.map_eq_some_iff.mp hj
    have : g_ba w + i = g_ba w + j := hpq
    omega
  · rw [g_S_get] at hk
    obtain ⟨e1, -, rfl⟩ := Option.map_eq_some_iff.mp hk
    exact Nat.le_add_right _ _
def g_tys (w : g_W) : List (ClassId × FieldType) := [(g_ca w 0, .int), (g_ca w 1, .char), (g_ca w 2, .object RX5), (g_ca w 3, .object RX7), (g_ca w 4, .object RX0)]
/-- the String constants: where each stands, its text -/
def g_sOwn (i : Nat) : String := if i = 0 then RX8 else RX4
def g_sIdx (i : Nat) : Nat := match i with
  | 0 => 64
  | 1 => 33
  | 2 => 47
  | 3 => 53
  | _ => 58
def g_sTx (i : Nat) : String := match i with
  | 0 => "sheet 10,8;tool 2,2,0,40;tool 3,1,1,12;tool 1,1,0,99;hole 1,1,4,2;hole 6,1,3,3;hole 2,5,1,3;hole 6,6,3,1;clamp 0;clamp 7;"
  | 1 => "sheet "
  | 2 => "tool "
  | 3 => "hole "
  | _ => "clamp "
def g_sB (i : Nat) : List Int32 := (g_sTx i).toList.map (fun c => Int32.ofNat c.toNat)
def g_sLen : List Nat := (List.range 5).map (fun i => (g_sB i).length)
def g_sByt : List (List Int32) := (List.range 5).map g_sB
def g_Str (w : g_W) (U : State) : Prop :=
  vk_S 5 g_sLen g_sByt (fun i => g_ro w (1 + i)) (fun i => g_ro w (11 + i)) (g_A w) U U.heap ∧
  (∀ i, i < 5 → vk_R (g_sOwn i) (g_sIdx i) (g_sTx i) (g_ro w (1 + i)) U) ∧
  va_Z "java/lang/String" "COMPACT_STRINGS" "Z" (.int 1) (g_A w) U U.heap ∧
  va_Z "jdk/internal/util/Preconditions" "SIOOBE_FORMATTER" "Ljava/util/function/BiFunction;" (g_V w (g_sv w)) (g_A w) U U.heap ∧ (g_sv w = .null ∨ ∃ j : UInt32, g_sv w = .float j)
def g_Nest (U : State) : Prop := (∀ (a : String) (i : Nat) (x : MethodName) (h : String), Cond.methodLinkNest a i x h ∈ tables_1 → va_Nw (.methodLinkNest a i x h) U) ∧ ∀ C : String, Cond.arrayOver (.object C) ∈ tables_1 → va_AO C U
def g_RO (w : g_W) (U : State) : Prop := (va_X (g_ro w 0) (g_L w) (g_xs w) U U.heap ∧ g_ro w 0 < g_ba w) ∧ g_Str w U ∧ g_Nest U
theorem g_RO.moved {w : g_W} {s U : State} (h : g_RO w s) (hW : s.WarmedH U.vm) (hk : ∀ q : Nat, q < s.heap.size → ¬ g_A w q → U.heap[q]? = s.heap[q]?) (hb : g_ba w ≤ s.heap.size) : g_RO w U := by
  obtain ⟨⟨h1, h2⟩, ⟨h3, h4, h5, h6, h9⟩, h7, h8⟩ := h
  have al := hW.alike
  exact ⟨⟨(h1.kept (hk _ (Nat.lt_of_lt_of_le h2 hb) (Nat.not_le.mpr h2))).moved al, h2⟩, ⟨(h3.kept hk).moved al, fun i hi => (h4 i hi).warm hW, (h5.kept hk).moved al, (h6.kept hk).moved al, h9⟩, fun a i x h hm => (h7 a i x h hm).warmM hW, fun C hm => (h8 C hm).moved al⟩
theorem g_RO.same {w : g_W} {s U : State} (h : g_RO w s) (hv : U.vm = s.vm) (hh : U.heap = s.heap) : g_RO w U := by
  obtain ⟨⟨h1, h2⟩, ⟨h3, h4, h5, h6, h9⟩, h7, h8⟩ := h
  have al : s.vm.Alike U.vm := by rw [hv]; exact Vm.Alike.refl _
  exact ⟨⟨by rw [hh]; exact h1.moved al, h2⟩, ⟨by rw [hh]; exact h3.moved al, fun i hi => (h4 i hi).same hv, by rw [hh]; exact h5.moved al, by rw [hh]; exact h6.moved al, h9⟩, fun a i x h hm => (h7 a i x h hm).same rfl hv.symm, fun C hm => (h8 C hm).moved al⟩
/-- the heap holds the list -/
def g_H (w : g_W) (σ : g_H0) (H : Heap) : Prop := H.size = g_ba w + σ.length ∧ va_P (g_D w) vwCl (g_S w σ) H
def g_rm (M : g_MD) : Room := { frames := M.2.2.2.2.2.1, cells := M.2.2.2.2.2.2.2.1, slots := M.2.2.2.2.2.2.2.2, locals := M.2.2.2.2.2.2.1 }
def g_ws (M : g_MD) : List Cond := .code M.1 M.2.1 M.2.2.1 M.2.2.2.1 :: gTb
abbrev g_Post : Type := Option Value → g_H0 → Prop
def g_Q (w : g_W) (Φ : g_Post) : Array Value → State → Outcome → State → Prop := fun _ st oc t => (∃ (r : Option Value) (σ' : g_H0), Φ r σ' ∧ oc = .returned (r.map (g_V w)) ∧ g_H w σ' t.heap) ∧ va_F (g_A w) st t
def g_Pc (w : g_W) (as : List Value) (σ : g_H0) : Array Value → State → Prop := va_Pc (as.map (g_V w)) (fun U => g_H w σ U.heap ∧ va_K (g_D w) vwCl (g_tys w) U ∧ g_RO w U)
/-- the method's contract, in the small world -/
def Ret (M : g_MD) (as : List Value) (σ : g_H0) (Φ : g_Post) : Prop :=
  ∀ (w : g_W) (l : Launch), Met l M.1 (g_ws M) (g_rm M) (g_Pc w as σ) (g_Q w Φ) (g_rm M).cells (g_rm M).slots (g_A w)
def g_LR (w : g_W) (ml : List (Option Value)) (ls : Array Slot) : Prop := ls.size = ml.length ∧ lv_wf ls ∧ ∀ (i : Nat) (v : Value), ml[i]? = some (some v) → ls[i]? = some (.val (g_V w v))
def g_Cx (w : g_W) (M : g_MD) (p : Program) (s : State) (m : MethodId) (args : Array Value) (meth : Method) (c : Code) : Prop :=
  p.tables.exec = Jvm.exec ∧ c.code = M.2.1 ∧ meth.sig.returnType = M.2.2.2.1 ∧ c.maxLocals = M.2.2.1 ∧ (∀ x ∈ gTb, x.before args s = true) ∧ s.vm.findClass M.1.cls = some m.cls ∧ meth.locks = false ∧ meth.name = M.1.name ∧ va_K (g_D w) vwCl (g_tys w) s ∧ g_RO w s ∧ g_ba w ≤ s.heap.size
def Go (w : g_W) (M : g_MD) (cs : Nat × Nat) (pc : Nat) (ml : List (Option Value)) (st : List Value) (σ : g_H0) (Φ : g_Post) : Prop :=
  ∀ (p : Program) (l : Launch) (e : Env) (s : State) (m : MethodId) (args : Array Value) (below : List Frame) (meth : Method) (c : Code), g_Cx w M p s m args meth c →
    ∀ (H : Heap) (locs : List Loc) (ls : Array Slot), g_H w σ H → va_S (g_A w) s.heap H locs → ml.length = M.2.2.1 → g_LR w ml ls →
      W p l e (g_rm M) s m args below meth c H locs cs.1 cs.2 (MQ below (g_Q w Φ) args s (g_rm M).cells (g_rm M).slots (g_A w)) (F0 m pc ls (st.map (g_V w)))
theorem Go.mono {w : g_W} {M : g_MD} {cs : Nat × Nat} {pc : Nat} {ml : List (Option Value)} {st : List Value} {σ : g_H0} {Φ Ψ : g_Post} (h : Go w M cs pc ml st σ Φ) (hi : ∀ r σ', Φ r σ' → Ψ r σ') : Go w M cs pc ml st σ Ψ := by
  intro p l e s m args below meth c C H locs ls hH hS hn hL T hT X
  obtain ⟨t, h1, o, h2, h3, ⟨⟨r, σ', q1, q2, q3⟩, q4⟩, h5⟩ := h p l e s m args below meth c C H locs ls hH hS hn hL T hT X
  exact ⟨t, h1, o, h2, h3, ⟨⟨r, σ', hi r σ' q1, q2, q3⟩, q4⟩, h5⟩
theorem Met.post {l : Launch} {y : MethodName} {ws : List Cond} {rm : Room} {Pc : Array Value → State → Prop} {Qc Qd : Array Value → State → Outcome → State → Prop} {mc ms : Nat} {free : Addr → Prop} (h : Met l y ws rm Pc Qc mc ms free) (hi : ∀ a s o t, Qc a s o t → Qd a s o t) : Met l y ws rm Pc Qd mc ms free := by
  intro p e ha hc hk s m args below hf happ hP hT
  obtain ⟨k, o, h1, h2, h3, h4, h5⟩ := h p e ha hc hk s m args below hf happ hP hT
  exact ⟨k, o, h1, h2, h3, hi _ _ _ _ h4, h5⟩
theorem Ret.mono {M : g_MD} {as : List Value} {σ : g_H0} {Φ Ψ : g_Post} (h : Ret M as σ Φ) (hi : ∀ r σ', Φ r σ' → Ψ r σ') : Ret M as σ Ψ :=
  fun w l => Met.post (h w l) (fun _ _ _ _ ⟨⟨r, σ', q1, q2, q3⟩, q4⟩ => ⟨⟨r, σ', hi r σ' q1, q2, q3⟩, q4⟩)
/-! the locals at a method's start -/
def g_ml0 : List Value → List (Option Value)
  | [] => []
  | v :: vs => if v.category = 2 then some v :: none :: g_ml0 vs else some v :: g_ml0 vs
def g_ml (as : List Value) (n : Nat) : List (Option Value) := g_ml0 as ++ List.replicate (n - (g_ml0 as).length) none
theorem g_ml0_args (w : g_W) : ∀ (as : List Value) (o i : Nat) (v : Value), (g_ml0 as)[i]? = some (some v) → (o + i, g_V w v) ∈ lv_args o (as.map (g_V w))
  | [], o, i, v, h => by simp [g_ml0] at h
  | a :: as, o, i, v, h => by
    by_cases hc : a.category = 2
    · simp only [g_ml0, hc, if_true] at h
      simp only [List.map_cons, lv_args, g_V_cat, hc, if_true]
      match i, h with
      | 0, h => simp at h; subst h; exact List.mem_cons.mpr (Or.inl rfl)
      | 1, h => simp at h
      | i + 2, h =>
        have h' : (g_ml0 as)[i]? = some (some v) := by simpa using h
        have := g_ml0_args w as (o + 2) i v h'
        rw [show o + (i + 2) = o + 2 + i by omega]
        exact List.mem_cons_of_mem _ this
    · simp only [g_ml0, hc, if_false] at h
      simp only [List.map_cons, lv_args, g_V_cat, hc, if_false]
      match i, h with
      | 0, h => simp at h; subst h; exact List.mem_cons.mpr (Or.inl rfl)
      | i + 1, h =>
        have h' : (g_ml0 as)[i]? = some (some v) := by simpa using h
        have := g_ml0_args w as (o + 1) i v h'
        rw [show o + (i + 1) = o + 1 + i by omega]
        exact List.mem_cons_of_mem _ this
theorem g_ml0_len (w : g_W) : ∀ as : List Value, (lg_sl (as.map (g_V w))).length = (g_ml0 as).length
  | [] => rfl
  | a :: as => by
    have ih := g_ml0_len w as
    simp only [lg_sl, List.map_cons, List.flatMap_cons, List.length_append] at ih ⊢
    rw [ih]
    by_cases hc : a.category = 2
    · simp [g_ml0, g_V_cat, hc]; omega
    · simp [g_ml0, g_V_cat, hc]; omega
/-- a contract out of a walk from the method's entry -/
theorem Ret.of {M : g_MD} {as : List Value} {σ : g_H0} {Φ : g_Post} (hm : g_MO M) (hn : (g_ml0 as).length ≤ M.2.2.1) (h : ∀ w : g_W, Go w M (0, 0) 0 (g_ml as M.2.2.1) [] σ Φ) : Ret M as σ Φ := by
  intro w l
  refine Met.ofW (cc := M.2.1) (maxL := M.2.2.1) (ret := M.2.2.2.1) hm.2.2.1 rfl ?_
  intro p e s m args below meth c s₁ B hml hv
  obtain ⟨rfl, hH, hK, hR⟩ := hv
  have hts := atoms_spec (ws := g_ws M) B.pre
  have hl := lv_entry (as.map (g_V w)) (n := M.2.2.1) (by rw [g_ml0_len]; exact hn)
  rw [lg_entry_eq]
  generalize (lg_sl (as.map (g_V w)) ++ List.replicate (M.2.2.1 - (lg_sl (as.map (g_V w))).length) Slot.unset).toArray = ls at hl ⊢
  have hlen : (g_ml as M.2.2.1).length = M.2.2.1 := by simp [g_ml]; omega
  refine h w p l e s m _ below meth c ⟨B.exec, B.bytes, B.returns, hml, fun x hx => hts x (List.mem_cons_of_mem _ hx), findClass_of_methodNamed B.named, B.notSynchronized, (name_of_methodNamed B.named B.method).1, hK, hR, ?_⟩ s.heap [] ls hH va_S.rf hlen ⟨?_, hl.2.1, ?_⟩
  · have := hH.1; omega
  · rw [hl.1, hlen]
  · intro i v hi
    refine hl.2.2 (i, g_V w v) ?_
    have hi0 : (g_ml0 as)[i]? = some (some v) := by
      unfold g_ml at hi
      by_cases hlt : i < (g_ml0 as).length
      · rwa [List.getElem?_append_left hlt] at hi
      · rw [List.getElem?_append_right (Nat.not_lt.mp hlt)] at hi
        have := List.eq_of_mem_replicate (List.mem_of_getElem? hi)
        cases this
    have := g_ml0_args w as 0 i v hi0
    rwa [Nat.zero_add] at this
/-! storing into the locals -/
def g_lp (w : g_W) (ml : List (Option Value)) : List (Nat × Value) := (List.range ml.length).filterMap (fun i => (ml[i]?.join).map (fun v => (i, g_V w v)))
theorem g_lp_mem {w : g_W} {ml : List (Option Value)} {i : Nat} {u : Value} : (i, u) ∈ g_lp w ml ↔ ∃ v, ml[i]? = some (some v) ∧ u = g_V w v := by
  unfold g_lp
  rw [List.mem_filterMap]
  constructor
  · rintro ⟨j, -, hj⟩
    obtain ⟨v, h1, h2⟩ := Option.map_eq_some_iff.mp hj
    cases h2
    exact ⟨v, by cases hm : ml[i]? with
      | none => rw [hm] at h1; cases h1
      | some o => rw [hm] at h1; simp at h1; rw [h1], rfl⟩
  · rintro ⟨v, h1, rfl⟩
    exact ⟨i, List.mem_range.mpr (List.getElem?_eq_some_iff.mp h1).1, by rw [h1]; rfl⟩
theorem g_LR.has {w : g_W} {ml : List (Option Value)} {ls : Array Slot} (h : g_LR w ml ls) : lv_has ls ml.length (g_lp w ml) := by
  refine ⟨h.1, h.2.1, fun q hq => ?_⟩
  obtain ⟨i, u⟩ := q
  obtain ⟨v, h1, rfl⟩ := g_lp_mem.mp hq
  exact h.2.2 i v h1
def g_nl (ml : List (Option Value)) (k : Nat) : Bool := match k with
  | 0 => true
  | k + 1 => match ml[k]? with
    | some (some v) => v.category == 1
    | _ => true
theorem g_nl_use {ml : List (Option Value)} {k i : Nat} {v : Value} (h : g_nl ml k = true) (hi : i + 1 = k) (hv : ml[i]? = some (some v)) : v.category = 1 := by
  subst hi
  simp only [g_nl, hv] at h
  simpa using h
theorem g_LR.put {w : g_W} {ml : List (Option Value)} {ls' : Array Slot} {k : Nat} {v : Value} (hn : g_nl ml k = true) (hk : k < ml.length) (h : lv_has ls' ml.length ((k, g_V w v) :: (g_lp w ml).filter (fun q => !(q.1 == k) && !(q.1 + 1 == k && q.2.category == 2)))) : g_LR w (ml.set k (some v)) ls' := by
  refine ⟨by rw [h.1]; simp, h.2.1, fun i u hi => ?_⟩
  by_cases he : k = i
  · subst he
    rw [List.getElem?_set_self hk] at hi
    cases hi
    exact h.2.2 (k, g_V w v) List.mem_cons_self
  · rw [List.getElem?_set_ne he] at hi
    refine h.2.2 (i, g_V w u) (List.mem_cons_of_mem _ (List.mem_filter.mpr ⟨g_lp_mem.mpr ⟨u, hi, rfl⟩, ?_⟩))
    have h1 : ¬ i = k := fun q => he q.symm
    by_cases h2 : i + 1 = k
    · have := g_nl_use hn h2 hi
      simp [h1, h2, g_V_cat, this]
    · simp [h1, h2]
end
section
theorem g_iconst {w : g_W} {M : g_MD} {cs : Nat × Nat} {pc : Nat} {q : Nat} {ml : List (Option Value)} {st : List Value} {σ : g_H0} {Φ : g_Post} {n : Int} {v : Int32} (hd : decode M.2.1 pc = .ok (.iconst n, 1)) (hv : Int32.ofInt n = v) (hq : pc + 1 = q) (k : Go w M cs q ml (.int v :: st) σ Φ) : Go w M cs pc ml (st) σ Φ := by
  subst hq
  intro p l e s m args below meth c C H locs ls hH hS hn hL
  exact lv_iconst C.1 C.2.1 hd hv (k p l e s m args below meth c C H locs ls hH hS hn hL)
theorem g_bipush {w : g_W} {M : g_MD} {cs : Nat × Nat} {pc : Nat} {q : Nat} {ml : List (Option Value)} {st : List Value} {σ : g_H0} {Φ : g_Post} {n : Int} {v : Int32} (hd : decode M.2.1 pc = .ok (.bipush n, 2)) (hv : (Int8.ofInt n).toInt32 = v) (hq : pc + 2 = q) (k : Go w M cs q ml (.int v :: st) σ Φ) : Go w M cs pc ml (st) σ Φ := by
  subst hq
  intro p l e s m args below meth c C H locs ls hH hS hn hL
  exact lv_bipush C.1 C.2.1 hd hv (k p l e s m args below meth c C H locs ls hH hS hn hL)
theorem g_sipush {w : g_W} {M : g_MD} {cs : Nat × Nat} {pc : Nat} {q : Nat} {ml : List (Option Value)} {st : List Value} {σ : g_H0} {Φ : g_Post} {n : Int} {v : Int32} (hd : decode M.2.1 pc = .ok (.sipush n, 3)) (hv : (Int16.ofInt n).toInt32 = v) (hq : pc + 3 = q) (k : Go w M cs q ml (.int v :: st) σ Φ) : Go w M cs pc ml (st) σ Φ := by
  subst hq
  intro p l e s m args below meth c C H locs ls hH hS hn hL
  exact lv_sipush C.1 C.2.1 hd hv (k p l e s m args below meth c C H locs ls hH hS hn hL)
theorem g_lconst {w : g_W} {M : g_MD} {cs : Nat × Nat} {pc : Nat} {q : Nat} {ml : List (Option Value)} {st : List Value} {σ : g_H0} {Φ : g_Post} {n : Fin 2} {v : Int64} (hd : decode M.2.1 pc = .ok (.lconst n, 1)) (hv : Int64.ofNat (n : Nat) = v) (hq : pc + 1 = q) (k : Go w M cs q ml (.long v :: st) σ Φ) : Go w M cs pc ml (st) σ Φ := by
  subst hq
  intro p l e s m args below meth c C H locs ls hH hS hn hL
  exact lv_lconst C.1 C.2.1 hd hv (k p l e s m args below meth c C H locs ls hH hS hn hL)
theorem g_iload_n {w : g_W} {M : g_MD} {cs : Nat × Nat} {pc : Nat} {q : Nat} {ml : List (Option Value)} {st : List Value} {σ : g_H0} {Φ : g_Post} {i : Fin 4} {x : Int32} (hd : decode M.2.1 pc = .ok (.iload_n i, 1)) (hl : ml[(i : Nat)]? = some (some (.int x))) (hq : pc + 1 = q) (k : Go w M cs q ml (.int x :: st) σ Φ) : Go w M cs pc ml (st) σ Φ := by
  subst hq
  intro p l e s m args below meth c C H locs ls hH hS hn hL
  exact lv_iload_n C.1 C.2.1 hd rfl (hL.2.2 _ _ hl) (k p l e s m args below meth c C H locs ls hH hS hn hL)
theorem g_iload {w : g_W} {M : g_MD} {cs : Nat × Nat} {pc : Nat} {q : Nat} {ml : List (Option Value)} {st : List Value} {σ : g_H0} {Φ : g_Post} {i : Nat} {x : Int32} (hd : decode M.2.1 pc = .ok (.iload i, 2)) (hl : ml[i]? = some (some (.int x))) (hq : pc + 2 = q) (k : Go w M cs q ml (.int x :: st) σ Φ) : Go w M cs pc ml (st) σ Φ := by
  subst hq
  intro p l e s m args below meth c C H locs ls hH hS hn hL
  exact lv_iload C.1 C.2.1 hd (hL.2.2 _ _ hl) (k p l e s m args below meth c C H locs ls hH hS hn hL)
theorem g_lload_n {w : g_W} {M : g_MD} {cs : Nat × Nat} {pc : Nat} {q : Nat} {ml : List (Option Value)} {st : List Value} {σ : g_H0} {Φ : g_Post} {i : Fin 4} {x : Int64} (hd : decode M.2.1 pc = .ok (.lload_n i, 1)) (hl : ml[(i : Nat)]? = some (some (.long x))) (hq : pc + 1 = q) (k : Go w M cs q ml (.long x :: st) σ Φ) : Go w M cs pc ml (st) σ Φ := by
  subst hq
  intro p l e s m args below meth c C H locs ls hH hS hn hL
  exact lv_lload_n C.1 C.2.1 hd rfl (hL.2.2 _ _ hl) (k p l e s m args below meth c C H locs ls hH hS hn hL)
theorem g_lload {w : g_W} {M : g_MD} {cs : Nat × Nat} {pc : Nat} {q : Nat} {ml : List (Option Value)} {st : List Value} {σ : g_H0} {Φ : g_Post} {i : Nat} {x : Int64} (hd : decode M.2.1 pc = .ok (.lload i, 2)) (hl : ml[i]? = some (some (.long x))) (hq : pc + 2 = q) (k : Go w M cs q ml (.long x :: st) σ Φ) : Go w M cs pc ml (st) σ Φ := by
  subst hq
  intro p l e s m args below meth c C H locs ls hH hS hn hL
  exact lv_lload C.1 C.2.1 hd (hL.2.2 _ _ hl) (k p l e s m args below meth c C H locs ls hH hS hn hL)
theorem g_aload_n {w : g_W} {M : g_MD} {cs : Nat × Nat} {pc : Nat} {q : Nat} {ml : List (Option Value)} {st : List Value} {σ : g_H0} {Φ : g_Post} {i : Fin 4} {x : Nat} (hd : decode M.2.1 pc = .ok (.aload_n i, 1)) (hl : ml[(i : Nat)]? = some (some (.ref x))) (hq : pc + 1 = q) (k : Go w M cs q ml (.ref x :: st) σ Φ) : Go w M cs pc ml (st) σ Φ := by
  subst hq
  intro p l e s m args below meth c C H locs ls hH hS hn hL
  exact lv_aload_n C.1 C.2.1 hd rfl (hL.2.2 _ _ hl) (k p l e s m args below meth c C H locs ls hH hS hn hL)
theorem g_aload {w : g_W} {M : g_MD} {cs : Nat × Nat} {pc : Nat} {q : Nat} {ml : List (Option Value)} {st : List Value} {σ : g_H0} {Φ : g_Post} {i : Nat} {x : Nat} (hd : decode M.2.1 pc = .ok (.aload i, 2)) (hl : ml[i]? = some (some (.ref x))) (hq : pc + 2 = q) (k : Go w M cs q ml (.ref x :: st) σ Φ) : Go w M cs pc ml (st) σ Φ := by
  subst hq
  intro p l e s m args below meth c C H locs ls hH hS hn hL
  exact lv_aload C.1 C.2.1 hd (hL.2.2 _ _ hl) (k p l e s m args below meth c C H locs ls hH hS hn hL)
theorem g_aloadF_n {w : g_W} {M : g_MD} {cs : Nat × Nat} {pc : Nat} {q : Nat} {ml : List (Option Value)} {st : List Value} {σ : g_H0} {Φ : g_Post} {i : Fin 4} {x : UInt32} (hd : decode M.2.1 pc = .ok (.aload_n i, 1)) (hl : ml[(i : Nat)]? = some (some (.float x))) (hq : pc + 1 = q) (k : Go w M cs q ml (.float x :: st) σ Φ) : Go w M cs pc ml (st) σ Φ := by
  subst hq
  intro p l e s m args below meth c C H locs ls hH hS hn hL
  exact lv_aload_n C.1 C.2.1 hd rfl (hL.2.2 _ _ hl) (k p l e s m args below meth c C H locs ls hH hS hn hL)
theorem g_aloadF {w : g_W} {M : g_MD} {cs : Nat × Nat} {pc : Nat} {q : Nat} {ml : List (Option Value)} {st : List Value} {σ : g_H0} {Φ : g_Post} {i : Nat} {x : UInt32} (hd : decode M.2.1 pc = .ok (.aload i, 2)) (hl : ml[i]? = some (some (.float x))) (hq : pc + 2 = q) (k : Go w M cs q ml (.float x :: st) σ Φ) : Go w M cs pc ml (st) σ Φ := by
  subst hq
  intro p l e s m args below meth c C H locs ls hH hS hn hL
  exact lv_aload C.1 C.2.1 hd (hL.2.2 _ _ hl) (k p l e s m args below meth c C H locs ls hH hS hn hL)
theorem g_istore_n {w : g_W} {M : g_MD} {cs : Nat × Nat} {pc : Nat} {q : Nat} {ml : List (Option Value)} {st : List Value} {σ : g_H0} {Φ : g_Post} {i : Fin 4} {x : Int32} {ml' : List (Option Value)} (hd : decode M.2.1 pc = .ok (.istore_n i, 1)) (hm : ml.set (i : Nat) (some (.int x)) = ml') (hi : (i : Nat) < ml.length) (hnl : g_nl ml (i : Nat) = true) (hq : pc + 1 = q) (k : Go w M cs q ml' st σ Φ) : Go w M cs pc ml (.int x :: st) σ Φ := by
  subst hq
  subst hm
  intro p l e s m args below meth c C H locs ls hH hS hn hL
  refine lv_istore_n C.1 C.2.1 hd rfl hL.has hi rfl (fun ls' hl' => ?_)
  exact k p l e s m args below meth c C H locs ls' hH hS (by rw [List.length_set]; exact hn) (g_LR.put (v := .int x) hnl hi hl')
theorem g_istore {w : g_W} {M : g_MD} {cs : Nat × Nat} {pc : Nat} {q : Nat} {ml : List (Option Value)} {st : List Value} {σ : g_H0} {Φ : g_Post} {i : Nat} {x : Int32} {ml' : List (Option Value)} (hd : decode M.2.1 pc = .ok (.istore i, 2)) (hm : ml.set i (some (.int x)) = ml') (hi : i < ml.length) (hnl : g_nl ml i = true) (hq : pc + 2 = q) (k : Go w M cs q ml' st σ Φ) : Go w M cs pc ml (.int x :: st) σ Φ := by
  subst hq
  subst hm
  intro p l e s m args below meth c C H locs ls hH hS hn hL
  refine lv_istore C.1 C.2.1 hd hL.has hi rfl (fun ls' hl' => ?_)
  exact k p l e s m args below meth c C H locs ls' hH hS (by rw [List.length_set]; exact hn) (g_LR.put (v := .int x) hnl hi hl')
theorem g_astore_n {w : g_W} {M : g_MD} {cs : Nat × Nat} {pc : Nat} {q : Nat} {ml : List (Option Value)} {st : List Value} {σ : g_H0} {Φ : g_Post} {i : Fin 4} {x : Nat} {ml' : List (Option Value)} (hd : decode M.2.1 pc = .ok (.astore_n i, 1)) (hm : ml.set (i : Nat) (some (.ref x)) = ml') (hi : (i : Nat) < ml.length) (hnl : g_nl ml (i : Nat) = true) (hq : pc + 1 = q) (k : Go w M cs q ml' st σ Φ) : Go w M cs pc ml (.ref x :: st) σ Φ := by
  subst hq
  subst hm
  intro p l e s m args below meth c C H locs ls hH hS hn hL
  refine lv_astore_n C.1 C.2.1 hd rfl hL.has hi rfl (fun ls' hl' => ?_)
  exact k p l e s m args below meth c C H locs ls' hH hS (by rw [List.length_set]; exact hn) (g_LR.put (v := .ref x) hnl hi hl')
theorem g_astore {w : g_W} {M : g_MD} {cs : Nat × Nat} {pc : Nat} {q : Nat} {ml : List (Option Value)} {st : List Value} {σ : g_H0} {Φ : g_Post} {i : Nat} {x : Nat} {ml' : List (Option Value)} (hd : decode M.2.1 pc = .ok (.astore i, 2)) (hm : ml.set i (some (.ref x)) = ml') (hi : i < ml.length) (hnl : g_nl ml i = true) (hq : pc + 2 = q) (k : Go w M cs q ml' st σ Φ) : Go w M cs pc ml (.ref x :: st) σ Φ := by
  subst hq
  subst hm
  intro p l e s m args below meth c C H locs ls hH hS hn hL
  refine lv_astore C.1 C.2.1 hd hL.has hi rfl (fun ls' hl' => ?_)
  exact k p l e s m args below meth c C H locs ls' hH hS (by rw [List.length_set]; exact hn) (g_LR.put (v := .ref x) hnl hi hl')
theorem g_iinc {w : g_W} {M : g_MD} {cs : Nat × Nat} {pc : Nat} {q : Nat} {ml : List (Option Value)} {st : List Value} {σ : g_H0} {Φ : g_Post} {i : Nat} {n : Int} {x v : Int32} {ml' : List (Option Value)} (hd : decode M.2.1 pc = .ok (.iinc i n, 3)) (hl : ml[i]? = some (some (.int x))) (hv : x + Int32.ofInt n = v) (hm : ml.set i (some (.int v)) = ml') (hnl : g_nl ml i = true) (hq : pc + 3 = q) (k : Go w M cs q ml' st σ Φ) : Go w M cs pc ml st σ Φ := by
  subst hq
  subst hm
  intro p l e s m args below meth c C H locs ls hH hS hn hL
  have hi : i < ml.length := (List.getElem?_eq_some_iff.mp hl).1
  have h0 := hL.has
  have h1 : lv_has ls ml.length ((i, .int x) :: g_lp w ml) := ⟨h0.1, h0.2.1, fun q hq => by
    rcases List.mem_cons.mp hq with rfl | hq
    · exact hL.2.2 i _ hl
    · exact h0.2.2 q hq⟩
  refine lv_iinc (k := 0) C.1 C.2.1 hd h1 rfl hv hi rfl (fun ls' hl' => ?_)
  refine k p l e s m args below meth c C H locs ls' hH hS (by rw [List.length_set]; exact hn) (g_LR.put (v := .int v) hnl hi ?_)
  simpa [g_V] using hl'
theorem g_iadd {w : g_W} {M : g_MD} {cs : Nat × Nat} {pc : Nat} {q : Nat} {ml : List (Option Value)} {st : List Value} {σ : g_H0} {Φ : g_Post} {x y : Int32} (hd : decode M.2.1 pc = .ok (.iadd, 1))  (hq : pc + 1 = q) (k : Go w M cs q ml (.int (x + y) :: st) σ Φ) : Go w M cs pc ml (.int y :: .int x :: st) σ Φ := by
  subst hq
  intro p l e s m args below meth c C H locs ls hH hS hn hL
  exact lv_iadd C.1 C.2.1 hd  (k p l e s m args below meth c C H locs ls hH hS hn hL)
theorem g_isub {w : g_W} {M : g_MD} {cs : Nat × Nat} {pc : Nat} {q : Nat} {ml : List (Option Value)} {st : List Value} {σ : g_H0} {Φ : g_Post} {x y : Int32} (hd : decode M.2.1 pc = .ok (.isub, 1))  (hq : pc + 1 = q) (k : Go w M cs q ml (.int (x - y) :: st) σ Φ) : Go w M cs pc ml (.int y :: .int x :: st) σ Φ := by
  subst hq
  intro p l e s m args below meth c C H locs ls hH hS hn hL
  exact lv_isub C.1 C.2.1 hd  (k p l e s m args below meth c C H locs ls hH hS hn hL)
theorem g_imul {w : g_W} {M : g_MD} {cs : Nat × Nat} {pc : Nat} {q : Nat} {ml : List (Option Value)} {st : List Value} {σ : g_H0} {Φ : g_Post} {x y : Int32} (hd : decode M.2.1 pc = .ok (.imul, 1))  (hq : pc + 1 = q) (k : Go w M cs q ml (.int (x * y) :: st) σ Φ) : Go w M cs pc ml (.int y :: .int x :: st) σ Φ := by
  subst hq
  intro p l e s m args below meth c C H locs ls hH hS hn hL
  exact lv_imul C.1 C.2.1 hd  (k p l e s m args below meth c C H locs ls hH hS hn hL)
theorem g_iand {w : g_W} {M : g_MD} {cs : Nat × Nat} {pc : Nat} {q : Nat} {ml : List (Option Value)} {st : List Value} {σ : g_H0} {Φ : g_Post} {x y : Int32} (hd : decode M.2.1 pc = .ok (.iand, 1))  (hq : pc + 1 = q) (k : Go w M cs q ml (.int (x &&& y) :: st) σ Φ) : Go w M cs pc ml (.int y :: .int x :: st) σ Φ := by
  subst hq
  intro p l e s m args below meth c C H locs ls hH hS hn hL
  exact lv_iand C.1 C.2.1 hd  (k p l e s m args below meth c C H locs ls hH hS hn hL)
theorem g_ior {w : g_W} {M : g_MD} {cs : Nat × Nat} {pc : Nat} {q : Nat} {ml : List (Option Value)} {st : List Value} {σ : g_H0} {Φ : g_Post} {x y : Int32} (hd : decode M.2.1 pc = .ok (.ior, 1))  (hq : pc + 1 = q) (k : Go w M cs q ml (.int (x ||| y) :: st) σ Φ) : Go w M cs pc ml (.int y :: .int x :: st) σ Φ := by
  subst hq
  intro p l e s m args below meth c C H locs ls hH hS hn hL
  exact lv_ior C.1 C.2.1 hd  (k p l e s m args below meth c C H locs ls hH hS hn hL)
theorem g_ixor {w : g_W} {M : g_MD} {cs : Nat × Nat} {pc : Nat} {q : Nat} {ml : List (Option Value)} {st : List Value} {σ : g_H0} {Φ : g_Post} {x y : Int32} (hd : decode M.2.1 pc = .ok (.ixor, 1))  (hq : pc + 1 = q) (k : Go w M cs q ml (.int (x ^^^ y) :: st) σ Φ) : Go w M cs pc ml (.int y :: .int x :: st) σ Φ := by
  subst hq
  intro p l e s m args below meth c C H locs ls hH hS hn hL
  exact lv_ixor C.1 C.2.1 hd  (k p l e s m args below meth c C H locs ls hH hS hn hL)
theorem g_ishl {w : g_W} {M : g_MD} {cs : Nat × Nat} {pc : Nat} {q : Nat} {ml : List (Option Value)} {st : List Value} {σ : g_H0} {Φ : g_Post} {x y : Int32} (hd : decode M.2.1 pc = .ok (.ishl, 1))  (hq : pc + 1 = q) (k : Go w M cs q ml (.int (x <<< (y &&& 31)) :: st) σ Φ) : Go w M cs pc ml (.int y :: .int x :: st) σ Φ := by
  subst hq
  intro p l e s m args below meth c C H locs ls hH hS hn hL
  exact lv_ishl C.1 C.2.1 hd  (k p l e s m args below meth c C H locs ls hH hS hn hL)
theorem g_ishr {w : g_W} {M : g_MD} {cs : Nat × Nat} {pc : Nat} {q : Nat} {ml : List (Option Value)} {st : List Value} {σ : g_H0} {Φ : g_Post} {x y : Int32} (hd : decode M.2.1 pc = .ok (.ishr, 1))  (hq : pc + 1 = q) (k : Go w M cs q ml (.int (x >>> (y &&& 31)) :: st) σ Φ) : Go w M cs pc ml (.int y :: .int x :: st) σ Φ := by
  subst hq
  intro p l e s m args below meth c C H locs ls hH hS hn hL
  exact lv_ishr C.1 C.2.1 hd  (k p l e s m args below meth c C H locs ls hH hS hn hL)
theorem g_idiv {w : g_W} {M : g_MD} {cs : Nat × Nat} {pc : Nat} {q : Nat} {ml : List (Option Value)} {st : List Value} {σ : g_H0} {Φ : g_Post} {x y : Int32} (hd : decode M.2.1 pc = .ok (.idiv, 1)) (hne : ¬ y = 0) (hq : pc + 1 = q) (k : Go w M cs q ml (.int (x / y) :: st) σ Φ) : Go w M cs pc ml (.int y :: .int x :: st) σ Φ := by
  subst hq
  intro p l e s m args below meth c C H locs ls hH hS hn hL
  exact lv_idiv C.1 C.2.1 hd hne (k p l e s m args below meth c C H locs ls hH hS hn hL)
theorem g_irem {w : g_W} {M : g_MD} {cs : Nat × Nat} {pc : Nat} {q : Nat} {ml : List (Option Value)} {st : List Value} {σ : g_H0} {Φ : g_Post} {x y : Int32} (hd : decode M.2.1 pc = .ok (.irem, 1)) (hne : ¬ y = 0) (hq : pc + 1 = q) (k : Go w M cs q ml (.int (x - x / y * y) :: st) σ Φ) : Go w M cs pc ml (.int y :: .int x :: st) σ Φ := by
  subst hq
  intro p l e s m args below meth c C H locs ls hH hS hn hL
  exact lv_irem C.1 C.2.1 hd hne (k p l e s m args below meth c C H locs ls hH hS hn hL)
theorem g_ineg {w : g_W} {M : g_MD} {cs : Nat × Nat} {pc : Nat} {q : Nat} {ml : List (Option Value)} {st : List Value} {σ : g_H0} {Φ : g_Post} {x : Int32} (hd : decode M.2.1 pc = .ok (.ineg, 1))  (hq : pc + 1 = q) (k : Go w M cs q ml (.int (-x) :: st) σ Φ) : Go w M cs pc ml (.int x :: st) σ Φ := by
  subst hq
  intro p l e s m args below meth c C H locs ls hH hS hn hL
  exact lv_ineg C.1 C.2.1 hd  (k p l e s m args below meth c C H locs ls hH hS hn hL)
theorem g_ladd {w : g_W} {M : g_MD} {cs : Nat × Nat} {pc : Nat} {q : Nat} {ml : List (Option Value)} {st : List Value} {σ : g_H0} {Φ : g_Post} {x y : Int64} (hd : decode M.2.1 pc = .ok (.ladd, 1))  (hq : pc + 1 = q) (k : Go w M cs q ml (.long (x + y) :: st) σ Φ) : Go w M cs pc ml (.long y :: .long x :: st) σ Φ := by
  subst hq
  intro p l e s m args below meth c C H locs ls hH hS hn hL
  exact lv_ladd C.1 C.2.1 hd  (k p l e s m args below meth c C H locs ls hH hS hn hL)
theorem g_lsub {w : g_W} {M : g_MD} {cs : Nat × Nat} {pc : Nat} {q : Nat} {ml : List (Option Value)} {st : List Value} {σ : g_H0} {Φ : g_Post} {x y : Int64} (hd : decode M.2.1 pc = .ok (.lsub, 1))  (hq : pc + 1 = q) (k : Go w M cs q ml (.long (x - y) :: st) σ Φ) : Go w M cs pc ml (.long y :: .long x :: st) σ Φ := by
  subst hq
  intro p l e s m args below meth c C H locs ls hH hS hn hL
  exact lv_lsub C.1 C.2.1 hd  (k p l e s m args below meth c C H locs ls hH hS hn hL)
theorem g_lmul {w : g_W} {M : g_MD} {cs : Nat × Nat} {pc : Nat} {q : Nat} {ml : List (Option Value)} {st : List Value} {σ : g_H0} {Φ : g_Post} {x y : Int64} (hd : decode M.2.1 pc = .ok (.lmul, 1))  (hq : pc + 1 = q) (k : Go w M cs q ml (.long (x * y) :: st) σ Φ) : Go w M cs pc ml (.long y :: .long x :: st) σ Φ := by
  subst hq
  intro p l e s m args below meth c C H locs ls hH hS hn hL
  exact lv_lmul C.1 C.2.1 hd  (k p l e s m args below meth c C H locs ls hH hS hn hL)
theorem g_land {w : g_W} {M : g_MD} {cs : Nat × Nat} {pc : Nat} {q : Nat} {ml : List (Option Value)} {st : List Value} {σ : g_H0} {Φ : g_Post} {x y : Int64} (hd : decode M.2.1 pc = .ok (.land, 1))  (hq : pc + 1 = q) (k : Go w M cs q ml (.long (x &&& y) :: st) σ Φ) : Go w M cs pc ml (.long y :: .long x :: st) σ Φ := by
  subst hq
  intro p l e s m args below meth c C H locs ls hH hS hn hL
  exact lv_land C.1 C.2.1 hd  (k p l e s m args below meth c C H locs ls hH hS hn hL)
theorem g_lshr {w : g_W} {M : g_MD} {cs : Nat × Nat} {pc : Nat} {q : Nat} {ml : List (Option Value)} {st : List Value} {σ : g_H0} {Φ : g_Post} {x : Int64} {y : Int32} (hd : decode M.2.1 pc = .ok (.lshr, 1))  (hq : pc + 1 = q) (k : Go w M cs q ml (.long (x >>> (y.toInt64 &&& 63)) :: st) σ Φ) : Go w M cs pc ml (.int y :: .long x :: st) σ Φ := by
  subst hq
  intro p l e s m args below meth c C H locs ls hH hS hn hL
  exact lv_lshr C.1 C.2.1 hd rfl (k p l e s m args below meth c C H locs ls hH hS hn hL)
theorem g_iushr {w : g_W} {M : g_MD} {cs : Nat × Nat} {pc : Nat} {q : Nat} {ml : List (Option Value)} {st : List Value} {σ : g_H0} {Φ : g_Post} {x y : Int32} (hd : decode M.2.1 pc = .ok (.iushr, 1))  (hq : pc + 1 = q) (k : Go w M cs q ml (.int (x.toUInt32 >>> (y.toUInt32 &&& Int32.toUInt32 31)).toInt32 :: st) σ Φ) : Go w M cs pc ml (.int y :: .int x :: st) σ Φ := by
  subst hq
  intro p l e s m args below meth c C H locs ls hH hS hn hL
  exact lv_iushr C.1 C.2.1 hd rfl (k p l e s m args below meth c C H locs ls hH hS hn hL)
theorem g_i2l {w : g_W} {M : g_MD} {cs : Nat × Nat} {pc : Nat} {q : Nat} {ml : List (Option Value)} {st : List Value} {σ : g_H0} {Φ : g_Post} {x : Int32} (hd : decode M.2.1 pc = .ok (.i2l, 1))  (hq : pc + 1 = q) (k : Go w M cs q ml (.long x.toInt64 :: st) σ Φ) : Go w M cs pc ml (.int x :: st) σ Φ := by
  subst hq
  intro p l e s m args below meth c C H locs ls hH hS hn hL
  exact lv_i2l C.1 C.2.1 hd rfl (k p l e s m args below meth c C H locs ls hH hS hn hL)
theorem g_i2c {w : g_W} {M : g_MD} {cs : Nat × Nat} {pc : Nat} {q : Nat} {ml : List (Option Value)} {st : List Value} {σ : g_H0} {Φ : g_Post} {x v : Int32} (hd : decode M.2.1 pc = .ok (.i2c, 1)) (hv : (x.toUInt32 % 65536).toInt32 = v) (hq : pc + 1 = q) (k : Go w M cs q ml (.int v :: st) σ Φ) : Go w M cs pc ml (.int x :: st) σ Φ := by
  subst hq
  intro p l e s m args below meth c C H locs ls hH hS hn hL
  exact lv_i2c C.1 C.2.1 hd hv (k p l e s m args below meth c C H locs ls hH hS hn hL)
theorem g_lcmp {w : g_W} {M : g_MD} {cs : Nat × Nat} {pc : Nat} {q : Nat} {ml : List (Option Value)} {st : List Value} {σ : g_H0} {Φ : g_Post} {x y : Int64} (hd : decode M.2.1 pc = .ok (.lcmp, 1)) (hq : pc + 1 = q) (k : Go w M cs q ml (.int (lg_cmp x y) :: st) σ Φ) : Go w M cs pc ml (.long y :: .long x :: st) σ Φ := by
  subst hq
  intro p l e s m args below meth c C H locs ls hH hS hn hL
  exact W.lcmp C.1 C.2.1 hd (k p l e s m args below meth c C H locs ls hH hS hn hL)
theorem g_dup {w : g_W} {M : g_MD} {cs : Nat × Nat} {pc : Nat} {q : Nat} {ml : List (Option Value)} {st : List Value} {σ : g_H0} {Φ : g_Post} {v : Value} (hd : decode M.2.1 pc = .ok (.dup, 1)) (hv : v.category = 1) (hq : pc + 1 = q) (k : Go w M cs q ml (v :: v :: st) σ Φ) : Go w M cs pc ml (v :: st) σ Φ := by
  subst hq
  intro p l e s m args below meth c C H locs ls hH hS hn hL
  exact lv_dup C.1 C.2.1 hd ((g_V_cat w v).trans hv) (k p l e s m args below meth c C H locs ls hH hS hn hL)
theorem g_pop {w : g_W} {M : g_MD} {cs : Nat × Nat} {pc : Nat} {q : Nat} {ml : List (Option Value)} {st : List Value} {σ : g_H0} {Φ : g_Post} {v : Value} (hd : decode M.2.1 pc = .ok (.pop, 1)) (hv : v.category = 1) (hq : pc + 1 = q) (k : Go w M cs q ml (st) σ Φ) : Go w M cs pc ml (v :: st) σ Φ := by
  subst hq
  intro p l e s m args below meth c C H locs ls hH hS hn hL
  exact lv_pop C.1 C.2.1 hd ((g_V_cat w v).trans hv) (k p l e s m args below meth c C H locs ls hH hS hn hL)
theorem g_dup2 {w : g_W} {M : g_MD} {cs : Nat × Nat} {pc : Nat} {q : Nat} {ml : List (Option Value)} {st : List Value} {σ : g_H0} {Φ : g_Post} {v u : Value} (hd : decode M.2.1 pc = .ok (.dup2, 1)) (hv : v.category = 1) (hu : u.category = 1) (hq : pc + 1 = q) (k : Go w M cs q ml (v :: u :: v :: u :: st) σ Φ) : Go w M cs pc ml (v :: u :: st) σ Φ := by
  subst hq
  intro p l e s m args below meth c C H locs ls hH hS hn hL
  exact lv_dup2_11 C.1 C.2.1 hd ((g_V_cat w v).trans hv) ((g_V_cat w u).trans hu) (k p l e s m args below meth c C H locs ls hH hS hn hL)
theorem g_if_eq {w : g_W} {M : g_MD} {cs : Nat × Nat} {pc : Nat} {q : Nat} {ml : List (Option Value)} {st : List Value} {σ : g_H0} {Φ : g_Post} {x : Int32} {t : Nat} {off : Int} (hd : decode M.2.1 pc = .ok (.ifCond .eq off, 3)) (ht : (pc : Int) + off = (t : Int)) (hq : pc + 3 = q) (kt : x = 0 → Go w M cs t ml st σ Φ) (kf : ¬ x = 0 → Go w M cs q ml st σ Φ) : Go w M cs pc ml (.int x :: st) σ Φ := by
  subst hq
  intro p l e s m args below meth c C H locs ls hH hS hn hL
  exact lv_if_eq C.1 C.2.1 hd ht (fun h => kt h p l e s m args below meth c C H locs ls hH hS hn hL) (fun h => kf h p l e s m args below meth c C H locs ls hH hS hn hL)
theorem g_icmp_eq {w : g_W} {M : g_MD} {cs : Nat × Nat} {pc : Nat} {q : Nat} {ml : List (Option Value)} {st : List Value} {σ : g_H0} {Φ : g_Post} {x y : Int32} {t : Nat} {off : Int} (hd : decode M.2.1 pc = .ok (.if_icmp .eq off, 3)) (ht : (pc : Int) + off = (t : Int)) (hq : pc + 3 = q) (kt : x = y → Go w M cs t ml st σ Φ) (kf : ¬ x = y → Go w M cs q ml st σ Φ) : Go w M cs pc ml (.int y :: .int x :: st) σ Φ := by
  subst hq
  intro p l e s m args below meth c C H locs ls hH hS hn hL
  exact lv_icmp_eq C.1 C.2.1 hd ht (fun h => kt h p l e s m args below meth c C H locs ls hH hS hn hL) (fun h => kf h p l e s m args below meth c C H locs ls hH hS hn hL)
theorem g_if_ne {w : g_W} {M : g_MD} {cs : Nat × Nat} {pc : Nat} {q : Nat} {ml : List (Option Value)} {st : List Value} {σ : g_H0} {Φ : g_Post} {x : Int32} {t : Nat} {off : Int} (hd : decode M.2.1 pc = .ok (.ifCond .ne off, 3)) (ht : (pc : Int) + off = (t : Int)) (hq : pc + 3 = q) (kt : ¬ x = 0 → Go w M cs t ml st σ Φ) (kf : x = 0 → Go w M cs q ml st σ Φ) : Go w M cs pc ml (.int x :: st) σ Φ := by
  subst hq
  intro p l e s m args below meth c C H locs ls hH hS hn hL
  exact lv_if_ne C.1 C.2.1 hd ht (fun h => kt h p l e s m args below meth c C H locs ls hH hS hn hL) (fun h => kf h p l e s m args below meth c C H locs ls hH hS hn hL)
theorem g_icmp_ne {w : g_W} {M : g_MD} {cs : Nat × Nat} {pc : Nat} {q : Nat} {ml : List (Option Value)} {st : List Value} {σ : g_H0} {Φ : g_Post} {x y : Int32} {t : Nat} {off : Int} (hd : decode M.2.1 pc = .ok (.if_icmp .ne off, 3)) (ht : (pc : Int) + off = (t : Int)) (hq : pc + 3 = q) (kt : ¬ x = y → Go w M cs t ml st σ Φ) (kf : x = y → Go w M cs q ml st σ Φ) : Go w M cs pc ml (.int y :: .int x :: st) σ Φ := by
  subst hq
  intro p l e s m args below meth c C H locs ls hH hS hn hL
  exact lv_icmp_ne C.1 C.2.1 hd ht (fun h => kt h p l e s m args below meth c C H locs ls hH hS hn hL) (fun h => kf h p l e s m args below meth c C H locs ls hH hS hn hL)
theorem g_if_lt {w : g_W} {M : g_MD} {cs : Nat × Nat} {pc : Nat} {q : Nat} {ml : List (Option Value)} {st : List Value} {σ : g_H0} {Φ : g_Post} {x : Int32} {t : Nat} {off : Int} (hd : decode M.2.1 pc = .ok (.ifCond .lt off, 3)) (ht : (pc : Int) + off = (t : Int)) (hq : pc + 3 = q) (kt : x < 0 → Go w M cs t ml st σ Φ) (kf : ¬ x < 0 → Go w M cs q ml st σ Φ) : Go w M cs pc ml (.int x :: st) σ Φ := by
  subst hq
  intro p l e s m args below meth c C H locs ls hH hS hn hL
  exact lv_if_lt C.1 C.2.1 hd ht (fun h => kt h p l e s m args below meth c C H locs ls hH hS hn hL) (fun h => kf h p l e s m args below meth c C H locs ls hH hS hn hL)
theorem g_icmp_lt {w : g_W} {M : g_MD} {cs : Nat × Nat} {pc : Nat} {q : Nat} {ml : List (Option Value)} {st : List Value} {σ : g_H0} {Φ : g_Post} {x y : Int32} {t : Nat} {off : Int} (hd : decode M.2.1 pc = .ok (.if_icmp .lt off, 3)) (ht : (pc : Int) + off = (t : Int)) (hq : pc + 3 = q) (kt : x < y → Go w M cs t ml st σ Φ) (kf : ¬ x < y → Go w M cs q ml st σ Φ) : Go w M cs pc ml (.int y :: .int x :: st) σ Φ := by
  subst hq
  intro p l e s m args below meth c C H locs ls hH hS hn hL
  exact lv_icmp_lt C.1 C.2.1 hd ht (fun h => kt h p l e s m args below meth c C H locs ls hH hS hn hL) (fun h => kf h p l e s m args below meth c C H locs ls hH hS hn hL)
theorem g_if_ge {w : g_W} {M : g_MD} {cs : Nat × Nat} {pc : Nat} {q : Nat} {ml : List (Option Value)} {st : List Value} {σ : g_H0} {Φ : g_Post} {x : Int32} {t : Nat} {off : Int} (hd : decode M.2.1 pc = .ok (.ifCond .ge off, 3)) (ht : (pc : Int) + off = (t : Int)) (hq : pc + 3 = q) (kt : 0 ≤ x → Go w M cs t ml st σ Φ) (kf : ¬ 0 ≤ x → Go w M cs q ml st σ Φ) : Go w M cs pc ml (.int x :: st) σ Φ := by
  subst hq
  intro p l e s m args below meth c C H locs ls hH hS hn hL
  exact lv_if_ge C.1 C.2.1 hd ht (fun h => kt h p l e s m args below meth c C H locs ls hH hS hn hL) (fun h => kf h p l e s m args below meth c C H locs ls hH hS hn hL)
theorem g_icmp_ge {w : g_W} {M : g_MD} {cs : Nat × Nat} {pc : Nat} {q : Nat} {ml : List (Option Value)} {st : List Value} {σ : g_H0} {Φ : g_Post} {x y : Int32} {t : Nat} {off : Int} (hd : decode M.2.1 pc = .ok (.if_icmp .ge off, 3)) (ht : (pc : Int) + off = (t : Int)) (hq : pc + 3 = q) (kt : y ≤ x → Go w M cs t ml st σ Φ) (kf : ¬ y ≤ x → Go w M cs q ml st σ Φ) : Go w M cs pc ml (.int y :: .int x :: st) σ Φ := by
  subst hq
  intro p l e s m args below meth c C H locs ls hH hS hn hL
  exact lv_icmp_ge C.1 C.2.1 hd ht (fun h => kt h p l e s m args below meth c C H locs ls hH hS hn hL) (fun h => kf h p l e s m args below meth c C H locs ls hH hS hn hL)
theorem g_if_gt {w : g_W} {M : g_MD} {cs : Nat × Nat} {pc : Nat} {q : Nat} {ml : List (Option Value)} {st : List Value} {σ : g_H0} {Φ : g_Post} {x : Int32} {t : Nat} {off : Int} (hd : decode M.2.1 pc = .ok (.ifCond .gt off, 3)) (ht : (pc : Int) + off = (t : Int)) (hq : pc + 3 = q) (kt : 0 < x → Go w M cs t ml st σ Φ) (kf : ¬ 0 < x → Go w M cs q ml st σ Φ) : Go w M cs pc ml (.int x :: st) σ Φ := by
  subst hq
  intro p l e s m args below meth c C H locs ls hH hS hn hL
  exact lv_if_gt C.1 C.2.1 hd ht (fun h => kt h p l e s m args below meth c C H locs ls hH hS hn hL) (fun h => kf h p l e s m args below meth c C H locs ls hH hS hn hL)
theorem g_icmp_gt {w : g_W} {M : g_MD} {cs : Nat × Nat} {pc : Nat} {q : Nat} {ml : List (Option Value)} {st : List Value} {σ : g_H0} {Φ : g_Post} {x y : Int32} {t : Nat} {off : Int} (hd : decode M.2.1 pc = .ok (.if_icmp .gt off, 3)) (ht : (pc : Int) + off = (t : Int)) (hq : pc + 3 = q) (kt : y < x → Go w M cs t ml st σ Φ) (kf : ¬ y < x → Go w M cs q ml st σ Φ) : Go w M cs pc ml (.int y :: .int x :: st) σ Φ := by
  subst hq
  intro p l e s m args below meth c C H locs ls hH hS hn hL
  exact lv_icmp_gt C.1 C.2.1 hd ht (fun h => kt h p l e s m args below meth c C H locs ls hH hS hn hL) (fun h => kf h p l e s m args below meth c C H locs ls hH hS hn hL)
theorem g_if_le {w : g_W} {M : g_MD} {cs : Nat × Nat} {pc : Nat} {q : Nat} {ml : List (Option Value)} {st : List Value} {σ : g_H0} {Φ : g_Post} {x : Int32} {t : Nat} {off : Int} (hd : decode M.2.1 pc = .ok (.ifCond .le off, 3)) (ht : (pc : Int) + off = (t : Int)) (hq : pc + 3 = q) (kt : x ≤ 0 → Go w M cs t ml st σ Φ) (kf : ¬ x ≤ 0 → Go w M cs q ml st σ Φ) : Go w M cs pc ml (.int x :: st) σ Φ := by
  subst hq
  intro p l e s m args below meth c C H locs ls hH hS hn hL
  exact lv_if_le C.1 C.2.1 hd ht (fun h => kt h p l e s m args below meth c C H locs ls hH hS hn hL) (fun h => kf h p l e s m args below meth c C H locs ls hH hS hn hL)
theorem g_icmp_le {w : g_W} {M : g_MD} {cs : Nat × Nat} {pc : Nat} {q : Nat} {ml : List (Option Value)} {st : List Value} {σ : g_H0} {Φ : g_Post} {x y : Int32} {t : Nat} {off : Int} (hd : decode M.2.1 pc = .ok (.if_icmp .le off, 3)) (ht : (pc : Int) + off = (t : Int)) (hq : pc + 3 = q) (kt : x ≤ y → Go w M cs t ml st σ Φ) (kf : ¬ x ≤ y → Go w M cs q ml st σ Φ) : Go w M cs pc ml (.int y :: .int x :: st) σ Φ := by
  subst hq
  intro p l e s m args below meth c C H locs ls hH hS hn hL
  exact lv_icmp_le C.1 C.2.1 hd ht (fun h => kt h p l e s m args below meth c C H locs ls hH hS hn hL) (fun h => kf h p l e s m args below meth c C H locs ls hH hS hn hL)
theorem g_goto {w : g_W} {M : g_MD} {cs : Nat × Nat} {pc : Nat} {q : Nat} {ml : List (Option Value)} {st : List Value} {σ : g_H0} {Φ : g_Post} {off : Int} (hd : decode M.2.1 pc = .ok (.goto off, 3)) (ht : (pc : Int) + off = (q : Int)) (k : Go w M cs q ml st σ Φ) : Go w M cs pc ml st σ Φ := by
  intro p l e s m args below meth c C H locs ls hH hS hn hL
  exact lv_goto C.1 C.2.1 hd ht (k p l e s m args below meth c C H locs ls hH hS hn hL)
theorem g_tableOut {w : g_W} {M : g_MD} {cs : Nat × Nat} {pc : Nat} {q : Nat} {ml : List (Option Value)} {st : List Value} {σ : g_H0} {Φ : g_Post} {dflt lo hi : Int} {offs : Array Int} {len : Nat} {x : Int32} (hd : decode M.2.1 pc = .ok (.tableswitch dflt lo hi offs, len)) (h : x.toInt < lo ∨ hi < x.toInt) (ht : (pc : Int) + dflt = (q : Int)) (k : Go w M cs q ml st σ Φ) : Go w M cs pc ml (.int x :: st) σ Φ := by
  intro p l e s m args below meth c C H locs ls hH hS hn hL
  exact lv_tableOut C.1 C.2.1 hd h ht (k p l e s m args below meth c C H locs ls hH hS hn hL)
theorem g_tableIn {w : g_W} {M : g_MD} {cs : Nat × Nat} {pc : Nat} {q : Nat} {ml : List (Option Value)} {st : List Value} {σ : g_H0} {Φ : g_Post} {dflt lo hi : Int} {offs : Array Int} {len : Nat} {x : Int32} {off : Int} (hd : decode M.2.1 pc = .ok (.tableswitch dflt lo hi offs, len)) (h1 : ¬ x.toInt < lo) (h2 : ¬ hi < x.toInt) (ho : offs[(x.toInt - lo).toNat]? = some off) (ht : (pc : Int) + off = (q : Int)) (k : Go w M cs q ml st σ Φ) : Go w M cs pc ml (.int x :: st) σ Φ := by
  intro p l e s m args below meth c C H locs ls hH hS hn hL
  exact lv_tableIn C.1 C.2.1 hd h1 h2 ho ht (k p l e s m args below meth c C H locs ls hH hS hn hL)
theorem g_ldcw {w : g_W} {M : g_MD} {cs : Nat × Nat} {pc : Nat} {q : Nat} {ml : List (Option Value)} {st : List Value} {σ : g_H0} {Φ : g_Post} {i : Nat} {v : Int32} (hd : decode M.2.1 pc = .ok (.ldc_w i, 3)) (hc : Cond.constant M.1.cls i v ∈ gTb) (hq : pc + 3 = q) (k : Go w M cs q ml (.int v :: st) σ Φ) : Go w M cs pc ml st σ Φ := by
  subst hq
  intro p l e s m args below meth c C H locs ls hH hS hn hL
  exact lv_ldcw C.1 C.2.1 C.2.2.2.2.2.1 (C.2.2.2.2.1 _ hc) hd (k p l e s m args below meth c C H locs ls hH hS hn hL)
theorem g_ldc2 {w : g_W} {M : g_MD} {cs : Nat × Nat} {pc : Nat} {q : Nat} {ml : List (Option Value)} {st : List Value} {σ : g_H0} {Φ : g_Post} {i : Nat} {v : Int64} (hd : decode M.2.1 pc = .ok (.ldc2_w i, 3)) (hc : Cond.constantLong M.1.cls i v ∈ gTb) (hq : pc + 3 = q) (k : Go w M cs q ml (.long v :: st) σ Φ) : Go w M cs pc ml st σ Φ := by
  subst hq
  intro p l e s m args below meth c C H locs ls hH hS hn hL
  exact lv_ldc2 C.1 C.2.1 C.2.2.2.2.2.1 (C.2.2.2.2.1 _ hc) hd (k p l e s m args below meth c C H locs ls hH hS hn hL)
theorem g_ldcS {w : g_W} {M : g_MD} {cs : Nat × Nat} {pc : Nat} {q : Nat} {ml : List (Option Value)} {st : List Value} {σ : g_H0} {Φ : g_Post} {i : Nat} (hi : i < 5) (ho : M.1.cls = g_sOwn i) (hd : decode M.2.1 pc = .ok (.ldc (g_sIdx i), 2)) (hx : (UInt32.ofNat (1 + i)).toNat = 1 + i) (hq : pc + 2 = q) (k : Go w M cs q ml (.float (UInt32.ofNat (1 + i)) :: st) σ Φ) : Go w M cs pc ml st σ Φ := by
  subst hq
  intro p l e s m args below meth c C H locs ls hH hS hn hL
  obtain ⟨-, ⟨-, h4, -, -⟩, -⟩ := C.2.2.2.2.2.2.2.2.2.1
  have hZ := h4 i hi
  rw [← ho] at hZ
  refine va_ldcS C.1 C.2.1 C.2.2.2.2.2.1 hZ hd ?_
  have := k p l e s m args below meth c C H locs ls hH hS hn hL
  simp only [List.map_cons, g_V, hx] at this
  exact this
end
section
/-! the heap: fields, arrays, new, calls, answers -/
section GH
variable {w : g_W} {M : g_MD} {cs : Nat × Nat} {pc q : Nat} {ml : List (Option Value)} {st : List Value} {σ σ' : g_H0} {Φ : g_Post}
theorem g_get {ci k' idx a : Nat} {fs : List Value} {v : Value} (hf : g_FL M.1.cls idx ci k') (hd : decode M.2.1 pc = .ok (.getfield idx, 3)) (hσ : σ[a]? = some (.inr (ci, fs))) (hv : fs[k']? = some v) (hq : pc + 3 = q) (k : Go w M cs q ml (v :: st) σ Φ) : Go w M cs pc ml (.ref a :: st) σ Φ := by
  subst hq
  intro p l e s m args below meth c C H locs ls hH hS hn hL
  obtain ⟨C', F, n, h1, h2, h3, h4⟩ := hf
  exact va_get (C := C') (T := F) (N := n) (fs := fs.map (g_V w)) (v := g_V w v) C.1 C.2.1 C.2.2.2.2.1 h4 C.2.2.2.2.2.1 C.2.2.2.2.2.2.2.2.1 hH.2 a (g_S_at hσ) h1 k' h2 (C.2.2.2.2.1 _ h3) (fun _ h => h) (by rw [List.getElem?_map, hv]; rfl) hd (k p l e s m args below meth c C H locs ls hH hS hn hL)
theorem g_H.set {k : Nat} {e e0 : va_E} {H H1 : Heap} (h : g_H w σ H) (hk : σ[k]? = some e0) (z : H1.size = H.size) (he : va_at (g_D w) vwCl (g_ba w + k, g_E w e) H1) (oq : ∀ q : Nat, q ≠ g_ba w + k → H1[q]? = H[q]?) : g_H w (σ.set k e) H1 := by
  refine ⟨by rw [z, h.1, List.length_set], ?_⟩
  rw [g_S_set]
  exact h.2.set (g_S_D w σ) (g_S_at hk) he oq
theorem g_put {ci k' idx a : Nat} {fs : List Value} {v : Value} {ty : FieldType} (hf : g_FP M.1.cls idx ci k' ty false) (hd : decode M.2.1 pc = .ok (.putfield idx, 3)) (hσ : σ[a]? = some (.inr (ci, fs))) (hl : k' < fs.length) (hnar : narrow ty (g_V w v) = g_V w v) (hfit : fits ty (g_V w v) = true) (hs : σ.set a (.inr (ci, fs.set k' v)) = σ') (hq : pc + 3 = q) (k : Go w M cs q ml st σ' Φ) : Go w M cs pc ml (v :: .ref a :: st) σ Φ := by
  subst hq; subst hs
  intro p l e s m args below meth c C H locs ls hH hS hn hL
  obtain ⟨C', F, n, ty0, hc, hk, hlk, hin, hty, hnm, hfin, hpd, -⟩ := hf
  have hts := C.2.2.2.2.1
  have hK := C.2.2.2.2.2.2.2.2.1
  have he := g_S_at (w := w) hσ
  have hap := va_apart (own := M.1.cls) hts hin ty0 hty hnm hK hc
  obtain ⟨r, h1, cell, q1, q2, q3, q4⟩ := hH.2 a _ he
  have hr : r = (C', F, n) := Option.some.inj (h1.symm.trans hc)
  subst hr
  obtain ⟨hSl, hfc, kC, hkC, hkind⟩ := hK.1 ci _ hc
  obtain ⟨cf, kf, fi, f, hi, hsl⟩ := hSl k' hk
  have hlay := hts _ (hin _ (u_in_lay hk))
  unfold u_lay at hlay
  rw [if_neg (by rw [hfin]; decide)] at hlay
  have hst := (u_facts hfc hkC (u_lays hts hin hk) hi).1
  have h6 := u_store hfc hkC hkind hlay hi hpd hnar hfit
  refine W.putK C.1 C.2.1 (f := f) ⟨C.2.2.2.2.2.1, hts _ hlk, ⟨_, _, _, hi⟩, hst⟩ (by rw [q2]; exact h6) q1 q3 (by rw [hsl]; exact k2_hasslot (q4 k' hk)) rfl rfl hd fun H' e1 e2 e3 => ?_
  rw [hsl] at e1
  refine k p l e s m args below meth c C H' _ ls (hH.set hσ e2 ⟨_, hc, ?_⟩ e3) (hS.put e2 e3 (Nat.le_add_right _ _)) hn hL
  have hfs : (fs.set k' v).map (g_V w) = (fs.map (g_V w)).set k' (g_V w v) := by rw [List.map_set]
  show t_OB _ _ _ _ _ (vp_V ((fs.set k' v).map (g_V w)))
  rw [hfs]
  exact t_OB.to (V := updV (vp_V (fs.map (g_V w))) k' (g_V w v)) ⟨_, e1, q2, q3, t_set q4 hap hk (g_V w v)⟩ (fun j _ => vp_updV_set (by rw [List.length_map]; exact hl) (g_V w v) j)
theorem g_putF {ci k' idx a : Nat} {fs : List Value} {v : Value} {ty : FieldType} (hf : g_FP M.1.cls idx ci k' ty true) (hnm0 : M.1.name = "<init>") (hd : decode M.2.1 pc = .ok (.putfield idx, 3)) (hσ : σ[a]? = some (.inr (ci, fs))) (hl : k' < fs.length) (hnar : narrow ty (g_V w v) = g_V w v) (hfit : fits ty (g_V w v) = true) (hs : σ.set a (.inr (ci, fs.set k' v)) = σ') (hq : pc + 3 = q) (k : Go w M cs q ml st σ' Φ) : Go w M cs pc ml (v :: .ref a :: st) σ Φ := by
  subst hq; subst hs
  intro p l e s m args below meth c C H locs ls hH hS hn hL
  obtain ⟨C', F, n, ty0, hc, hk, hlk, hin, hty, hnm, hfin, hpd, hdecl⟩ := hf
  have hts := C.2.2.2.2.1
  have hK := C.2.2.2.2.2.2.2.2.1
  have hown := C.2.2.2.2.2.1
  have he := g_S_at (w := w) hσ
  have hap := va_apart (own := M.1.cls) hts hin ty0 hty hnm hK hc
  obtain ⟨r, h1, cell, q1, q2, q3, q4⟩ := hH.2 a _ he
  have hr : r = (C', F, n) := Option.some.inj (h1.symm.trans hc)
  subst hr
  obtain ⟨hSl, hfc, kC, hkC, hkind⟩ := hK.1 ci _ hc
  obtain ⟨cf, kf, fi, f, hi, hsl⟩ := hSl k' hk
  have hlay := hts _ (hin _ (u_in_lay hk))
  unfold u_lay at hlay
  rw [if_pos hfin] at hlay
  have hst := (u_facts hfc hkC (u_lays hts hin hk) hi).1
  have hcf : m.cls = cf := by
    obtain ⟨_, _, c', _, _, _, -, -, hf', -, -, -, hown2, -⟩ := Cond.laysFinal_spec hlay
    have e1 : c' = cf := by have := hi.symm.trans hf'; simp at this; exact this.1.symm
    rw [hdecl rfl] at hown2
    rw [← e1]; exact Option.some.inj (hown.symm.trans hown2)
  have h6 := u_fits hfc hkC hkind (Or.inr hlay) hi hpd hnar hfit
  refine W.putFinK C.1 C.2.1 hown (hts _ hlk) hi hst hcf (C.2.2.2.2.2.2.2.1.trans hnm0) (by rw [q2]; exact h6) q1 q3 (by rw [hsl]; exact k2_hasslot (q4 k' hk)) rfl rfl hd fun H' e1 e2 e3 => ?_
  rw [hsl] at e1
  refine k p l e s m args below meth c C H' _ ls (hH.set hσ e2 ⟨_, hc, ?_⟩ e3) (hS.put e2 e3 (Nat.le_add_right _ _)) hn hL
  have hfs : (fs.set k' v).map (g_V w) = (fs.map (g_V w)).set k' (g_V w v) := by rw [List.map_set]
  show t_OB _ _ _ _ _ (vp_V ((fs.set k' v).map (g_V w)))
  rw [hfs]
  exact t_OB.to (V := updV (vp_V (fs.map (g_V w))) k' (g_V w v)) ⟨_, e1, q2, q3, t_set q4 hap hk (g_V w v)⟩ (fun j _ => vp_updV_set (by rw [List.length_map]; exact hl) (g_V w v) j)
/-! arrays -/
theorem g_iald {a n : Nat} {f : Nat → Int32} {i : Int32} (hd : decode M.2.1 pc = .ok (.iaload, 1)) (hσ : σ[a]? = some (.inl (0, n, .inl f))) (hin : vp_in i n) (hq : pc + 1 = q) (k : Go w M cs q ml (.int (f i.toNatClampNeg) :: st) σ Φ) : Go w M cs pc ml (.int i :: .ref a :: st) σ Φ := by
  subst hq
  intro p l e s m args below meth c C H locs ls hH hS hn hL
  exact va_iald C.1 C.2.1 C.2.2.2.2.2.2.2.2.1 hH.2 a 0 (g_S_at hσ) rfl hin hd (k p l e s m args below meth c C H locs ls hH hS hn hL)
theorem g_cald {a n : Nat} {f : Nat → Int32} {i : Int32} (hd : decode M.2.1 pc = .ok (.caload, 1)) (hσ : σ[a]? = some (.inl (1, n, .inl f))) (hin : vp_in i n) (hq : pc + 1 = q) (k : Go w M cs q ml (.int (f i.toNatClampNeg) :: st) σ Φ) : Go w M cs pc ml (.int i :: .ref a :: st) σ Φ := by
  subst hq
  intro p l e s m args below meth c C H locs ls hH hS hn hL
  exact va_cald C.1 C.2.1 C.2.2.2.2.2.2.2.2.1 hH.2 a 1 (g_S_at hσ) rfl hin hd (k p l e s m args below meth c C H locs ls hH hS hn hL)
def g_rv : Option Nat → Value
  | none => .null
  | some a => .ref a
theorem g_rv_V (o : Option Nat) : g_V w (g_rv o) = va_rf (o.map (fun k => g_ba w + k)) := by cases o <;> rfl
theorem g_aald {a n t : Nat} {Cn : String} {f : Nat → Option Nat} {i : Int32} (hd : decode M.2.1 pc = .ok (.aaload, 1)) (ht : (g_tys w)[t]? = some (g_ca w t, .object Cn)) (hσ : σ[a]? = some (.inl (t, n, .inr (.inr (.inr (.inr f)))))) (hin : vp_in i n) (hq : pc + 1 = q) (k : Go w M cs q ml (g_rv (f i.toNatClampNeg) :: st) σ Φ) : Go w M cs pc ml (.int i :: .ref a :: st) σ Φ := by
  subst hq
  intro p l e s m args below meth c C H locs ls hH hS hn hL
  have hk := k p l e s m args below meth c C H locs ls hH hS hn hL
  rw [List.map_cons, g_rv_V] at hk
  exact va_aldq C.1 C.2.1 C.2.2.2.2.2.2.2.2.1 hH.2 a t (g_S_at hσ) ht hin hd hk
theorem g_iast {a n : Nat} {f : Nat → Int32} {i x : Int32} (hd : decode M.2.1 pc = .ok (.iastore, 1)) (hσ : σ[a]? = some (.inl (0, n, .inl f))) (hin : vp_in i n) (hs : σ.set a (.inl (0, n, .inl (upd f i.toNatClampNeg x))) = σ') (hq : pc + 1 = q) (k : Go w M cs q ml st σ' Φ) : Go w M cs pc ml (.int x :: .int i :: .ref a :: st) σ Φ := by
  subst hq; subst hs
  intro p l e s m args below meth c C H locs ls hH hS hn hL
  have hP := hH.2 a _ (g_S_at hσ)
  refine W.iast C.1 C.2.1 hP ((C.2.2.2.2.2.2.2.2.1.2 0 _ rfl).1 n (fun j => .int (f j))) (fun q => by cases q) (by show ¬ (i < 0 ∨ (arrV _ _ _).slots.size ≤ _); rw [arrV_size]; exact hin) rfl rfl hd fun H1 e1 z oq => ?_
  refine k p l e s m args below meth c C H1 _ ls (hH.set hσ z ?_ oq) (hS.put z oq (Nat.le_add_right _ _)) hn hL
  show H1[g_ba w + a]? = some (vp_cell _ _)
  rw [e1, vp_cell_i, vp_cell_i, arrV_store]
  congr 2
  funext j
  by_cases hj : j = i.toNatClampNeg
  · subst hj
    simp [updV, upd]
  · simp [updV, upd, hj]
theorem g_cast {a n : Nat} {f : Nat → Int32} {i x : Int32} (hd : decode M.2.1 pc = .ok (.castore, 1)) (hσ : σ[a]? = some (.inl (1, n, .inl f))) (hin : vp_in i n) (hs : σ.set a (.inl (1, n, .inl (upd f i.toNatClampNeg (vp_nar .char x)))) = σ') (hq : pc + 1 = q) (k : Go w M cs q ml st σ' Φ) : Go w M cs pc ml (.int x :: .int i :: .ref a :: st) σ Φ := by
  subst hq; subst hs
  intro p l e s m args below meth c C H locs ls hH hS hn hL
  have hP := hH.2 a _ (g_S_at hσ)
  refine W.cast C.1 C.2.1 hP ((C.2.2.2.2.2.2.2.2.1.2 1 _ rfl).1 n (fun j => .int (f j))) (fun q => by cases q) (by show ¬ (i < 0 ∨ (arrV _ _ _).slots.size ≤ _); rw [arrV_size]; exact hin) rfl rfl hd fun H1 e1 z oq => ?_
  refine k p l e s m args below meth c C H1 _ ls (hH.set hσ z ?_ oq) (hS.put z oq (Nat.le_add_right _ _)) hn hL
  show H1[g_ba w + a]? = some (vp_cell _ _)
  rw [e1, vp_cell_i, vp_cell_i, arrV_store]
  congr 2
  funext j
  by_cases hj : j = i.toNatClampNeg
  · subst hj
    simp [updV, upd, vp_nar]
    try rfl
  · simp [updV, upd, hj]
theorem g_aast {a n t b ci : Nat} {r : vw_C} {f : Nat → Option Nat} {vs : List Value} {i : Int32} (hd : decode M.2.1 pc = .ok (.aastore, 1)) (hc : vwCl[ci]? = some r) (ht : (g_tys w)[t]? = some (g_ca w t, .object r.1)) (hσ : σ[a]? = some (.inl (t, n, .inr (.inr (.inr (.inr f)))))) (hb : σ[b]? = some (.inr (ci, vs))) (hin : vp_in i n) (hs : σ.set a (.inl (t, n, .inr (.inr (.inr (.inr (va_up f i.toNatClampNeg (some b))))))) = σ') (hq : pc + 1 = q) (k : Go w M cs q ml st σ' Φ) : Go w M cs pc ml (.ref b :: .int i :: .ref a :: st) σ Φ := by
  subst hq; subst hs
  intro p l e s m args below meth c C H locs ls hH hS hn hL
  have hK := C.2.2.2.2.2.2.2.2.1
  have hlt : i.toNatClampNeg < n := Nat.not_le.mp fun q => hin (Or.inr q)
  have h0 : ¬ i < 0 := fun q => hin (Or.inl q)
  obtain ⟨r', hr', cellV, g1, g2, g3, -⟩ := hH.2 b _ (g_S_at hb)
  have hcls := (hK.1 ci r hc).2
  obtain ⟨kA, comp, k1, k2, k3, -⟩ := (hK.2 t _ ht).2
  have hcomp : comp = (g_D w).1 ci := Option.some.inj (k3.symm.trans hcls.1)
  subst hcomp
  obtain ⟨kC, hkC, -⟩ := hcls.2
  refine W.aast C.1 C.2.1 (hH.2 a _ (g_S_at hσ)) (fun q h => by cases h) (fun h => by cases h) k1 k2 rfl hkC ⟨h0, by show _ < (arrV _ _ _).slots.size; rw [arrV_size]; exact hlt⟩ g1 (fun q h => by rw [g3] at h; cases h) (by rw [g2]; exact hkC) (by rw [g2]; exact va_assign hcls) rfl rfl hd fun H1 e1 z oq => ?_
  refine k p l e s m args below meth c C H1 _ ls (hH.set hσ z ?_ oq) (hS.put z oq (Nat.le_add_right _ _)) hn hL
  show H1[g_ba w + a]? = some (vp_cell _ _)
  rw [e1, vp_cell_q, vp_cell_q, arrV_store]
  congr 2
  funext j
  by_cases hj : j = i.toNatClampNeg
  · subst hj
    simp [updV, va_up, va_rf]
  · simp [updV, va_up, hj]
theorem g_alen {a n t : Nat} {f : Nat → Int32} {v : Int32} {ty : FieldType} (hd : decode M.2.1 pc = .ok (.arraylength, 1)) (ht : (g_tys w)[t]? = some (g_ca w t, ty)) (hσ : σ[a]? = some (.inl (t, n, .inl f))) (hv : Int32.ofNat n = v) (hq : pc + 1 = q) (k : Go w M cs q ml (.int v :: st) σ Φ) : Go w M cs pc ml (.ref a :: st) σ Φ := by
  subst hq
  intro p l e s m args below meth c C H locs ls hH hS hn hL
  exact va_alen C.1 C.2.1 C.2.2.2.2.2.2.2.2.1 hH.2 a t (g_S_at hσ) ht hv hd (k p l e s m args below meth c C H locs ls hH hS hn hL)
end GH
end
section
section GC
variable {w : g_W} {M M' : g_MD} {cs : Nat × Nat} {pc q : Nat} {ml : List (Option Value)} {st : List Value} {σ σ' : g_H0} {Φ Φ' : g_Post}
/-! what is new -/
theorem g_H.push {e : va_E} {H H1 : Heap} (h : g_H w σ H) (z : H1.size = H.size + 1) (he : va_at (g_D w) vwCl (g_ba w + σ.length, g_E w e) H1) (o1 : ∀ q : Nat, q < H.size → H1[q]? = H[q]?) : g_H w (σ ++ [e]) H1 := by
  refine ⟨by rw [z, h.1, List.length_append]; simp; omega, ?_⟩
  rw [g_S_push]
  refine (h.2.kept (fun k x hx => o1 x.1 ((h.2 k x hx).lt))).app (fun k x hx => ?_)
  have hz : k < 1 := (List.getElem?_eq_some_iff.mp hx).1
  rw [show k = 0 by omega] at hx
  cases hx
  exact he
theorem g_S0.push {A : Nat → Prop} {H0 H H1 : Heap} {locs : List Loc} (hS : va_S A H0 H locs) (z : H1.size = H.size + 1) (o1 : ∀ q : Nat, q < H.size → H1[q]? = H[q]?) : va_S A H0 H1 locs :=
  ⟨Nat.le_trans hS.1 (by omega), fun x h1 h2 => (o1 x (Nat.lt_of_lt_of_le h1 hS.1)).trans (hS.2.1 x h1 h2), hS.2.2⟩
/-- a class that is made: its number, how many fields, what they are at first -/
def g_NW (own : String) (idx ci n : Nat) (fs : List Value) : Prop := ∃ (Cn : String) (F : u_T) (ty : Nat → FieldType), vwCl[ci]? = some (Cn, F, n) ∧ (∀ x ∈ u_ws Cn F n, x ∈ gTb) ∧ (∀ k, k < n → parseFieldDescriptor (F k).2.2.1 = some (ty k)) ∧ Cond.classLink own idx Cn ∈ gTb ∧ Cond.instantiable Cn n ∈ gTb ∧ Cond.initialized Cn ∈ gTb ∧ (∀ j, j < n → defaultValue (ty j) = vp_V fs j) ∧ ∀ w : g_W, fs.map (g_V w) = fs
theorem g_new {idx ci n a : Nat} {fs : List Value} (hw : g_NW M.1.cls idx ci n fs) (hd : decode M.2.1 pc = .ok (.new idx, 3)) (hcells : cs.1 + 1 ≤ (g_rm M).cells) (hslots : cs.2 + n ≤ (g_rm M).slots) (ha : σ.length = a) (hs : σ ++ [.inr (ci, fs)] = σ') (hq : pc + 3 = q) (k : Go w M (cs.1 + 1, cs.2 + n) q ml (.ref a :: st) σ' Φ) : Go w M cs pc ml st σ Φ := by
  subst hq; subst hs; subst ha
  intro p l e s m args below meth c C H locs ls hH hS hn hL
  obtain ⟨Cn, F, ty, hc, hin, hty, h1, h2, h3, h4, h5⟩ := hw
  have hts := C.2.2.2.2.1
  have hKn := C.2.2.2.2.2.2.2.2.1.1 ci _ hc
  refine W.newcK C.1 C.2.1 C.2.2.2.2.2.1 (hts _ h1) (hts _ h2) (hts _ h3) rfl hd hcells hslots hKn.2.1 hH.1 fun H1 kC hkC e1 z1 o1 => ?_
  rw [← hH.1] at z1 o1
  refine k p l e s m args below meth c C H1 locs ls (hH.push z1 ⟨_, hc, ?_⟩ o1) (g_S0.push hS z1 o1) hn hL
  show t_OB _ _ _ _ _ (vp_V (fs.map (g_V w)))
  rw [h5 w]
  exact (u_born ty hts hin hKn hkC e1 hty).to h4
theorem g_newI {a N : Nat} {n : Int32} (hd : decode M.2.1 pc = .ok (.newarray .int, 2)) (hcl : Cond.arrayClass .int ∈ gTb) (hn0 : ¬ n < 0) (hN : n.toNatClampNeg = N) (hby : N * 4 ≤ 536870912) (hcells : cs.1 + 1 ≤ (g_rm M).cells) (hslots : cs.2 + N ≤ (g_rm M).slots) (ha : σ.length = a) (hs : σ ++ [.inl (0, N, .inl (fun _ => 0))] = σ') (hq : pc + 2 = q) (k : Go w M (cs.1 + 1, cs.2 + N) q ml (.ref a :: st) σ' Φ) : Go w M cs pc ml (.int n :: st) σ Φ := by
  subst hq; subst hs; subst ha
  intro p l e s m args below meth c C H locs ls hH hS hn hL
  have hts := C.2.2.2.2.1
  refine va_newaK (atype := .int) C.1 C.2.1 (hts _ hcl) rfl hd rfl hn0 hN hby hcells hslots hH.1 fun H1 cA e1 z1 o1 _ hf => ?_
  have hca : g_ca w 0 = cA := Option.some.inj (((C.2.2.2.2.2.2.2.2.1.2 0 _ rfl).2).symm.trans hf)
  rw [← hH.1] at z1 o1
  refine k p l e s m args below meth c C H1 locs ls (hH.push z1 ?_ o1) (g_S0.push hS z1 o1) hn hL
  show H1[_]? = some (vp_cell (g_ca w 0) _)
  rw [hca, e1]; rfl
theorem g_newC {a N : Nat} {n : Int32} (hd : decode M.2.1 pc = .ok (.newarray .char, 2)) (hcl : Cond.arrayClass .char ∈ gTb) (hn0 : ¬ n < 0) (hN : n.toNatClampNeg = N) (hby : N * 2 ≤ 536870912) (hcells : cs.1 + 1 ≤ (g_rm M).cells) (hslots : cs.2 + N ≤ (g_rm M).slots) (ha : σ.length = a) (hs : σ ++ [.inl (1, N, .inl (fun _ => 0))] = σ') (hq : pc + 2 = q) (k : Go w M (cs.1 + 1, cs.2 + N) q ml (.ref a :: st) σ' Φ) : Go w M cs pc ml (.int n :: st) σ Φ := by
  subst hq; subst hs; subst ha
  intro p l e s m args below meth c C H locs ls hH hS hn hL
  have hts := C.2.2.2.2.1
  refine va_newaK (atype := .char) C.1 C.2.1 (hts _ hcl) rfl hd rfl hn0 hN hby hcells hslots hH.1 fun H1 cA e1 z1 o1 _ hf => ?_
  have hca : g_ca w 1 = cA := Option.some.inj (((C.2.2.2.2.2.2.2.2.1.2 1 _ rfl).2).symm.trans hf)
  rw [← hH.1] at z1 o1
  refine k p l e s m args below meth c C H1 locs ls (hH.push z1 ?_ o1) (g_S0.push hS z1 o1) hn hL
  show H1[_]? = some (vp_cell (g_ca w 1) _)
  rw [hca, e1]; rfl
theorem g_newA {a N idx t : Nat} {Cn : String} {n : Int32} (hd : decode M.2.1 pc = .ok (.anewarray idx, 3)) (ht : (g_tys w)[t]? = some (g_ca w t, .object Cn)) (hcl : Cond.classLink M.1.cls idx Cn ∈ gTb) (hov : Cond.arrayOver (.object Cn) ∈ tables_1) (hn0 : ¬ n < 0) (hN : n.toNatClampNeg = N) (hby : N * 4 ≤ 536870912) (hcells : cs.1 + 1 ≤ (g_rm M).cells) (hslots : cs.2 + N ≤ (g_rm M).slots) (ha : σ.length = a) (hs : σ ++ [.inl (t, N, .inr (.inr (.inr (.inr (fun _ => none)))))] = σ') (hq : pc + 3 = q) (k : Go w M (cs.1 + 1, cs.2 + N) q ml (.ref a :: st) σ' Φ) : Go w M cs pc ml (.int n :: st) σ Φ := by
  subst hq; subst hs; subst ha; subst hN
  intro p l e s m args below meth c C H locs ls hH hS hn hL
  have hts := C.2.2.2.2.1
  refine W.anew C.1 C.2.1 C.2.2.2.2.2.1 (hts _ hcl) (va_AO.use (C.2.2.2.2.2.2.2.2.2.1.2.2.2 Cn hov)) rfl hd rfl hn0 hby hcells hslots fun cA kA comp f1 f2 f3 f4 => ?_
  obtain ⟨kA', comp', -, -, -, f5⟩ := (C.2.2.2.2.2.2.2.2.1.2 t _ ht).2
  have hca : g_ca w t = cA := Option.some.inj (f5.symm.trans f1)
  generalize hH1 : H.push ({ cls := cA, slots := Array.replicate n.toNatClampNeg .null, vm := .none } : Cell) = H1
  have z1 : H1.size = H.size + 1 := by rw [← hH1, Array.size_push]
  have e1 : H1[H.size]? = some (arrV cA n.toNatClampNeg (fun _ => .null)) := by rw [← hH1, Array.getElem?_push_size, ← arrV_new]
  have o1 : ∀ q : Nat, q < H.size → H1[q]? = H[q]? := fun q hq => by rw [← hH1, Array.getElem?_push, if_neg (Nat.ne_of_lt hq)]
  have hk := k p l e s m args below meth c C H1 locs ls (hH.push z1 (by
    show H1[_]? = some (vp_cell (g_ca w t) _)
    rw [hca, ← hH.1, e1]; rfl) o1) (g_S0.push hS z1 o1) hn hL
  rw [List.map_cons, g_V, ← hH.1] at hk
  exact hk
/-! calls -/
theorem g_good : GoodIn gTb gTb := fun x hx => ⟨hx, good_of_word (List.mem_filter.mp hx).2⟩
theorem g_goodM (hm : g_MO M') : GoodIn gTb (g_ws M') := fun x hx => by
  rcases List.mem_cons.mp hx with rfl | h
  · exact g_good _ hm.1
  · exact g_good _ h
theorem g_blind {as : List Value} : FrameBlind (g_Pc w as σ) := fun a U g mk ⟨q1, q2, q3, q4⟩ => ⟨q1, q2, va_K.moved (u := U) (U := U.calling g mk a) (Vm.Alike.refl U.vm) q3, g_RO.same (s := U) q4 rfl rfl⟩
theorem g_pre {p : Program} {s : State} {m : MethodId} {args : Array Value} {meth : Method} {c : Code} {H : Heap} {locs : List Loc} {as : List Value} (C : g_Cx w M p s m args meth c) (hH : g_H w σ H) (hS : va_S (g_A w) s.heap H locs) : ∀ U : State, U.heap = H → s.WarmedH U.vm → g_Pc w as σ (as.map (g_V w)).toArray U :=
  fun U hU hW => ⟨rfl, by rw [hU]; exact hH, va_K.moved hW.alike C.2.2.2.2.2.2.2.2.1, g_RO.moved C.2.2.2.2.2.2.2.2.2.1 hW (by rw [hU]; exact hS.2.1) C.2.2.2.2.2.2.2.2.2.2⟩
theorem g_run {p : Program} {l : Launch} {e : Env} {s : State} {m : MethodId} {args : Array Value} {below : List Frame} {meth : Method} {c : Code} {H : Heap} {locs : List Loc} {ls : Array Slot} {Q : State → Prop} {R : Room} {cells slots mc ms : Nat} {st0 : List Value} {rest : List Value} {a : Array Value}
    (hr : va_Run p l e R s m args below meth c H locs cells slots mc ms (F0 m pc ls st0) (rest.map (g_V w)) (g_Q w Φ' a) (g_A w)) (hS : va_S (g_A w) s.heap H locs)
    (kk : ∀ (r : Option Value) (σ1 : g_H0) (H1 : Heap) (locs1 : List Loc), Φ' r σ1 → g_H w σ1 H1 → va_S (g_A w) s.heap H1 locs1 → W p l e R s m args below meth c H1 locs1 (cells + mc) (slots + ms) Q (F0 m (pc + 3) ls ((r.toList ++ rest).map (g_V w)))) : W p l e R s m args below meth c H locs cells slots Q (F0 m pc ls st0) := by
  intro T hT X
  obtain ⟨v, st₀, t, T', L, h0, X', hL, e1, e2, ⟨⟨r, σ1, q1, q2, q3⟩, hz, hk⟩, st⟩ := hr T hT X
  have hv : v = r.map (g_V w) := by cases q2; rfl
  rw [h0] at hz hk
  obtain ⟨t2, a1, b1⟩ := kk r σ1 T'.heap (locs ++ L) q1 (by rw [e1]; exact q3)
    ⟨Nat.le_trans hS.1 (by rw [e1]; exact hz), fun q h1 h2 => by rw [e1, hk q (Nat.lt_of_lt_of_le h1 hS.1) h2]; exact hS.2.1 q h1 h2, fun q hq => by
      rcases List.mem_append.mp hq with h | h
      · exact hS.2.2 q h
      · exact hL q h⟩ T' rfl X'
  have hs : (r.toList ++ rest).map (g_V w) = v.toList ++ rest.map (g_V w) := by rw [hv]; cases r <;> rfl
  rw [hs] at a1
  exact ⟨t2, st t2 a1, b1⟩
theorem g_cat {rest : List Value} (h : (rest.map Value.category).sum ≤ 8) : ((rest.map (g_V w)).map fun v => v.category).sum ≤ 8 := by
  have : (rest.map (g_V w)).map (fun v => v.category) = rest.map Value.category := by
    rw [List.map_map]
    exact List.map_congr_left (fun v _ => g_V_cat w v)
  rw [this]; exact h
theorem g_callV {idx ci : Nat} {F : u_T} {n b : Nat} {fs As rest : List Value} (hm : g_MI M') (hlk : g_LK M M' idx) (hd : decode M.2.1 pc = .ok (.invokevirtual idx, 3)) (hci : vwCl[ci]? = some (M'.1.cls, F, n)) (hb : σ[b]? = some (.inr (ci, fs))) (hr : Ret M' (.ref b :: As) σ Φ') (hst : st = As.reverse ++ .ref b :: rest) (hnA : As.length = M'.2.2.2.2.1) (hcat : (rest.map Value.category).sum ≤ 8) (hcells : cs.1 + (g_rm M').cells ≤ (g_rm M).cells) (hslots : cs.2 + (g_rm M').slots ≤ (g_rm M).slots) (hq : pc + 3 = q)
    (k : ∀ r σ1, Φ' r σ1 → Go w M (cs.1 + (g_rm M').cells, cs.2 + (g_rm M').slots) q ml (r.toList ++ rest) σ1 Φ) : Go w M cs pc ml st σ Φ := by
  subst hq; subst hst
  intro p l e s m args below meth c C H locs ls hH hS hn hL
  have hts := C.2.2.2.2.1
  have cb := callB_of (R := g_rm M) (s := s) (args := args) (own := M.1.cls) (index := idx) (rm := g_rm M') M'.2.2.2.2.1 hts (g_goodM hm.1) rfl rfl rfl (hts _ hm.1.2.1) (hts _ hlk.1) ⟨hm.1.2.2.2.1.1, hm.1.2.2.2.1.2, hm.1.2.2.2.2⟩ ⟨hlk.2.1, hlk.2.2⟩
  have hst : ((As.reverse ++ .ref b :: rest).map (g_V w)) = (As.map (g_V w)).reverse ++ .ref (g_ba w + b) :: rest.map (g_V w) := by simp [g_V]
  refine g_run (mc := (g_rm M').cells) (ms := (g_rm M').slots) (va_runV (As := As.map (g_V w)) (b := g_ba w + b) (C := M'.1.cls) ⟨C.1, C.2.1, C.2.2.2.1, C.2.2.2.2.2.1, hts⟩ (hr w l) ⟨cb, hts _ hm.2.1, hts _ hm.2.2⟩ ⟨g_blind, va_recv C.2.2.2.2.2.2.2.2.1 hH.2 hci (g_S_at hb), g_pre C hH hS⟩ rfl (by rw [List.length_map]; exact hnA) (by rw [hL.1]; exact hn) hst (lv_room (g_cat hcat)) hd ⟨hcells, hslots⟩) hS (fun r σ1 H1 locs1 h1 h2 h3 => ?_)
  exact k r σ1 h1 p l e s m args below meth c C H1 locs1 ls h2 h3 hn hL
theorem g_callS {idx : Nat} {As rest : List Value} (hm : g_MS M') (hlk : g_LK M M' idx) (hd : decode M.2.1 pc = .ok (.invokestatic idx, 3)) (hr : Ret M' As σ Φ') (hst : st = As.reverse ++ rest) (hnA : As.length = M'.2.2.2.2.1) (hcat : (rest.map Value.category).sum ≤ 8) (hcells : cs.1 + (g_rm M').cells ≤ (g_rm M).cells) (hslots : cs.2 + (g_rm M').slots ≤ (g_rm M).slots) (hq : pc + 3 = q)
    (k : ∀ r σ1, Φ' r σ1 → Go w M (cs.1 + (g_rm M').cells, cs.2 + (g_rm M').slots) q ml (r.toList ++ rest) σ1 Φ) : Go w M cs pc ml st σ Φ := by
  subst hq; subst hst
  intro p l e s m args below meth c C H locs ls hH hS hn hL
  have hts := C.2.2.2.2.1
  have cb := callB_of (R := g_rm M) (s := s) (args := args) (own := M.1.cls) (index := idx) (rm := g_rm M') M'.2.2.2.2.1 hts (g_goodM hm.1) rfl rfl rfl (hts _ hm.1.2.1) (hts _ hlk.1) ⟨hm.1.2.2.2.1.1, hm.1.2.2.2.1.2, hm.1.2.2.2.2⟩ ⟨hlk.2.1, hlk.2.2⟩
  have hst : ((As.reverse ++ rest).map (g_V w)) = (As.map (g_V w)).reverse ++ rest.map (g_V w) := by simp
  refine g_run (mc := (g_rm M').cells) (ms := (g_rm M').slots) (va_runS (As := As.map (g_V w)) ⟨C.1, C.2.1, C.2.2.2.1, C.2.2.2.2.2.1, hts⟩ (hr w l) ⟨cb, hts _ hm.2⟩ ⟨g_blind, g_pre C hH hS⟩ rfl (by rw [List.length_map]; exact hnA) (by rw [hL.1]; exact hn) hst (lv_room (g_cat hcat)) hd ⟨hcells, hslots⟩) hS (fun r σ1 H1 locs1 h1 h2 h3 => ?_)
  exact k r σ1 h1 p l e s m args below meth c C H1 locs1 ls h2 h3 hn hL
theorem g_CN {s : State} {args : Array Value} {idx : Nat} (hts : ∀ x ∈ gTb, x.before args s = true) (hm : g_MO M') (host : String) (hl : va_Nw (.methodLinkNest M.1.cls idx M'.1 host) s) (h1 : M'.2.2.2.2.2.1 + 1 ≤ M.2.2.2.2.2.1) (h2 : 8 + (M'.2.2.1 + 11) + M'.2.2.2.2.2.2.1 ≤ M.2.2.2.2.2.2.1) : va_CN (g_rm M) s args M.1.cls idx M'.1 host M'.2.1 M'.2.2.1 M'.2.2.2.1 (g_ws M') (g_rm M') (g_rm M').cells (g_rm M').slots M'.2.2.2.2.1 := by
  refine ⟨⟨rfl, rfl, h1, h2, pay_in hts (g_goodM hm), List.mem_cons_self⟩, hts _ hm.1, hts _ hm.2.1, hm.2.2.2.1, fun sig h => ?_, va_Nw.use rfl hl⟩
  have h3 := hm.2.2.2.2
  rw [h] at h3
  exact (Option.some.inj h3).symm
theorem g_callSN {idx : Nat} {As rest : List Value} (hm : g_MS M') (hlk : g_LN M M' idx) (hd : decode M.2.1 pc = .ok (.invokestatic idx, 3)) (hr : Ret M' As σ Φ') (hst : st = As.reverse ++ rest) (hnA : As.length = M'.2.2.2.2.1) (hcat : (rest.map Value.category).sum ≤ 8) (hcells : cs.1 + (g_rm M').cells ≤ (g_rm M).cells) (hslots : cs.2 + (g_rm M').slots ≤ (g_rm M).slots) (hq : pc + 3 = q)
    (k : ∀ r σ1, Φ' r σ1 → Go w M (cs.1 + (g_rm M').cells, cs.2 + (g_rm M').slots) q ml (r.toList ++ rest) σ1 Φ) : Go w M cs pc ml st σ Φ := by
  subst hq; subst hst
  intro p l e s m args below meth c C H locs ls hH hS hn hL
  have hts := C.2.2.2.2.1
  obtain ⟨⟨host, hl⟩, h1, h2⟩ := hlk
  have hst : ((As.reverse ++ rest).map (g_V w)) = (As.map (g_V w)).reverse ++ rest.map (g_V w) := by simp
  refine g_run (mc := (g_rm M').cells) (ms := (g_rm M').slots) (va_runSN (As := As.map (g_V w)) ⟨C.1, C.2.1, C.2.2.2.1, C.2.2.2.2.2.1, hts⟩ (hr w l) ⟨g_CN hts hm.1 host (C.2.2.2.2.2.2.2.2.2.1.2.2.1 _ _ _ _ hl) h1 h2, hts _ hm.2, trivial⟩ ⟨g_blind, g_pre C hH hS⟩ rfl (by rw [List.length_map]; exact hnA) (by rw [hL.1]; exact hn) hst (lv_room (g_cat hcat)) hd ⟨hcells, hslots⟩) hS (fun r σ1 H1 locs1 h1 h2 h3 => ?_)
  exact k r σ1 h1 p l e s m args below meth c C H1 locs1 ls h2 h3 hn hL
theorem g_callI {idx b : Nat} {As rest : List Value} (hm : g_MN M') (hv : M'.2.2.2.1 = none) (hlk : g_LK M M' idx) (hd : decode M.2.1 pc = .ok (.invokespecial idx, 3)) (hr : Ret M' (.ref b :: As) σ Φ') (hst : st = As.reverse ++ .ref b :: rest) (hnA : As.length = M'.2.2.2.2.1) (hcat : (rest.map Value.category).sum ≤ 8) (hcells : cs.1 + (g_rm M').cells ≤ (g_rm M).cells) (hslots : cs.2 + (g_rm M').slots ≤ (g_rm M).slots) (hq : pc + 3 = q)
    (k : ∀ r σ1, Φ' r σ1 → Go w M (cs.1 + (g_rm M').cells, cs.2 + (g_rm M').slots) q ml (r.toList ++ rest) σ1 Φ) : Go w M cs pc ml st σ Φ := by
  subst hq; subst hst
  intro p l e s m args below meth c C H locs ls hH hS hn hL
  have hts := C.2.2.2.2.1
  have cb := callB_of (R := g_rm M) (s := s) (args := args) (own := M.1.cls) (index := idx) (rm := g_rm M') M'.2.2.2.2.1 hts (g_goodM hm.1) rfl rfl rfl (hts _ hm.1.2.1) (hts _ hlk.1) ⟨hm.1.2.2.2.1.1, hm.1.2.2.2.1.2, hm.1.2.2.2.2⟩ ⟨hlk.2.1, hlk.2.2⟩
  rw [hv] at cb
  have hst : ((As.reverse ++ .ref b :: rest).map (g_V w)) = (As.map (g_V w)).reverse ++ .ref (g_ba w + b) :: rest.map (g_V w) := by simp [g_V]
  refine g_run (mc := (g_rm M').cells) (ms := (g_rm M').slots) (va_runI (As := As.map (g_V w)) (b := g_ba w + b) ⟨C.1, C.2.1, C.2.2.2.1, C.2.2.2.2.2.1, hts⟩ (hr w l) ⟨cb, hm.2.2, hts _ hm.2.1⟩ ⟨g_blind, g_pre C hH hS⟩ rfl (by rw [List.length_map]; exact hnA) (by rw [hL.1]; exact hn) hst (lv_room (g_cat hcat)) hd ⟨hcells, hslots⟩) hS (fun r σ1 H1 locs1 h1 h2 h3 => ?_)
  exact k r σ1 h1 p l e s m args below meth c C H1 locs1 ls h2 h3 hn hL
theorem g_callIN {idx b : Nat} {As rest : List Value} (hm : g_MN M') (hv : M'.2.2.2.1 = none) (hlk : g_LN M M' idx) (hd : decode M.2.1 pc = .ok (.invokespecial idx, 3)) (hr : Ret M' (.ref b :: As) σ Φ') (hst : st = As.reverse ++ .ref b :: rest) (hnA : As.length = M'.2.2.2.2.1) (hcat : (rest.map Value.category).sum ≤ 8) (hcells : cs.1 + (g_rm M').cells ≤ (g_rm M).cells) (hslots : cs.2 + (g_rm M').slots ≤ (g_rm M).slots) (hq : pc + 3 = q)
    (k : ∀ r σ1, Φ' r σ1 → Go w M (cs.1 + (g_rm M').cells, cs.2 + (g_rm M').slots) q ml (r.toList ++ rest) σ1 Φ) : Go w M cs pc ml st σ Φ := by
  subst hq; subst hst
  intro p l e s m args below meth c C H locs ls hH hS hn hL
  have hts := C.2.2.2.2.1
  obtain ⟨⟨host, hl⟩, h1, h2⟩ := hlk
  have cb := g_CN (M := M) hts hm.1 host (C.2.2.2.2.2.2.2.2.2.1.2.2.1 _ _ _ _ hl) h1 h2
  rw [hv] at cb
  have hst : ((As.reverse ++ .ref b :: rest).map (g_V w)) = (As.map (g_V w)).reverse ++ .ref (g_ba w + b) :: rest.map (g_V w) := by simp [g_V]
  refine g_run (mc := (g_rm M').cells) (ms := (g_rm M').slots) (va_runIN (As := As.map (g_V w)) (b := g_ba w + b) ⟨C.1, C.2.1, C.2.2.2.1, C.2.2.2.2.2.1, hts⟩ (hr w l) ⟨cb, hm.2.2, hts _ hm.2.1⟩ ⟨g_blind, g_pre C hH hS⟩ rfl (by rw [List.length_map]; exact hnA) (by rw [hL.1]; exact hn) hst (lv_room (g_cat hcat)) hd ⟨hcells, hslots⟩) hS (fun r σ1 H1 locs1 h1 h2 h3 => ?_)
  exact k r σ1 h1 p l e s m args below meth c C H1 locs1 ls h2 h3 hn hL
theorem g_objInit {idx a : Nat} (hl : Cond.methodLink M.1.cls idx objectInit ∈ gTb) (hi : Cond.instanceMethod objectInit ∈ gTb) (hc : Cond.code objectInit ⟨#[0xb1]⟩ 1 none ∈ gTb) (hd : decode M.2.1 pc = .ok (.invokespecial idx, 3)) (hfr : 1 ≤ (g_rm M).frames) (hlo : 12 ≤ (g_rm M).locals) (hst : st = []) (hq : pc + 3 = q) (k : Go w M cs q ml [] σ Φ) : Go w M cs pc ml (.ref a :: st) σ Φ := by
  subst hq; subst hst
  intro p l e s m args below meth c C H locs ls hH hS hn hL
  have hts := C.2.2.2.2.1
  exact W.objInit C.1 C.2.1 C.2.2.2.2.2.1 (hts _ hl) (hts _ hi) (hts _ hc) rfl (by rw [C.2.2.2.1, ← hn]; exact hL.1) rfl hd hfr hlo (k p l e s m args below meth c C H locs ls hH hS hn hL)
/-! answers -/
theorem g_vret (hd : decode M.2.1 pc = .ok (.return_, 1)) (hr : M.2.2.2.1 = none) (hc : cs.1 ≤ (g_rm M).cells) (hs : cs.2 ≤ (g_rm M).slots) (h : Φ none σ) : Go w M cs pc ml [] σ Φ := by
  intro p l e s m args below meth c C H locs ls hH hS hn hL
  refine W.widen (k := (g_rm M).cells) (n := (g_rm M).slots) hc hs ?_
  exact W.vret C.1 C.2.1 (C.2.2.1.trans hr) (fun t ht hW => ⟨⟨none, σ, h, rfl, by rw [ht]; exact hH⟩, hS.F ht⟩) hS.2.2 hd C.2.2.2.2.2.2.1
theorem g_iret {v : Int32} (hd : decode M.2.1 pc = .ok (.ireturn, 1)) (hr : M.2.2.2.1 = some .int) (hc : cs.1 ≤ (g_rm M).cells) (hs : cs.2 ≤ (g_rm M).slots) (h : Φ (some (.int v)) σ) : Go w M cs pc ml [.int v] σ Φ := by
  intro p l e s m args below meth c C H locs ls hH hS hn hL
  refine W.widen (k := (g_rm M).cells) (n := (g_rm M).slots) hc hs ?_
  exact W.iret C.1 C.2.1 (C.2.2.1.trans hr) (fun t ht hW => ⟨⟨some (.int v), σ, h, rfl, by rw [ht]; exact hH⟩, hS.F ht⟩) hS.2.2 hd C.2.2.2.2.2.2.1
theorem g_zret {v : Int32} {ty : FieldType} (hd : decode M.2.1 pc = .ok (.ireturn, 1)) (hr : M.2.2.2.1 = some ty) (hnar : narrow ty (.int v) = .int v) (hc : cs.1 ≤ (g_rm M).cells) (hs : cs.2 ≤ (g_rm M).slots) (h : Φ (some (.int v)) σ) : Go w M cs pc ml [.int v] σ Φ := by
  intro p l e s m args below meth c C H locs ls hH hS hn hL
  refine W.widen (k := (g_rm M).cells) (n := (g_rm M).slots) hc hs ?_
  exact W.zret C.1 C.2.1 (C.2.2.1.trans hr) hnar (fun t ht hW => ⟨⟨some (.int v), σ, h, rfl, by rw [ht]; exact hH⟩, hS.F ht⟩) hS.2.2 hd C.2.2.2.2.2.2.1
theorem g_lret {v : Int64} (hd : decode M.2.1 pc = .ok (.lreturn, 1)) (hr : M.2.2.2.1 = some .long) (hc : cs.1 ≤ (g_rm M).cells) (hs : cs.2 ≤ (g_rm M).slots) (h : Φ (some (.long v)) σ) : Go w M cs pc ml [.long v] σ Φ := by
  intro p l e s m args below meth c C H locs ls hH hS hn hL
  refine W.widen (k := (g_rm M).cells) (n := (g_rm M).slots) hc hs ?_
  exact W.lret C.1 C.2.1 (C.2.2.1.trans hr) (fun t ht hW => ⟨⟨some (.long v), σ, h, rfl, by rw [ht]; exact hH⟩, hS.F ht⟩) hS.2.2 hd C.2.2.2.2.2.2.1
/-! Math, arraycopy, the script -/
theorem g_min {idx : Nat} {x y : Int32} (hl : Cond.methodLink M.1.cls idx Lib.Math.min.name ∈ gTb) (hw : Cond.static Lib.Math.min.name ∈ gTb ∧ Cond.initialized "java/lang/Math" ∈ gTb ∧ Cond.code Lib.Math.min.name Lib.Math.min.code 2 (some .int) ∈ gTb) (hd : decode M.2.1 pc = .ok (.invokestatic idx, 3)) (hfr : 1 ≤ (g_rm M).frames) (hlo : (st.map Value.category).sum ≤ 8) (hlo2 : 21 ≤ (g_rm M).locals) (hc : cs.1 ≤ (g_rm M).cells) (hs : cs.2 ≤ (g_rm M).slots) (hq : pc + 3 = q) (k : Go w M cs q ml (.int (if y < x then y else x) :: st) σ Φ) : Go w M cs pc ml (.int y :: .int x :: st) σ Φ := by
  subst hq
  intro p l e s m args below meth c C H locs ls hH hS hn hL
  have hts := C.2.2.2.2.1
  exact va_mmin C.1 C.2.1 (by rw [C.2.2.2.1, ← hn]; exact hL.1.symm) C.2.2.2.2.2.1 (hts _ hl) (hts _ hw.1) (hts _ hw.2.1) (hts _ hw.2.2) hfr (by have := g_cat (w := w) hlo; omega) hc hs hd (k p l e s m args below meth c C H locs ls hH hS hn hL)
theorem g_abs {idx : Nat} {x : Int32} (hl : Cond.methodLink M.1.cls idx Lib.Math.abs.name ∈ gTb) (hw : Cond.static Lib.Math.abs.name ∈ gTb ∧ Cond.initialized "java/lang/Math" ∈ gTb ∧ Cond.code Lib.Math.abs.name Lib.Math.abs.code 1 (some .int) ∈ gTb) (hd : decode M.2.1 pc = .ok (.invokestatic idx, 3)) (hfr : 1 ≤ (g_rm M).frames) (hlo : (st.map Value.category).sum ≤ 8) (hlo2 : 21 ≤ (g_rm M).locals) (hc : cs.1 ≤ (g_rm M).cells) (hs : cs.2 ≤ (g_rm M).slots) (hq : pc + 3 = q) (k : Go w M cs q ml (.int (if 0 ≤ x then x else 0 - x) :: st) σ Φ) : Go w M cs pc ml (.int x :: st) σ Φ := by
  subst hq
  intro p l e s m args below meth c C H locs ls hH hS hn hL
  have hts := C.2.2.2.2.1
  exact va_mabs C.1 C.2.1 (by rw [C.2.2.2.1, ← hn]; exact hL.1.symm) C.2.2.2.2.2.1 (hts _ hl) (hts _ hw.1) (hts _ hw.2.1) (hts _ hw.2.2) hfr (by have := g_cat (w := w) hlo; omega) hc hs hd (k p l e s m args below meth c C H locs ls hH hS hn hL)
theorem g_sld {i : Int32} (hd : decode M.2.1 pc = .ok (.iaload, 1)) (hin : vp_in i (g_L w)) (hq : pc + 1 = q) (k : Go w M cs q ml (.int (g_xs w i.toNatClampNeg) :: st) σ Φ) : Go w M cs pc ml (.int i :: .float 0 :: st) σ Φ := by
  subst hq
  intro p l e s m args below meth c C H locs ls hH hS hn hL
  obtain ⟨⟨h1, h2⟩, -⟩ := C.2.2.2.2.2.2.2.2.2.1
  exact va_sld C.1 C.2.1 h1 (Nat.lt_of_lt_of_le h2 C.2.2.2.2.2.2.2.2.2.2) (Nat.not_le.mpr h2) hS hin hd (k p l e s m args below meth c C H locs ls hH hS hn hL)
theorem g_slen (hd : decode M.2.1 pc = .ok (.arraylength, 1)) (hq : pc + 1 = q) (k : Go w M cs q ml (.int (Int32.ofNat (g_L w)) :: st) σ Φ) : Go w M cs pc ml (.float 0 :: st) σ Φ := by
  subst hq
  intro p l e s m args below meth c C H locs ls hH hS hn hL
  obtain ⟨⟨h1, h2⟩, -⟩ := C.2.2.2.2.2.2.2.2.2.1
  exact va_slen C.1 C.2.1 h1 (Nat.lt_of_lt_of_le h2 C.2.2.2.2.2.2.2.2.2.2) (Nat.not_le.mpr h2) hS hd (k p l e s m args below meth c C H locs ls hH hS hn hL)
end GC
end
section
section GM
variable {w : g_W} {M M' : g_MD} {cs : Nat × Nat} {pc q : Nat} {ml : List (Option Value)} {st : List Value} {σ σ' : g_H0} {Φ Φ' : g_Post}
/-! System.arraycopy of ints -/
def g_AC : Prop := Cond.native arraycopyName ∈ gTb ∧ Cond.static arraycopyName ∈ gTb ∧ Cond.initialized "java/lang/System" ∈ gTb
theorem g_copy {idx a b n0 n1 : Nat} {f g : Nat → Int32} {sp dp n : Int32} (hl : Cond.methodLink M.1.cls idx arraycopyName ∈ gTb) (hw : g_AC) (hd : decode M.2.1 pc = .ok (.invokestatic idx, 3)) (hσ0 : σ[a]? = some (.inl (0, n0, .inl f))) (hσ1 : σ[b]? = some (.inl (0, n1, .inl g)))
    (h1 : ¬ sp < 0) (h2 : ¬ dp < 0) (h3 : ¬ n < 0) (h4 : sp.toNatClampNeg + n.toNatClampNeg ≤ n0) (h5 : dp.toNatClampNeg + n.toNatClampNeg ≤ n1) (hfr : 1 ≤ (g_rm M).frames) (hlo : (st.map Value.category).sum ≤ 8) (hlo2 : 26 ≤ (g_rm M).locals)
    (hs : σ.set b (.inl (0, n1, .inl (va_cpy f g sp.toNatClampNeg dp.toNatClampNeg n.toNatClampNeg))) = σ') (hq : pc + 3 = q) (k : Go w M cs q ml st σ' Φ) : Go w M cs pc ml (.int n :: .int dp :: .ref b :: .int sp :: .ref a :: st) σ Φ := by
  subst hq; subst hs
  intro p l e s m args below meth c C H locs ls hH hS hn hL
  have hts := C.2.2.2.2.1
  have hK := C.2.2.2.2.2.2.2.2.1
  have nn : ∀ z : Int32, ¬ z < 0 → z.toInt = (z.toNatClampNeg : Int) := by
    intro z hz
    have hz0 : (0 : Int) ≤ z.toInt := by
      have := Int32.not_lt.mp hz
      simpa using Int32.le_iff_toInt_le.mp this
    show z.toInt = ((z.toInt.toNat : Nat) : Int)
    omega
  have hc0 : H[g_ba w + a]? = some (vp_cell (g_ca w 0) (n0, .inl f)) := hH.2 a _ (g_S_at hσ0)
  have hc1 : H[g_ba w + b]? = some (vp_cell (g_ca w 0) (n1, .inl g)) := hH.2 b _ (g_S_at hσ1)
  intro T hT X
  obtain ⟨-, k0, hk0, cm0, hkk0⟩ := (hK.2 0 _ rfl).1 n0 (fun j => .int (f j))
  obtain ⟨-, k1, hk1, cm1, hkk1⟩ := (hK.2 0 _ rfl).1 n1 (fun j => .int (g j))
  obtain ⟨vm', X', step⟩ := X.arraycopy C.1 C.2.2.2.2.2.1 (hts _ hl) (hts _ hw.1) (hts _ hw.2.1) (hts _ hw.2.2) (src := g_ba w + a) (dst := g_ba w + b) (cs := vp_cell (g_ca w 0) (n0, .inl f)) (cd := vp_cell (g_ca w 0) (n1, .inl g)) (srcPos := sp) (destPos := dp) (n := n) (by rw [hT]; exact hc0) (by rw [hT]; exact hc1)
    (fun _ h => by cases h) (fun _ h => by cases h) (fun h => by cases h) (fun h => by cases h) hk0 hk1 hkk0 hkk1 (by simp [refKind]) h1 h2 h3
    (by rw [nn sp h1, nn n h3]; show ¬ _ > ((arrV _ n0 (fun j => .int (f j))).slots.size : Int); rw [arrV_size]; omega)
    (by rw [nn dp h2, nn n h3]; show ¬ _ > ((arrV _ n1 (fun j => .int (g j))).slots.size : Int); rw [arrV_size]; omega)
    (fun vm₁ _ i hi => by
      have e : (vp_cell (g_ca w 0) (n0, .inl f)).slots.getD (sp.toNatClampNeg + i) .null = .int (f (sp.toNatClampNeg + i)) := by
        show (arrV _ n0 (fun j => .int (f j))).slots.getD _ _ = _
        rw [Array.getD_eq_getD_getElem?, arrV_read _ _ (by omega)]
        rfl
      refine ⟨?_, ?_⟩
      · rw [e]; rfl
      · rw [e]
        exact trivial)
    (g := F0 m pc ls (.int n :: .int dp :: .ref (g_ba w + b) :: .int sp :: .ref (g_ba w + a) :: st.map (g_V w))) rfl (by rw [C.2.2.2.1, ← hn]; exact hL.1) (rest := st.map (g_V w)) rfl (by rw [C.2.1]; exact hd) hfr (by
      show 2 * 0 + _ + (nativeFrameWords "java/lang/System" "arraycopy" 5 + 11) ≤ _
      have h := g_cat (w := w) hlo
      have h7 : nativeFrameWords "java/lang/System" "arraycopy" 5 = 7 := by decide +kernel
      rw [h7]; omega)
  have e1 : copied (vp_cell (g_ca w 0) (n0, .inl f)) (vp_cell (g_ca w 0) (n1, .inl g)) sp dp n = vp_cell (g_ca w 0) (n1, .inl (va_cpy f g sp.toNatClampNeg dp.toNatClampNeg n.toNatClampNeg)) := va_copied (fun z => .int z) _ _ f g h4
  rw [e1] at X' step
  have hl' : g_ba w + b < H.size := (Array.getElem?_eq_some_iff.mp hc1).1
  have hheap : ((T.setVm vm').setCell (g_ba w + b) (vp_cell (g_ca w 0) (n1, .inl (va_cpy f g sp.toNatClampNeg dp.toNatClampNeg n.toNatClampNeg)))).heap = H.setIfInBounds (g_ba w + b) (vp_cell (g_ca w 0) (n1, .inl (va_cpy f g sp.toNatClampNeg dp.toNatClampNeg n.toNatClampNeg))) := by rw [← hT]; rfl
  have oq : ∀ q : Nat, q ≠ g_ba w + b → (H.setIfInBounds (g_ba w + b) (vp_cell (g_ca w 0) (n1, .inl (va_cpy f g sp.toNatClampNeg dp.toNatClampNeg n.toNatClampNeg))))[q]? = H[q]? := fun q hq => by simp [Array.getElem?_setIfInBounds, Ne.symm hq]
  obtain ⟨t, a1, b1⟩ := k p l e s m args below meth c C _ _ ls (hH.set hσ1 (by simp) (show (H.setIfInBounds (g_ba w + b) _)[_]? = some _ by simp [Array.getElem?_setIfInBounds, hl']) oq) ⟨by simp; exact hS.1, fun q g1 g2 => by
      rw [oq q (fun e => g2 (by rw [e]; exact Nat.le_add_right _ _))]
      exact hS.2.1 q g1 g2, fun q hq => by
      rcases List.mem_append.mp hq with h | h
      · exact hS.2.2 q h
      · obtain ⟨z, -, hz⟩ := List.mem_map.mp h
        rw [← hz]
        exact Nat.le_add_right _ _⟩ hn hL _ hheap X'
  exact ⟨t, step t a1, b1⟩
/-! String constants -/
theorem g_getVal {i : Nat} {x y : UInt32} (hi : i < 5) (hx : x.toNat = 1 + i) (hy : y.toNat = 11 + i) (hlk : Cond.fieldLink M.1.cls 9 "java/lang/String" "value" "[B" ∈ gTb) (hd : decode M.2.1 pc = .ok (.getfield 9, 3)) (hq : pc + 3 = q) (k : Go w M cs q ml (.float y :: st) σ Φ) : Go w M cs pc ml (.float x :: st) σ Φ := by
  subst hq
  intro p l e s m args below meth c C H locs ls hH hS hn hL
  obtain ⟨-, ⟨h3, -⟩, -⟩ := C.2.2.2.2.2.2.2.2.2.1
  have hk := k p l e s m args below meth c C H locs ls hH hS hn hL
  simp only [List.map_cons, g_V, hx, hy] at hk ⊢
  exact vk_getf C.1 C.2.1 (h3.1 i hi).2.2.1 hS C.2.2.2.2.2.1 (C.2.2.2.2.1 _ hlk) (fun _ h => h) hd hk
theorem g_getCod {i : Nat} {x : UInt32} (hi : i < 5) (hx : x.toNat = 1 + i) (hlk : Cond.fieldLink M.1.cls 15 "java/lang/String" "coder" "B" ∈ gTb) (hd : decode M.2.1 pc = .ok (.getfield 15, 3)) (hq : pc + 3 = q) (k : Go w M cs q ml (.int 0 :: st) σ Φ) : Go w M cs pc ml (.float x :: st) σ Φ := by
  subst hq
  intro p l e s m args below meth c C H locs ls hH hS hn hL
  obtain ⟨-, ⟨h3, -⟩, -⟩ := C.2.2.2.2.2.2.2.2.2.1
  have hk := k p l e s m args below meth c C H locs ls hH hS hn hL
  simp only [List.map_cons, g_V, hx] at hk ⊢
  exact vk_getf C.1 C.2.1 (h3.1 i hi).2.1 hS C.2.2.2.2.2.1 (C.2.2.2.2.1 _ hlk) (fun _ h => h) hd hk
theorem g_blen {i : Nat} {y : UInt32} {v : Int32} (hi : i < 5) (hy : y.toNat = 11 + i) (hv : Int32.ofNat (g_sLen.getD i 0) = v) (hd : decode M.2.1 pc = .ok (.arraylength, 1)) (hq : pc + 1 = q) (k : Go w M cs q ml (.int v :: st) σ Φ) : Go w M cs pc ml (.float y :: st) σ Φ := by
  subst hq
  intro p l e s m args below meth c C H locs ls hH hS hn hL
  obtain ⟨-, ⟨h3, -⟩, -⟩ := C.2.2.2.2.2.2.2.2.2.1
  have hk := k p l e s m args below meth c C H locs ls hH hS hn hL
  simp only [List.map_cons, g_V, hy] at hk ⊢
  exact va_tlen C.1 C.2.1 (h3.1 i hi).2.2.2 hS hv hd hk
theorem g_bald {i : Nat} {y : UInt32} {j v : Int32} (hi : i < 5) (hy : y.toNat = 11 + i) (hin : vp_in j (g_sLen.getD i 0)) (hv : (g_sByt.getD i []).getD j.toNatClampNeg 0 = v) (hd : decode M.2.1 pc = .ok (.baload, 1)) (hq : pc + 1 = q) (k : Go w M cs q ml (.int v :: st) σ Φ) : Go w M cs pc ml (.int j :: .float y :: st) σ Φ := by
  subst hq
  intro p l e s m args below meth c C H locs ls hH hS hn hL
  obtain ⟨-, ⟨h3, -⟩, -⟩ := C.2.2.2.2.2.2.2.2.2.1
  have hk := k p l e s m args below meth c C H locs ls hH hS hn hL
  simp only [List.map_cons, g_V, hy] at hk ⊢
  exact va_tb C.1 C.2.1 (h3.1 i hi).2.2.2 hS hin (v := .int v) (by rw [← hv]) hd hk
theorem g_getCS (hlk : Cond.fieldLink M.1.cls 38 "java/lang/String" "COMPACT_STRINGS" "Z" ∈ gTb) (hd : decode M.2.1 pc = .ok (.getstatic 38, 3)) (hq : pc + 3 = q) (k : Go w M cs q ml (.int 1 :: st) σ Φ) : Go w M cs pc ml st σ Φ := by
  subst hq
  intro p l e s m args below meth c C H locs ls hH hS hn hL
  obtain ⟨-, ⟨-, -, h5, -⟩, -⟩ := C.2.2.2.2.2.2.2.2.2.1
  exact va_gets C.1 C.2.1 h5 hS C.2.2.2.2.2.1 (C.2.2.2.2.1 _ hlk) (fun _ h => h) hd (k p l e s m args below meth c C H locs ls hH hS hn hL)
theorem g_getSF (hlk : Cond.fieldLink M.1.cls 1053 "jdk/internal/util/Preconditions" "SIOOBE_FORMATTER" "Ljava/util/function/BiFunction;" ∈ gTb) (hd : decode M.2.1 pc = .ok (.getstatic 1053, 3)) (hq : pc + 3 = q) (k : ∀ v : Value, (v = .null ∨ ∃ j : UInt32, v = .float j) → Go w M cs q ml (v :: st) σ Φ) : Go w M cs pc ml st σ Φ := by
  subst hq
  intro p l e s m args below meth c C H locs ls hH hS hn hL
  obtain ⟨-, ⟨-, -, -, h6, h7⟩, -⟩ := C.2.2.2.2.2.2.2.2.2.1
  exact va_gets C.1 C.2.1 h6 hS C.2.2.2.2.2.1 (C.2.2.2.2.1 _ hlk) (fun _ h => h) hd (k _ h7 p l e s m args below meth c C H locs ls hH hS hn hL)
theorem g_callVS {idx i : Nat} {x : UInt32} {As rest : List Value} (hi : i < 5) (hx : x.toNat = 1 + i) (hcl : M'.1.cls = "java/lang/String") (hm : g_MI M') (hlk : g_LK M M' idx) (hd : decode M.2.1 pc = .ok (.invokevirtual idx, 3)) (hr : Ret M' (.float x :: As) σ Φ') (hst : st = As.reverse ++ .float x :: rest) (hnA : As.length = M'.2.2.2.2.1) (hcat : (rest.map Value.category).sum ≤ 8) (hcells : cs.1 + (g_rm M').cells ≤ (g_rm M).cells) (hslots : cs.2 + (g_rm M').slots ≤ (g_rm M).slots) (hq : pc + 3 = q)
    (k : ∀ r σ1, Φ' r σ1 → Go w M (cs.1 + (g_rm M').cells, cs.2 + (g_rm M').slots) q ml (r.toList ++ rest) σ1 Φ) : Go w M cs pc ml st σ Φ := by
  subst hq; subst hst
  intro p l e s m args below meth c C H locs ls hH hS hn hL
  have hts := C.2.2.2.2.1
  obtain ⟨-, ⟨h3, -⟩, -⟩ := C.2.2.2.2.2.2.2.2.2.1
  have cb := callB_of (R := g_rm M) (s := s) (args := args) (own := M.1.cls) (index := idx) (rm := g_rm M') M'.2.2.2.2.1 hts (g_goodM hm.1) rfl rfl rfl (hts _ hm.1.2.1) (hts _ hlk.1) ⟨hm.1.2.2.2.1.1, hm.1.2.2.2.1.2, hm.1.2.2.2.2⟩ ⟨hlk.2.1, hlk.2.2⟩
  have hst : ((As.reverse ++ .float x :: rest).map (g_V w)) = (As.map (g_V w)).reverse ++ .ref (g_ro w (1 + i)) :: rest.map (g_V w) := by simp [g_V, hx]
  have hpre := g_pre (as := .float x :: As) C hH hS
  have has : (Value.float x :: As).map (g_V w) = .ref (g_ro w (1 + i)) :: As.map (g_V w) := by simp [g_V, hx]
  rw [has] at hpre
  refine g_run (mc := (g_rm M').cells) (ms := (g_rm M').slots) (va_runV (As := As.map (g_V w)) (b := g_ro w (1 + i)) (C := M'.1.cls) ⟨C.1, C.2.1, C.2.2.2.1, C.2.2.2.2.2.1, hts⟩ (hr w l) ⟨cb, hts _ hm.2.1, hts _ hm.2.2⟩ ⟨g_blind, by rw [hcl]; exact (vk_recv (adK := fun i => g_ro w (1 + i)) h3 hi hS), hpre⟩ rfl (by rw [List.length_map]; exact hnA) (by rw [hL.1]; exact hn) hst (lv_room (g_cat hcat)) hd ⟨hcells, hslots⟩) hS (fun r σ1 H1 locs1 h1 h2 h3 => ?_)
  exact k r σ1 h1 p l e s m args below meth c C H1 locs1 ls h2 h3 hn hL
end GM
end
section
/-! whole numbers: an int is 'iZ z', z an Int within its bounds; truth is 'bI' -/
def iZ (z : Int) : Int32 := Int32.ofInt z
def lZ (z : Int) : Int64 := Int64.ofInt z
def bI (p : Prop) [Decidable p] : Int32 := if p then iZ 1 else iZ 0
theorem iZ_add (a b : Int) : iZ a + iZ b = iZ (a + b) := (Int32.ofInt_add a b).symm
theorem iZ_sub (a b : Int) : iZ a - iZ b = iZ (a - b) := (Int32.ofInt_sub a b).symm
theorem iZ_mul (a b : Int) : iZ a * iZ b = iZ (a * b) := (Int32.ofInt_mul a b).symm
theorem iZ_neg (a : Int) : -iZ a = iZ (-a) := (Int32.ofInt_neg a).symm
theorem iZ_of (x : Int32) : iZ x.toInt = x := Int32.ofInt_toInt x
theorem iZ_rng (x : Int32) : -2147483648 ≤ x.toInt ∧ x.toInt < 2147483648 := by
  have h1 := Int32.le_toInt x
  have h2 := Int32.toInt_lt x
  omega
theorem iZ_toInt {a : Int} (h1 : -2147483648 ≤ a) (h2 : a < 2147483648) : (iZ a).toInt = a := Int32.toInt_ofInt_of_le (by omega) (by omega)
theorem iZ_lt {a b : Int} (h : -2147483648 ≤ a ∧ a < 2147483648 ∧ -2147483648 ≤ b ∧ b < 2147483648) : iZ a < iZ b ↔ a < b := by
  rw [Int32.lt_iff_toInt_lt, iZ_toInt h.1 h.2.1, iZ_toInt h.2.2.1 h.2.2.2]
theorem iZ_le {a b : Int} (h : -2147483648 ≤ a ∧ a < 2147483648 ∧ -2147483648 ≤ b ∧ b < 2147483648) : iZ a ≤ iZ b ↔ a ≤ b := by
  rw [Int32.le_iff_toInt_le, iZ_toInt h.1 h.2.1, iZ_toInt h.2.2.1 h.2.2.2]
theorem iZ_inj {a b : Int} (h : -2147483648 ≤ a ∧ a < 2147483648 ∧ -2147483648 ≤ b ∧ b < 2147483648) : iZ a = iZ b ↔ a = b := by
  rw [← Int32.toInt_inj, iZ_toInt h.1 h.2.1, iZ_toInt h.2.2.1 h.2.2.2]
theorem iZ_0 : (0 : Int32) = iZ 0 := rfl
theorem iZ_clamp {a : Int} (h1 : -2147483648 ≤ a) (h2 : a < 2147483648) : (iZ a).toNatClampNeg = a.toNat := by
  show (iZ a).toInt.toNat = a.toNat
  rw [iZ_toInt h1 h2]
theorem iZ_in {a : Int} {n : Nat} (h1 : 0 ≤ a) (h2 : a < n) (h3 : n < 2147483648) : vp_in (iZ a) n := by
  rw [vp_in_iff, iZ_toInt (by omega) (by omega)]
  omega
theorem iZ_div {a b : Int} (h1 : 0 ≤ a ∧ a < 2147483648 ∧ 0 < b ∧ b < 2147483648) : iZ a / iZ b = iZ (a / b) := by
  apply Int32.toInt_inj.mp
  have hd : a / b ≤ a := Int.ediv_le_self _ h1.1
  have hd0 : 0 ≤ a / b := Int.ediv_nonneg h1.1 (by omega)
  rw [Int32.toInt_div, iZ_toInt (by omega) (by omega), iZ_toInt (by omega) (by omega), iZ_toInt (by omega) (by omega), Int.tdiv_eq_ediv_of_nonneg h1.1, Int.bmod_eq_of_le (by omega) (by omega)]
theorem iZ_rem {a b : Int} (h1 : 0 ≤ a ∧ a < 2147483648 ∧ 0 < b ∧ b < 2147483648) : iZ a - iZ a / iZ b * iZ b = iZ (a % b) := by
  rw [iZ_div h1, iZ_mul, iZ_sub]
  congr 1
  have := Int.emod_add_mul_ediv a b
  have h2 := Int.mul_comm b (a / b)
  omega
theorem bI_t {p : Prop} [Decidable p] (h : p) : bI p = iZ 1 := if_pos h
theorem bI_f {p : Prop} [Decidable p] (h : ¬ p) : bI p = iZ 0 := if_neg h
theorem bI_c {p q : Prop} [Decidable p] [Decidable q] (h : p ↔ q) : bI p = bI q := by unfold bI; simp [h]
theorem bI_nar (p : Prop) [Decidable p] : narrow .boolean (.int (bI p)) = .int (bI p) := by
  unfold bI; split <;> rfl
theorem bI_fit (p : Prop) [Decidable p] : fits .boolean (.int (bI p)) = true := by
  unfold bI; split <;> rfl
theorem bI_z (p : Prop) [Decidable p] : bI p = iZ (if p then 1 else 0) := by unfold bI; split <;> rfl
def zup {α : Type} (t : Int → α) (i : Int) (x : α) : Int → α := fun k => if k = i then x else t k
/-- a row of ints as it lies in an array -/
def zA (t : Int → Int) : Nat → Int32 := fun k => iZ (t (k : Int))
theorem zup_iZ (t : Int → Int) {i : Int} (hi : 0 ≤ i) (x : Int) : upd (zA t) i.toNat (iZ x) = zA (zup t i x) := by
  funext k
  show (if k = i.toNat then iZ x else iZ (t (k : Int))) = iZ (if (k : Int) = i then x else t (k : Int))
  by_cases h : k = i.toNat
  · rw [if_pos h, if_pos (by omega)]
  · rw [if_neg h, if_neg (by omega)]
theorem zA_at (t : Int → Int) {i : Int} (hi : 0 ≤ i) : zA t i.toNat = iZ (t i) := by
  unfold zA
  rw [Int.toNat_of_nonneg hi]
theorem zup_self {α : Type} (t : Int → α) (i : Int) (x : α) : zup t i x i = x := if_pos rfl
theorem zup_ne {α : Type} (t : Int → α) {i k : Int} (x : α) (h : k ≠ i) : zup t i x k = t k := if_neg h
def nup {α : Type} (t : Nat → α) (i : Nat) (x : α) : Nat → α := fun k => if k = i then x else t k
/-- what is written, and that nothing else is -/
def g_Fr (P : Nat → Prop) (σ σ' : g_H0) : Prop := σ'.length = σ.length ∧ ∀ k, ¬ P k → σ'[k]? = σ[k]?
theorem g_Fr.rf {P : Nat → Prop} {σ : g_H0} : g_Fr P σ σ := ⟨rfl, fun _ _ => rfl⟩
theorem g_Fr.tr {P : Nat → Prop} {σ σ1 σ2 : g_H0} (h1 : g_Fr P σ σ1) (h2 : g_Fr P σ1 σ2) : g_Fr P σ σ2 := ⟨h2.1.trans h1.1, fun k hk => (h2.2 k hk).trans (h1.2 k hk)⟩
theorem g_Fr.wk {P Q : Nat → Prop} {σ σ1 : g_H0} (h1 : g_Fr P σ σ1) (h : ∀ k, P k → Q k) : g_Fr Q σ σ1 := ⟨h1.1, fun k hk => h1.2 k (fun hp => hk (h k hp))⟩
theorem g_Fr.set {P : Nat → Prop} {σ : g_H0} {a : Nat} {e : va_E} (ha : P a) : g_Fr P σ (σ.set a e) := ⟨by simp, fun k hk => List.getElem?_set_ne (fun h : a = k => hk (h ▸ ha))⟩
section GZ
variable {w : g_W} {M M' : g_MD} {cs : Nat × Nat} {pc q : Nat} {ml : List (Option Value)} {st : List Value} {σ σ' : g_H0} {Φ Φ' : g_Post}
theorem z_iconst {n : Int} (hd : decode M.2.1 pc = .ok (.iconst n, 1)) (hq : pc + 1 = q) (k : Go w M cs q ml (.int (iZ n) :: st) σ Φ) : Go w M cs pc ml st σ Φ := g_iconst hd rfl hq k
theorem z_iinc {i : Nat} {n x : Int} {ml' : List (Option Value)} (hd : decode M.2.1 pc = .ok (.iinc i n, 3)) (hl : ml[i]? = some (some (.int (iZ x)))) (hm : ml.set i (some (.int (iZ (x + n)))) = ml') (hnl : g_nl ml i = true) (hq : pc + 3 = q) (k : Go w M cs q ml' st σ Φ) : Go w M cs pc ml st σ Φ :=
  g_iinc hd hl (iZ_add x n) hm hnl hq k
theorem z_iincc {i : Nat} {n x c : Int} {ml' : List (Option Value)} (hd : decode M.2.1 pc = .ok (.iinc i n, 3)) (hl : ml[i]? = some (some (.int (iZ x)))) (hc : x + n = c) (hm : ml.set i (some (.int (iZ c))) = ml') (hnl : g_nl ml i = true) (hq : pc + 3 = q) (k : Go w M cs q ml' st σ Φ) : Go w M cs pc ml st σ Φ := by
  subst hc
  exact g_iinc hd hl (iZ_add x n) hm hnl hq k
def cmpZ (a b : Int) : Int := if b < a then 1 else if a = b then 0 else -1
theorem cmpZ_spec (a b : Int) : (cmpZ a b < 0 ↔ a < b) ∧ (0 < cmpZ a b ↔ b < a) ∧ -1 ≤ cmpZ a b ∧ cmpZ a b ≤ 1 := by
  unfold cmpZ
  split
  · omega
  · split <;> omega
theorem lZ_toInt {a : Int} (h : -9223372036854775808 ≤ a ∧ a < 9223372036854775808) : (lZ a).toInt = a := Int64.toInt_ofInt_of_le (by omega) (by omega)
theorem z_lcmp {a b : Int} (hd : decode M.2.1 pc = .ok (.lcmp, 1)) (h : -9223372036854775808 ≤ a ∧ a < 9223372036854775808 ∧ -9223372036854775808 ≤ b ∧ b < 9223372036854775808) (hq : pc + 1 = q) (k : (cmpZ a b < 0 ↔ a < b) ∧ (0 < cmpZ a b ↔ b < a) ∧ -1 ≤ cmpZ a b ∧ cmpZ a b ≤ 1 → Go w M cs q ml (.int (iZ (cmpZ a b)) :: st) σ Φ) : Go w M cs pc ml (.long (lZ b) :: .long (lZ a) :: st) σ Φ := by
  refine g_lcmp hd hq ?_
  have : lg_cmp (lZ a) (lZ b) = iZ (cmpZ a b) := by
    unfold lg_cmp cmpZ
    simp only [gt_iff_lt, Int64.lt_iff_toInt_lt, ← Int64.toInt_inj, lZ_toInt (a := a) (by omega), lZ_toInt (a := b) (by omega)]
    split
    · rfl
    · split <;> rfl
  rw [this]
  exact k (cmpZ_spec a b)
theorem z_idiv {a b : Int} (hd : decode M.2.1 pc = .ok (.idiv, 1)) (h : 0 ≤ a ∧ a < 2147483648 ∧ 0 < b ∧ b < 2147483648) (hq : pc + 1 = q) (k : Go w M cs q ml (.int (iZ (a / b)) :: st) σ Φ) : Go w M cs pc ml (.int (iZ b) :: .int (iZ a) :: st) σ Φ := by
  refine g_idiv hd ?_ hq ?_
  · rw [iZ_0, iZ_inj (by omega)]; omega
  · rw [iZ_div h]; exact k
theorem z_irem {a b : Int} (hd : decode M.2.1 pc = .ok (.irem, 1)) (h : 0 ≤ a ∧ a < 2147483648 ∧ 0 < b ∧ b < 2147483648) (hq : pc + 1 = q) (k : Go w M cs q ml (.int (iZ (a % b)) :: st) σ Φ) : Go w M cs pc ml (.int (iZ b) :: .int (iZ a) :: st) σ Φ := by
  refine g_irem hd ?_ hq ?_
  · rw [iZ_0, iZ_inj (by omega)]; omega
  · rw [iZ_rem h]; exact k
theorem z_i2l {a : Int} (hd : decode M.2.1 pc = .ok (.i2l, 1)) (h : -2147483648 ≤ a ∧ a < 2147483648) (hq : pc + 1 = q) (k : Go w M cs q ml (.long (lZ a) :: st) σ Φ) : Go w M cs pc ml (.int (iZ a) :: st) σ Φ := by
  refine g_i2l hd hq ?_
  have : (iZ a).toInt64 = lZ a := by
    rw [← Int64.ofInt_int32ToInt, iZ_toInt h.1 h.2]; rfl
  rw [this]; exact k

theorem z_iaddc {a b c : Int} (hd : decode M.2.1 pc = .ok (.iadd, 1)) (hc : a + b = c) (hq : pc + 1 = q) (k : Go w M cs q ml (.int (iZ c) :: st) σ Φ) : Go w M cs pc ml (.int (iZ b) :: .int (iZ a) :: st) σ Φ := by
  subst hc
  refine g_iadd hd hq ?_
  rw [iZ_add]; exact k
theorem z_iadd {a b : Int} (hd : decode M.2.1 pc = .ok (.iadd, 1)) (hq : pc + 1 = q) (k : Go w M cs q ml (.int (iZ (a + b)) :: st) σ Φ) : Go w M cs pc ml (.int (iZ b) :: .int (iZ a) :: st) σ Φ := by
  refine g_iadd hd hq ?_
  rw [iZ_add]; exact k
theorem z_isubc {a b c : Int} (hd : decode M.2.1 pc = .ok (.isub, 1)) (hc : a - b = c) (hq : pc + 1 = q) (k : Go w M cs q ml (.int (iZ c) :: st) σ Φ) : Go w M cs pc ml (.int (iZ b) :: .int (iZ a) :: st) σ Φ := by
  subst hc
  refine g_isub hd hq ?_
  rw [iZ_sub]; exact k
theorem z_isub {a b : Int} (hd : decode M.2.1 pc = .ok (.isub, 1)) (hq : pc + 1 = q) (k : Go w M cs q ml (.int (iZ (a - b)) :: st) σ Φ) : Go w M cs pc ml (.int (iZ b) :: .int (iZ a) :: st) σ Φ := by
  refine g_isub hd hq ?_
  rw [iZ_sub]; exact k
theorem z_imulc {a b c : Int} (hd : decode M.2.1 pc = .ok (.imul, 1)) (hc : a * b = c) (hq : pc + 1 = q) (k : Go w M cs q ml (.int (iZ c) :: st) σ Φ) : Go w M cs pc ml (.int (iZ b) :: .int (iZ a) :: st) σ Φ := by
  subst hc
  refine g_imul hd hq ?_
  rw [iZ_mul]; exact k
theorem z_imul {a b : Int} (hd : decode M.2.1 pc = .ok (.imul, 1)) (hq : pc + 1 = q) (k : Go w M cs q ml (.int (iZ (a * b)) :: st) σ Φ) : Go w M cs pc ml (.int (iZ b) :: .int (iZ a) :: st) σ Φ := by
  refine g_imul hd hq ?_
  rw [iZ_mul]; exact k
theorem z_icmp_eq {a b : Int} {t : Nat} {off : Int} (hd : decode M.2.1 pc = .ok (.if_icmp .eq off, 3)) (ht : (pc : Int) + off = (t : Int)) (h : -2147483648 ≤ a ∧ a < 2147483648 ∧ -2147483648 ≤ b ∧ b < 2147483648) (hq : pc + 3 = q) (kt : a = b → Go w M cs t ml st σ Φ) (kf : a ≠ b → Go w M cs q ml st σ Φ) : Go w M cs pc ml (.int (iZ b) :: .int (iZ a) :: st) σ Φ := by
  have h' : -2147483648 ≤ b ∧ b < 2147483648 ∧ -2147483648 ≤ a ∧ a < 2147483648 := by omega
  refine g_icmp_eq hd ht hq (fun c => kt ?_) (fun c => kf ?_)
  · -- x = y
    first | exact (iZ_inj h).mp c | exact fun e => c ((iZ_inj h).mpr e) | exact (iZ_lt h).mp c | exact (iZ_lt h').mp c | exact (iZ_le h).mp c | exact (iZ_le h').mp c | (have c2 := Int32.not_lt.mp c; first | exact (iZ_le h).mp c2 | exact (iZ_le h').mp c2) | (have c2 := Int32.not_le.mp c; first | exact (iZ_lt h).mp c2 | exact (iZ_lt h').mp c2)
  · first | exact (iZ_inj h).mp c | exact fun e => c ((iZ_inj h).mpr e) | exact (iZ_inj h).mp (Classical.not_not.mp c) | exact (iZ_lt h).mp c | exact (iZ_lt h').mp c | exact (iZ_le h).mp c | exact (iZ_le h').mp c | (have c2 := Int32.not_lt.mp c; first | exact (iZ_le h).mp c2 | exact (iZ_le h').mp c2) | (have c2 := Int32.not_le.mp c; first | exact (iZ_lt h).mp c2 | exact (iZ_lt h').mp c2)
theorem z_if_eq {a : Int} {t : Nat} {off : Int} (hd : decode M.2.1 pc = .ok (.ifCond .eq off, 3)) (ht : (pc : Int) + off = (t : Int)) (h : -2147483648 ≤ a ∧ a < 2147483648) (hq : pc + 3 = q) (kt : a = 0 → Go w M cs t ml st σ Φ) (kf : a ≠ 0 → Go w M cs q ml st σ Φ) : Go w M cs pc ml (.int (iZ a) :: st) σ Φ := by
  have h0 : -2147483648 ≤ a ∧ a < 2147483648 ∧ -2147483648 ≤ (0 : Int) ∧ (0 : Int) < 2147483648 := by omega
  have h1 : -2147483648 ≤ (0 : Int) ∧ (0 : Int) < 2147483648 ∧ -2147483648 ≤ a ∧ a < 2147483648 := by omega
  refine g_if_eq hd ht hq (fun c => kt ?_) (fun c => kf ?_)
  · rw [iZ_0] at c
    first | exact (iZ_inj h0).mp c | exact fun e => c ((iZ_inj h0).mpr e) | exact (iZ_lt h0).mp c | exact (iZ_lt h1).mp c | exact (iZ_le h0).mp c | exact (iZ_le h1).mp c | (have c2 := Int32.not_lt.mp c; first | exact (iZ_le h0).mp c2 | exact (iZ_le h1).mp c2) | (have c2 := Int32.not_le.mp c; first | exact (iZ_lt h0).mp c2 | exact (iZ_lt h1).mp c2)
  · rw [iZ_0] at c
    first | exact (iZ_inj h0).mp c | exact fun e => c ((iZ_inj h0).mpr e) | exact (iZ_inj h0).mp (Classical.not_not.mp c) | exact (iZ_lt h0).mp c | exact (iZ_lt h1).mp c | exact (iZ_le h0).mp c | exact (iZ_le h1).mp c | (have c2 := Int32.not_lt.mp c; first | exact (iZ_le h0).mp c2 | exact (iZ_le h1).mp c2) | (have c2 := Int32.not_le.mp c; first | exact (iZ_lt h0).mp c2 | exact (iZ_lt h1).mp c2)
theorem z_icmp_ne {a b : Int} {t : Nat} {off : Int} (hd : decode M.2.1 pc = .ok (.if_icmp .ne off, 3)) (ht : (pc : Int) + off = (t : Int)) (h : -2147483648 ≤ a ∧ a < 2147483648 ∧ -2147483648 ≤ b ∧ b < 2147483648) (hq : pc + 3 = q) (kt : a ≠ b → Go w M cs t ml st σ Φ) (kf : a = b → Go w M cs q ml st σ Φ) : Go w M cs pc ml (.int (iZ b) :: .int (iZ a) :: st) σ Φ := by
  have h' : -2147483648 ≤ b ∧ b < 2147483648 ∧ -2147483648 ≤ a ∧ a < 2147483648 := by omega
  refine g_icmp_ne hd ht hq (fun c => kt ?_) (fun c => kf ?_)
  · -- ¬ x = y
    first | exact (iZ_inj h).mp c | exact fun e => c ((iZ_inj h).mpr e) | exact (iZ_lt h).mp c | exact (iZ_lt h').mp c | exact (iZ_le h).mp c | exact (iZ_le h').mp c | (have c2 := Int32.not_lt.mp c; first | exact (iZ_le h).mp c2 | exact (iZ_le h').mp c2) | (have c2 := Int32.not_le.mp c; first | exact (iZ_lt h).mp c2 | exact (iZ_lt h').mp c2)
  · first | exact (iZ_inj h).mp c | exact fun e => c ((iZ_inj h).mpr e) | exact (iZ_inj h).mp (Classical.not_not.mp c) | exact (iZ_lt h).mp c | exact (iZ_lt h').mp c | exact (iZ_le h).mp c | exact (iZ_le h').mp c | (have c2 := Int32.not_lt.mp c; first | exact (iZ_le h).mp c2 | exact (iZ_le h').mp c2) | (have c2 := Int32.not_le.mp c; first | exact (iZ_lt h).mp c2 | exact (iZ_lt h').mp c2)
theorem z_if_ne {a : Int} {t : Nat} {off : Int} (hd : decode M.2.1 pc = .ok (.ifCond .ne off, 3)) (ht : (pc : Int) + off = (t : Int)) (h : -2147483648 ≤ a ∧ a < 2147483648) (hq : pc + 3 = q) (kt : a ≠ 0 → Go w M cs t ml st σ Φ) (kf : a = 0 → Go w M cs q ml st σ Φ) : Go w M cs pc ml (.int (iZ a) :: st) σ Φ := by
  have h0 : -2147483648 ≤ a ∧ a < 2147483648 ∧ -2147483648 ≤ (0 : Int) ∧ (0 : Int) < 2147483648 := by omega
  have h1 : -2147483648 ≤ (0 : Int) ∧ (0 : Int) < 2147483648 ∧ -2147483648 ≤ a ∧ a < 2147483648 := by omega
  refine g_if_ne hd ht hq (fun c => kt ?_) (fun c => kf ?_)
  · rw [iZ_0] at c
    first | exact (iZ_inj h0).mp c | exact fun e => c ((iZ_inj h0).mpr e) | exact (iZ_lt h0).mp c | exact (iZ_lt h1).mp c | exact (iZ_le h0).mp c | exact (iZ_le h1).mp c | (have c2 := Int32.not_lt.mp c; first | exact (iZ_le h0).mp c2 | exact (iZ_le h1).mp c2) | (have c2 := Int32.not_le.mp c; first | exact (iZ_lt h0).mp c2 | exact (iZ_lt h1).mp c2)
  · rw [iZ_0] at c
    first | exact (iZ_inj h0).mp c | exact fun e => c ((iZ_inj h0).mpr e) | exact (iZ_inj h0).mp (Classical.not_not.mp c) | exact (iZ_lt h0).mp c | exact (iZ_lt h1).mp c | exact (iZ_le h0).mp c | exact (iZ_le h1).mp c | (have c2 := Int32.not_lt.mp c; first | exact (iZ_le h0).mp c2 | exact (iZ_le h1).mp c2) | (have c2 := Int32.not_le.mp c; first | exact (iZ_lt h0).mp c2 | exact (iZ_lt h1).mp c2)
theorem z_icmp_lt {a b : Int} {t : Nat} {off : Int} (hd : decode M.2.1 pc = .ok (.if_icmp .lt off, 3)) (ht : (pc : Int) + off = (t : Int)) (h : -2147483648 ≤ a ∧ a < 2147483648 ∧ -2147483648 ≤ b ∧ b < 2147483648) (hq : pc + 3 = q) (kt : a < b → Go w M cs t ml st σ Φ) (kf : b ≤ a → Go w M cs q ml st σ Φ) : Go w M cs pc ml (.int (iZ b) :: .int (iZ a) :: st) σ Φ := by
  have h' : -2147483648 ≤ b ∧ b < 2147483648 ∧ -2147483648 ≤ a ∧ a < 2147483648 := by omega
  refine g_icmp_lt hd ht hq (fun c => kt ?_) (fun c => kf ?_)
  · -- x < y
    first | exact (iZ_inj h).mp c | exact fun e => c ((iZ_inj h).mpr e) | exact (iZ_lt h).mp c | exact (iZ_lt h').mp c | exact (iZ_le h).mp c | exact (iZ_le h').mp c | (have c2 := Int32.not_lt.mp c; first | exact (iZ_le h).mp c2 | exact (iZ_le h').mp c2) | (have c2 := Int32.not_le.mp c; first | exact (iZ_lt h).mp c2 | exact (iZ_lt h').mp c2)
  · first | exact (iZ_inj h).mp c | exact fun e => c ((iZ_inj h).mpr e) | exact (iZ_inj h).mp (Classical.not_not.mp c) | exact (iZ_lt h).mp c | exact (iZ_lt h').mp c | exact (iZ_le h).mp c | exact (iZ_le h').mp c | (have c2 := Int32.not_lt.mp c; first | exact (iZ_le h).mp c2 | exact (iZ_le h').mp c2) | (have c2 := Int32.not_le.mp c; first | exact (iZ_lt h).mp c2 | exact (iZ_lt h').mp c2)
theorem z_if_lt {a : Int} {t : Nat} {off : Int} (hd : decode M.2.1 pc = .ok (.ifCond .lt off, 3)) (ht : (pc : Int) + off = (t : Int)) (h : -2147483648 ≤ a ∧ a < 2147483648) (hq : pc + 3 = q) (kt : a < 0 → Go w M cs t ml st σ Φ) (kf : 0 ≤ a → Go w M cs q ml st σ Φ) : Go w M cs pc ml (.int (iZ a) :: st) σ Φ := by
  have h0 : -2147483648 ≤ a ∧ a < 2147483648 ∧ -2147483648 ≤ (0 : Int) ∧ (0 : Int) < 2147483648 := by omega
  have h1 : -2147483648 ≤ (0 : Int) ∧ (0 : Int) < 2147483648 ∧ -2147483648 ≤ a ∧ a < 2147483648 := by omega
  refine g_if_lt hd ht hq (fun c => kt ?_) (fun c => kf ?_)
  · rw [iZ_0] at c
    first | exact (iZ_inj h0).mp c | exact fun e => c ((iZ_inj h0).mpr e) | exact (iZ_lt h0).mp c | exact (iZ_lt h1).mp c | exact (iZ_le h0).mp c | exact (iZ_le h1).mp c | (have c2 := Int32.not_lt.mp c; first | exact (iZ_le h0).mp c2 | exact (iZ_le h1).mp c2) | (have c2 := Int32.not_le.mp c; first | exact (iZ_lt h0).mp c2 | exact (iZ_lt h1).mp c2)
  · rw [iZ_0] at c
    first | exact (iZ_inj h0).mp c | exact fun e => c ((iZ_inj h0).mpr e) | exact (iZ_inj h0).mp (Classical.not_not.mp c) | exact (iZ_lt h0).mp c | exact (iZ_lt h1).mp c | exact (iZ_le h0).mp c | exact (iZ_le h1).mp c | (have c2 := Int32.not_lt.mp c; first | exact (iZ_le h0).mp c2 | exact (iZ_le h1).mp c2) | (have c2 := Int32.not_le.mp c; first | exact (iZ_lt h0).mp c2 | exact (iZ_lt h1).mp c2)
theorem z_icmp_ge {a b : Int} {t : Nat} {off : Int} (hd : decode M.2.1 pc = .ok (.if_icmp .ge off, 3)) (ht : (pc : Int) + off = (t : Int)) (h : -2147483648 ≤ a ∧ a < 2147483648 ∧ -2147483648 ≤ b ∧ b < 2147483648) (hq : pc + 3 = q) (kt : b ≤ a → Go w M cs t ml st σ Φ) (kf : a < b → Go w M cs q ml st σ Φ) : Go w M cs pc ml (.int (iZ b) :: .int (iZ a) :: st) σ Φ := by
  have h' : -2147483648 ≤ b ∧ b < 2147483648 ∧ -2147483648 ≤ a ∧ a < 2147483648 := by omega
  refine g_icmp_ge hd ht hq (fun c => kt ?_) (fun c => kf ?_)
  · -- y ≤ x
    first | exact (iZ_inj h).mp c | exact fun e => c ((iZ_inj h).mpr e) | exact (iZ_lt h).mp c | exact (iZ_lt h').mp c | exact (iZ_le h).mp c | exact (iZ_le h').mp c | (have c2 := Int32.not_lt.mp c; first | exact (iZ_le h).mp c2 | exact (iZ_le h').mp c2) | (have c2 := Int32.not_le.mp c; first | exact (iZ_lt h).mp c2 | exact (iZ_lt h').mp c2)
  · first | exact (iZ_inj h).mp c | exact fun e => c ((iZ_inj h).mpr e) | exact (iZ_inj h).mp (Classical.not_not.mp c) | exact (iZ_lt h).mp c | exact (iZ_lt h').mp c | exact (iZ_le h).mp c | exact (iZ_le h').mp c | (have c2 := Int32.not_lt.mp c; first | exact (iZ_le h).mp c2 | exact (iZ_le h').mp c2) | (have c2 := Int32.not_le.mp c; first | exact (iZ_lt h).mp c2 | exact (iZ_lt h').mp c2)
theorem z_if_ge {a : Int} {t : Nat} {off : Int} (hd : decode M.2.1 pc = .ok (.ifCond .ge off, 3)) (ht : (pc : Int) + off = (t : Int)) (h : -2147483648 ≤ a ∧ a < 2147483648) (hq : pc + 3 = q) (kt : 0 ≤ a → Go w M cs t ml st σ Φ) (kf : a < 0 → Go w M cs q ml st σ Φ) : Go w M cs pc ml (.int (iZ a) :: st) σ Φ := by
  have h0 : -2147483648 ≤ a ∧ a < 2147483648 ∧ -2147483648 ≤ (0 : Int) ∧ (0 : Int) < 2147483648 := by omega
  have h1 : -2147483648 ≤ (0 : Int) ∧ (0 : Int) < 2147483648 ∧ -2147483648 ≤ a ∧ a < 2147483648 := by omega
  refine g_if_ge hd ht hq (fun c => kt ?_) (fun c => kf ?_)
  · rw [iZ_0] at c
    first | exact (iZ_inj h0).mp c | exact fun e => c ((iZ_inj h0).mpr e) | exact (iZ_lt h0).mp c | exact (iZ_lt h1).mp c | exact (iZ_le h0).mp c | exact (iZ_le h1).mp c | (have c2 := Int32.not_lt.mp c; first | exact (iZ_le h0).mp c2 | exact (iZ_le h1).mp c2) | (have c2 := Int32.not_le.mp c; first | exact (iZ_lt h0).mp c2 | exact (iZ_lt h1).mp c2)
  · rw [iZ_0] at c
    first | exact (iZ_inj h0).mp c | exact fun e => c ((iZ_inj h0).mpr e) | exact (iZ_inj h0).mp (Classical.not_not.mp c) | exact (iZ_lt h0).mp c | exact (iZ_lt h1).mp c | exact (iZ_le h0).mp c | exact (iZ_le h1).mp c | (have c2 := Int32.not_lt.mp c; first | exact (iZ_le h0).mp c2 | exact (iZ_le h1).mp c2) | (have c2 := Int32.not_le.mp c; first | exact (iZ_lt h0).mp c2 | exact (iZ_lt h1).mp c2)
theorem z_icmp_gt {a b : Int} {t : Nat} {off : Int} (hd : decode M.2.1 pc = .ok (.if_icmp .gt off, 3)) (ht : (pc : Int) + off = (t : Int)) (h : -2147483648 ≤ a ∧ a < 2147483648 ∧ -2147483648 ≤ b ∧ b < 2147483648) (hq : pc + 3 = q) (kt : b < a → Go w M cs t ml st σ Φ) (kf : a ≤ b → Go w M cs q ml st σ Φ) : Go w M cs pc ml (.int (iZ b) :: .int (iZ a) :: st) σ Φ := by
  have h' : -2147483648 ≤ b ∧ b < 2147483648 ∧ -2147483648 ≤ a ∧ a < 2147483648 := by omega
  refine g_icmp_gt hd ht hq (fun c => kt ?_) (fun c => kf ?_)
  · -- y < x
    first | exact (iZ_inj h).mp c | exact fun e => c ((iZ_inj h).mpr e) | exact (iZ_lt h).mp c | exact (iZ_lt h').mp c | exact (iZ_le h).mp c | exact (iZ_le h').mp c | (have c2 := Int32.not_lt.mp c; first | exact (iZ_le h).mp c2 | exact (iZ_le h').mp c2) | (have c2 := Int32.not_le.mp c; first | exact (iZ_lt h).mp c2 | exact (iZ_lt h').mp c2)
  · first | exact (iZ_inj h).mp c | exact fun e => c ((iZ_inj h).mpr e) | exact (iZ_inj h).mp (Classical.not_not.mp c) | exact (iZ_lt h).mp c | exact (iZ_lt h').mp c | exact (iZ_le h).mp c | exact (iZ_le h').mp c | (have c2 := Int32.not_lt.mp c; first | exact (iZ_le h).mp c2 | exact (iZ_le h').mp c2) | (have c2 := Int32.not_le.mp c; first | exact (iZ_lt h).mp c2 | exact (iZ_lt h').mp c2)
theorem z_if_gt {a : Int} {t : Nat} {off : Int} (hd : decode M.2.1 pc = .ok (.ifCond .gt off, 3)) (ht : (pc : Int) + off = (t : Int)) (h : -2147483648 ≤ a ∧ a < 2147483648) (hq : pc + 3 = q) (kt : 0 < a → Go w M cs t ml st σ Φ) (kf : a ≤ 0 → Go w M cs q ml st σ Φ) : Go w M cs pc ml (.int (iZ a) :: st) σ Φ := by
  have h0 : -2147483648 ≤ a ∧ a < 2147483648 ∧ -2147483648 ≤ (0 : Int) ∧ (0 : Int) < 2147483648 := by omega
  have h1 : -2147483648 ≤ (0 : Int) ∧ (0 : Int) < 2147483648 ∧ -2147483648 ≤ a ∧ a < 2147483648 := by omega
  refine g_if_gt hd ht hq (fun c => kt ?_) (fun c => kf ?_)
  · rw [iZ_0] at c
    first | exact (iZ_inj h0).mp c | exact fun e => c ((iZ_inj h0).mpr e) | exact (iZ_lt h0).mp c | exact (iZ_lt h1).mp c | exact (iZ_le h0).mp c | exact (iZ_le h1).mp c | (have c2 := Int32.not_lt.mp c; first | exact (iZ_le h0).mp c2 | exact (iZ_le h1).mp c2) | (have c2 := Int32.not_le.mp c; first | exact (iZ_lt h0).mp c2 | exact (iZ_lt h1).mp c2)
  · rw [iZ_0] at c
    first | exact (iZ_inj h0).mp c | exact fun e => c ((iZ_inj h0).mpr e) | exact (iZ_inj h0).mp (Classical.not_not.mp c) | exact (iZ_lt h0).mp c | exact (iZ_lt h1).mp c | exact (iZ_le h0).mp c | exact (iZ_le h1).mp c | (have c2 := Int32.not_lt.mp c; first | exact (iZ_le h0).mp c2 | exact (iZ_le h1).mp c2) | (have c2 := Int32.not_le.mp c; first | exact (iZ_lt h0).mp c2 | exact (iZ_lt h1).mp c2)
theorem z_icmp_le {a b : Int} {t : Nat} {off : Int} (hd : decode M.2.1 pc = .ok (.if_icmp .le off, 3)) (ht : (pc : Int) + off = (t : Int)) (h : -2147483648 ≤ a ∧ a < 2147483648 ∧ -2147483648 ≤ b ∧ b < 2147483648) (hq : pc + 3 = q) (kt : a ≤ b → Go w M cs t ml st σ Φ) (kf : b < a → Go w M cs q ml st σ Φ) : Go w M cs pc ml (.int (iZ b) :: .int (iZ a) :: st) σ Φ := by
  have h' : -2147483648 ≤ b ∧ b < 2147483648 ∧ -2147483648 ≤ a ∧ a < 2147483648 := by omega
  refine g_icmp_le hd ht hq (fun c => kt ?_) (fun c => kf ?_)
  · -- x ≤ y
    first | exact (iZ_inj h).mp c | exact fun e => c ((iZ_inj h).mpr e) | exact (iZ_lt h).mp c | exact (iZ_lt h').mp c | exact (iZ_le h).mp c | exact (iZ_le h').mp c | (have c2 := Int32.not_lt.mp c; first | exact (iZ_le h).mp c2 | exact (iZ_le h').mp c2) | (have c2 := Int32.not_le.mp c; first | exact (iZ_lt h).mp c2 | exact (iZ_lt h').mp c2)
  · first | exact (iZ_inj h).mp c | exact fun e => c ((iZ_inj h).mpr e) | exact (iZ_inj h).mp (Classical.not_not.mp c) | exact (iZ_lt h).mp c | exact (iZ_lt h').mp c | exact (iZ_le h).mp c | exact (iZ_le h').mp c | (have c2 := Int32.not_lt.mp c; first | exact (iZ_le h).mp c2 | exact (iZ_le h').mp c2) | (have c2 := Int32.not_le.mp c; first | exact (iZ_lt h).mp c2 | exact (iZ_lt h').mp c2)
theorem z_if_le {a : Int} {t : Nat} {off : Int} (hd : decode M.2.1 pc = .ok (.ifCond .le off, 3)) (ht : (pc : Int) + off = (t : Int)) (h : -2147483648 ≤ a ∧ a < 2147483648) (hq : pc + 3 = q) (kt : a ≤ 0 → Go w M cs t ml st σ Φ) (kf : 0 < a → Go w M cs q ml st σ Φ) : Go w M cs pc ml (.int (iZ a) :: st) σ Φ := by
  have h0 : -2147483648 ≤ a ∧ a < 2147483648 ∧ -2147483648 ≤ (0 : Int) ∧ (0 : Int) < 2147483648 := by omega
  have h1 : -2147483648 ≤ (0 : Int) ∧ (0 : Int) < 2147483648 ∧ -2147483648 ≤ a ∧ a < 2147483648 := by omega
  refine g_if_le hd ht hq (fun c => kt ?_) (fun c => kf ?_)
  · rw [iZ_0] at c
    first | exact (iZ_inj h0).mp c | exact fun e => c ((iZ_inj h0).mpr e) | exact (iZ_lt h0).mp c | exact (iZ_lt h1).mp c | exact (iZ_le h0).mp c | exact (iZ_le h1).mp c | (have c2 := Int32.not_lt.mp c; first | exact (iZ_le h0).mp c2 | exact (iZ_le h1).mp c2) | (have c2 := Int32.not_le.mp c; first | exact (iZ_lt h0).mp c2 | exact (iZ_lt h1).mp c2)
  · rw [iZ_0] at c
    first | exact (iZ_inj h0).mp c | exact fun e => c ((iZ_inj h0).mpr e) | exact (iZ_inj h0).mp (Classical.not_not.mp c) | exact (iZ_lt h0).mp c | exact (iZ_lt h1).mp c | exact (iZ_le h0).mp c | exact (iZ_le h1).mp c | (have c2 := Int32.not_lt.mp c; first | exact (iZ_le h0).mp c2 | exact (iZ_le h1).mp c2) | (have c2 := Int32.not_le.mp c; first | exact (iZ_lt h0).mp c2 | exact (iZ_lt h1).mp c2)
theorem z_ifB_eq {p : Prop} [Decidable p] {t : Nat} {off : Int} (hd : decode M.2.1 pc = .ok (.ifCond .eq off, 3)) (ht : (pc : Int) + off = (t : Int)) (hq : pc + 3 = q) (kt : ¬ p → Go w M cs t ml st σ Φ) (kf : p → Go w M cs q ml st σ Φ) : Go w M cs pc ml (.int (bI p) :: st) σ Φ := by
  refine g_if_eq hd ht hq (fun c => kt (fun hp => ?_)) (fun c => kf ?_)
  · rw [bI_t hp] at c; exact absurd c (by decide)
  · by_cases hp : p
    · exact hp
    · rw [bI_f hp] at c; exact absurd rfl c
theorem z_ifB_ne {p : Prop} [Decidable p] {t : Nat} {off : Int} (hd : decode M.2.1 pc = .ok (.ifCond .ne off, 3)) (ht : (pc : Int) + off = (t : Int)) (hq : pc + 3 = q) (kt : p → Go w M cs t ml st σ Φ) (kf : ¬ p → Go w M cs q ml st σ Φ) : Go w M cs pc ml (.int (bI p) :: st) σ Φ := by
  refine g_if_ne hd ht hq (fun c => kt ?_) (fun c => kf (fun hp => ?_))
  · by_cases hp : p
    · exact hp
    · rw [bI_f hp] at c; exact absurd rfl c
  · rw [bI_t hp] at c; exact absurd c (by decide)
theorem z_iald {a n : Nat} {t : Int → Int} {i : Int} (hd : decode M.2.1 pc = .ok (.iaload, 1)) (hσ : σ[a]? = some (.inl (0, n, .inl (zA t)))) (h : 0 ≤ i ∧ i < n ∧ n < 2147483648) (hq : pc + 1 = q) (k : Go w M cs q ml (.int (iZ (t i)) :: st) σ Φ) : Go w M cs pc ml (.int (iZ i) :: .ref a :: st) σ Φ := by
  refine g_iald hd hσ (iZ_in h.1 h.2.1 h.2.2) hq ?_
  rw [iZ_clamp (by omega) (by omega), zA_at t h.1]; exact k
theorem z_cald {a n : Nat} {t : Int → Int} {i : Int} (hd : decode M.2.1 pc = .ok (.caload, 1)) (hσ : σ[a]? = some (.inl (1, n, .inl (zA t)))) (h : 0 ≤ i ∧ i < n ∧ n < 2147483648) (hq : pc + 1 = q) (k : Go w M cs q ml (.int (iZ (t i)) :: st) σ Φ) : Go w M cs pc ml (.int (iZ i) :: .ref a :: st) σ Φ := by
  refine g_cald hd hσ (iZ_in h.1 h.2.1 h.2.2) hq ?_
  rw [iZ_clamp (by omega) (by omega), zA_at t h.1]; exact k
theorem z_iast {a n : Nat} {t : Int → Int} {i x : Int} (hd : decode M.2.1 pc = .ok (.iastore, 1)) (hσ : σ[a]? = some (.inl (0, n, .inl (zA t)))) (h : 0 ≤ i ∧ i < n ∧ n < 2147483648) (hq : pc + 1 = q) (k : ∀ σ' : g_H0, σ'[a]? = some (.inl (0, n, .inl (zA (zup t i x)))) → g_Fr (fun b => b = a) σ σ' → Go w M cs q ml st σ' Φ) : Go w M cs pc ml (.int (iZ x) :: .int (iZ i) :: .ref a :: st) σ Φ := by
  refine g_iast hd hσ (iZ_in h.1 h.2.1 h.2.2) rfl hq ?_
  rw [iZ_clamp (by omega) (by omega), zup_iZ t h.1]
  exact k _ (List.getElem?_set_self (List.getElem?_eq_some_iff.mp hσ).1) (g_Fr.set rfl)
theorem z_cast {a n : Nat} {t : Int → Int} {i x : Int} (hd : decode M.2.1 pc = .ok (.castore, 1)) (hσ : σ[a]? = some (.inl (1, n, .inl (zA t)))) (h : 0 ≤ i ∧ i < n ∧ n < 2147483648) (hn : vp_nar .char (iZ x) = iZ x) (hq : pc + 1 = q) (k : ∀ σ' : g_H0, σ'[a]? = some (.inl (1, n, .inl (zA (zup t i x)))) → g_Fr (fun b => b = a) σ σ' → Go w M cs q ml st σ' Φ) : Go w M cs pc ml (.int (iZ x) :: .int (iZ i) :: .ref a :: st) σ Φ := by
  refine g_cast hd hσ (iZ_in h.1 h.2.1 h.2.2) rfl hq ?_
  rw [iZ_clamp (by omega) (by omega), hn, zup_iZ t h.1]
  exact k _ (List.getElem?_set_self (List.getElem?_eq_some_iff.mp hσ).1) (g_Fr.set rfl)
theorem z_aald {a n t : Nat} {Cn : String} {f : Nat → Option Nat} {i : Int} {b : Nat} (hd : decode M.2.1 pc = .ok (.aaload, 1)) (ht : (g_tys w)[t]? = some (g_ca w t, .object Cn)) (hσ : σ[a]? = some (.inl (t, n, .inr (.inr (.inr (.inr f)))))) (h : 0 ≤ i ∧ i < n ∧ n < 2147483648) (hf : f i.toNat = some b) (hq : pc + 1 = q) (k : Go w M cs q ml (.ref b :: st) σ Φ) : Go w M cs pc ml (.int (iZ i) :: .ref a :: st) σ Φ := by
  refine g_aald hd ht hσ (iZ_in h.1 h.2.1 h.2.2) hq ?_
  rw [iZ_clamp (by omega) (by omega), hf]; exact k
theorem z_put {ci k' idx a : Nat} {fs fs' : List Value} {v : Value} {ty : FieldType} (hf : g_FP M.1.cls idx ci k' ty false) (hd : decode M.2.1 pc = .ok (.putfield idx, 3)) (hσ : σ[a]? = some (.inr (ci, fs))) (hl : k' < fs.length) (hnar : narrow ty (g_V w v) = g_V w v) (hfit : fits ty (g_V w v) = true) (hs : fs.set k' v = fs') (hq : pc + 3 = q) (k : ∀ σ' : g_H0, σ'[a]? = some (.inr (ci, fs')) → g_Fr (fun b => b = a) σ σ' → Go w M cs q ml st σ' Φ) : Go w M cs pc ml (v :: .ref a :: st) σ Φ := by
  subst hs
  exact g_put hf hd hσ hl hnar hfit rfl hq (k _ (List.getElem?_set_self (List.getElem?_eq_some_iff.mp hσ).1) (g_Fr.set rfl))
theorem z_putF {ci k' idx a : Nat} {fs fs' : List Value} {v : Value} {ty : FieldType} (hf : g_FP M.1.cls idx ci k' ty true) (hnm : M.1.name = "<init>") (hd : decode M.2.1 pc = .ok (.putfield idx, 3)) (hσ : σ[a]? = some (.inr (ci, fs))) (hl : k' < fs.length) (hnar : narrow ty (g_V w v) = g_V w v) (hfit : fits ty (g_V w v) = true) (hs : fs.set k' v = fs') (hq : pc + 3 = q) (k : ∀ σ' : g_H0, σ'[a]? = some (.inr (ci, fs')) → g_Fr (fun b => b = a) σ σ' → Go w M cs q ml st σ' Φ) : Go w M cs pc ml (v :: .ref a :: st) σ Φ := by
  subst hs
  exact g_putF hf hnm hd hσ hl hnar hfit rfl hq (k _ (List.getElem?_set_self (List.getElem?_eq_some_iff.mp hσ).1) (g_Fr.set rfl))
theorem z_iret {v : Int32} (hd : decode M.2.1 pc = .ok (.ireturn, 1)) (hr : M.2.2.2.1 = some .int) (h : Φ (some (.int v)) σ) : Go w M (0, 0) pc ml [.int v] σ Φ := g_iret hd hr (Nat.zero_le _) (Nat.zero_le _) h
theorem z_zret {v : Int32} {ty : FieldType} (hd : decode M.2.1 pc = .ok (.ireturn, 1)) (hr : M.2.2.2.1 = some ty) (hnar : narrow ty (.int v) = .int v) (h : Φ (some (.int v)) σ) : Go w M (0, 0) pc ml [.int v] σ Φ := g_zret hd hr hnar (Nat.zero_le _) (Nat.zero_le _) h
theorem z_vret (hd : decode M.2.1 pc = .ok (.return_, 1)) (hr : M.2.2.2.1 = none) (h : Φ none σ) : Go w M (0, 0) pc ml [] σ Φ := g_vret hd hr (Nat.zero_le _) (Nat.zero_le _) h
end GZ

/-! a switch -/
def z_alts (G : Nat → Prop) (z : Int) : Int → List Nat → Prop
  | _, [] => True
  | lo, t :: ts => (z = lo → G t) ∧ z_alts G z (lo + 1) ts
theorem z_alts_use {G : Nat → Prop} {z : Int} : ∀ {ts : List Nat} {lo : Int} {j : Nat} {t : Nat}, z_alts G z lo ts → ts[j]? = some t → z = lo + j → G t
  | [], _, _, _, _, h, _ => by simp at h
  | t0 :: ts, lo, 0, t, h, ht, hz => by
    simp at ht
    subst ht
    exact h.1 (by simpa using hz)
  | t0 :: ts, lo, j + 1, t, h, ht, hz => by
    refine z_alts_use h.2 (by simpa using ht) ?_
    rw [hz]; push_cast; omega
def z_offs (pc : Nat) (offs : Array Int) (ts : List Nat) : Bool := decide (offs.toList.map (fun o => (pc : Int) + o) = ts.map (fun t : Nat => (t : Int)))
theorem z_table {w : g_W} {M : g_MD} {cs : Nat × Nat} {pc : Nat} {ml : List (Option Value)} {st : List Value} {σ : g_H0} {Φ : g_Post} {dflt lo hi : Int} {offs : Array Int} {len dt : Nat} {z : Int} {ts : List Nat} (hd : decode M.2.1 pc = .ok (.tableswitch dflt lo hi offs, len)) (h : -2147483648 ≤ z ∧ z < 2147483648) (hl : lo + ts.length = hi + 1) (ho : z_offs pc offs ts = true) (ht : (pc : Int) + dflt = (dt : Int)) (ka : z_alts (fun t => Go w M cs t ml st σ Φ) z lo ts) (kd : z < lo ∨ hi < z → Go w M cs dt ml st σ Φ) : Go w M cs pc ml (.int (iZ z) :: st) σ Φ := by
  by_cases hz : z < lo ∨ hi < z
  · exact g_tableOut hd (by rw [iZ_toInt h.1 h.2]; exact hz) ht (kd hz)
  · have ho' : offs.toList.map (fun o => (pc : Int) + o) = ts.map (fun t : Nat => (t : Int)) := of_decide_eq_true ho
    have hj : (z - lo).toNat < ts.length := by omega
    obtain ⟨t, htt⟩ : ∃ t, ts[(z - lo).toNat]? = some t := ⟨_, List.getElem?_eq_getElem hj⟩
    have h1 : (offs.toList.map (fun o => (pc : Int) + o))[(z - lo).toNat]? = some (t : Int) := by rw [ho', List.getElem?_map, htt]; rfl
    rw [List.getElem?_map] at h1
    obtain ⟨off, h2, h3⟩ := Option.map_eq_some_iff.mp h1
    rw [Array.getElem?_toList] at h2
    exact g_tableIn (off := off) hd (by rw [iZ_toInt h.1 h.2]; omega) (by rw [iZ_toInt h.1 h.2]; omega) (by rw [iZ_toInt h.1 h.2]; exact h2) h3 (z_alts_use ka htt (by omega))

/-! to forget locals -/
def g_wkR : List (Option Value) → List (Option Value) → Prop
  | [], [] => True
  | a :: l, b :: l' => (b = none ∨ b = a) ∧ g_wkR l l'
  | _, _ => False
theorem g_wkR_at : ∀ {l l' : List (Option Value)}, g_wkR l l' → l'.length = l.length ∧ ∀ (i : Nat) (v : Value), l'[i]? = some (some v) → l[i]? = some (some v)
  | [], [], _ => ⟨rfl, fun i v h => by simp at h⟩
  | a :: l, b :: l', h => by
    obtain ⟨h1, h2⟩ := g_wkR_at h.2
    refine ⟨by simp [h1], fun i v hi => ?_⟩
    cases i with
    | zero =>
      simp at hi
      rcases h.1 with e | e
      · rw [e] at hi; cases hi
      · rw [e] at hi; simp [hi]
    | succ i =>
      simp at hi ⊢
      exact h2 i v hi
  | [], b :: l', h => absurd h (by simp [g_wkR])
  | a :: l, [], h => absurd h (by simp [g_wkR])
theorem Go.wk {w : g_W} {M : g_MD} {cs : Nat × Nat} {pc : Nat} {ml ml' : List (Option Value)} {st : List Value} {σ : g_H0} {Φ : g_Post} (h : g_wkR ml ml') (k : Go w M cs pc ml' st σ Φ) : Go w M cs pc ml st σ Φ := by
  obtain ⟨h1, h2⟩ := g_wkR_at h
  intro p l e s m args below meth c C H locs ls hH hS hn hL
  exact k p l e s m args below meth c C H locs ls hH hS (h1.trans hn) ⟨hL.1.trans h1.symm, hL.2.1, fun i v hi => hL.2.2 i v (h2 i v hi)⟩
end
section
/-! Area -/
def rArea (a : Nat) (x y wd hg : Int) (σ : g_H0) : Prop := σ[a]? = some (.inr (0, [.int (iZ x), .int (iZ y), .int (iZ wd), .int (iZ hg)]))

theorem r_Area_has (σ : g_H0) (a : Nat) (x y wd hg cx cy : Int) (h0 : rArea a x y wd hg σ) (bx : 0 ≤ x ∧ x < 1000) (by_ : 0 ≤ y ∧ y < 1000) (bw : 0 ≤ wd ∧ wd < 1000) (bh : 0 ≤ hg ∧ hg < 1000) (bcx : -2147483648 ≤ cx ∧ cx < 2147483648) (bcy : -2147483648 ≤ cy ∧ cy < 2147483648) : Ret mX0_has [.ref a, .int (iZ cx), .int (iZ cy)] σ (fun r σ' => r = some (.int (bI (x ≤ cx ∧ cx < x + wd ∧ y ≤ cy ∧ cy < y + hg))) ∧ σ' = σ) := by
  refine Ret.of moX0_has.1 (Nat.le_of_ble_eq_true rfl) (fun w => ?_)
  show Go w mX0_has (0, 0) 0 [some (.ref a), some (.int (iZ cx)), some (.int (iZ cy))] [] σ _
  refine g_iload_n (q := 1) dX0_has_0 rfl rfl ?_
  refine g_aload_n (q := 2) dX0_has_1 rfl rfl ?_
  refine g_get (q := 5) flX0_7 dX0_has_2 h0 rfl rfl ?_
  refine z_icmp_lt (t := 46) (q := 8) dX0_has_5 rfl (by omega) rfl (fun h1 => ?_) (fun h1 => ?_)
  · refine z_iconst (q := 47) dX0_has_46 rfl ?_
    refine z_zret dX0_has_47 rfl rfl ?_
    exact ⟨congrArg (fun v => some (Value.int v)) (bI_f (by omega)).symm, rfl⟩
  · refine g_iload_n (q := 9) dX0_has_8 rfl rfl ?_
    refine g_aload_n (q := 10) dX0_has_9 rfl rfl ?_
    refine g_get (q := 13) flX0_7 dX0_has_10 h0 rfl rfl ?_
    refine g_aload_n (q := 14) dX0_has_13 rfl rfl ?_
    refine g_get (q := 17) flX0_16 dX0_has_14 h0 rfl rfl ?_
    refine z_iadd (q := 18) dX0_has_17 rfl ?_
    refine z_icmp_ge (t := 46) (q := 21) dX0_has_18 rfl (by omega) rfl (fun h2 => ?_) (fun h2 => ?_)
    · refine z_iconst (q := 47) dX0_has_46 rfl ?_
      refine z_zret dX0_has_47 rfl rfl ?_
      exact ⟨congrArg (fun v => some (Value.int v)) (bI_f (by omega)).symm, rfl⟩
    · refine g_iload_n (q := 22) dX0_has_21 rfl rfl ?_
      refine g_aload_n (q := 23) dX0_has_22 rfl rfl ?_
      refine g_get (q := 26) flX0_13 dX0_has_23 h0 rfl rfl ?_
      refine z_icmp_lt (t := 46) (q := 29) dX0_has_26 rfl (by omega) rfl (fun h3 => ?_) (fun h3 => ?_)
      · refine z_iconst (q := 47) dX0_has_46 rfl ?_
        refine z_zret dX0_has_47 rfl rfl ?_
        exact ⟨congrArg (fun v => some (Value.int v)) (bI_f (by omega)).symm, rfl⟩
      · refine g_iload_n (q := 30) dX0_has_29 rfl rfl ?_
        refine g_aload_n (q := 31) dX0_has_30 rfl rfl ?_
        refine g_get (q := 34) flX0_13 dX0_has_31 h0 rfl rfl ?_
        refine g_aload_n (q := 35) dX0_has_34 rfl rfl ?_
        refine g_get (q := 38) flX0_19 dX0_has_35 h0 rfl rfl ?_
        refine z_iadd (q := 39) dX0_has_38 rfl ?_
        refine z_icmp_ge (t := 46) (q := 42) dX0_has_39 rfl (by omega) rfl (fun h4 => ?_) (fun h4 => ?_)
        · refine z_iconst (q := 47) dX0_has_46 rfl ?_
          refine z_zret dX0_has_47 rfl rfl ?_
          exact ⟨congrArg (fun v => some (Value.int v)) (bI_f (by omega)).symm, rfl⟩
        · refine z_iconst (q := 43) dX0_has_42 rfl ?_
          refine g_goto (q := 47) dX0_has_43 rfl ?_
          refine z_zret dX0_has_47 rfl rfl ?_
          exact ⟨congrArg (fun v => some (Value.int v)) (bI_t (by omega)).symm, rfl⟩
end
section
/-! the reference: its object at a, its rows behind it; I: its numbers (length, spot, undoMany, bestHits, bestTurns), A: its rows (text, told, read, s, before, held, turns, best, openAs, hitsAs, wayAs) -/
def rM (a : Nat) (I : Nat → Int) (A : Nat → Int → Int) (σ : g_H0) : Prop := σ[a]? = some (.inr (9, [.int (iZ (I 0)), .ref (a + 1), .int (iZ (I 1)), .ref (a + 2), .ref (a + 3), .ref (a + 4), .ref (a + 5), .int (iZ (I 2)), .ref (a + 6), .ref (a + 7), .ref (a + 8), .int (iZ (I 3)), .int (iZ (I 4)), .ref (a + 9), .ref (a + 10), .ref (a + 11)])) ∧ σ[a + 1]? = some (.inl (0, 200, .inl (zA (A 0)))) ∧ σ[a + 2]? = some (.inl (0, 51, .inl (zA (A 1)))) ∧ σ[a + 3]? = some (.inl (0, 51, .inl (zA (A 2)))) ∧ σ[a + 4]? = some (.inl (0, 156, .inl (zA (A 3)))) ∧ σ[a + 5]? = some (.inl (0, 936, .inl (zA (A 4)))) ∧ σ[a + 6]? = some (.inl (0, 156, .inl (zA (A 5)))) ∧ σ[a + 7]? = some (.inl (0, 64, .inl (zA (A 6)))) ∧ σ[a + 8]? = some (.inl (0, 5, .inl (zA (A 7)))) ∧ σ[a + 9]? = some (.inl (0, 5, .inl (zA (A 8)))) ∧ σ[a + 10]? = some (.inl (0, 60, .inl (zA (A 9)))) ∧ σ[a + 11]? = some (.inl (0, 5, .inl (zA (A 10))))
theorem r_M_in (σ : g_H0) (v l h : Int) (b_v : -9223372036854775808 ≤ v ∧ v < 9223372036854775808) (b_l : -9223372036854775808 ≤ l ∧ l < 9223372036854775808) (b_h : -9223372036854775808 ≤ h ∧ h < 9223372036854775808) : Ret mX9_in [.long (lZ v), .long (lZ l), .long (lZ h)] σ (fun r σ' => r = some (.int (bI (l ≤ v ∧ v ≤ h))) ∧ σ' = σ) := by
  refine Ret.of moX9_in.1 (Nat.le_of_ble_eq_true rfl) (fun w => ?_)
  show Go w mX9_in (0, 0) 0 [some (.long (lZ v)), none, some (.long (lZ l)), none, some (.long (lZ h)), none] [] σ (fun r σ' => r = some (.int (bI (l ≤ v ∧ v ≤ h))) ∧ σ' = σ)
  refine g_lload_n (q := 1) dX9_in_0 rfl rfl ?_
  refine g_lload_n (q := 2) dX9_in_1 rfl rfl ?_
  refine z_lcmp (q := 3) dX9_in_2 (by omega) rfl (fun pc1 => ?_)
  refine z_if_lt (t := 17) (q := 6) dX9_in_3 rfl (by omega) rfl (fun pc2 => ?_) (fun pc2 => ?_)
  · refine z_iconst (q := 18) dX9_in_17 rfl ?_
    refine z_zret dX9_in_18 rfl rfl ?_
    exact ⟨congrArg (fun v => some (Value.int v)) (bI_f (by omega)).symm, rfl⟩
  · refine g_lload_n (q := 7) dX9_in_6 rfl rfl ?_
    refine g_lload (q := 9) dX9_in_7 rfl rfl ?_
    refine z_lcmp (q := 10) dX9_in_9 (by omega) rfl (fun pc3 => ?_)
    refine z_if_gt (t := 17) (q := 13) dX9_in_10 rfl (by omega) rfl (fun pc4 => ?_) (fun pc4 => ?_)
    · refine z_iconst (q := 18) dX9_in_17 rfl ?_
      refine z_zret dX9_in_18 rfl rfl ?_
      exact ⟨congrArg (fun v => some (Value.int v)) (bI_f (by omega)).symm, rfl⟩
    · refine z_iconst (q := 14) dX9_in_13 rfl ?_
      refine g_goto (q := 18) dX9_in_14 rfl ?_
      refine z_zret dX9_in_18 rfl rfl ?_
      exact ⟨congrArg (fun v => some (Value.int v)) (bI_t (by omega)).symm, rfl⟩
/-- the numbers of a row are within bounds -/
def zBd (t : Int → Int) (b : Int) : Prop := ∀ k, -b ≤ t k ∧ t k ≤ b
def zBs (t : Int → Int) : Prop := ∀ k, k < 153 → -1000000 ≤ t k ∧ t k ≤ 1000000
theorem r_M_byteAt (σ : g_H0) (a : Nat) (I : Nat → Int) (A : Nat → Int → Int) (hM : rM a I A σ) (k : Int) (bk : 0 ≤ k ∧ k < 2147483648) (bl : 0 ≤ I 0 ∧ I 0 ≤ 200) : Ret mX9_byteAt [.ref a, .int (iZ k)] σ (fun r σ' => r = some (.int (iZ (if k < I 0 then A 0 k else 0))) ∧ σ' = σ) := by
  refine Ret.of moX9_byteAt.1 (Nat.le_of_ble_eq_true rfl) (fun w => ?_)
  obtain ⟨m0, m1, m2, m3, m4, m5, m6, m7, m8, m9, m10, m11⟩ := id hM
  show Go w mX9_byteAt (0, 0) 0 [some (.ref a), some (.int (iZ k))] [] σ (fun r σ' => r = some (.int (iZ (if k < I 0 then A 0 k else 0))) ∧ σ' = σ)
  refine g_iload_n (q := 1) dX9_byteAt_0 rfl rfl ?_
  refine g_aload_n (q := 2) dX9_byteAt_1 rfl rfl ?_
  refine g_get (q := 5) flX9_62 dX9_byteAt_2 m0 rfl rfl ?_
  refine z_icmp_ge (t := 17) (q := 8) dX9_byteAt_5 rfl (by omega) rfl (fun pc1 => ?_) (fun pc1 => ?_)
  · refine z_iconst (q := 18) dX9_byteAt_17 rfl ?_
    refine z_iret dX9_byteAt_18 rfl ?_
    exact ⟨congrArg (fun z => some (Value.int (iZ z))) (by first | rw [if_pos (by omega)] | rw [if_neg (by omega)]), rfl⟩
  · refine g_aload_n (q := 9) dX9_byteAt_8 rfl rfl ?_
    refine g_get (q := 12) flX9_7 dX9_byteAt_9 m0 rfl rfl ?_
    refine g_iload_n (q := 13) dX9_byteAt_12 rfl rfl ?_
    refine z_iald (q := 14) dX9_byteAt_13 m1 (by omega) rfl ?_
    refine g_goto (q := 18) dX9_byteAt_14 rfl ?_
    refine z_iret dX9_byteAt_18 rfl ?_
    exact ⟨congrArg (fun z => some (Value.int (iZ z))) (by first | rw [if_pos (by omega)] | rw [if_neg (by omega)]), rfl⟩
theorem r_M_isStation (σ : g_H0) (a : Nat) (I : Nat → Int) (A : Nat → Int → Int) (hM : rM a I A σ) (k : Int) (b_k : -2147483648 ≤ k ∧ k < 2147483648) (bT : zBd (A 1) 1000) : Ret mX9_isStation [.ref a, .int (iZ k)] σ (fun r σ' => r = some (.int (bI (0 ≤ k ∧ k < A 1 2))) ∧ σ' = σ) := by
  refine Ret.of moX9_isStation.1 (Nat.le_of_ble_eq_true rfl) (fun w => ?_)
  obtain ⟨m0, m1, m2, m3, m4, m5, m6, m7, m8, m9, m10, m11⟩ := id hM
  show Go w mX9_isStation (0, 0) 0 [some (.ref a), some (.int (iZ k))] [] σ (fun r σ' => r = some (.int (bI (0 ≤ k ∧ k < A 1 2))) ∧ σ' = σ)
  refine g_iload_n (q := 1) dX9_isStation_0 rfl rfl ?_
  refine z_i2l (q := 2) dX9_isStation_1 (by omega) rfl ?_
  refine g_lconst (v := lZ 0) (q := 3) dX9_isStation_2 (by decide) rfl ?_
  refine g_aload_n (q := 4) dX9_isStation_3 rfl rfl ?_
  refine g_get (q := 7) flX9_13 dX9_isStation_4 m0 rfl rfl ?_
  refine z_iconst (q := 8) dX9_isStation_7 rfl ?_
  refine z_iald (q := 9) dX9_isStation_8 m2 (by omega) rfl ?_
  have b1 := bT 2
  refine z_iconst (q := 10) dX9_isStation_9 rfl ?_
  refine z_isub (q := 11) dX9_isStation_10 rfl ?_
  refine z_i2l (q := 12) dX9_isStation_11 (by omega) rfl ?_
  refine g_callS (As := [.long (lZ k), .long (lZ 0), .long (lZ (((A 1) 2) - 1))]) (rest := []) (q := 15) moX9_in lkX9_isStation_58 dX9_isStation_12 (r_M_in σ k 0 (((A 1) 2) - 1) (by omega) (by omega) (by omega)) rfl rfl (Nat.le_of_ble_eq_true rfl) (Nat.le_of_ble_eq_true rfl) (Nat.le_of_ble_eq_true rfl) rfl ?_
  rintro r1 s1 hp
  rw [hp.1, hp.2]
  show Go w mX9_isStation (0, 0) 15 [some (.ref a), some (.int (iZ k))] [.int (bI (0 ≤ k ∧ k ≤ (((A 1) 2) - 1)))] σ (fun r σ' => r = some (.int (bI (0 ≤ k ∧ k < A 1 2))) ∧ σ' = σ)
  refine z_zret dX9_isStation_15 rfl (bI_nar _) ?_
  exact ⟨congrArg (fun v => some (Value.int v)) (bI_c (by omega)), rfl⟩
theorem r_M_isHole (σ : g_H0) (a : Nat) (I : Nat → Int) (A : Nat → Int → Int) (hM : rM a I A σ) (k : Int) (b_k : -2147483648 ≤ k ∧ k < 2147483648) (bT : zBd (A 1) 1000) : Ret mX9_isHole [.ref a, .int (iZ k)] σ (fun r σ' => r = some (.int (bI (0 ≤ k ∧ k < A 1 3))) ∧ σ' = σ) := by
  refine Ret.of moX9_isHole.1 (Nat.le_of_ble_eq_true rfl) (fun w => ?_)
  obtain ⟨m0, m1, m2, m3, m4, m5, m6, m7, m8, m9, m10, m11⟩ := id hM
  show Go w mX9_isHole (0, 0) 0 [some (.ref a), some (.int (iZ k))] [] σ (fun r σ' => r = some (.int (bI (0 ≤ k ∧ k < A 1 3))) ∧ σ' = σ)
  refine g_iload_n (q := 1) dX9_isHole_0 rfl rfl ?_
  refine z_i2l (q := 2) dX9_isHole_1 (by omega) rfl ?_
  refine g_lconst (v := lZ 0) (q := 3) dX9_isHole_2 (by decide) rfl ?_
  refine g_aload_n (q := 4) dX9_isHole_3 rfl rfl ?_
  refine g_get (q := 7) flX9_13 dX9_isHole_4 m0 rfl rfl ?_
  refine z_iconst (q := 8) dX9_isHole_7 rfl ?_
  refine z_iald (q := 9) dX9_isHole_8 m2 (by omega) rfl ?_
  have b1 := bT 3
  refine z_iconst (q := 10) dX9_isHole_9 rfl ?_
  refine z_isub (q := 11) dX9_isHole_10 rfl ?_
  refine z_i2l (q := 12) dX9_isHole_11 (by omega) rfl ?_
  refine g_callS (As := [.long (lZ k), .long (lZ 0), .long (lZ (((A 1) 3) - 1))]) (rest := []) (q := 15) moX9_in lkX9_isHole_58 dX9_isHole_12 (r_M_in σ k 0 (((A 1) 3) - 1) (by omega) (by omega) (by omega)) rfl rfl (Nat.le_of_ble_eq_true rfl) (Nat.le_of_ble_eq_true rfl) (Nat.le_of_ble_eq_true rfl) rfl ?_
  rintro r1 s1 hp
  rw [hp.1, hp.2]
  show Go w mX9_isHole (0, 0) 15 [some (.ref a), some (.int (iZ k))] [.int (bI (0 ≤ k ∧ k ≤ (((A 1) 3) - 1)))] σ (fun r σ' => r = some (.int (bI (0 ≤ k ∧ k < A 1 3))) ∧ σ' = σ)
  refine z_zret dX9_isHole_15 rfl (bI_nar _) ?_
  exact ⟨congrArg (fun v => some (Value.int v)) (bI_c (by omega)), rfl⟩
theorem r_M_isCell (σ : g_H0) (a : Nat) (I : Nat → Int) (A : Nat → Int → Int) (hM : rM a I A σ) (x y : Int) (b_x : -2147483648 ≤ x ∧ x < 2147483648) (b_y : -2147483648 ≤ y ∧ y < 2147483648) (bT : zBd (A 1) 1000) : Ret mX9_isCell [.ref a, .int (iZ x), .int (iZ y)] σ (fun r σ' => r = some (.int (bI ((0 ≤ x ∧ x < A 1 0) ∧ (0 ≤ y ∧ y < A 1 1)))) ∧ σ' = σ) := by
  refine Ret.of moX9_isCell.1 (Nat.le_of_ble_eq_true rfl) (fun w => ?_)
  obtain ⟨m0, m1, m2, m3, m4, m5, m6, m7, m8, m9, m10, m11⟩ := id hM
  show Go w mX9_isCell (0, 0) 0 [some (.ref a), some (.int (iZ x)), some (.int (iZ y))] [] σ (fun r σ' => r = some (.int (bI ((0 ≤ x ∧ x < A 1 0) ∧ (0 ≤ y ∧ y < A 1 1)))) ∧ σ' = σ)
  refine g_iload_n (q := 1) dX9_isCell_0 rfl rfl ?_
  refine z_i2l (q := 2) dX9_isCell_1 (by omega) rfl ?_
  refine g_lconst (v := lZ 0) (q := 3) dX9_isCell_2 (by decide) rfl ?_
  refine g_aload_n (q := 4) dX9_isCell_3 rfl rfl ?_
  refine g_get (q := 7) flX9_13 dX9_isCell_4 m0 rfl rfl ?_
  refine z_iconst (q := 8) dX9_isCell_7 rfl ?_
  refine z_iald (q := 9) dX9_isCell_8 m2 (by omega) rfl ?_
  have b1 := bT 0
  refine z_iconst (q := 10) dX9_isCell_9 rfl ?_
  refine z_isub (q := 11) dX9_isCell_10 rfl ?_
  refine z_i2l (q := 12) dX9_isCell_11 (by omega) rfl ?_
  refine g_callS (As := [.long (lZ x), .long (lZ 0), .long (lZ (((A 1) 0) - 1))]) (rest := []) (q := 15) moX9_in lkX9_isCell_58 dX9_isCell_12 (r_M_in σ x 0 (((A 1) 0) - 1) (by omega) (by omega) (by omega)) rfl rfl (Nat.le_of_ble_eq_true rfl) (Nat.le_of_ble_eq_true rfl) (Nat.le_of_ble_eq_true rfl) rfl ?_
  rintro r1 s1 hp
  rw [hp.1, hp.2]
  show Go w mX9_isCell (0, 0) 15 [some (.ref a), some (.int (iZ x)), some (.int (iZ y))] [.int (bI (0 ≤ x ∧ x ≤ (((A 1) 0) - 1)))] σ (fun r σ' => r = some (.int (bI ((0 ≤ x ∧ x < A 1 0) ∧ (0 ≤ y ∧ y < A 1 1)))) ∧ σ' = σ)
  refine z_ifB_eq (t := 40) (q := 18) dX9_isCell_15 rfl rfl (fun pc2 => ?_) (fun pc2 => ?_)
  · refine z_iconst (q := 41) dX9_isCell_40 rfl ?_
    refine z_zret dX9_isCell_41 rfl rfl ?_
    exact ⟨congrArg (fun v => some (Value.int v)) (bI_f (by omega)).symm, rfl⟩
  · refine g_iload_n (q := 19) dX9_isCell_18 rfl rfl ?_
    refine z_i2l (q := 20) dX9_isCell_19 (by omega) rfl ?_
    refine g_lconst (v := lZ 0) (q := 21) dX9_isCell_20 (by decide) rfl ?_
    refine g_aload_n (q := 22) dX9_isCell_21 rfl rfl ?_
    refine g_get (q := 25) flX9_13 dX9_isCell_22 m0 rfl rfl ?_
    refine z_iconst (q := 26) dX9_isCell_25 rfl ?_
    refine z_iald (q := 27) dX9_isCell_26 m2 (by omega) rfl ?_
    have b3 := bT 1
    refine z_iconst (q := 28) dX9_isCell_27 rfl ?_
    refine z_isub (q := 29) dX9_isCell_28 rfl ?_
    refine z_i2l (q := 30) dX9_isCell_29 (by omega) rfl ?_
    refine g_callS (As := [.long (lZ y), .long (lZ 0), .long (lZ (((A 1) 1) - 1))]) (rest := []) (q := 33) moX9_in lkX9_isCell_58 dX9_isCell_30 (r_M_in σ y 0 (((A 1) 1) - 1) (by omega) (by omega) (by omega)) rfl rfl (Nat.le_of_ble_eq_true rfl) (Nat.le_of_ble_eq_true rfl) (Nat.le_of_ble_eq_true rfl) rfl ?_
    rintro r1 s1 hp
    rw [hp.1, hp.2]
    show Go w mX9_isCell (0, 0) 33 [some (.ref a), some (.int (iZ x)), some (.int (iZ y))] [.int (bI (0 ≤ y ∧ y ≤ (((A 1) 1) - 1)))] σ (fun r σ' => r = some (.int (bI ((0 ≤ x ∧ x < A 1 0) ∧ (0 ≤ y ∧ y < A 1 1)))) ∧ σ' = σ)
    refine z_ifB_eq (t := 40) (q := 36) dX9_isCell_33 rfl rfl (fun pc4 => ?_) (fun pc4 => ?_)
    · refine z_iconst (q := 41) dX9_isCell_40 rfl ?_
      refine z_zret dX9_isCell_41 rfl rfl ?_
      exact ⟨congrArg (fun v => some (Value.int v)) (bI_f (by omega)).symm, rfl⟩
    · refine z_iconst (q := 37) dX9_isCell_36 rfl ?_
      refine g_goto (q := 41) dX9_isCell_37 rfl ?_
      refine z_zret dX9_isCell_41 rfl rfl ?_
      exact ⟨congrArg (fun v => some (Value.int v)) (bI_t (by omega)).symm, rfl⟩
def mWide (T : Int → Int) (k t : Int) : Int := if t = 1 then T (4 * k + 6) else T (4 * k + 5)
def mHigh (T : Int → Int) (k t : Int) : Int := if t = 1 then T (4 * k + 5) else T (4 * k + 6)
def mRing (T : Int → Int) (a b : Int) : Int := if 2 * (if b < a then a - b else b - a) > T 2 then T 2 - (if b < a then a - b else b - a) else (if b < a then a - b else b - a)
theorem r_M_wide (σ : g_H0) (a : Nat) (I : Nat → Int) (A : Nat → Int → Int) (hM : rM a I A σ) (k t : Int) (bk : 0 ≤ k ∧ k < 6) (b_t : -2147483648 ≤ t ∧ t < 2147483648) (bT : zBd (A 1) 1000) : Ret mX9_wide [.ref a, .int (iZ k), .int (iZ t)] σ (fun r σ' => r = some (.int (iZ (mWide (A 1) k t))) ∧ σ' = σ) := by
  refine Ret.of moX9_wide.1 (Nat.le_of_ble_eq_true rfl) (fun w => ?_)
  obtain ⟨m0, m1, m2, m3, m4, m5, m6, m7, m8, m9, m10, m11⟩ := id hM
  show Go w mX9_wide (0, 0) 0 [some (.ref a), some (.int (iZ k)), some (.int (iZ t))] [] σ (fun r σ' => r = some (.int (iZ (mWide (A 1) k t))) ∧ σ' = σ)
  refine g_aload_n (q := 1) dX9_wide_0 rfl rfl ?_
  refine g_get (q := 4) flX9_13 dX9_wide_1 m0 rfl rfl ?_
  refine z_iconst (q := 5) dX9_wide_4 rfl ?_
  refine z_iconst (q := 6) dX9_wide_5 rfl ?_
  refine g_iload_n (q := 7) dX9_wide_6 rfl rfl ?_
  refine z_imul (q := 8) dX9_wide_7 rfl ?_
  refine z_iaddc (c := (4 * k + 5)) (q := 9) dX9_wide_8 (by omega) rfl ?_
  refine g_iload_n (q := 10) dX9_wide_9 rfl rfl ?_
  refine z_iconst (q := 11) dX9_wide_10 rfl ?_
  refine z_icmp_ne (t := 18) (q := 14) dX9_wide_11 rfl (by omega) rfl (fun pc1 => ?_) (fun pc1 => ?_)
  · refine z_iconst (q := 19) dX9_wide_18 rfl ?_
    refine z_iaddc (c := (4 * k + 5)) (q := 20) dX9_wide_19 (by omega) rfl ?_
    refine z_iald (q := 21) dX9_wide_20 m2 (by omega) rfl ?_
    have b2 := bT (4 * k + 5)
    refine z_iret dX9_wide_21 rfl ?_
    exact ⟨congrArg (fun z => some (Value.int (iZ z))) (by first | (unfold mWide; rw [if_pos (by omega)]; done) | (unfold mWide; rw [if_neg (by omega)]; done) | (unfold mHigh; rw [if_pos (by omega)]; done) | (unfold mHigh; rw [if_neg (by omega)]; done)), rfl⟩
  · refine z_iconst (q := 15) dX9_wide_14 rfl ?_
    refine g_goto (q := 19) dX9_wide_15 rfl ?_
    refine z_iaddc (c := (4 * k + 6)) (q := 20) dX9_wide_19 (by omega) rfl ?_
    refine z_iald (q := 21) dX9_wide_20 m2 (by omega) rfl ?_
    have b3 := bT (4 * k + 6)
    refine z_iret dX9_wide_21 rfl ?_
    exact ⟨congrArg (fun z => some (Value.int (iZ z))) (by first | (unfold mWide; rw [if_pos (by omega)]; done) | (unfold mWide; rw [if_neg (by omega)]; done) | (unfold mHigh; rw [if_pos (by omega)]; done) | (unfold mHigh; rw [if_neg (by omega)]; done)), rfl⟩
theorem r_M_high (σ : g_H0) (a : Nat) (I : Nat → Int) (A : Nat → Int → Int) (hM : rM a I A σ) (k t : Int) (bk : 0 ≤ k ∧ k < 6) (b_t : -2147483648 ≤ t ∧ t < 2147483648) (bT : zBd (A 1) 1000) : Ret mX9_high [.ref a, .int (iZ k), .int (iZ t)] σ (fun r σ' => r = some (.int (iZ (mHigh (A 1) k t))) ∧ σ' = σ) := by
  refine Ret.of moX9_high.1 (Nat.le_of_ble_eq_true rfl) (fun w => ?_)
  obtain ⟨m0, m1, m2, m3, m4, m5, m6, m7, m8, m9, m10, m11⟩ := id hM
  show Go w mX9_high (0, 0) 0 [some (.ref a), some (.int (iZ k)), some (.int (iZ t))] [] σ (fun r σ' => r = some (.int (iZ (mHigh (A 1) k t))) ∧ σ' = σ)
  refine g_aload_n (q := 1) dX9_high_0 rfl rfl ?_
  refine g_get (q := 4) flX9_13 dX9_high_1 m0 rfl rfl ?_
  refine z_iconst (q := 5) dX9_high_4 rfl ?_
  refine z_iconst (q := 6) dX9_high_5 rfl ?_
  refine g_iload_n (q := 7) dX9_high_6 rfl rfl ?_
  refine z_imul (q := 8) dX9_high_7 rfl ?_
  refine z_iaddc (c := (4 * k + 5)) (q := 9) dX9_high_8 (by omega) rfl ?_
  refine g_iload_n (q := 10) dX9_high_9 rfl rfl ?_
  refine z_iconst (q := 11) dX9_high_10 rfl ?_
  refine z_icmp_ne (t := 18) (q := 14) dX9_high_11 rfl (by omega) rfl (fun pc1 => ?_) (fun pc1 => ?_)
  · refine z_iconst (q := 19) dX9_high_18 rfl ?_
    refine z_iaddc (c := (4 * k + 6)) (q := 20) dX9_high_19 (by omega) rfl ?_
    refine z_iald (q := 21) dX9_high_20 m2 (by omega) rfl ?_
    have b2 := bT (4 * k + 6)
    refine z_iret dX9_high_21 rfl ?_
    exact ⟨congrArg (fun z => some (Value.int (iZ z))) (by first | (unfold mWide; rw [if_pos (by omega)]; done) | (unfold mWide; rw [if_neg (by omega)]; done) | (unfold mHigh; rw [if_pos (by omega)]; done) | (unfold mHigh; rw [if_neg (by omega)]; done)), rfl⟩
  · refine z_iconst (q := 15) dX9_high_14 rfl ?_
    refine g_goto (q := 19) dX9_high_15 rfl ?_
    refine z_iaddc (c := (4 * k + 5)) (q := 20) dX9_high_19 (by omega) rfl ?_
    refine z_iald (q := 21) dX9_high_20 m2 (by omega) rfl ?_
    have b3 := bT (4 * k + 5)
    refine z_iret dX9_high_21 rfl ?_
    exact ⟨congrArg (fun z => some (Value.int (iZ z))) (by first | (unfold mWide; rw [if_pos (by omega)]; done) | (unfold mWide; rw [if_neg (by omega)]; done) | (unfold mHigh; rw [if_pos (by omega)]; done) | (unfold mHigh; rw [if_neg (by omega)]; done)), rfl⟩
theorem r_M_isDull (σ : g_H0) (a : Nat) (I : Nat → Int) (A : Nat → Int → Int) (hM : rM a I A σ) (k : Int) (bk : 0 ≤ k ∧ k < 6) (bT : zBd (A 1) 1000) (bS : zBs (A 3)) : Ret mX9_isDull [.ref a, .int (iZ k)] σ (fun r σ' => r = some (.int (bI (A 1 (4 * k + 8) ≤ A 3 (k + 144)))) ∧ σ' = σ) := by
  refine Ret.of moX9_isDull.1 (Nat.le_of_ble_eq_true rfl) (fun w => ?_)
  obtain ⟨m0, m1, m2, m3, m4, m5, m6, m7, m8, m9, m10, m11⟩ := id hM
  show Go w mX9_isDull (0, 0) 0 [some (.ref a), some (.int (iZ k))] [] σ (fun r σ' => r = some (.int (bI (A 1 (4 * k + 8) ≤ A 3 (k + 144)))) ∧ σ' = σ)
  refine g_aload_n (q := 1) dX9_isDull_0 rfl rfl ?_
  refine g_get (q := 4) flX9_19 dX9_isDull_1 m0 rfl rfl ?_
  refine g_sipush (v := iZ 144) (q := 7) dX9_isDull_4 (by decide) rfl ?_
  refine g_iload_n (q := 8) dX9_isDull_7 rfl rfl ?_
  refine z_iaddc (c := (k + 144)) (q := 9) dX9_isDull_8 (by omega) rfl ?_
  refine z_iald (q := 10) dX9_isDull_9 m4 (by omega) rfl ?_
  have b1 := bS (k + 144)
  refine g_aload_n (q := 11) dX9_isDull_10 rfl rfl ?_
  refine g_get (q := 14) flX9_13 dX9_isDull_11 m0 rfl rfl ?_
  refine z_iconst (q := 15) dX9_isDull_14 rfl ?_
  refine z_iconst (q := 16) dX9_isDull_15 rfl ?_
  refine g_iload_n (q := 17) dX9_isDull_16 rfl rfl ?_
  refine z_imul (q := 18) dX9_isDull_17 rfl ?_
  refine z_iaddc (c := (4 * k + 5)) (q := 19) dX9_isDull_18 (by omega) rfl ?_
  refine z_iconst (q := 20) dX9_isDull_19 rfl ?_
  refine z_iaddc (c := (4 * k + 8)) (q := 21) dX9_isDull_20 (by omega) rfl ?_
  refine z_iald (q := 22) dX9_isDull_21 m2 (by omega) rfl ?_
  have b2 := bT (4 * k + 8)
  refine z_icmp_lt (t := 29) (q := 25) dX9_isDull_22 rfl (by omega) rfl (fun pc3 => ?_) (fun pc3 => ?_)
  · refine z_iconst (q := 30) dX9_isDull_29 rfl ?_
    refine z_zret dX9_isDull_30 rfl rfl ?_
    exact ⟨congrArg (fun v => some (Value.int v)) (bI_f (by omega)).symm, rfl⟩
  · refine z_iconst (q := 26) dX9_isDull_25 rfl ?_
    refine g_goto (q := 30) dX9_isDull_26 rfl ?_
    refine z_zret dX9_isDull_30 rfl rfl ?_
    exact ⟨congrArg (fun v => some (Value.int v)) (bI_t (by omega)).symm, rfl⟩
theorem r_M_ring (σ : g_H0) (a : Nat) (I : Nat → Int) (A : Nat → Int → Int) (hM : rM a I A σ) (x y : Int) (bx : 0 ≤ x ∧ x < 1000) (by_ : 0 ≤ y ∧ y < 1000) (bT : zBd (A 1) 1000) : Ret mX9_ring [.ref a, .int (iZ x), .int (iZ y)] σ (fun r σ' => r = some (.int (iZ (mRing (A 1) x y))) ∧ σ' = σ) := by
  refine Ret.of moX9_ring.1 (Nat.le_of_ble_eq_true rfl) (fun w => ?_)
  obtain ⟨m0, m1, m2, m3, m4, m5, m6, m7, m8, m9, m10, m11⟩ := id hM
  show Go w mX9_ring (0, 0) 0 [some (.ref a), some (.int (iZ x)), some (.int (iZ y)), none] [] σ (fun r σ' => r = some (.int (iZ (mRing (A 1) x y))) ∧ σ' = σ)
  refine g_iload_n (q := 1) dX9_ring_0 rfl rfl ?_
  refine g_iload_n (q := 2) dX9_ring_1 rfl rfl ?_
  refine z_icmp_le (t := 11) (q := 5) dX9_ring_2 rfl (by omega) rfl (fun pc1 => ?_) (fun pc1 => ?_)
  · refine g_iload_n (q := 12) dX9_ring_11 rfl rfl ?_
    refine g_iload_n (q := 13) dX9_ring_12 rfl rfl ?_
    refine z_isub (q := 14) dX9_ring_13 rfl ?_
    refine g_istore_n (ml' := [some (.ref a), some (.int (iZ x)), some (.int (iZ y)), some (.int (iZ (y - x)))]) (q := 15) dX9_ring_14 rfl (Nat.le_of_ble_eq_true rfl) rfl rfl ?_
    refine z_iconst (q := 16) dX9_ring_15 rfl ?_
    refine g_iload_n (q := 17) dX9_ring_16 rfl rfl ?_
    refine z_imulc (c := (2 * y - 2 * x)) (q := 18) dX9_ring_17 (by omega) rfl ?_
    refine g_aload_n (q := 19) dX9_ring_18 rfl rfl ?_
    refine g_get (q := 22) flX9_13 dX9_ring_19 m0 rfl rfl ?_
    refine z_iconst (q := 23) dX9_ring_22 rfl ?_
    refine z_iald (q := 24) dX9_ring_23 m2 (by omega) rfl ?_
    have b2 := bT 2
    refine z_icmp_le (t := 38) (q := 27) dX9_ring_24 rfl (by omega) rfl (fun pc3 => ?_) (fun pc3 => ?_)
    · refine g_iload_n (q := 39) dX9_ring_38 rfl rfl ?_
      refine z_iret dX9_ring_39 rfl ?_
      exact ⟨congrArg (fun z => some (Value.int (iZ z))) (by unfold mRing; omega), rfl⟩
    · refine g_aload_n (q := 28) dX9_ring_27 rfl rfl ?_
      refine g_get (q := 31) flX9_13 dX9_ring_28 m0 rfl rfl ?_
      refine z_iconst (q := 32) dX9_ring_31 rfl ?_
      refine z_iald (q := 33) dX9_ring_32 m2 (by omega) rfl ?_
      have b4 := bT 2
      refine g_iload_n (q := 34) dX9_ring_33 rfl rfl ?_
      refine z_isubc (c := (((A 1) 2) - y + x)) (q := 35) dX9_ring_34 (by omega) rfl ?_
      refine g_goto (q := 39) dX9_ring_35 rfl ?_
      refine z_iret dX9_ring_39 rfl ?_
      exact ⟨congrArg (fun z => some (Value.int (iZ z))) (by unfold mRing; omega), rfl⟩
  · refine g_iload_n (q := 6) dX9_ring_5 rfl rfl ?_
    refine g_iload_n (q := 7) dX9_ring_6 rfl rfl ?_
    refine z_isub (q := 8) dX9_ring_7 rfl ?_
    refine g_goto (q := 14) dX9_ring_8 rfl ?_
    refine g_istore_n (ml' := [some (.ref a), some (.int (iZ x)), some (.int (iZ y)), some (.int (iZ (x - y)))]) (q := 15) dX9_ring_14 rfl (Nat.le_of_ble_eq_true rfl) rfl rfl ?_
    refine z_iconst (q := 16) dX9_ring_15 rfl ?_
    refine g_iload_n (q := 17) dX9_ring_16 rfl rfl ?_
    refine z_imulc (c := (2 * x - 2 * y)) (q := 18) dX9_ring_17 (by omega) rfl ?_
    refine g_aload_n (q := 19) dX9_ring_18 rfl rfl ?_
    refine g_get (q := 22) flX9_13 dX9_ring_19 m0 rfl rfl ?_
    refine z_iconst (q := 23) dX9_ring_22 rfl ?_
    refine z_iald (q := 24) dX9_ring_23 m2 (by omega) rfl ?_
    have b5 := bT 2
    refine z_icmp_le (t := 38) (q := 27) dX9_ring_24 rfl (by omega) rfl (fun pc6 => ?_) (fun pc6 => ?_)
    · refine g_iload_n (q := 39) dX9_ring_38 rfl rfl ?_
      refine z_iret dX9_ring_39 rfl ?_
      exact ⟨congrArg (fun z => some (Value.int (iZ z))) (by unfold mRing; omega), rfl⟩
    · refine g_aload_n (q := 28) dX9_ring_27 rfl rfl ?_
      refine g_get (q := 31) flX9_13 dX9_ring_28 m0 rfl rfl ?_
      refine z_iconst (q := 32) dX9_ring_31 rfl ?_
      refine z_iald (q := 33) dX9_ring_32 m2 (by omega) rfl ?_
      have b7 := bT 2
      refine g_iload_n (q := 34) dX9_ring_33 rfl rfl ?_
      refine z_isubc (c := (((A 1) 2) - x + y)) (q := 35) dX9_ring_34 (by omega) rfl ?_
      refine g_goto (q := 39) dX9_ring_35 rfl ?_
      refine z_iret dX9_ring_39 rfl ?_
      exact ⟨congrArg (fun z => some (Value.int (iZ z))) (by unfold mRing; omega), rfl⟩
theorem r_M_parts (σ : g_H0) (n d : Int) (bn : 0 ≤ n ∧ n < 1000) (bd : 1 ≤ d ∧ d < 1000) : Ret mX9_parts [.int (iZ n), .int (iZ d)] σ (fun r σ' => r = some (.int (iZ ((n + d - 1) / d))) ∧ σ' = σ) := by
  refine Ret.of moX9_parts.1 (Nat.le_of_ble_eq_true rfl) (fun w => ?_)
  show Go w mX9_parts (0, 0) 0 [some (.int (iZ n)), some (.int (iZ d))] [] σ (fun r σ' => r = some (.int (iZ ((n + d - 1) / d))) ∧ σ' = σ)
  refine g_iload_n (q := 1) dX9_parts_0 rfl rfl ?_
  refine g_iload_n (q := 2) dX9_parts_1 rfl rfl ?_
  refine z_iadd (q := 3) dX9_parts_2 rfl ?_
  refine z_iconst (q := 4) dX9_parts_3 rfl ?_
  refine z_isubc (c := (n + d - 1)) (q := 5) dX9_parts_4 (by omega) rfl ?_
  refine g_iload_n (q := 6) dX9_parts_5 rfl rfl ?_
  refine z_idiv (q := 7) dX9_parts_6 (by omega) rfl ?_
  refine z_iret dX9_parts_7 rfl ?_
  exact ⟨rfl, rfl⟩
end
section
/-! HOLES, CLAMPS -/
def mHoleF (T : Int → Int) (x y : Int) : Nat → Int → Int
  | 0, _ => -4
  | n + 1, h => if (T (4 * h + 29) ≤ x ∧ x < T (4 * h + 29) + T (4 * h + 31)) ∧ (T (4 * h + 30) ≤ y ∧ y < T (4 * h + 30) + T (4 * h + 32)) then h else mHoleF T x y n (h + 1)
def mHole (T : Int → Int) (x y : Int) : Int := mHoleF T x y (T 3).toNat 0
theorem mHoleF_rng (T : Int → Int) (x y : Int) : ∀ (n : Nat) (h : Int), mHoleF T x y n h = -4 ∨ (h ≤ mHoleF T x y n h ∧ mHoleF T x y n h < h + n)
  | 0, h => Or.inl rfl
  | n + 1, h => by
    unfold mHoleF
    split
    · right; omega
    · rcases mHoleF_rng T x y n (h + 1) with e | e
      · left; exact e
      · right; omega
def mClampF (T S : Int → Int) (x y : Int) : Nat → Int → Int
  | 0, _ => -4
  | n + 1, c => if y = T 1 - 1 ∧ (S (c + 151) ≤ x ∧ x ≤ S (c + 151) + 1) then c else mClampF T S x y n (c + 1)
def mClamp (T S : Int → Int) (x y : Int) : Int := mClampF T S x y (T 4).toNat 0
theorem mClampF_rng (T S : Int → Int) (x y : Int) : ∀ (n : Nat) (h : Int), mClampF T S x y n h = -4 ∨ (h ≤ mClampF T S x y n h ∧ mClampF T S x y n h < h + n)
  | 0, h => Or.inl rfl
  | n + 1, h => by
    unfold mClampF
    split
    · right; omega
    · rcases mClampF_rng T S x y n (h + 1) with e | e
      · left; exact e
      · right; omega
theorem l_M_holeAt (w : g_W) (σ : g_H0) (a : Nat) (I : Nat → Int) (A : Nat → Int → Int) (hM : rM a I A σ) (x y : Int) (b_x : -2147483648 ≤ x ∧ x < 2147483648) (b_y : -2147483648 ≤ y ∧ y < 2147483648) (bT : zBd (A 1) 1000) (h3 : 0 ≤ A 1 3 ∧ A 1 3 ≤ 5) : ∀ (n : Nat) (h : Int), 0 ≤ h → h + n = A 1 3 → Go w mX9_holeAt (0, 0) 2 [some (.ref a), some (.int (iZ x)), some (.int (iZ y)), some (.int (iZ h)), none] [] σ (fun r σ' => r = some (.int (iZ (mHoleF (A 1) x y n h))) ∧ σ' = σ) := by
  intro n
  induction n with
  | zero =>
    intro h h0 h1
    obtain ⟨m0, m1, m2, m3, m4, m5, m6, m7, m8, m9, m10, m11⟩ := id hM
    refine g_iload_n (q := 3) dX9_holeAt_2 rfl rfl ?_
    refine g_aload_n (q := 4) dX9_holeAt_3 rfl rfl ?_
    refine g_get (q := 7) flX9_13 dX9_holeAt_4 m0 rfl rfl ?_
    refine z_iconst (q := 8) dX9_holeAt_7 rfl ?_
    refine z_iald (q := 9) dX9_holeAt_8 m2 (by omega) rfl ?_
    have b1 := bT 3
    refine z_icmp_ge (t := 104) (q := 12) dX9_holeAt_9 rfl (by omega) rfl (fun pc2 => ?_) (fun pc2 => ?_)
    · refine g_bipush (v := iZ (-4)) (q := 106) dX9_holeAt_104 (by decide) rfl ?_
      refine z_iret dX9_holeAt_106 rfl ?_
      exact ⟨congrArg (fun z => some (Value.int (iZ z))) (by unfold mHoleF; rfl), rfl⟩
    · exfalso
      omega
  | succ n ih =>
    intro h h0 h1
    obtain ⟨m0, m1, m2, m3, m4, m5, m6, m7, m8, m9, m10, m11⟩ := id hM
    refine g_iload_n (q := 3) dX9_holeAt_2 rfl rfl ?_
    refine g_aload_n (q := 4) dX9_holeAt_3 rfl rfl ?_
    refine g_get (q := 7) flX9_13 dX9_holeAt_4 m0 rfl rfl ?_
    refine z_iconst (q := 8) dX9_holeAt_7 rfl ?_
    refine z_iald (q := 9) dX9_holeAt_8 m2 (by omega) rfl ?_
    have b1 := bT 3
    refine z_icmp_ge (t := 104) (q := 12) dX9_holeAt_9 rfl (by omega) rfl (fun pc2 => ?_) (fun pc2 => ?_)
    · exfalso
      omega
    · refine g_bipush (v := iZ 29) (q := 14) dX9_holeAt_12 (by decide) rfl ?_
      refine z_iconst (q := 15) dX9_holeAt_14 rfl ?_
      refine g_iload_n (q := 16) dX9_holeAt_15 rfl rfl ?_
      refine z_imul (q := 17) dX9_holeAt_16 rfl ?_
      refine z_iaddc (c := (4 * h + 29)) (q := 18) dX9_holeAt_17 (by omega) rfl ?_
      refine g_istore (ml' := [some (.ref a), some (.int (iZ x)), some (.int (iZ y)), some (.int (iZ h)), some (.int (iZ (4 * h + 29)))]) (q := 20) dX9_holeAt_18 rfl (Nat.le_of_ble_eq_true rfl) rfl rfl ?_
      refine g_iload_n (q := 21) dX9_holeAt_20 rfl rfl ?_
      refine z_i2l (q := 22) dX9_holeAt_21 (by omega) rfl ?_
      refine g_aload_n (q := 23) dX9_holeAt_22 rfl rfl ?_
      refine g_get (q := 26) flX9_13 dX9_holeAt_23 m0 rfl rfl ?_
      refine g_iload (q := 28) dX9_holeAt_26 rfl rfl ?_
      refine z_iald (q := 29) dX9_holeAt_28 m2 (by omega) rfl ?_
      have b3 := bT (4 * h + 29)
      refine z_i2l (q := 30) dX9_holeAt_29 (by omega) rfl ?_
      refine g_aload_n (q := 31) dX9_holeAt_30 rfl rfl ?_
      refine g_get (q := 34) flX9_13 dX9_holeAt_31 m0 rfl rfl ?_
      refine g_iload (q := 36) dX9_holeAt_34 rfl rfl ?_
      refine z_iald (q := 37) dX9_holeAt_36 m2 (by omega) rfl ?_
      have b4 := bT (4 * h + 29)
      refine g_aload_n (q := 38) dX9_holeAt_37 rfl rfl ?_
      refine g_get (q := 41) flX9_13 dX9_holeAt_38 m0 rfl rfl ?_
      refine g_iload (q := 43) dX9_holeAt_41 rfl rfl ?_
      refine z_iconst (q := 44) dX9_holeAt_43 rfl ?_
      refine z_iaddc (c := (4 * h + 31)) (q := 45) dX9_holeAt_44 (by omega) rfl ?_
      refine z_iald (q := 46) dX9_holeAt_45 m2 (by omega) rfl ?_
      have b5 := bT (4 * h + 31)
      refine z_iadd (q := 47) dX9_holeAt_46 rfl ?_
      refine z_iconst (q := 48) dX9_holeAt_47 rfl ?_
      refine z_isubc (c := (((A 1) (4 * h + 29)) + ((A 1) (4 * h + 31)) - 1)) (q := 49) dX9_holeAt_48 (by omega) rfl ?_
      refine z_i2l (q := 50) dX9_holeAt_49 (by omega) rfl ?_
      refine g_callS (As := [.long (lZ x), .long (lZ ((A 1) (4 * h + 29))), .long (lZ (((A 1) (4 * h + 29)) + ((A 1) (4 * h + 31)) - 1))]) (rest := []) (q := 53) moX9_in lkX9_holeAt_58 dX9_holeAt_50 (r_M_in σ x ((A 1) (4 * h + 29)) (((A 1) (4 * h + 29)) + ((A 1) (4 * h + 31)) - 1) (by omega) (by omega) (by omega)) rfl rfl (Nat.le_of_ble_eq_true rfl) (Nat.le_of_ble_eq_true rfl) (Nat.le_of_ble_eq_true rfl) rfl ?_
      rintro r1 s1 hp
      rw [hp.1, hp.2]
      show Go w mX9_holeAt (0, 0) 53 [some (.ref a), some (.int (iZ x)), some (.int (iZ y)), some (.int (iZ h)), some (.int (iZ (4 * h + 29)))] [.int (bI (((A 1) (4 * h + 29)) ≤ x ∧ x ≤ (((A 1) (4 * h + 29)) + ((A 1) (4 * h + 31)) - 1)))] σ (fun r σ' => r = some (.int (iZ (mHoleF (A 1) x y (n + 1) h))) ∧ σ' = σ)
      refine z_ifB_eq (t := 98) (q := 56) dX9_holeAt_53 rfl rfl (fun pc6 => ?_) (fun pc6 => ?_)
      · refine z_iincc (c := (h + 1)) (ml' := [some (.ref a), some (.int (iZ x)), some (.int (iZ y)), some (.int (iZ (h + 1))), some (.int (iZ (4 * h + 29)))]) (q := 101) dX9_holeAt_98 rfl (by omega) rfl rfl rfl ?_
        refine g_goto (q := 2) dX9_holeAt_101 rfl ?_
        refine Go.wk (ml' := [some (.ref a), some (.int (iZ x)), some (.int (iZ y)), some (.int (iZ (h + 1))), none]) ⟨Or.inr rfl, Or.inr rfl, Or.inr rfl, Or.inr rfl, Or.inl rfl, trivial⟩ ?_
        exact (ih (h + 1) (by omega) (by omega)).mono (fun r σ1 hp => ⟨hp.1.trans (congrArg (fun z => some (Value.int (iZ z))) (by conv => rhs; unfold mHoleF; rw [if_neg (by omega)])), hp.2⟩)
      · refine g_iload_n (q := 57) dX9_holeAt_56 rfl rfl ?_
        refine z_i2l (q := 58) dX9_holeAt_57 (by omega) rfl ?_
        refine g_aload_n (q := 59) dX9_holeAt_58 rfl rfl ?_
        refine g_get (q := 62) flX9_13 dX9_holeAt_59 m0 rfl rfl ?_
        refine g_iload (q := 64) dX9_holeAt_62 rfl rfl ?_
        refine z_iconst (q := 65) dX9_holeAt_64 rfl ?_
        refine z_iaddc (c := (4 * h + 30)) (q := 66) dX9_holeAt_65 (by omega) rfl ?_
        refine z_iald (q := 67) dX9_holeAt_66 m2 (by omega) rfl ?_
        have b7 := bT (4 * h + 30)
        refine z_i2l (q := 68) dX9_holeAt_67 (by omega) rfl ?_
        refine g_aload_n (q := 69) dX9_holeAt_68 rfl rfl ?_
        refine g_get (q := 72) flX9_13 dX9_holeAt_69 m0 rfl rfl ?_
        refine g_iload (q := 74) dX9_holeAt_72 rfl rfl ?_
        refine z_iconst (q := 75) dX9_holeAt_74 rfl ?_
        refine z_iaddc (c := (4 * h + 30)) (q := 76) dX9_holeAt_75 (by omega) rfl ?_
        refine z_iald (q := 77) dX9_holeAt_76 m2 (by omega) rfl ?_
        have b8 := bT (4 * h + 30)
        refine g_aload_n (q := 78) dX9_holeAt_77 rfl rfl ?_
        refine g_get (q := 81) flX9_13 dX9_holeAt_78 m0 rfl rfl ?_
        refine g_iload (q := 83) dX9_holeAt_81 rfl rfl ?_
        refine z_iconst (q := 84) dX9_holeAt_83 rfl ?_
        refine z_iaddc (c := (4 * h + 32)) (q := 85) dX9_holeAt_84 (by omega) rfl ?_
        refine z_iald (q := 86) dX9_holeAt_85 m2 (by omega) rfl ?_
        have b9 := bT (4 * h + 32)
        refine z_iadd (q := 87) dX9_holeAt_86 rfl ?_
        refine z_iconst (q := 88) dX9_holeAt_87 rfl ?_
        refine z_isubc (c := (((A 1) (4 * h + 30)) + ((A 1) (4 * h + 32)) - 1)) (q := 89) dX9_holeAt_88 (by omega) rfl ?_
        refine z_i2l (q := 90) dX9_holeAt_89 (by omega) rfl ?_
        refine g_callS (As := [.long (lZ y), .long (lZ ((A 1) (4 * h + 30))), .long (lZ (((A 1) (4 * h + 30)) + ((A 1) (4 * h + 32)) - 1))]) (rest := []) (q := 93) moX9_in lkX9_holeAt_58 dX9_holeAt_90 (r_M_in σ y ((A 1) (4 * h + 30)) (((A 1) (4 * h + 30)) + ((A 1) (4 * h + 32)) - 1) (by omega) (by omega) (by omega)) rfl rfl (Nat.le_of_ble_eq_true rfl) (Nat.le_of_ble_eq_true rfl) (Nat.le_of_ble_eq_true rfl) rfl ?_
        rintro r1 s1 hp
        rw [hp.1, hp.2]
        show Go w mX9_holeAt (0, 0) 93 [some (.ref a), some (.int (iZ x)), some (.int (iZ y)), some (.int (iZ h)), some (.int (iZ (4 * h + 29)))] [.int (bI (((A 1) (4 * h + 30)) ≤ y ∧ y ≤ (((A 1) (4 * h + 30)) + ((A 1) (4 * h + 32)) - 1)))] σ (fun r σ' => r = some (.int (iZ (mHoleF (A 1) x y (n + 1) h))) ∧ σ' = σ)
        refine z_ifB_eq (t := 98) (q := 96) dX9_holeAt_93 rfl rfl (fun pc10 => ?_) (fun pc10 => ?_)
        · refine z_iincc (c := (h + 1)) (ml' := [some (.ref a), some (.int (iZ x)), some (.int (iZ y)), some (.int (iZ (h + 1))), some (.int (iZ (4 * h + 29)))]) (q := 101) dX9_holeAt_98 rfl (by omega) rfl rfl rfl ?_
          refine g_goto (q := 2) dX9_holeAt_101 rfl ?_
          refine Go.wk (ml' := [some (.ref a), some (.int (iZ x)), some (.int (iZ y)), some (.int (iZ (h + 1))), none]) ⟨Or.inr rfl, Or.inr rfl, Or.inr rfl, Or.inr rfl, Or.inl rfl, trivial⟩ ?_
          exact (ih (h + 1) (by omega) (by omega)).mono (fun r σ1 hp => ⟨hp.1.trans (congrArg (fun z => some (Value.int (iZ z))) (by conv => rhs; unfold mHoleF; rw [if_neg (by omega)])), hp.2⟩)
        · refine g_iload_n (q := 97) dX9_holeAt_96 rfl rfl ?_
          refine z_iret dX9_holeAt_97 rfl ?_
          exact ⟨congrArg (fun z => some (Value.int (iZ z))) (by unfold mHoleF; rw [if_pos (by omega)]), rfl⟩
theorem r_M_holeAt (σ : g_H0) (a : Nat) (I : Nat → Int) (A : Nat → Int → Int) (hM : rM a I A σ) (x y : Int) (b_x : -2147483648 ≤ x ∧ x < 2147483648) (b_y : -2147483648 ≤ y ∧ y < 2147483648) (bT : zBd (A 1) 1000) (h3 : 0 ≤ A 1 3 ∧ A 1 3 ≤ 5) : Ret mX9_holeAt [.ref a, .int (iZ x), .int (iZ y)] σ (fun r σ' => r = some (.int (iZ (mHole (A 1) x y))) ∧ σ' = σ) := by
  refine Ret.of moX9_holeAt.1 (Nat.le_of_ble_eq_true rfl) (fun w => ?_)
  show Go w mX9_holeAt (0, 0) 0 [some (.ref a), some (.int (iZ x)), some (.int (iZ y)), none, none] [] σ (fun r σ' => r = some (.int (iZ (mHole (A 1) x y))) ∧ σ' = σ)
  refine z_iconst (q := 1) dX9_holeAt_0 rfl ?_
  refine g_istore_n (ml' := [some (.ref a), some (.int (iZ x)), some (.int (iZ y)), some (.int (iZ 0)), none]) (q := 2) dX9_holeAt_1 rfl (Nat.le_of_ble_eq_true rfl) rfl rfl ?_
  exact l_M_holeAt w σ a I A hM x y b_x b_y bT h3 (A 1 3).toNat 0 (by omega) (by omega)
theorem l_M_clampAt (w : g_W) (σ : g_H0) (a : Nat) (I : Nat → Int) (A : Nat → Int → Int) (hM : rM a I A σ) (x y : Int) (b_x : -2147483648 ≤ x ∧ x < 2147483648) (b_y : -2147483648 ≤ y ∧ y < 2147483648) (bT : zBd (A 1) 1000) (bS : zBs (A 3)) (h4 : 0 ≤ A 1 4 ∧ A 1 4 ≤ 2) : ∀ (n : Nat) (h : Int), 0 ≤ h → h + n = A 1 4 → Go w mX9_clampAt (0, 0) 2 [some (.ref a), some (.int (iZ x)), some (.int (iZ y)), some (.int (iZ h))] [] σ (fun r σ' => r = some (.int (iZ (mClampF (A 1) (A 3) x y n h))) ∧ σ' = σ) := by
  intro n
  induction n with
  | zero =>
    intro h h0 h1
    obtain ⟨m0, m1, m2, m3, m4, m5, m6, m7, m8, m9, m10, m11⟩ := id hM
    refine g_iload_n (q := 3) dX9_clampAt_2 rfl rfl ?_
    refine g_aload_n (q := 4) dX9_clampAt_3 rfl rfl ?_
    refine g_get (q := 7) flX9_13 dX9_clampAt_4 m0 rfl rfl ?_
    refine z_iconst (q := 8) dX9_clampAt_7 rfl ?_
    refine z_iald (q := 9) dX9_clampAt_8 m2 (by omega) rfl ?_
    have b1 := bT 4
    refine z_icmp_ge (t := 64) (q := 12) dX9_clampAt_9 rfl (by omega) rfl (fun pc2 => ?_) (fun pc2 => ?_)
    · refine g_bipush (v := iZ (-4)) (q := 66) dX9_clampAt_64 (by decide) rfl ?_
      refine z_iret dX9_clampAt_66 rfl ?_
      exact ⟨congrArg (fun z => some (Value.int (iZ z))) (by unfold mClampF; rfl), rfl⟩
    · exfalso
      omega
  | succ n ih =>
    intro h h0 h1
    obtain ⟨m0, m1, m2, m3, m4, m5, m6, m7, m8, m9, m10, m11⟩ := id hM
    refine g_iload_n (q := 3) dX9_clampAt_2 rfl rfl ?_
    refine g_aload_n (q := 4) dX9_clampAt_3 rfl rfl ?_
    refine g_get (q := 7) flX9_13 dX9_clampAt_4 m0 rfl rfl ?_
    refine z_iconst (q := 8) dX9_clampAt_7 rfl ?_
    refine z_iald (q := 9) dX9_clampAt_8 m2 (by omega) rfl ?_
    have b1 := bT 4
    refine z_icmp_ge (t := 64) (q := 12) dX9_clampAt_9 rfl (by omega) rfl (fun pc2 => ?_) (fun pc2 => ?_)
    · exfalso
      omega
    · refine g_iload_n (q := 13) dX9_clampAt_12 rfl rfl ?_
      refine g_aload_n (q := 14) dX9_clampAt_13 rfl rfl ?_
      refine g_get (q := 17) flX9_13 dX9_clampAt_14 m0 rfl rfl ?_
      refine z_iconst (q := 18) dX9_clampAt_17 rfl ?_
      refine z_iald (q := 19) dX9_clampAt_18 m2 (by omega) rfl ?_
      have b3 := bT 1
      refine z_iconst (q := 20) dX9_clampAt_19 rfl ?_
      refine z_isub (q := 21) dX9_clampAt_20 rfl ?_
      refine z_icmp_ne (t := 58) (q := 24) dX9_clampAt_21 rfl (by omega) rfl (fun pc4 => ?_) (fun pc4 => ?_)
      · refine z_iincc (c := (h + 1)) (ml' := [some (.ref a), some (.int (iZ x)), some (.int (iZ y)), some (.int (iZ (h + 1)))]) (q := 61) dX9_clampAt_58 rfl (by omega) rfl rfl rfl ?_
        refine g_goto (q := 2) dX9_clampAt_61 rfl ?_
        exact (ih (h + 1) (by omega) (by omega)).mono (fun r σ1 hp => ⟨hp.1.trans (congrArg (fun z => some (Value.int (iZ z))) (by conv => rhs; unfold mClampF; rw [if_neg (by omega)])), hp.2⟩)
      · refine g_iload_n (q := 25) dX9_clampAt_24 rfl rfl ?_
        refine z_i2l (q := 26) dX9_clampAt_25 (by omega) rfl ?_
        refine g_aload_n (q := 27) dX9_clampAt_26 rfl rfl ?_
        refine g_get (q := 30) flX9_19 dX9_clampAt_27 m0 rfl rfl ?_
        refine g_sipush (v := iZ 151) (q := 33) dX9_clampAt_30 (by decide) rfl ?_
        refine g_iload_n (q := 34) dX9_clampAt_33 rfl rfl ?_
        refine z_iaddc (c := (h + 151)) (q := 35) dX9_clampAt_34 (by omega) rfl ?_
        refine z_iald (q := 36) dX9_clampAt_35 m4 (by omega) rfl ?_
        have b5 := bS (h + 151)
        refine z_i2l (q := 37) dX9_clampAt_36 (by omega) rfl ?_
        refine g_aload_n (q := 38) dX9_clampAt_37 rfl rfl ?_
        refine g_get (q := 41) flX9_19 dX9_clampAt_38 m0 rfl rfl ?_
        refine g_sipush (v := iZ 151) (q := 44) dX9_clampAt_41 (by decide) rfl ?_
        refine g_iload_n (q := 45) dX9_clampAt_44 rfl rfl ?_
        refine z_iaddc (c := (h + 151)) (q := 46) dX9_clampAt_45 (by omega) rfl ?_
        refine z_iald (q := 47) dX9_clampAt_46 m4 (by omega) rfl ?_
        have b6 := bS (h + 151)
        refine z_iconst (q := 48) dX9_clampAt_47 rfl ?_
        refine z_iadd (q := 49) dX9_clampAt_48 rfl ?_
        refine z_i2l (q := 50) dX9_clampAt_49 (by omega) rfl ?_
        refine g_callS (As := [.long (lZ x), .long (lZ ((A 3) (h + 151))), .long (lZ (((A 3) (h + 151)) + 1))]) (rest := []) (q := 53) moX9_in lkX9_clampAt_58 dX9_clampAt_50 (r_M_in σ x ((A 3) (h + 151)) (((A 3) (h + 151)) + 1) (by omega) (by omega) (by omega)) rfl rfl (Nat.le_of_ble_eq_true rfl) (Nat.le_of_ble_eq_true rfl) (Nat.le_of_ble_eq_true rfl) rfl ?_
        rintro r1 s1 hp
        rw [hp.1, hp.2]
        show Go w mX9_clampAt (0, 0) 53 [some (.ref a), some (.int (iZ x)), some (.int (iZ y)), some (.int (iZ h))] [.int (bI (((A 3) (h + 151)) ≤ x ∧ x ≤ (((A 3) (h + 151)) + 1)))] σ (fun r σ' => r = some (.int (iZ (mClampF (A 1) (A 3) x y (n + 1) h))) ∧ σ' = σ)
        refine z_ifB_eq (t := 58) (q := 56) dX9_clampAt_53 rfl rfl (fun pc7 => ?_) (fun pc7 => ?_)
        · refine z_iincc (c := (h + 1)) (ml' := [some (.ref a), some (.int (iZ x)), some (.int (iZ y)), some (.int (iZ (h + 1)))]) (q := 61) dX9_clampAt_58 rfl (by omega) rfl rfl rfl ?_
          refine g_goto (q := 2) dX9_clampAt_61 rfl ?_
          exact (ih (h + 1) (by omega) (by omega)).mono (fun r σ1 hp => ⟨hp.1.trans (congrArg (fun z => some (Value.int (iZ z))) (by conv => rhs; unfold mClampF; rw [if_neg (by omega)])), hp.2⟩)
        · refine g_iload_n (q := 57) dX9_clampAt_56 rfl rfl ?_
          refine z_iret dX9_clampAt_57 rfl ?_
          exact ⟨congrArg (fun z => some (Value.int (iZ z))) (by unfold mClampF; rw [if_pos (by omega)]), rfl⟩
theorem r_M_clampAt (σ : g_H0) (a : Nat) (I : Nat → Int) (A : Nat → Int → Int) (hM : rM a I A σ) (x y : Int) (b_x : -2147483648 ≤ x ∧ x < 2147483648) (b_y : -2147483648 ≤ y ∧ y < 2147483648) (bT : zBd (A 1) 1000) (bS : zBs (A 3)) (h4 : 0 ≤ A 1 4 ∧ A 1 4 ≤ 2) : Ret mX9_clampAt [.ref a, .int (iZ x), .int (iZ y)] σ (fun r σ' => r = some (.int (iZ (mClamp (A 1) (A 3) x y))) ∧ σ' = σ) := by
  refine Ret.of moX9_clampAt.1 (Nat.le_of_ble_eq_true rfl) (fun w => ?_)
  show Go w mX9_clampAt (0, 0) 0 [some (.ref a), some (.int (iZ x)), some (.int (iZ y)), none] [] σ (fun r σ' => r = some (.int (iZ (mClamp (A 1) (A 3) x y))) ∧ σ' = σ)
  refine z_iconst (q := 1) dX9_clampAt_0 rfl ?_
  refine g_istore_n (ml' := [some (.ref a), some (.int (iZ x)), some (.int (iZ y)), some (.int (iZ 0))]) (q := 2) dX9_clampAt_1 rfl (Nat.le_of_ble_eq_true rfl) rfl rfl ?_
  exact l_M_clampAt w σ a I A hM x y b_x b_y bT bS h4 (A 1 4).toNat 0 (by omega) (by omega)
end
section
/-! what is laid: within its bounds -/
def wfT (T : Int → Int) : Prop := zBd T 1000 ∧ (3 ≤ T 0 ∧ T 0 ≤ 12) ∧ (3 ≤ T 1 ∧ T 1 ≤ 12) ∧ (1 ≤ T 2 ∧ T 2 ≤ 6) ∧ (0 ≤ T 3 ∧ T 3 ≤ 5) ∧ (0 ≤ T 4 ∧ T 4 ≤ 2) ∧
  (∀ k, 0 ≤ k → k < T 2 → (1 ≤ T (4 * k + 5) ∧ T (4 * k + 5) ≤ 6) ∧ (1 ≤ T (4 * k + 6) ∧ T (4 * k + 6) ≤ 6) ∧ (0 ≤ T (4 * k + 7) ∧ T (4 * k + 7) ≤ 1) ∧ (1 ≤ T (4 * k + 8) ∧ T (4 * k + 8) ≤ 99)) ∧
  (∀ h, 0 ≤ h → h < T 3 → 0 ≤ T (4 * h + 29) ∧ 0 ≤ T (4 * h + 30) ∧ 1 ≤ T (4 * h + 31) ∧ 1 ≤ T (4 * h + 32) ∧ T (4 * h + 29) + T (4 * h + 31) ≤ T 0 ∧ T (4 * h + 30) + T (4 * h + 32) ≤ T 1) ∧
  (∀ h o, 0 ≤ o → o < h → h < T 3 → T (4 * h + 29) + T (4 * h + 31) ≤ T (4 * o + 29) ∨ T (4 * o + 29) + T (4 * o + 31) ≤ T (4 * h + 29) ∨ T (4 * h + 30) + T (4 * h + 32) ≤ T (4 * o + 30) ∨ T (4 * o + 30) + T (4 * o + 32) ≤ T (4 * h + 30)) ∧
  (∀ c, 0 ≤ c → c < T 4 → 0 ≤ T (c + 49) ∧ T (c + 49) ≤ T 0 - 2) ∧ (T 4 = 2 → T 50 - T 49 > 1 ∨ T 49 - T 50 > 1)
theorem wfT.w {T : Int → Int} (h : wfT T) {k : Int} (h0 : 0 ≤ k) (h1 : k < T 2) (t : Int) : 1 ≤ mWide T k t ∧ mWide T k t ≤ 6 := by
  have := h.2.2.2.2.2.2.1 k h0 h1
  unfold mWide; omega
theorem wfT.h {T : Int → Int} (h : wfT T) {k : Int} (h0 : 0 ≤ k) (h1 : k < T 2) (t : Int) : 1 ≤ mHigh T k t ∧ mHigh T k t ≤ 6 := by
  have := h.2.2.2.2.2.2.1 k h0 h1
  unfold mHigh; omega
theorem mHole_b (T : Int → Int) (x y : Int) (h3 : 0 ≤ T 3 ∧ T 3 ≤ 5) : -4 ≤ mHole T x y ∧ mHole T x y < 5 := by
  unfold mHole
  rcases mHoleF_rng T x y (T 3).toNat 0 with e | e <;> omega
theorem mClamp_b (T S : Int → Int) (x y : Int) (h4 : 0 ≤ T 4 ∧ T 4 ≤ 2) : -4 ≤ mClamp T S x y ∧ mClamp T S x y < 2 := by
  unfold mClamp
  rcases mClampF_rng T S x y (T 4).toNat 0 with e | e <;> omega
theorem zdm {c a b : Int} (h0 : 0 ≤ c) (ha : 0 < a) (hb : c < a * b) : 0 ≤ c % a ∧ c % a < a ∧ 0 ≤ c / a ∧ c / a < b := by
  refine ⟨Int.emod_nonneg _ (by omega), Int.emod_lt_of_pos _ ha, Int.ediv_nonneg h0 (by omega), ?_⟩
  exact Int.ediv_lt_of_lt_mul ha (by rw [Int.mul_comm]; exact hb)
theorem zmul36 {a b : Int} (ha : 1 ≤ a ∧ a ≤ 6) (hb : 1 ≤ b ∧ b ≤ 6) : 1 ≤ a * b ∧ a * b ≤ 36 := by
  rcases (by omega : a = 1 ∨ a = 2 ∨ a = 3 ∨ a = 4 ∨ a = 5 ∨ a = 6) with rfl | rfl | rfl | rfl | rfl | rfl <;> omega
def mWhyF (T S : Int → Int) (k x y a : Int) : Nat → Int → Int → Int → Int → Int
  | 0, _, o, h, l => if o = 1 then 3 else if h = 1 then 4 else if l = 1 then 5 else if T (4 * k + 8) ≤ S (k + 144) then 6 else 0
  | n + 1, c, o, h, l => mWhyF T S k x y a n (c + 1) (if o = 1 ∨ mHole T (x + c % a) (y + c / a) = -4 ∨ mHole T (x + c % a) (y + c / a) ≠ mHole T x y then 1 else 0) (if h = 1 ∨ mClamp T S (x + c % a) (y + c / a) ≠ -4 then 1 else 0) (if l = 1 ∧ S (12 * y + 12 * (c / a) + x + c % a) = 1 then 1 else 0)
def mWhy (T S : Int → Int) (k x y t : Int) : Int :=
  if t = 1 ∧ T (4 * k + 7) = 0 then 1
  else if ¬ ((0 ≤ x ∧ x < T 0) ∧ (0 ≤ y ∧ y < T 1)) ∨ ¬ ((0 ≤ x + mWide T k t - 1 ∧ x + mWide T k t - 1 < T 0) ∧ (0 ≤ y + mHigh T k t - 1 ∧ y + mHigh T k t - 1 < T 1)) then 2
  else mWhyF T S k x y (mWide T k t) (mWide T k t * mHigh T k t).toNat 0 0 0 1
theorem mWhyF_b (T S : Int → Int) (k x y a : Int) : ∀ (n : Nat) (c o h l : Int), 0 ≤ mWhyF T S k x y a n c o h l ∧ mWhyF T S k x y a n c o h l ≤ 6
  | 0, c, o, h, l => by unfold mWhyF; omega
  | n + 1, c, o, h, l => by unfold mWhyF; exact mWhyF_b T S k x y a n _ _ _ _
theorem mWhy_b (T S : Int → Int) (k x y t : Int) : 0 ≤ mWhy T S k x y t ∧ mWhy T S k x y t ≤ 6 := by
  unfold mWhy
  split
  · omega
  · split
    · omega
    · exact mWhyF_b _ _ _ _ _ _ _ _ _ _ _
theorem l_M_whyNot (w : g_W) (σ : g_H0) (a : Nat) (I : Nat → Int) (A : Nat → Int → Int) (hM : rM a I A σ) (k x y t : Int) (bk : 0 ≤ k ∧ k < 6) (b_x : 0 ≤ x ∧ x < 1000) (b_y : 0 ≤ y ∧ y < 1000) (b_t : 0 ≤ t ∧ t ≤ 1) (bT : zBd (A 1) 1000) (bS : zBs (A 3)) (h3 : 0 ≤ A 1 3 ∧ A 1 3 ≤ 5) (h4 : 0 ≤ A 1 4 ∧ A 1 4 ≤ 2) (hw : 1 ≤ (mWide (A 1) k t) ∧ (mWide (A 1) k t) ≤ 6) (hh : 1 ≤ (mHigh (A 1) k t) ∧ (mHigh (A 1) k t) ≤ 6) (hW : A 1 0 ≤ 12 ∧ A 1 1 ≤ 12) (hcx : x + (mWide (A 1) k t) - 1 < 12) (hcy : y + (mHigh (A 1) k t) - 1 < 12) : ∀ (n : Nat) (c o h l : Int), 0 ≤ c → c + n = (mWide (A 1) k t) * (mHigh (A 1) k t) → (0 ≤ o ∧ o ≤ 1) → (0 ≤ h ∧ h ≤ 1) → (0 ≤ l ∧ l ≤ 1) → Go w mX9_whyNot (0, 0) 83 [some (.ref a), some (.int (iZ k)), some (.int (iZ x)), some (.int (iZ y)), some (.int (iZ t)), some (.int (iZ (mWide (A 1) k t))), some (.int (iZ (mHigh (A 1) k t))), some (.int (iZ o)), some (.int (iZ h)), some (.int (iZ l)), some (.int (iZ c)), none, none, none] [] σ (fun r σ' => r = some (.int (iZ (mWhyF (A 1) (A 3) k x y (mWide (A 1) k t) n c o h l))) ∧ σ' = σ) := by
  intro n
  induction n with
  | zero =>
    intro c o h l hc hcn ho hh_ hl
    obtain ⟨m0, m1, m2, m3, m4, m5, m6, m7, m8, m9, m10, m11⟩ := id hM
    have hab := zmul36 hw hh
    refine g_iload (q := 85) dX9_whyNot_83 rfl rfl ?_
    refine g_iload (q := 87) dX9_whyNot_85 rfl rfl ?_
    refine g_iload (q := 89) dX9_whyNot_87 rfl rfl ?_
    refine z_imul (q := 90) dX9_whyNot_89 rfl ?_
    refine z_icmp_ge (t := 211) (q := 93) dX9_whyNot_90 rfl (by omega) rfl (fun pc1 => ?_) (fun pc1 => ?_)
    · refine g_iload (q := 213) dX9_whyNot_211 rfl rfl ?_
      refine z_if_eq (t := 220) (q := 216) dX9_whyNot_213 rfl (by omega) rfl (fun pc2 => ?_) (fun pc2 => ?_)
      · refine g_iload (q := 222) dX9_whyNot_220 rfl rfl ?_
        refine z_if_eq (t := 229) (q := 225) dX9_whyNot_222 rfl (by omega) rfl (fun pc3 => ?_) (fun pc3 => ?_)
        · refine g_iload (q := 231) dX9_whyNot_229 rfl rfl ?_
          refine z_if_eq (t := 238) (q := 234) dX9_whyNot_231 rfl (by omega) rfl (fun pc4 => ?_) (fun pc4 => ?_)
          · refine g_aload_n (q := 239) dX9_whyNot_238 rfl rfl ?_
            refine g_iload_n (q := 240) dX9_whyNot_239 rfl rfl ?_
            refine g_callV (As := [.int (iZ k)]) (rest := []) (q := 243) moX9_isDull lkX9_whyNot_130 dX9_whyNot_240 rfl m0 (r_M_isDull σ a I A hM k (by omega) bT bS) rfl rfl (Nat.le_of_ble_eq_true rfl) (Nat.le_of_ble_eq_true rfl) (Nat.le_of_ble_eq_true rfl) rfl ?_
            rintro r1 s1 hp
            rw [hp.1, hp.2]
            show Go w mX9_whyNot (0, 0) 243 [some (.ref a), some (.int (iZ k)), some (.int (iZ x)), some (.int (iZ y)), some (.int (iZ t)), some (.int (iZ (mWide (A 1) k t))), some (.int (iZ (mHigh (A 1) k t))), some (.int (iZ o)), some (.int (iZ h)), some (.int (iZ l)), some (.int (iZ c)), none, none, none] [.int (bI (A 1 (4 * k + 8) ≤ (A 3) (k + 144)))] σ (fun r σ' => r = some (.int (iZ (mWhyF (A 1) (A 3) k x y (mWide (A 1) k t) 0 c o h l))) ∧ σ' = σ)
            refine z_ifB_eq (t := 251) (q := 246) dX9_whyNot_243 rfl rfl (fun pc5 => ?_) (fun pc5 => ?_)
            · refine z_iconst (q := 252) dX9_whyNot_251 rfl ?_
              refine z_iret dX9_whyNot_252 rfl ?_
              exact ⟨congrArg (fun z => some (Value.int (iZ z))) (by unfold mWhyF; omega), rfl⟩
            · refine g_bipush (v := iZ 6) (q := 248) dX9_whyNot_246 (by decide) rfl ?_
              refine g_goto (q := 252) dX9_whyNot_248 rfl ?_
              refine z_iret dX9_whyNot_252 rfl ?_
              exact ⟨congrArg (fun z => some (Value.int (iZ z))) (by unfold mWhyF; omega), rfl⟩
          · refine z_iconst (q := 235) dX9_whyNot_234 rfl ?_
            refine g_goto (q := 252) dX9_whyNot_235 rfl ?_
            refine z_iret dX9_whyNot_252 rfl ?_
            exact ⟨congrArg (fun z => some (Value.int (iZ z))) (by unfold mWhyF; omega), rfl⟩
        · refine z_iconst (q := 226) dX9_whyNot_225 rfl ?_
          refine g_goto (q := 252) dX9_whyNot_226 rfl ?_
          refine z_iret dX9_whyNot_252 rfl ?_
          exact ⟨congrArg (fun z => some (Value.int (iZ z))) (by unfold mWhyF; omega), rfl⟩
      · refine z_iconst (q := 217) dX9_whyNot_216 rfl ?_
        refine g_goto (q := 252) dX9_whyNot_217 rfl ?_
        refine z_iret dX9_whyNot_252 rfl ?_
        exact ⟨congrArg (fun z => some (Value.int (iZ z))) (by unfold mWhyF; omega), rfl⟩
    · exfalso
      omega
  | succ n ih =>
    intro c o h l hc hcn ho hh_ hl
    obtain ⟨m0, m1, m2, m3, m4, m5, m6, m7, m8, m9, m10, m11⟩ := id hM
    have hab := zmul36 hw hh
    refine g_iload (q := 85) dX9_whyNot_83 rfl rfl ?_
    refine g_iload (q := 87) dX9_whyNot_85 rfl rfl ?_
    refine g_iload (q := 89) dX9_whyNot_87 rfl rfl ?_
    refine z_imul (q := 90) dX9_whyNot_89 rfl ?_
    refine z_icmp_ge (t := 211) (q := 93) dX9_whyNot_90 rfl (by omega) rfl (fun pc1 => ?_) (fun pc1 => ?_)
    · exfalso
      omega
    · have dm := zdm (c := c) (a := (mWide (A 1) k t)) (b := (mHigh (A 1) k t)) (by omega) (by omega) (by omega)
      refine g_iload_n (q := 94) dX9_whyNot_93 rfl rfl ?_
      refine g_iload (q := 96) dX9_whyNot_94 rfl rfl ?_
      refine g_iload (q := 98) dX9_whyNot_96 rfl rfl ?_
      refine z_irem (q := 99) dX9_whyNot_98 (by omega) rfl ?_
      refine z_iadd (q := 100) dX9_whyNot_99 rfl ?_
      refine g_istore (ml' := [some (.ref a), some (.int (iZ k)), some (.int (iZ x)), some (.int (iZ y)), some (.int (iZ t)), some (.int (iZ (mWide (A 1) k t))), some (.int (iZ (mHigh (A 1) k t))), some (.int (iZ o)), some (.int (iZ h)), some (.int (iZ l)), some (.int (iZ c)), some (.int (iZ (x + (c % (mWide (A 1) k t))))), none, none]) (q := 102) dX9_whyNot_100 rfl (Nat.le_of_ble_eq_true rfl) rfl rfl ?_
      refine g_iload_n (q := 103) dX9_whyNot_102 rfl rfl ?_
      refine g_iload (q := 105) dX9_whyNot_103 rfl rfl ?_
      refine g_iload (q := 107) dX9_whyNot_105 rfl rfl ?_
      refine z_idiv (q := 108) dX9_whyNot_107 (by omega) rfl ?_
      refine z_iadd (q := 109) dX9_whyNot_108 rfl ?_
      refine g_istore (ml' := [some (.ref a), some (.int (iZ k)), some (.int (iZ x)), some (.int (iZ y)), some (.int (iZ t)), some (.int (iZ (mWide (A 1) k t))), some (.int (iZ (mHigh (A 1) k t))), some (.int (iZ o)), some (.int (iZ h)), some (.int (iZ l)), some (.int (iZ c)), some (.int (iZ (x + (c % (mWide (A 1) k t))))), some (.int (iZ (y + (c / (mWide (A 1) k t))))), none]) (q := 111) dX9_whyNot_109 rfl (Nat.le_of_ble_eq_true rfl) rfl rfl ?_
      refine g_aload_n (q := 112) dX9_whyNot_111 rfl rfl ?_
      refine g_iload (q := 114) dX9_whyNot_112 rfl rfl ?_
      refine g_iload (q := 116) dX9_whyNot_114 rfl rfl ?_
      refine g_callV (As := [.int (iZ (x + (c % (mWide (A 1) k t)))), .int (iZ (y + (c / (mWide (A 1) k t))))]) (rest := []) (q := 119) moX9_holeAt lkX9_whyNot_124 dX9_whyNot_116 rfl m0 (r_M_holeAt σ a I A hM (x + (c % (mWide (A 1) k t))) (y + (c / (mWide (A 1) k t))) (by omega) (by omega) bT h3) rfl rfl (Nat.le_of_ble_eq_true rfl) (Nat.le_of_ble_eq_true rfl) (Nat.le_of_ble_eq_true rfl) rfl ?_
      rintro r1 s1 hp
      rw [hp.1, hp.2]
      show Go w mX9_whyNot (0, 0) 119 [some (.ref a), some (.int (iZ k)), some (.int (iZ x)), some (.int (iZ y)), some (.int (iZ t)), some (.int (iZ (mWide (A 1) k t))), some (.int (iZ (mHigh (A 1) k t))), some (.int (iZ o)), some (.int (iZ h)), some (.int (iZ l)), some (.int (iZ c)), some (.int (iZ (x + (c % (mWide (A 1) k t))))), some (.int (iZ (y + (c / (mWide (A 1) k t))))), none] [.int (iZ (mHole (A 1) (x + (c % (mWide (A 1) k t))) (y + (c / (mWide (A 1) k t)))))] σ (fun r σ' => r = some (.int (iZ (mWhyF (A 1) (A 3) k x y (mWide (A 1) k t) (n + 1) c o h l))) ∧ σ' = σ)
      have b2 := mHole_b (A 1) (x + (c % (mWide (A 1) k t))) (y + (c / (mWide (A 1) k t))) h3
      refine g_istore (ml' := [some (.ref a), some (.int (iZ k)), some (.int (iZ x)), some (.int (iZ y)), some (.int (iZ t)), some (.int (iZ (mWide (A 1) k t))), some (.int (iZ (mHigh (A 1) k t))), some (.int (iZ o)), some (.int (iZ h)), some (.int (iZ l)), some (.int (iZ c)), some (.int (iZ (x + (c % (mWide (A 1) k t))))), some (.int (iZ (y + (c / (mWide (A 1) k t))))), some (.int (iZ (mHole (A 1) (x + (c % (mWide (A 1) k t))) (y + (c / (mWide (A 1) k t))))))]) (q := 121) dX9_whyNot_119 rfl (Nat.le_of_ble_eq_true rfl) rfl rfl ?_
      have J3 : ∀ z4 : Int, z4 = (if o = 1 ∨ (mHole (A 1) (x + (c % (mWide (A 1) k t))) (y + (c / (mWide (A 1) k t)))) = -4 ∨ (mHole (A 1) (x + (c % (mWide (A 1) k t))) (y + (c / (mWide (A 1) k t)))) ≠ mHole (A 1) x y then 1 else 0) → Go w mX9_whyNot (0, 0) 149 [some (.ref a), some (.int (iZ k)), some (.int (iZ x)), some (.int (iZ y)), some (.int (iZ t)), some (.int (iZ (mWide (A 1) k t))), some (.int (iZ (mHigh (A 1) k t))), some (.int (iZ o)), some (.int (iZ h)), some (.int (iZ l)), some (.int (iZ c)), some (.int (iZ (x + (c % (mWide (A 1) k t))))), some (.int (iZ (y + (c / (mWide (A 1) k t))))), some (.int (iZ (mHole (A 1) (x + (c % (mWide (A 1) k t))) (y + (c / (mWide (A 1) k t))))))] [.int (iZ z4)] σ (fun r σ' => r = some (.int (iZ (mWhyF (A 1) (A 3) k x y (mWide (A 1) k t) (n + 1) c o h l))) ∧ σ' = σ) := by
        intro z4 e5
        refine g_istore (ml' := [some (.ref a), some (.int (iZ k)), some (.int (iZ x)), some (.int (iZ y)), some (.int (iZ t)), some (.int (iZ (mWide (A 1) k t))), some (.int (iZ (mHigh (A 1) k t))), some (.int (iZ z4)), some (.int (iZ h)), some (.int (iZ l)), some (.int (iZ c)), some (.int (iZ (x + (c % (mWide (A 1) k t))))), some (.int (iZ (y + (c / (mWide (A 1) k t))))), some (.int (iZ (mHole (A 1) (x + (c % (mWide (A 1) k t))) (y + (c / (mWide (A 1) k t))))))]) (q := 151) dX9_whyNot_149 rfl (Nat.le_of_ble_eq_true rfl) rfl rfl ?_
        have J6 : ∀ z7 : Int, z7 = (if h = 1 ∨ mClamp (A 1) (A 3) (x + (c % (mWide (A 1) k t))) (y + (c / (mWide (A 1) k t))) ≠ -4 then 1 else 0) → Go w mX9_whyNot (0, 0) 174 [some (.ref a), some (.int (iZ k)), some (.int (iZ x)), some (.int (iZ y)), some (.int (iZ t)), some (.int (iZ (mWide (A 1) k t))), some (.int (iZ (mHigh (A 1) k t))), some (.int (iZ z4)), some (.int (iZ h)), some (.int (iZ l)), some (.int (iZ c)), some (.int (iZ (x + (c % (mWide (A 1) k t))))), some (.int (iZ (y + (c / (mWide (A 1) k t))))), some (.int (iZ (mHole (A 1) (x + (c % (mWide (A 1) k t))) (y + (c / (mWide (A 1) k t))))))] [.int (iZ z7)] σ (fun r σ' => r = some (.int (iZ (mWhyF (A 1) (A 3) k x y (mWide (A 1) k t) (n + 1) c o h l))) ∧ σ' = σ) := by
          intro z7 e8
          refine g_istore (ml' := [some (.ref a), some (.int (iZ k)), some (.int (iZ x)), some (.int (iZ y)), some (.int (iZ t)), some (.int (iZ (mWide (A 1) k t))), some (.int (iZ (mHigh (A 1) k t))), some (.int (iZ z4)), some (.int (iZ z7)), some (.int (iZ l)), some (.int (iZ c)), some (.int (iZ (x + (c % (mWide (A 1) k t))))), some (.int (iZ (y + (c / (mWide (A 1) k t))))), some (.int (iZ (mHole (A 1) (x + (c % (mWide (A 1) k t))) (y + (c / (mWide (A 1) k t))))))]) (q := 176) dX9_whyNot_174 rfl (Nat.le_of_ble_eq_true rfl) rfl rfl ?_
          have J9 : ∀ z10 : Int, z10 = (if l = 1 ∧ A 3 (12 * y + 12 * (c / (mWide (A 1) k t)) + x + (c % (mWide (A 1) k t))) = 1 then 1 else 0) → Go w mX9_whyNot (0, 0) 203 [some (.ref a), some (.int (iZ k)), some (.int (iZ x)), some (.int (iZ y)), some (.int (iZ t)), some (.int (iZ (mWide (A 1) k t))), some (.int (iZ (mHigh (A 1) k t))), some (.int (iZ z4)), some (.int (iZ z7)), some (.int (iZ l)), some (.int (iZ c)), some (.int (iZ (x + (c % (mWide (A 1) k t))))), some (.int (iZ (y + (c / (mWide (A 1) k t))))), some (.int (iZ (mHole (A 1) (x + (c % (mWide (A 1) k t))) (y + (c / (mWide (A 1) k t))))))] [.int (iZ z10)] σ (fun r σ' => r = some (.int (iZ (mWhyF (A 1) (A 3) k x y (mWide (A 1) k t) (n + 1) c o h l))) ∧ σ' = σ) := by
            intro z10 e11
            refine g_istore (ml' := [some (.ref a), some (.int (iZ k)), some (.int (iZ x)), some (.int (iZ y)), some (.int (iZ t)), some (.int (iZ (mWide (A 1) k t))), some (.int (iZ (mHigh (A 1) k t))), some (.int (iZ z4)), some (.int (iZ z7)), some (.int (iZ z10)), some (.int (iZ c)), some (.int (iZ (x + (c % (mWide (A 1) k t))))), some (.int (iZ (y + (c / (mWide (A 1) k t))))), some (.int (iZ (mHole (A 1) (x + (c % (mWide (A 1) k t))) (y + (c / (mWide (A 1) k t))))))]) (q := 205) dX9_whyNot_203 rfl (Nat.le_of_ble_eq_true rfl) rfl rfl ?_
            refine z_iincc (c := (c + 1)) (ml' := [some (.ref a), some (.int (iZ k)), some (.int (iZ x)), some (.int (iZ y)), some (.int (iZ t)), some (.int (iZ (mWide (A 1) k t))), some (.int (iZ (mHigh (A 1) k t))), some (.int (iZ z4)), some (.int (iZ z7)), some (.int (iZ z10)), some (.int (iZ (c + 1))), some (.int (iZ (x + (c % (mWide (A 1) k t))))), some (.int (iZ (y + (c / (mWide (A 1) k t))))), some (.int (iZ (mHole (A 1) (x + (c % (mWide (A 1) k t))) (y + (c / (mWide (A 1) k t))))))]) (q := 208) dX9_whyNot_205 rfl (by omega) rfl rfl rfl ?_
            refine g_goto (q := 83) dX9_whyNot_208 rfl ?_
            refine Go.wk (ml' := [some (.ref a), some (.int (iZ k)), some (.int (iZ x)), some (.int (iZ y)), some (.int (iZ t)), some (.int (iZ (mWide (A 1) k t))), some (.int (iZ (mHigh (A 1) k t))), some (.int (iZ z4)), some (.int (iZ z7)), some (.int (iZ z10)), some (.int (iZ (c + 1))), none, none, none]) ⟨Or.inr rfl, Or.inr rfl, Or.inr rfl, Or.inr rfl, Or.inr rfl, Or.inr rfl, Or.inr rfl, Or.inr rfl, Or.inr rfl, Or.inr rfl, Or.inr rfl, Or.inl rfl, Or.inl rfl, Or.inl rfl, trivial⟩ ?_
            refine (ih (c + 1) z4 z7 z10 (by omega) (by omega) (by omega) (by omega) (by omega)).mono (fun r σ1 hp => ⟨hp.1.trans ?_, hp.2⟩)
            subst_vars
            rfl
          refine g_iload (q := 178) dX9_whyNot_176 rfl rfl ?_
          refine z_if_eq (t := 202) (q := 181) dX9_whyNot_178 rfl (by omega) rfl (fun pc12 => ?_) (fun pc12 => ?_)
          · refine z_iconst (q := 203) dX9_whyNot_202 rfl ?_
            exact J9 _ (by omega)
          · refine g_aload_n (q := 182) dX9_whyNot_181 rfl rfl ?_
            refine g_get (q := 185) flX9_19 dX9_whyNot_182 m0 rfl rfl ?_
            refine g_bipush (v := iZ 12) (q := 187) dX9_whyNot_185 (by decide) rfl ?_
            refine g_iload (q := 189) dX9_whyNot_187 rfl rfl ?_
            refine z_imulc (c := (12 * y + 12 * (c / (mWide (A 1) k t)))) (q := 190) dX9_whyNot_189 (by omega) rfl ?_
            refine g_iload (q := 192) dX9_whyNot_190 rfl rfl ?_
            refine z_iaddc (c := (12 * y + 12 * (c / (mWide (A 1) k t)) + x + (c % (mWide (A 1) k t)))) (q := 193) dX9_whyNot_192 (by omega) rfl ?_
            refine z_iald (q := 194) dX9_whyNot_193 m4 (by omega) rfl ?_
            have b13 := bS (12 * y + 12 * (c / (mWide (A 1) k t)) + x + (c % (mWide (A 1) k t)))
            refine z_iconst (q := 195) dX9_whyNot_194 rfl ?_
            refine z_icmp_ne (t := 202) (q := 198) dX9_whyNot_195 rfl (by omega) rfl (fun pc14 => ?_) (fun pc14 => ?_)
            · refine z_iconst (q := 203) dX9_whyNot_202 rfl ?_
              exact J9 _ (by omega)
            · refine z_iconst (q := 199) dX9_whyNot_198 rfl ?_
              refine g_goto (q := 203) dX9_whyNot_199 rfl ?_
              exact J9 _ (by omega)
        refine g_iload (q := 153) dX9_whyNot_151 rfl rfl ?_
        refine z_if_ne (t := 169) (q := 156) dX9_whyNot_153 rfl (by omega) rfl (fun pc15 => ?_) (fun pc15 => ?_)
        · refine z_iconst (q := 170) dX9_whyNot_169 rfl ?_
          refine g_goto (q := 174) dX9_whyNot_170 rfl ?_
          exact J6 _ (by omega)
        · refine g_aload_n (q := 157) dX9_whyNot_156 rfl rfl ?_
          refine g_iload (q := 159) dX9_whyNot_157 rfl rfl ?_
          refine g_iload (q := 161) dX9_whyNot_159 rfl rfl ?_
          refine g_callV (As := [.int (iZ (x + (c % (mWide (A 1) k t)))), .int (iZ (y + (c / (mWide (A 1) k t))))]) (rest := []) (q := 164) moX9_clampAt lkX9_whyNot_127 dX9_whyNot_161 rfl m0 (r_M_clampAt σ a I A hM (x + (c % (mWide (A 1) k t))) (y + (c / (mWide (A 1) k t))) (by omega) (by omega) bT bS h4) rfl rfl (Nat.le_of_ble_eq_true rfl) (Nat.le_of_ble_eq_true rfl) (Nat.le_of_ble_eq_true rfl) rfl ?_
          rintro r1 s1 hp
          rw [hp.1, hp.2]
          show Go w mX9_whyNot (0, 0) 164 [some (.ref a), some (.int (iZ k)), some (.int (iZ x)), some (.int (iZ y)), some (.int (iZ t)), some (.int (iZ (mWide (A 1) k t))), some (.int (iZ (mHigh (A 1) k t))), some (.int (iZ z4)), some (.int (iZ h)), some (.int (iZ l)), some (.int (iZ c)), some (.int (iZ (x + (c % (mWide (A 1) k t))))), some (.int (iZ (y + (c / (mWide (A 1) k t))))), some (.int (iZ (mHole (A 1) (x + (c % (mWide (A 1) k t))) (y + (c / (mWide (A 1) k t))))))] [.int (iZ (mClamp (A 1) (A 3) (x + (c % (mWide (A 1) k t))) (y + (c / (mWide (A 1) k t)))))] σ (fun r σ' => r = some (.int (iZ (mWhyF (A 1) (A 3) k x y (mWide (A 1) k t) (n + 1) c o h l))) ∧ σ' = σ)
          have b16 := mClamp_b (A 1) (A 3) (x + (c % (mWide (A 1) k t))) (y + (c / (mWide (A 1) k t))) h4
          refine g_bipush (v := iZ (-4)) (q := 166) dX9_whyNot_164 (by decide) rfl ?_
          refine z_icmp_eq (t := 173) (q := 169) dX9_whyNot_166 rfl (by omega) rfl (fun pc17 => ?_) (fun pc17 => ?_)
          · refine z_iconst (q := 174) dX9_whyNot_173 rfl ?_
            exact J6 _ (by omega)
          · refine z_iconst (q := 170) dX9_whyNot_169 rfl ?_
            refine g_goto (q := 174) dX9_whyNot_170 rfl ?_
            exact J6 _ (by omega)
      refine g_iload (q := 123) dX9_whyNot_121 rfl rfl ?_
      refine z_if_ne (t := 144) (q := 126) dX9_whyNot_123 rfl (by omega) rfl (fun pc18 => ?_) (fun pc18 => ?_)
      · refine z_iconst (q := 145) dX9_whyNot_144 rfl ?_
        refine g_goto (q := 149) dX9_whyNot_145 rfl ?_
        exact J3 _ (by omega)
      · refine g_iload (q := 128) dX9_whyNot_126 rfl rfl ?_
        refine g_bipush (v := iZ (-4)) (q := 130) dX9_whyNot_128 (by decide) rfl ?_
        refine z_icmp_eq (t := 144) (q := 133) dX9_whyNot_130 rfl (by omega) rfl (fun pc19 => ?_) (fun pc19 => ?_)
        · refine z_iconst (q := 145) dX9_whyNot_144 rfl ?_
          refine g_goto (q := 149) dX9_whyNot_145 rfl ?_
          exact J3 _ (by omega)
        · refine g_iload (q := 135) dX9_whyNot_133 rfl rfl ?_
          refine g_aload_n (q := 136) dX9_whyNot_135 rfl rfl ?_
          refine g_iload_n (q := 137) dX9_whyNot_136 rfl rfl ?_
          refine g_iload_n (q := 138) dX9_whyNot_137 rfl rfl ?_
          refine g_callV (As := [.int (iZ x), .int (iZ y)]) (rest := [.int (iZ (mHole (A 1) (x + (c % (mWide (A 1) k t))) (y + (c / (mWide (A 1) k t)))))]) (q := 141) moX9_holeAt lkX9_whyNot_124 dX9_whyNot_138 rfl m0 (r_M_holeAt σ a I A hM x y (by omega) (by omega) bT h3) rfl rfl (Nat.le_of_ble_eq_true rfl) (Nat.le_of_ble_eq_true rfl) (Nat.le_of_ble_eq_true rfl) rfl ?_
          rintro r1 s1 hp
          rw [hp.1, hp.2]
          show Go w mX9_whyNot (0, 0) 141 [some (.ref a), some (.int (iZ k)), some (.int (iZ x)), some (.int (iZ y)), some (.int (iZ t)), some (.int (iZ (mWide (A 1) k t))), some (.int (iZ (mHigh (A 1) k t))), some (.int (iZ o)), some (.int (iZ h)), some (.int (iZ l)), some (.int (iZ c)), some (.int (iZ (x + (c % (mWide (A 1) k t))))), some (.int (iZ (y + (c / (mWide (A 1) k t))))), some (.int (iZ (mHole (A 1) (x + (c % (mWide (A 1) k t))) (y + (c / (mWide (A 1) k t))))))] [.int (iZ (mHole (A 1) x y)), .int (iZ (mHole (A 1) (x + (c % (mWide (A 1) k t))) (y + (c / (mWide (A 1) k t)))))] σ (fun r σ' => r = some (.int (iZ (mWhyF (A 1) (A 3) k x y (mWide (A 1) k t) (n + 1) c o h l))) ∧ σ' = σ)
          have b20 := mHole_b (A 1) x y h3
          refine z_icmp_eq (t := 148) (q := 144) dX9_whyNot_141 rfl (by omega) rfl (fun pc21 => ?_) (fun pc21 => ?_)
          · refine z_iconst (q := 149) dX9_whyNot_148 rfl ?_
            exact J3 _ (by omega)
          · refine z_iconst (q := 145) dX9_whyNot_144 rfl ?_
            refine g_goto (q := 149) dX9_whyNot_145 rfl ?_
            exact J3 _ (by omega)
theorem r_M_whyNot (σ : g_H0) (a : Nat) (I : Nat → Int) (A : Nat → Int → Int) (hM : rM a I A σ) (k x y t : Int) (bk : 0 ≤ k ∧ k < 6) (b_x : 0 ≤ x ∧ x < 1000) (b_y : 0 ≤ y ∧ y < 1000) (b_t : 0 ≤ t ∧ t ≤ 1) (bT : zBd (A 1) 1000) (bS : zBs (A 3)) (h3 : 0 ≤ A 1 3 ∧ A 1 3 ≤ 5) (h4 : 0 ≤ A 1 4 ∧ A 1 4 ≤ 2) (hw : 1 ≤ (mWide (A 1) k t) ∧ (mWide (A 1) k t) ≤ 6) (hh : 1 ≤ (mHigh (A 1) k t) ∧ (mHigh (A 1) k t) ≤ 6) (hW : A 1 0 ≤ 12 ∧ A 1 1 ≤ 12) : Ret mX9_whyNot [.ref a, .int (iZ k), .int (iZ x), .int (iZ y), .int (iZ t)] σ (fun r σ' => r = some (.int (iZ (mWhy (A 1) (A 3) k x y t))) ∧ σ' = σ) := by
  refine Ret.of moX9_whyNot.1 (Nat.le_of_ble_eq_true rfl) (fun w => ?_)
  obtain ⟨m0, m1, m2, m3, m4, m5, m6, m7, m8, m9, m10, m11⟩ := id hM
  show Go w mX9_whyNot (0, 0) 0 [some (.ref a), some (.int (iZ k)), some (.int (iZ x)), some (.int (iZ y)), some (.int (iZ t)), none, none, none, none, none, none, none, none, none] [] σ (fun r σ' => r = some (.int (iZ (mWhy (A 1) (A 3) k x y t))) ∧ σ' = σ)
  refine g_aload_n (q := 1) dX9_whyNot_0 rfl rfl ?_
  refine g_iload_n (q := 2) dX9_whyNot_1 rfl rfl ?_
  refine g_iload (q := 4) dX9_whyNot_2 rfl rfl ?_
  refine g_callV (As := [.int (iZ k), .int (iZ t)]) (rest := []) (q := 7) moX9_wide lkX9_whyNot_114 dX9_whyNot_4 rfl m0 (r_M_wide σ a I A hM k t (by omega) (by omega) bT) rfl rfl (Nat.le_of_ble_eq_true rfl) (Nat.le_of_ble_eq_true rfl) (Nat.le_of_ble_eq_true rfl) rfl ?_
  rintro r1 s1 hp
  rw [hp.1, hp.2]
  show Go w mX9_whyNot (0, 0) 7 [some (.ref a), some (.int (iZ k)), some (.int (iZ x)), some (.int (iZ y)), some (.int (iZ t)), none, none, none, none, none, none, none, none, none] [.int (iZ (mWide (A 1) k t))] σ (fun r σ' => r = some (.int (iZ (mWhy (A 1) (A 3) k x y t))) ∧ σ' = σ)
  refine g_istore (ml' := [some (.ref a), some (.int (iZ k)), some (.int (iZ x)), some (.int (iZ y)), some (.int (iZ t)), some (.int (iZ (mWide (A 1) k t))), none, none, none, none, none, none, none, none]) (q := 9) dX9_whyNot_7 rfl (Nat.le_of_ble_eq_true rfl) rfl rfl ?_
  refine g_aload_n (q := 10) dX9_whyNot_9 rfl rfl ?_
  refine g_iload_n (q := 11) dX9_whyNot_10 rfl rfl ?_
  refine g_iload (q := 13) dX9_whyNot_11 rfl rfl ?_
  refine g_callV (As := [.int (iZ k), .int (iZ t)]) (rest := []) (q := 16) moX9_high lkX9_whyNot_118 dX9_whyNot_13 rfl m0 (r_M_high σ a I A hM k t (by omega) (by omega) bT) rfl rfl (Nat.le_of_ble_eq_true rfl) (Nat.le_of_ble_eq_true rfl) (Nat.le_of_ble_eq_true rfl) rfl ?_
  rintro r1 s1 hp
  rw [hp.1, hp.2]
  show Go w mX9_whyNot (0, 0) 16 [some (.ref a), some (.int (iZ k)), some (.int (iZ x)), some (.int (iZ y)), some (.int (iZ t)), some (.int (iZ (mWide (A 1) k t))), none, none, none, none, none, none, none, none] [.int (iZ (mHigh (A 1) k t))] σ (fun r σ' => r = some (.int (iZ (mWhy (A 1) (A 3) k x y t))) ∧ σ' = σ)
  refine g_istore (ml' := [some (.ref a), some (.int (iZ k)), some (.int (iZ x)), some (.int (iZ y)), some (.int (iZ t)), some (.int (iZ (mWide (A 1) k t))), some (.int (iZ (mHigh (A 1) k t))), none, none, none, none, none, none, none]) (q := 18) dX9_whyNot_16 rfl (Nat.le_of_ble_eq_true rfl) rfl rfl ?_
  refine g_iload (q := 20) dX9_whyNot_18 rfl rfl ?_
  refine z_iconst (q := 21) dX9_whyNot_20 rfl ?_
  refine z_icmp_ne (t := 41) (q := 24) dX9_whyNot_21 rfl (by omega) rfl (fun pc1 => ?_) (fun pc1 => ?_)
  · refine g_aload_n (q := 42) dX9_whyNot_41 rfl rfl ?_
    refine g_iload_n (q := 43) dX9_whyNot_42 rfl rfl ?_
    refine g_iload_n (q := 44) dX9_whyNot_43 rfl rfl ?_
    refine g_callV (As := [.int (iZ x), .int (iZ y)]) (rest := []) (q := 47) moX9_isCell lkX9_whyNot_121 dX9_whyNot_44 rfl m0 (r_M_isCell σ a I A hM x y (by omega) (by omega) bT) rfl rfl (Nat.le_of_ble_eq_true rfl) (Nat.le_of_ble_eq_true rfl) (Nat.le_of_ble_eq_true rfl) rfl ?_
    rintro r1 s1 hp
    rw [hp.1, hp.2]
    show Go w mX9_whyNot (0, 0) 47 [some (.ref a), some (.int (iZ k)), some (.int (iZ x)), some (.int (iZ y)), some (.int (iZ t)), some (.int (iZ (mWide (A 1) k t))), some (.int (iZ (mHigh (A 1) k t))), none, none, none, none, none, none, none] [.int (bI ((0 ≤ x ∧ x < A 1 0) ∧ (0 ≤ y ∧ y < A 1 1)))] σ (fun r σ' => r = some (.int (iZ (mWhy (A 1) (A 3) k x y t))) ∧ σ' = σ)
    refine z_ifB_eq (t := 69) (q := 50) dX9_whyNot_47 rfl rfl (fun pc2 => ?_) (fun pc2 => ?_)
    · refine z_iconst (q := 70) dX9_whyNot_69 rfl ?_
      refine z_iret dX9_whyNot_70 rfl ?_
      exact ⟨congrArg (fun z => some (Value.int (iZ z))) (by unfold mWhy; first | (rw [if_pos (by omega)]; done) | (rw [if_neg (by omega), if_pos (by omega)]; done)), rfl⟩
    · refine g_aload_n (q := 51) dX9_whyNot_50 rfl rfl ?_
      refine g_iload_n (q := 52) dX9_whyNot_51 rfl rfl ?_
      refine g_iload (q := 54) dX9_whyNot_52 rfl rfl ?_
      refine z_iadd (q := 55) dX9_whyNot_54 rfl ?_
      refine z_iconst (q := 56) dX9_whyNot_55 rfl ?_
      refine z_isubc (c := (x + (mWide (A 1) k t) - 1)) (q := 57) dX9_whyNot_56 (by omega) rfl ?_
      refine g_iload_n (q := 58) dX9_whyNot_57 rfl rfl ?_
      refine g_iload (q := 60) dX9_whyNot_58 rfl rfl ?_
      refine z_iadd (q := 61) dX9_whyNot_60 rfl ?_
      refine z_iconst (q := 62) dX9_whyNot_61 rfl ?_
      refine z_isubc (c := (y + (mHigh (A 1) k t) - 1)) (q := 63) dX9_whyNot_62 (by omega) rfl ?_
      refine g_callV (As := [.int (iZ (x + (mWide (A 1) k t) - 1)), .int (iZ (y + (mHigh (A 1) k t) - 1))]) (rest := []) (q := 66) moX9_isCell lkX9_whyNot_121 dX9_whyNot_63 rfl m0 (r_M_isCell σ a I A hM (x + (mWide (A 1) k t) - 1) (y + (mHigh (A 1) k t) - 1) (by omega) (by omega) bT) rfl rfl (Nat.le_of_ble_eq_true rfl) (Nat.le_of_ble_eq_true rfl) (Nat.le_of_ble_eq_true rfl) rfl ?_
      rintro r1 s1 hp
      rw [hp.1, hp.2]
      show Go w mX9_whyNot (0, 0) 66 [some (.ref a), some (.int (iZ k)), some (.int (iZ x)), some (.int (iZ y)), some (.int (iZ t)), some (.int (iZ (mWide (A 1) k t))), some (.int (iZ (mHigh (A 1) k t))), none, none, none, none, none, none, none] [.int (bI ((0 ≤ (x + (mWide (A 1) k t) - 1) ∧ (x + (mWide (A 1) k t) - 1) < A 1 0) ∧ (0 ≤ (y + (mHigh (A 1) k t) - 1) ∧ (y + (mHigh (A 1) k t) - 1) < A 1 1)))] σ (fun r σ' => r = some (.int (iZ (mWhy (A 1) (A 3) k x y t))) ∧ σ' = σ)
      refine z_ifB_ne (t := 71) (q := 69) dX9_whyNot_66 rfl rfl (fun pc3 => ?_) (fun pc3 => ?_)
      · refine z_iconst (q := 72) dX9_whyNot_71 rfl ?_
        refine g_istore (ml' := [some (.ref a), some (.int (iZ k)), some (.int (iZ x)), some (.int (iZ y)), some (.int (iZ t)), some (.int (iZ (mWide (A 1) k t))), some (.int (iZ (mHigh (A 1) k t))), some (.int (iZ 0)), none, none, none, none, none, none]) (q := 74) dX9_whyNot_72 rfl (Nat.le_of_ble_eq_true rfl) rfl rfl ?_
        refine z_iconst (q := 75) dX9_whyNot_74 rfl ?_
        refine g_istore (ml' := [some (.ref a), some (.int (iZ k)), some (.int (iZ x)), some (.int (iZ y)), some (.int (iZ t)), some (.int (iZ (mWide (A 1) k t))), some (.int (iZ (mHigh (A 1) k t))), some (.int (iZ 0)), some (.int (iZ 0)), none, none, none, none, none]) (q := 77) dX9_whyNot_75 rfl (Nat.le_of_ble_eq_true rfl) rfl rfl ?_
        refine z_iconst (q := 78) dX9_whyNot_77 rfl ?_
        refine g_istore (ml' := [some (.ref a), some (.int (iZ k)), some (.int (iZ x)), some (.int (iZ y)), some (.int (iZ t)), some (.int (iZ (mWide (A 1) k t))), some (.int (iZ (mHigh (A 1) k t))), some (.int (iZ 0)), some (.int (iZ 0)), some (.int (iZ 1)), none, none, none, none]) (q := 80) dX9_whyNot_78 rfl (Nat.le_of_ble_eq_true rfl) rfl rfl ?_
        refine z_iconst (q := 81) dX9_whyNot_80 rfl ?_
        refine g_istore (ml' := [some (.ref a), some (.int (iZ k)), some (.int (iZ x)), some (.int (iZ y)), some (.int (iZ t)), some (.int (iZ (mWide (A 1) k t))), some (.int (iZ (mHigh (A 1) k t))), some (.int (iZ 0)), some (.int (iZ 0)), some (.int (iZ 1)), some (.int (iZ 0)), none, none, none]) (q := 83) dX9_whyNot_81 rfl (Nat.le_of_ble_eq_true rfl) rfl rfl ?_
        refine (l_M_whyNot w σ a I A hM k x y t bk b_x b_y b_t bT bS h3 h4 hw hh hW (by omega) (by omega) ((mWide (A 1) k t) * (mHigh (A 1) k t)).toNat 0 0 0 1 (by omega) (by have := zmul36 hw hh; omega) (by omega) (by omega) (by omega)).mono (fun r σ1 hp => ⟨hp.1.trans (congrArg (fun z => some (Value.int (iZ z))) (by unfold mWhy; rw [if_neg (by omega), if_neg (by omega)])), hp.2⟩)
      · refine z_iconst (q := 70) dX9_whyNot_69 rfl ?_
        refine z_iret dX9_whyNot_70 rfl ?_
        exact ⟨congrArg (fun z => some (Value.int (iZ z))) (by unfold mWhy; first | (rw [if_pos (by omega)]; done) | (rw [if_neg (by omega), if_pos (by omega)]; done)), rfl⟩
  · refine g_aload_n (q := 25) dX9_whyNot_24 rfl rfl ?_
    refine g_get (q := 28) flX9_13 dX9_whyNot_25 m0 rfl rfl ?_
    refine z_iconst (q := 29) dX9_whyNot_28 rfl ?_
    refine z_iconst (q := 30) dX9_whyNot_29 rfl ?_
    refine g_iload_n (q := 31) dX9_whyNot_30 rfl rfl ?_
    refine z_imul (q := 32) dX9_whyNot_31 rfl ?_
    refine z_iaddc (c := (4 * k + 5)) (q := 33) dX9_whyNot_32 (by omega) rfl ?_
    refine z_iconst (q := 34) dX9_whyNot_33 rfl ?_
    refine z_iaddc (c := (4 * k + 7)) (q := 35) dX9_whyNot_34 (by omega) rfl ?_
    refine z_iald (q := 36) dX9_whyNot_35 m2 (by omega) rfl ?_
    have b4 := bT (4 * k + 7)
    refine z_if_ne (t := 41) (q := 39) dX9_whyNot_36 rfl (by omega) rfl (fun pc5 => ?_) (fun pc5 => ?_)
    · refine g_aload_n (q := 42) dX9_whyNot_41 rfl rfl ?_
      refine g_iload_n (q := 43) dX9_whyNot_42 rfl rfl ?_
      refine g_iload_n (q := 44) dX9_whyNot_43 rfl rfl ?_
      refine g_callV (As := [.int (iZ x), .int (iZ y)]) (rest := []) (q := 47) moX9_isCell lkX9_whyNot_121 dX9_whyNot_44 rfl m0 (r_M_isCell σ a I A hM x y (by omega) (by omega) bT) rfl rfl (Nat.le_of_ble_eq_true rfl) (Nat.le_of_ble_eq_true rfl) (Nat.le_of_ble_eq_true rfl) rfl ?_
      rintro r1 s1 hp
      rw [hp.1, hp.2]
      show Go w mX9_whyNot (0, 0) 47 [some (.ref a), some (.int (iZ k)), some (.int (iZ x)), some (.int (iZ y)), some (.int (iZ t)), some (.int (iZ (mWide (A 1) k t))), some (.int (iZ (mHigh (A 1) k t))), none, none, none, none, none, none, none] [.int (bI ((0 ≤ x ∧ x < A 1 0) ∧ (0 ≤ y ∧ y < A 1 1)))] σ (fun r σ' => r = some (.int (iZ (mWhy (A 1) (A 3) k x y t))) ∧ σ' = σ)
      refine z_ifB_eq (t := 69) (q := 50) dX9_whyNot_47 rfl rfl (fun pc6 => ?_) (fun pc6 => ?_)
      · refine z_iconst (q := 70) dX9_whyNot_69 rfl ?_
        refine z_iret dX9_whyNot_70 rfl ?_
        exact ⟨congrArg (fun z => some (Value.int (iZ z))) (by unfold mWhy; first | (rw [if_pos (by omega)]; done) | (rw [if_neg (by omega), if_pos (by omega)]; done)), rfl⟩
      · refine g_aload_n (q := 51) dX9_whyNot_50 rfl rfl ?_
        refine g_iload_n (q := 52) dX9_whyNot_51 rfl rfl ?_
        refine g_iload (q := 54) dX9_whyNot_52 rfl rfl ?_
        refine z_iadd (q := 55) dX9_whyNot_54 rfl ?_
        refine z_iconst (q := 56) dX9_whyNot_55 rfl ?_
        refine z_isubc (c := (x + (mWide (A 1) k t) - 1)) (q := 57) dX9_whyNot_56 (by omega) rfl ?_
        refine g_iload_n (q := 58) dX9_whyNot_57 rfl rfl ?_
        refine g_iload (q := 60) dX9_whyNot_58 rfl rfl ?_
        refine z_iadd (q := 61) dX9_whyNot_60 rfl ?_
        refine z_iconst (q := 62) dX9_whyNot_61 rfl ?_
        refine z_isubc (c := (y + (mHigh (A 1) k t) - 1)) (q := 63) dX9_whyNot_62 (by omega) rfl ?_
        refine g_callV (As := [.int (iZ (x + (mWide (A 1) k t) - 1)), .int (iZ (y + (mHigh (A 1) k t) - 1))]) (rest := []) (q := 66) moX9_isCell lkX9_whyNot_121 dX9_whyNot_63 rfl m0 (r_M_isCell σ a I A hM (x + (mWide (A 1) k t) - 1) (y + (mHigh (A 1) k t) - 1) (by omega) (by omega) bT) rfl rfl (Nat.le_of_ble_eq_true rfl) (Nat.le_of_ble_eq_true rfl) (Nat.le_of_ble_eq_true rfl) rfl ?_
        rintro r1 s1 hp
        rw [hp.1, hp.2]
        show Go w mX9_whyNot (0, 0) 66 [some (.ref a), some (.int (iZ k)), some (.int (iZ x)), some (.int (iZ y)), some (.int (iZ t)), some (.int (iZ (mWide (A 1) k t))), some (.int (iZ (mHigh (A 1) k t))), none, none, none, none, none, none, none] [.int (bI ((0 ≤ (x + (mWide (A 1) k t) - 1) ∧ (x + (mWide (A 1) k t) - 1) < A 1 0) ∧ (0 ≤ (y + (mHigh (A 1) k t) - 1) ∧ (y + (mHigh (A 1) k t) - 1) < A 1 1)))] σ (fun r σ' => r = some (.int (iZ (mWhy (A 1) (A 3) k x y t))) ∧ σ' = σ)
        refine z_ifB_ne (t := 71) (q := 69) dX9_whyNot_66 rfl rfl (fun pc7 => ?_) (fun pc7 => ?_)
        · refine z_iconst (q := 72) dX9_whyNot_71 rfl ?_
          refine g_istore (ml' := [some (.ref a), some (.int (iZ k)), some (.int (iZ x)), some (.int (iZ y)), some (.int (iZ t)), some (.int (iZ (mWide (A 1) k t))), some (.int (iZ (mHigh (A 1) k t))), some (.int (iZ 0)), none, none, none, none, none, none]) (q := 74) dX9_whyNot_72 rfl (Nat.le_of_ble_eq_true rfl) rfl rfl ?_
          refine z_iconst (q := 75) dX9_whyNot_74 rfl ?_
          refine g_istore (ml' := [some (.ref a), some (.int (iZ k)), some (.int (iZ x)), some (.int (iZ y)), some (.int (iZ t)), some (.int (iZ (mWide (A 1) k t))), some (.int (iZ (mHigh (A 1) k t))), some (.int (iZ 0)), some (.int (iZ 0)), none, none, none, none, none]) (q := 77) dX9_whyNot_75 rfl (Nat.le_of_ble_eq_true rfl) rfl rfl ?_
          refine z_iconst (q := 78) dX9_whyNot_77 rfl ?_
          refine g_istore (ml' := [some (.ref a), some (.int (iZ k)), some (.int (iZ x)), some (.int (iZ y)), some (.int (iZ t)), some (.int (iZ (mWide (A 1) k t))), some (.int (iZ (mHigh (A 1) k t))), some (.int (iZ 0)), some (.int (iZ 0)), some (.int (iZ 1)), none, none, none, none]) (q := 80) dX9_whyNot_78 rfl (Nat.le_of_ble_eq_true rfl) rfl rfl ?_
          refine z_iconst (q := 81) dX9_whyNot_80 rfl ?_
          refine g_istore (ml' := [some (.ref a), some (.int (iZ k)), some (.int (iZ x)), some (.int (iZ y)), some (.int (iZ t)), some (.int (iZ (mWide (A 1) k t))), some (.int (iZ (mHigh (A 1) k t))), some (.int (iZ 0)), some (.int (iZ 0)), some (.int (iZ 1)), some (.int (iZ 0)), none, none, none]) (q := 83) dX9_whyNot_81 rfl (Nat.le_of_ble_eq_true rfl) rfl rfl ?_
          refine (l_M_whyNot w σ a I A hM k x y t bk b_x b_y b_t bT bS h3 h4 hw hh hW (by omega) (by omega) ((mWide (A 1) k t) * (mHigh (A 1) k t)).toNat 0 0 0 1 (by omega) (by have := zmul36 hw hh; omega) (by omega) (by omega) (by omega)).mono (fun r σ1 hp => ⟨hp.1.trans (congrArg (fun z => some (Value.int (iZ z))) (by unfold mWhy; rw [if_neg (by omega), if_neg (by omega)])), hp.2⟩)
        · refine z_iconst (q := 70) dX9_whyNot_69 rfl ?_
          refine z_iret dX9_whyNot_70 rfl ?_
          exact ⟨congrArg (fun z => some (Value.int (iZ z))) (by unfold mWhy; first | (rw [if_pos (by omega)]; done) | (rw [if_neg (by omega), if_pos (by omega)]; done)), rfl⟩
    · refine z_iconst (q := 40) dX9_whyNot_39 rfl ?_
      refine z_iret dX9_whyNot_40 rfl ?_
      exact ⟨congrArg (fun z => some (Value.int (iZ z))) (by unfold mWhy; first | (rw [if_pos (by omega)]; done) | (rw [if_neg (by omega), if_pos (by omega)]; done)), rfl⟩
end
section
/-! what is kept and given back -/
def mR (a : Nat) : Nat → Prop := fun b => a ≤ b ∧ b < a + 12
theorem g_Fr.step {P : Nat → Prop} {σ σ1 σ2 : g_H0} {x : Nat} (h : g_Fr P σ σ1) (f : g_Fr (fun b => b = x) σ1 σ2) (hx : P x) : g_Fr P σ σ2 := h.tr (f.wk (fun b e => by rw [e]; exact hx))
def zcp (d s : Int → Int) (lo off i : Int) : Int → Int := fun k => if lo ≤ k ∧ k < lo + i then s (k + off) else d k
theorem zcp_0 (d s : Int → Int) (lo off : Int) : zcp d s lo off 0 = d := by
  funext k
  exact if_neg (by omega)
theorem zcp_step {d s : Int → Int} {lo off i j v : Int} (hi : 0 ≤ i) (hj : j = lo + i) (hv : v = s (j + off)) : zup (zcp d s lo off i) j v = zcp d s lo off (i + 1) := by
  subst hj; subst hv
  funext k
  unfold zup zcp
  by_cases h : k = lo + i
  · rw [if_pos h, if_pos (by omega), h]
  · rw [if_neg h]
    by_cases h2 : lo ≤ k ∧ k < lo + i
    · rw [if_pos h2, if_pos (by omega)]
    · rw [if_neg h2, if_neg (by omega)]
theorem l_M_note1 (w : g_W) (Φ : g_Post) (σ0 : g_H0) (a : Nat) (I : Nat → Int) (A : Nat → Int → Int)  (K : ∀ σ : g_H0, rM a I (nup A 4 (zcp (A 4) (A 4) 0 156 780)) σ → g_Fr (mR a) σ0 σ → Go w mX9_note (0, 0) 40 [some (.ref a), none] [] σ Φ) : ∀ (n : Nat) (i : Int) (σ : g_H0), 0 ≤ i → i + n = 780 → rM a I (nup A 4 (zcp (A 4) (A 4) 0 156 i)) σ → g_Fr (mR a) σ0 σ → Go w mX9_note (0, 0) 11 [some (.ref a), some (.int (iZ i))] [] σ Φ := by
  intro n
  induction n with
  | zero =>
    intro i σ h0 h1 hM hF
    obtain ⟨m0, m1, m2, m3, m4, m5, m6, m7, m8, m9, m10, m11⟩ := id hM
    have m5 : σ[a + 5]? = some (.inl (0, 936, .inl (zA (zcp (A 4) (A 4) 0 156 i)))) := m5
    refine g_iload_n (q := 12) dX9_note_11 rfl rfl ?_
    refine g_sipush (v := iZ 780) (q := 15) dX9_note_12 (by decide) rfl ?_
    refine z_icmp_ge (t := 40) (q := 18) dX9_note_15 rfl (by omega) rfl (fun pc1 => ?_) (fun pc1 => ?_)
    · obtain rfl : i = 780 := by omega
      refine Go.wk (ml' := [some (.ref a), none]) ⟨Or.inr rfl, Or.inl rfl, trivial⟩ ?_
      exact K σ hM hF
    · exfalso
      omega
  | succ n ih =>
    intro i σ h0 h1 hM hF
    obtain ⟨m0, m1, m2, m3, m4, m5, m6, m7, m8, m9, m10, m11⟩ := id hM
    have m5 : σ[a + 5]? = some (.inl (0, 936, .inl (zA (zcp (A 4) (A 4) 0 156 i)))) := m5
    refine g_iload_n (q := 12) dX9_note_11 rfl rfl ?_
    refine g_sipush (v := iZ 780) (q := 15) dX9_note_12 (by decide) rfl ?_
    refine z_icmp_ge (t := 40) (q := 18) dX9_note_15 rfl (by omega) rfl (fun pc1 => ?_) (fun pc1 => ?_)
    · exfalso
      omega
    · refine g_aload_n (q := 19) dX9_note_18 rfl rfl ?_
      refine g_get (q := 22) flX9_22 dX9_note_19 m0 rfl rfl ?_
      refine g_iload_n (q := 23) dX9_note_22 rfl rfl ?_
      refine g_aload_n (q := 24) dX9_note_23 rfl rfl ?_
      refine g_get (q := 27) flX9_22 dX9_note_24 m0 rfl rfl ?_
      refine g_sipush (v := iZ 156) (q := 30) dX9_note_27 (by decide) rfl ?_
      refine g_iload_n (q := 31) dX9_note_30 rfl rfl ?_
      refine z_iaddc (c := (i + 156)) (q := 32) dX9_note_31 (by omega) rfl ?_
      refine z_iald (q := 33) dX9_note_32 m5 (by omega) rfl ?_
      refine z_iast (q := 34) dX9_note_33 m5 (by omega) rfl (fun σ2 c3 f4 => ?_)
      have c5 := (f4.2 a (by omega)).trans m0
      have c6 := (f4.2 (a + 1) (by omega)).trans m1
      have c7 := (f4.2 (a + 2) (by omega)).trans m2
      have c8 := (f4.2 (a + 3) (by omega)).trans m3
      have c9 := (f4.2 (a + 4) (by omega)).trans m4
      have c10 := (f4.2 (a + 6) (by omega)).trans m6
      have c11 := (f4.2 (a + 7) (by omega)).trans m7
      have c12 := (f4.2 (a + 8) (by omega)).trans m8
      have c13 := (f4.2 (a + 9) (by omega)).trans m9
      have c14 := (f4.2 (a + 10) (by omega)).trans m10
      have c15 := (f4.2 (a + 11) (by omega)).trans m11
      refine z_iincc (c := (i + 1)) (ml' := [some (.ref a), some (.int (iZ (i + 1)))]) (q := 37) dX9_note_34 rfl (by omega) rfl rfl rfl ?_
      refine g_goto (q := 11) dX9_note_37 rfl ?_
      exact ih (i + 1) σ2 (by omega) (by omega) (by rw [← zcp_step (i := i) (j := i) (v := ((zcp (A 4) (A 4) 0 156 i) (i + 156))) (by omega) (by omega) (if_neg (by omega))]; exact ⟨c5, c6, c7, c8, c9, c3, c10, c11, c12, c13, c14, c15⟩) (hF.step f4 ⟨by omega, by omega⟩)
theorem l_M_note2 (w : g_W) (Φ : g_Post) (σ0 : g_H0) (a : Nat) (I : Nat → Int) (A : Nat → Int → Int) (B : Int → Int) (hm : 0 ≤ I 2 ∧ I 2 ≤ 5) (K : ∀ σ : g_H0, rM a I (nup A 4 (zcp B (A 3) (156 * (I 2)) (-(156 * (I 2))) 156)) σ → g_Fr (mR a) σ0 σ → Go w mX9_note (0, 0) 86 [some (.ref a), none] [] σ Φ) : ∀ (n : Nat) (i : Int) (σ : g_H0), 0 ≤ i → i + n = 156 → rM a I (nup A 4 (zcp B (A 3) (156 * (I 2)) (-(156 * (I 2))) i)) σ → g_Fr (mR a) σ0 σ → Go w mX9_note (0, 0) 52 [some (.ref a), some (.int (iZ i))] [] σ Φ := by
  intro n
  induction n with
  | zero =>
    intro i σ h0 h1 hM hF
    obtain ⟨m0, m1, m2, m3, m4, m5, m6, m7, m8, m9, m10, m11⟩ := id hM
    have m5 : σ[a + 5]? = some (.inl (0, 936, .inl (zA (zcp B (A 3) (156 * (I 2)) (-(156 * (I 2))) i)))) := m5
    refine g_iload_n (q := 53) dX9_note_52 rfl rfl ?_
    refine g_sipush (v := iZ 156) (q := 56) dX9_note_53 (by decide) rfl ?_
    refine z_icmp_ge (t := 86) (q := 59) dX9_note_56 rfl (by omega) rfl (fun pc1 => ?_) (fun pc1 => ?_)
    · obtain rfl : i = 156 := by omega
      refine Go.wk (ml' := [some (.ref a), none]) ⟨Or.inr rfl, Or.inl rfl, trivial⟩ ?_
      exact K σ hM hF
    · exfalso
      omega
  | succ n ih =>
    intro i σ h0 h1 hM hF
    obtain ⟨m0, m1, m2, m3, m4, m5, m6, m7, m8, m9, m10, m11⟩ := id hM
    have m5 : σ[a + 5]? = some (.inl (0, 936, .inl (zA (zcp B (A 3) (156 * (I 2)) (-(156 * (I 2))) i)))) := m5
    refine g_iload_n (q := 53) dX9_note_52 rfl rfl ?_
    refine g_sipush (v := iZ 156) (q := 56) dX9_note_53 (by decide) rfl ?_
    refine z_icmp_ge (t := 86) (q := 59) dX9_note_56 rfl (by omega) rfl (fun pc1 => ?_) (fun pc1 => ?_)
    · exfalso
      omega
    · refine g_aload_n (q := 60) dX9_note_59 rfl rfl ?_
      refine g_get (q := 63) flX9_22 dX9_note_60 m0 rfl rfl ?_
      refine g_sipush (v := iZ 156) (q := 66) dX9_note_63 (by decide) rfl ?_
      refine g_aload_n (q := 67) dX9_note_66 rfl rfl ?_
      refine g_get (q := 70) flX9_50 dX9_note_67 m0 rfl rfl ?_
      refine z_imul (q := 71) dX9_note_70 rfl ?_
      refine g_iload_n (q := 72) dX9_note_71 rfl rfl ?_
      refine z_iaddc (c := (156 * (I 2) + i)) (q := 73) dX9_note_72 (by omega) rfl ?_
      refine g_aload_n (q := 74) dX9_note_73 rfl rfl ?_
      refine g_get (q := 77) flX9_19 dX9_note_74 m0 rfl rfl ?_
      refine g_iload_n (q := 78) dX9_note_77 rfl rfl ?_
      refine z_iald (q := 79) dX9_note_78 m4 (by omega) rfl ?_
      refine z_iast (q := 80) dX9_note_79 m5 (by omega) rfl (fun σ2 c3 f4 => ?_)
      have c5 := (f4.2 a (by omega)).trans m0
      have c6 := (f4.2 (a + 1) (by omega)).trans m1
      have c7 := (f4.2 (a + 2) (by omega)).trans m2
      have c8 := (f4.2 (a + 3) (by omega)).trans m3
      have c9 := (f4.2 (a + 4) (by omega)).trans m4
      have c10 := (f4.2 (a + 6) (by omega)).trans m6
      have c11 := (f4.2 (a + 7) (by omega)).trans m7
      have c12 := (f4.2 (a + 8) (by omega)).trans m8
      have c13 := (f4.2 (a + 9) (by omega)).trans m9
      have c14 := (f4.2 (a + 10) (by omega)).trans m10
      have c15 := (f4.2 (a + 11) (by omega)).trans m11
      refine z_iincc (c := (i + 1)) (ml' := [some (.ref a), some (.int (iZ (i + 1)))]) (q := 83) dX9_note_80 rfl (by omega) rfl rfl rfl ?_
      refine g_goto (q := 52) dX9_note_83 rfl ?_
      exact ih (i + 1) σ2 (by omega) (by omega) (by rw [← zcp_step (i := i) (j := (156 * (I 2) + i)) (v := ((A 3) i)) (by omega) (by omega) (congrArg (A 3) (by omega))]; exact ⟨c5, c6, c7, c8, c9, c3, c10, c11, c12, c13, c14, c15⟩) (hF.step f4 ⟨by omega, by omega⟩)
theorem rM.congr {a : Nat} {I I' : Nat → Int} {A A' : Nat → Int → Int} {σ : g_H0} (h : rM a I A σ) (hi : ∀ j, j < 5 → I j = I' j) (ha : ∀ j, j < 11 → A j = A' j) : rM a I' A' σ := by
  unfold rM at h ⊢
  rw [← hi 0 (by omega), ← hi 1 (by omega), ← hi 2 (by omega), ← hi 3 (by omega), ← hi 4 (by omega), ← ha 0 (by omega), ← ha 1 (by omega), ← ha 2 (by omega), ← ha 3 (by omega), ← ha 4 (by omega), ← ha 5 (by omega), ← ha 6 (by omega), ← ha 7 (by omega), ← ha 8 (by omega), ← ha 9 (by omega), ← ha 10 (by omega)]
  exact h
theorem nup_nup {α : Type} (t : Nat → α) (i : Nat) (x y : α) : nup (nup t i x) i y = nup t i y := by
  funext k
  unfold nup
  split <;> rfl
theorem nup_self {α : Type} (t : Nat → α) (i : Nat) (x : α) : nup t i x i = x := if_pos rfl
theorem nup_ne {α : Type} (t : Nat → α) {i k : Nat} (x : α) (h : k ≠ i) : nup t i x k = t k := if_neg h
theorem nup_id {α : Type} (t : Nat → α) (i : Nat) : nup t i (t i) = t := by
  funext k
  unfold nup
  split
  · next h => rw [h]
  · rfl
theorem nup_cm {α : Type} (t : Nat → α) {i j : Nat} (x y : α) (h : i ≠ j) : nup (nup t i x) j y = nup (nup t j y) i x := by
  funext k
  unfold nup
  by_cases h1 : k = i
  · by_cases h2 : k = j
    · exact absurd (h1.symm.trans h2) h
    · simp [h1, h]
  · simp [h1]
def mNoteB (B S : Int → Int) (n : Int) : Int → Int := if n = 6 then zcp (zcp B B 0 156 780) S 780 (-780) 156 else zcp B S (156 * n) (-(156 * n)) 156
def mNoteN (n : Int) : Int := if n = 6 then 6 else n + 1
theorem l_M_note3 (w : g_W) (σ0 : g_H0) (a : Nat) (I : Nat → Int) (A : Nat → Int → Int) (B : Int → Int) (hm : 0 ≤ I 2 ∧ I 2 ≤ 5) (σ : g_H0) (hM : rM a I (nup A 4 B) σ) (hF : g_Fr (mR a) σ0 σ) : Go w mX9_note (0, 0) 50 [some (.ref a), none] [] σ (fun r σ' => r = none ∧ rM a (nup I 2 (I 2 + 1)) (nup A 4 (zcp B (A 3) (156 * I 2) (-(156 * I 2)) 156)) σ' ∧ g_Fr (mR a) σ0 σ') := by
  obtain ⟨m0, m1, m2, m3, m4, m5, m6, m7, m8, m9, m10, m11⟩ := id hM
  have m5 : σ[a + 5]? = some (.inl (0, 936, .inl (zA B))) := m5
  refine z_iconst (q := 51) dX9_note_50 rfl ?_
  refine g_istore_n (ml' := [some (.ref a), some (.int (iZ 0))]) (q := 52) dX9_note_51 rfl (Nat.le_of_ble_eq_true rfl) rfl rfl ?_
  refine l_M_note2 w _ σ0 a I A B hm (fun σ hM hF => ?_) 156 0 σ (by omega) (by omega) (by rw [zcp_0]; exact hM) hF
  obtain ⟨m0, m1, m2, m3, m4, m5, m6, m7, m8, m9, m10, m11⟩ := id hM
  have m5 : σ[a + 5]? = some (.inl (0, 936, .inl (zA (zcp B (A 3) (156 * (I 2)) (-(156 * (I 2))) 156)))) := m5
  refine g_aload_n (q := 87) dX9_note_86 rfl rfl ?_
  refine g_dup (q := 88) dX9_note_87 rfl rfl ?_
  refine g_get (q := 91) flX9_50 dX9_note_88 m0 rfl rfl ?_
  refine z_iconst (q := 92) dX9_note_91 rfl ?_
  refine z_iadd (q := 93) dX9_note_92 rfl ?_
  refine z_put (fs' := [.int (iZ (I 0)), .ref (a + 1), .int (iZ (I 1)), .ref (a + 2), .ref (a + 3), .ref (a + 4), .ref (a + 5), .int (iZ ((I 2) + 1)), .ref (a + 6), .ref (a + 7), .ref (a + 8), .int (iZ (I 3)), .int (iZ (I 4)), .ref (a + 9), .ref (a + 10), .ref (a + 11)]) (q := 96) fpX9_50 dX9_note_93 m0 (Nat.le_of_ble_eq_true rfl) rfl rfl rfl rfl (fun σ1 c2 f3 => ?_)
  have c4 := (f3.2 (a + 1) (by omega)).trans m1
  have c5 := (f3.2 (a + 2) (by omega)).trans m2
  have c6 := (f3.2 (a + 3) (by omega)).trans m3
  have c7 := (f3.2 (a + 4) (by omega)).trans m4
  have c8 := (f3.2 (a + 5) (by omega)).trans m5
  have c9 := (f3.2 (a + 6) (by omega)).trans m6
  have c10 := (f3.2 (a + 7) (by omega)).trans m7
  have c11 := (f3.2 (a + 8) (by omega)).trans m8
  have c12 := (f3.2 (a + 9) (by omega)).trans m9
  have c13 := (f3.2 (a + 10) (by omega)).trans m10
  have c14 := (f3.2 (a + 11) (by omega)).trans m11
  refine z_vret dX9_note_96 rfl ?_
  exact ⟨rfl, ⟨c2, c4, c5, c6, c7, c8, c9, c10, c11, c12, c13, c14⟩, (hF.step f3 ⟨by omega, by omega⟩)⟩
theorem r_M_note (σ : g_H0) (a : Nat) (I : Nat → Int) (A : Nat → Int → Int) (hM : rM a I A σ) (hn : 0 ≤ I 2 ∧ I 2 ≤ 6) : Ret mX9_note [.ref a] σ (fun r σ' => r = none ∧ rM a (nup I 2 (mNoteN (I 2))) (nup A 4 (mNoteB (A 4) (A 3) (I 2))) σ' ∧ g_Fr (mR a) σ σ') := by
  refine Ret.of moX9_note.1 (Nat.le_of_ble_eq_true rfl) (fun w => ?_)
  obtain ⟨m0, m1, m2, m3, m4, m5, m6, m7, m8, m9, m10, m11⟩ := id hM
  show Go w mX9_note (0, 0) 0 [some (.ref a), none] [] σ (fun r σ' => r = none ∧ rM a (nup I 2 (mNoteN (I 2))) (nup A 4 (mNoteB (A 4) (A 3) (I 2))) σ' ∧ g_Fr (mR a) σ σ')
  refine g_aload_n (q := 1) dX9_note_0 rfl rfl ?_
  refine g_get (q := 4) flX9_50 dX9_note_1 m0 rfl rfl ?_
  refine g_bipush (v := iZ 6) (q := 6) dX9_note_4 (by decide) rfl ?_
  refine z_icmp_ne (t := 50) (q := 9) dX9_note_6 rfl (by omega) rfl (fun pc1 => ?_) (fun pc1 => ?_)
  · refine (l_M_note3 w σ a I A (A 4) (by omega) σ (by rw [nup_id]; exact hM) g_Fr.rf).mono (fun r σ1 hp => ⟨hp.1, ?_, hp.2.2⟩)
    refine hp.2.1.congr (fun j _ => ?_) (fun j _ => ?_)
    · unfold mNoteN; rw [if_neg (by omega)]
    · unfold mNoteB; rw [if_neg (by omega)]
  · refine z_iconst (q := 10) dX9_note_9 rfl ?_
    refine g_istore_n (ml' := [some (.ref a), some (.int (iZ 0))]) (q := 11) dX9_note_10 rfl (Nat.le_of_ble_eq_true rfl) rfl rfl ?_
    have h6 : I 2 = 6 := by omega
    refine l_M_note1 w _ σ a I A (fun σ1 hM hF => ?_) 780 0 σ (by omega) (by omega) (by rw [zcp_0, nup_id]; exact hM) g_Fr.rf
    clear m0 m1 m2 m3 m4 m5 m6 m7 m8 m9 m10 m11
    obtain ⟨m0, m1, m2, m3, m4, m5, m6, m7, m8, m9, m10, m11⟩ := id hM
    have m5 : σ1[a + 5]? = some (.inl (0, 936, .inl (zA (zcp (A 4) (A 4) 0 156 780)))) := m5
    refine g_aload_n (q := 41) dX9_note_40 rfl rfl ?_
    refine g_dup (q := 42) dX9_note_41 rfl rfl ?_
    refine g_get (q := 45) flX9_50 dX9_note_42 m0 rfl rfl ?_
    refine z_iconst (q := 46) dX9_note_45 rfl ?_
    refine z_isub (q := 47) dX9_note_46 rfl ?_
    refine z_put (fs' := [.int (iZ (I 0)), .ref (a + 1), .int (iZ (I 1)), .ref (a + 2), .ref (a + 3), .ref (a + 4), .ref (a + 5), .int (iZ ((I 2) - 1)), .ref (a + 6), .ref (a + 7), .ref (a + 8), .int (iZ (I 3)), .int (iZ (I 4)), .ref (a + 9), .ref (a + 10), .ref (a + 11)]) (q := 50) fpX9_50 dX9_note_47 m0 (Nat.le_of_ble_eq_true rfl) rfl rfl rfl rfl (fun σ2 c3 f4 => ?_)
    have c5 := (f4.2 (a + 1) (by omega)).trans m1
    have c6 := (f4.2 (a + 2) (by omega)).trans m2
    have c7 := (f4.2 (a + 3) (by omega)).trans m3
    have c8 := (f4.2 (a + 4) (by omega)).trans m4
    have c9 := (f4.2 (a + 5) (by omega)).trans m5
    have c10 := (f4.2 (a + 6) (by omega)).trans m6
    have c11 := (f4.2 (a + 7) (by omega)).trans m7
    have c12 := (f4.2 (a + 8) (by omega)).trans m8
    have c13 := (f4.2 (a + 9) (by omega)).trans m9
    have c14 := (f4.2 (a + 10) (by omega)).trans m10
    have c15 := (f4.2 (a + 11) (by omega)).trans m11
    refine (l_M_note3 w σ a (nup I 2 (I 2 - 1)) A (zcp (A 4) (A 4) 0 156 780) (by show 0 ≤ I 2 - 1 ∧ I 2 - 1 ≤ 5; omega) σ2 ⟨c3, c5, c6, c7, c8, c9, c10, c11, c12, c13, c14, c15⟩ (hF.step f4 ⟨by omega, by omega⟩)).mono (fun r σ1 hp => ⟨hp.1, ?_, hp.2.2⟩)
    refine hp.2.1.congr (fun j _ => ?_) (fun j _ => ?_)
    · rw [nup_nup]; unfold mNoteN; rw [if_pos h6]; show nup I 2 (I 2 - 1 + 1) j = _; rw [show I 2 - 1 + 1 = 6 by omega]
    · unfold mNoteB; rw [if_pos h6]; show nup A 4 (zcp _ _ (156 * (I 2 - 1)) (-(156 * (I 2 - 1))) 156) j = _; rw [show 156 * (I 2 - 1) = 780 by omega]
theorem l_M_tb (w : g_W) (Φ : g_Post) (σ0 : g_H0) (a : Nat) (I : Nat → Int) (A : Nat → Int → Int) (hm : 0 ≤ I 2 ∧ I 2 ≤ 5) (K : ∀ σ : g_H0, rM a I (nup A 3 (zcp (A 3) (A 4) 0 (156 * (I 2)) 156)) σ → g_Fr (mR a) σ0 σ → Go w mX9_takesBack (0, 0) 46 [some (.ref a), none] [] σ Φ) : ∀ (n : Nat) (i : Int) (σ : g_H0), 0 ≤ i → i + n = 156 → rM a I (nup A 3 (zcp (A 3) (A 4) 0 (156 * (I 2)) i)) σ → g_Fr (mR a) σ0 σ → Go w mX9_takesBack (0, 0) 12 [some (.ref a), some (.int (iZ i))] [] σ Φ := by
  intro n
  induction n with
  | zero =>
    intro i σ h0 h1 hM hF
    obtain ⟨m0, m1, m2, m3, m4, m5, m6, m7, m8, m9, m10, m11⟩ := id hM
    have m4 : σ[a + 4]? = some (.inl (0, 156, .inl (zA (zcp (A 3) (A 4) 0 (156 * (I 2)) i)))) := m4
    refine g_iload_n (q := 13) dX9_takesBack_12 rfl rfl ?_
    refine g_sipush (v := iZ 156) (q := 16) dX9_takesBack_13 (by decide) rfl ?_
    refine z_icmp_ge (t := 46) (q := 19) dX9_takesBack_16 rfl (by omega) rfl (fun pc1 => ?_) (fun pc1 => ?_)
    · obtain rfl : i = 156 := by omega
      refine Go.wk (ml' := [some (.ref a), none]) ⟨Or.inr rfl, Or.inl rfl, trivial⟩ ?_
      exact K σ hM hF
    · exfalso
      omega
  | succ n ih =>
    intro i σ h0 h1 hM hF
    obtain ⟨m0, m1, m2, m3, m4, m5, m6, m7, m8, m9, m10, m11⟩ := id hM
    have m4 : σ[a + 4]? = some (.inl (0, 156, .inl (zA (zcp (A 3) (A 4) 0 (156 * (I 2)) i)))) := m4
    refine g_iload_n (q := 13) dX9_takesBack_12 rfl rfl ?_
    refine g_sipush (v := iZ 156) (q := 16) dX9_takesBack_13 (by decide) rfl ?_
    refine z_icmp_ge (t := 46) (q := 19) dX9_takesBack_16 rfl (by omega) rfl (fun pc1 => ?_) (fun pc1 => ?_)
    · exfalso
      omega
    · refine g_aload_n (q := 20) dX9_takesBack_19 rfl rfl ?_
      refine g_get (q := 23) flX9_19 dX9_takesBack_20 m0 rfl rfl ?_
      refine g_iload_n (q := 24) dX9_takesBack_23 rfl rfl ?_
      refine g_aload_n (q := 25) dX9_takesBack_24 rfl rfl ?_
      refine g_get (q := 28) flX9_22 dX9_takesBack_25 m0 rfl rfl ?_
      refine g_sipush (v := iZ 156) (q := 31) dX9_takesBack_28 (by decide) rfl ?_
      refine g_aload_n (q := 32) dX9_takesBack_31 rfl rfl ?_
      refine g_get (q := 35) flX9_50 dX9_takesBack_32 m0 rfl rfl ?_
      refine z_imul (q := 36) dX9_takesBack_35 rfl ?_
      refine g_iload_n (q := 37) dX9_takesBack_36 rfl rfl ?_
      refine z_iaddc (c := (156 * (I 2) + i)) (q := 38) dX9_takesBack_37 (by omega) rfl ?_
      refine z_iald (q := 39) dX9_takesBack_38 m5 (by omega) rfl ?_
      refine z_iast (q := 40) dX9_takesBack_39 m4 (by omega) rfl (fun σ2 c3 f4 => ?_)
      have c5 := (f4.2 a (by omega)).trans m0
      have c6 := (f4.2 (a + 1) (by omega)).trans m1
      have c7 := (f4.2 (a + 2) (by omega)).trans m2
      have c8 := (f4.2 (a + 3) (by omega)).trans m3
      have c9 := (f4.2 (a + 5) (by omega)).trans m5
      have c10 := (f4.2 (a + 6) (by omega)).trans m6
      have c11 := (f4.2 (a + 7) (by omega)).trans m7
      have c12 := (f4.2 (a + 8) (by omega)).trans m8
      have c13 := (f4.2 (a + 9) (by omega)).trans m9
      have c14 := (f4.2 (a + 10) (by omega)).trans m10
      have c15 := (f4.2 (a + 11) (by omega)).trans m11
      refine z_iincc (c := (i + 1)) (ml' := [some (.ref a), some (.int (iZ (i + 1)))]) (q := 43) dX9_takesBack_40 rfl (by omega) rfl rfl rfl ?_
      refine g_goto (q := 12) dX9_takesBack_43 rfl ?_
      exact ih (i + 1) σ2 (by omega) (by omega) (by rw [← zcp_step (i := i) (j := i) (v := ((A 4) (156 * (I 2) + i))) (by omega) (by omega) (congrArg (A 4) (by omega))]; exact ⟨c5, c6, c7, c8, c3, c9, c10, c11, c12, c13, c14, c15⟩) (hF.step f4 ⟨by omega, by omega⟩)
theorem r_M_takesBack (σ : g_H0) (a : Nat) (I : Nat → Int) (A : Nat → Int → Int) (hM : rM a I A σ) (hn : 1 ≤ I 2 ∧ I 2 ≤ 6) : Ret mX9_takesBack [.ref a] σ (fun r σ' => r = none ∧ rM a (nup I 2 (I 2 - 1)) (nup A 3 (zcp (A 3) (A 4) 0 (156 * (I 2 - 1)) 156)) σ' ∧ g_Fr (mR a) σ σ') := by
  refine Ret.of moX9_takesBack.1 (Nat.le_of_ble_eq_true rfl) (fun w => ?_)
  obtain ⟨m0, m1, m2, m3, m4, m5, m6, m7, m8, m9, m10, m11⟩ := id hM
  show Go w mX9_takesBack (0, 0) 0 [some (.ref a), none] [] σ (fun r σ' => r = none ∧ rM a (nup I 2 (I 2 - 1)) (nup A 3 (zcp (A 3) (A 4) 0 (156 * (I 2 - 1)) 156)) σ' ∧ g_Fr (mR a) σ σ')
  refine g_aload_n (q := 1) dX9_takesBack_0 rfl rfl ?_
  refine g_dup (q := 2) dX9_takesBack_1 rfl rfl ?_
  refine g_get (q := 5) flX9_50 dX9_takesBack_2 m0 rfl rfl ?_
  refine z_iconst (q := 6) dX9_takesBack_5 rfl ?_
  refine z_isub (q := 7) dX9_takesBack_6 rfl ?_
  refine z_put (fs' := [.int (iZ (I 0)), .ref (a + 1), .int (iZ (I 1)), .ref (a + 2), .ref (a + 3), .ref (a + 4), .ref (a + 5), .int (iZ ((I 2) - 1)), .ref (a + 6), .ref (a + 7), .ref (a + 8), .int (iZ (I 3)), .int (iZ (I 4)), .ref (a + 9), .ref (a + 10), .ref (a + 11)]) (q := 10) fpX9_50 dX9_takesBack_7 m0 (Nat.le_of_ble_eq_true rfl) rfl rfl rfl rfl (fun σ1 c2 f3 => ?_)
  have c4 := (f3.2 (a + 1) (by omega)).trans m1
  have c5 := (f3.2 (a + 2) (by omega)).trans m2
  have c6 := (f3.2 (a + 3) (by omega)).trans m3
  have c7 := (f3.2 (a + 4) (by omega)).trans m4
  have c8 := (f3.2 (a + 5) (by omega)).trans m5
  have c9 := (f3.2 (a + 6) (by omega)).trans m6
  have c10 := (f3.2 (a + 7) (by omega)).trans m7
  have c11 := (f3.2 (a + 8) (by omega)).trans m8
  have c12 := (f3.2 (a + 9) (by omega)).trans m9
  have c13 := (f3.2 (a + 10) (by omega)).trans m10
  have c14 := (f3.2 (a + 11) (by omega)).trans m11
  refine z_iconst (q := 11) dX9_takesBack_10 rfl ?_
  refine g_istore_n (ml' := [some (.ref a), some (.int (iZ 0))]) (q := 12) dX9_takesBack_11 rfl (Nat.le_of_ble_eq_true rfl) rfl rfl ?_
  exact l_M_tb w _ σ a (nup I 2 (I 2 - 1)) A (by show 0 ≤ I 2 - 1 ∧ I 2 - 1 ≤ 5; omega) (fun σ2 hM2 hF2 => z_vret dX9_takesBack_46 rfl ⟨rfl, hM2, hF2⟩) 156 0 σ1 (by omega) (by omega) (by rw [zcp_0, nup_id]; exact ⟨c2, c4, c5, c6, c7, c8, c9, c10, c11, c12, c13, c14⟩) (g_Fr.rf.step f3 ⟨by omega, by omega⟩)
theorem r_M_undo (σ : g_H0) (a : Nat) (I : Nat → Int) (A : Nat → Int → Int) (hM : rM a I A σ) (hn : 0 ≤ I 2 ∧ I 2 ≤ 6) : Ret mX9_undo [.ref a] σ (fun r σ' => (I 2 = 0 ∧ r = some (.int (iZ (-2))) ∧ σ' = σ) ∨ (I 2 ≠ 0 ∧ r = some (.int (iZ (I 2 - 1))) ∧ rM a (nup I 2 (I 2 - 1)) (nup A 3 (zcp (A 3) (A 4) 0 (156 * (I 2 - 1)) 156)) σ' ∧ g_Fr (mR a) σ σ')) := by
  refine Ret.of moX9_undo.1 (Nat.le_of_ble_eq_true rfl) (fun w => ?_)
  obtain ⟨m0, m1, m2, m3, m4, m5, m6, m7, m8, m9, m10, m11⟩ := id hM
  show Go w mX9_undo (0, 0) 0 [some (.ref a)] [] σ (fun r σ' => (I 2 = 0 ∧ r = some (.int (iZ (-2))) ∧ σ' = σ) ∨ (I 2 ≠ 0 ∧ r = some (.int (iZ (I 2 - 1))) ∧ rM a (nup I 2 (I 2 - 1)) (nup A 3 (zcp (A 3) (A 4) 0 (156 * (I 2 - 1)) 156)) σ' ∧ g_Fr (mR a) σ σ'))
  refine g_aload_n (q := 1) dX9_undo_0 rfl rfl ?_
  refine g_get (q := 4) flX9_50 dX9_undo_1 m0 rfl rfl ?_
  refine z_if_ne (t := 10) (q := 7) dX9_undo_4 rfl (by omega) rfl (fun pc1 => ?_) (fun pc1 => ?_)
  · refine g_aload_n (q := 11) dX9_undo_10 rfl rfl ?_
    refine g_callV (As := []) (rest := []) (q := 14) moX9_takesBack lkX9_undo_111 dX9_undo_11 rfl m0 (r_M_takesBack σ a I A hM (by omega)) rfl rfl (Nat.le_of_ble_eq_true rfl) (Nat.le_of_ble_eq_true rfl) (Nat.le_of_ble_eq_true rfl) rfl ?_
    rintro r1 σ1 ⟨rfl, hM1, hF1⟩
    obtain ⟨m0, m1, m2, m3, m4, m5, m6, m7, m8, m9, m10, m11⟩ := id hM1
    have m0 : σ1[a]? = some (.inr (9, [.int (iZ (I 0)), .ref (a + 1), .int (iZ (I 1)), .ref (a + 2), .ref (a + 3), .ref (a + 4), .ref (a + 5), .int (iZ (I 2 - 1)), .ref (a + 6), .ref (a + 7), .ref (a + 8), .int (iZ (I 3)), .int (iZ (I 4)), .ref (a + 9), .ref (a + 10), .ref (a + 11)])) := m0
    show Go w mX9_undo (0, 0) 14 [some (.ref a)] [] σ1 (fun r σ' => (I 2 = 0 ∧ r = some (.int (iZ (-2))) ∧ σ' = σ) ∨ (I 2 ≠ 0 ∧ r = some (.int (iZ (I 2 - 1))) ∧ rM a (nup I 2 (I 2 - 1)) (nup A 3 (zcp (A 3) (A 4) 0 (156 * (I 2 - 1)) 156)) σ' ∧ g_Fr (mR a) σ σ'))
    refine g_aload_n (q := 15) dX9_undo_14 rfl rfl ?_
    refine g_get (q := 18) flX9_50 dX9_undo_15 m0 rfl rfl ?_
    refine z_iret dX9_undo_18 rfl ?_
    exact Or.inr ⟨by omega, rfl, hM1, hF1⟩
  · refine g_bipush (v := iZ (-2)) (q := 9) dX9_undo_7 (by decide) rfl ?_
    refine z_iret dX9_undo_9 rfl ?_
    exact Or.inl ⟨by omega, rfl, rfl⟩
end
section
/-! a HIT, what is open, NIBBLED -/
theorem z01_nar {l : Int} (h : 0 ≤ l ∧ l ≤ 1) : narrow .boolean (.int (iZ l)) = .int (iZ l) := by
  rcases (by omega : l = 0 ∨ l = 1) with rfl | rfl <;> rfl
def mAt (x y a c : Int) : Int := 12 * y + 12 * (c / a) + x + c % a
def mStrS (x y a : Int) : Nat → Int → (Int → Int) → (Int → Int)
  | 0, _, S => S
  | n + 1, c, S => mStrS x y a n (c + 1) (zup S (12 * y + 12 * (c / a) + x + c % a) 1)
def mStrN (x y a : Int) : Nat → Int → (Int → Int) → Int → Int
  | 0, _, _, m => m
  | n + 1, c, S, m => mStrN x y a n (c + 1) (zup S (12 * y + 12 * (c / a) + x + c % a) 1) (m - S (12 * y + 12 * (c / a) + x + c % a) + 1)
def mStrT (T : Int → Int) (k : Int) (S : Int → Int) : Int → Int :=
  zup (zup (zup (zup S (k + 144) (S (k + 144) + 1)) 153 (zup S (k + 144) (S (k + 144) + 1) 153 + 1)) 154 (zup (zup S (k + 144) (S (k + 144) + 1)) 153 (zup S (k + 144) (S (k + 144) + 1) 153 + 1) 154 + mRing T (S 150) k)) 150 k
def mStr (T S : Int → Int) (k x y t : Int) : Int → Int := mStrT T k (mStrS x y (mWide T k t) (mWide T k t * mHigh T k t).toNat 0 S)
def mCutF (S : Int → Int) (x y a : Int) : Nat → Int → Int → Int
  | 0, _, l => l
  | n + 1, c, l => mCutF S x y a n (c + 1) (if l = 1 ∧ S (12 * y + 12 * (c / a) + x + c % a) = 1 then 1 else 0)
def mOpenF (T S : Int → Int) (h : Int) : Nat → Int → Int → Int
  | 0, _, m => m
  | n + 1, c, m => mOpenF T S h n (c + 1) (m + (if mHole T (c % 12) (c / 12) = h then 1 - S c else 0))
def mOpen (T S : Int → Int) (h : Int) : Int := mOpenF T S h 144 0 0
def mNib (T : Int → Int) (h k t : Int) : Int :=
  if (t = 0 ∨ T (4 * k + 7) = 1) ∧ mWide T k t ≤ T (4 * h + 31) ∧ mHigh T k t ≤ T (4 * h + 32) then ((T (4 * h + 31) + mWide T k t - 1) / mWide T k t) * ((T (4 * h + 32) + mHigh T k t - 1) / mHigh T k t) else -4
theorem mCutF_b (S : Int → Int) (x y a : Int) : ∀ (n : Nat) (c l : Int), (0 ≤ l ∧ l ≤ 1) → 0 ≤ mCutF S x y a n c l ∧ mCutF S x y a n c l ≤ 1
  | 0, c, l, h => h
  | n + 1, c, l, h => by unfold mCutF; exact mCutF_b S x y a n _ _ (by split <;> omega)
theorem mOpenF_b (T S : Int → Int) (h : Int) (hS : ∀ c, 0 ≤ c → c < 144 → 0 ≤ S c ∧ S c ≤ 1) : ∀ (n : Nat) (c m : Int), 0 ≤ c → c + n ≤ 144 → m ≤ mOpenF T S h n c m ∧ mOpenF T S h n c m ≤ m + n
  | 0, c, m, _, _ => by unfold mOpenF; omega
  | n + 1, c, m, h0, h1 => by
    have hc := hS c h0 (by omega)
    have := mOpenF_b T S h hS n (c + 1) (m + (if mHole T (c % 12) (c / 12) = h then 1 - S c else 0)) (by omega) (by omega)
    unfold mOpenF
    split at this <;> (split <;> omega)
theorem mOpen_b (T S : Int → Int) (h : Int) (hS : ∀ c, 0 ≤ c → c < 144 → 0 ≤ S c ∧ S c ≤ 1) : 0 ≤ mOpen T S h ∧ mOpen T S h ≤ 144 := by
  have := mOpenF_b T S h hS 144 0 0 (by omega) (by omega)
  unfold mOpen; omega
theorem l_M_strikes (w : g_W) (Φ : g_Post) (σ0 : g_H0) (a : Nat) (I : Nat → Int) (A : Nat → Int → Int) (k x y t : Int) (bk : 0 ≤ k ∧ k < 6) (b_x : 0 ≤ x ∧ x < 1000) (b_y : 0 ≤ y ∧ y < 1000) (b_t : 0 ≤ t ∧ t ≤ 1) (bT : zBd (A 1) 1000) (hw : 1 ≤ (mWide (A 1) k t) ∧ (mWide (A 1) k t) ≤ 6) (hh : 1 ≤ (mHigh (A 1) k t) ∧ (mHigh (A 1) k t) ≤ 6) (hcx : x + (mWide (A 1) k t) - 1 < 12) (hcy : y + (mHigh (A 1) k t) - 1 < 12) (Sf : Int → Int) (mf : Int) (K : ∀ σ : g_H0, rM a I (nup A 3 Sf) σ → g_Fr (mR a) σ0 σ → Go w mX9_strikes (0, 0) 78 [some (.ref a), some (.int (iZ k)), some (.int (iZ x)), some (.int (iZ y)), some (.int (iZ t)), some (.int (iZ (mWide (A 1) k t))), some (.int (iZ mf)), none, none] [] σ Φ) : ∀ (n : Nat) (c m : Int) (S : Int → Int) (σ : g_H0), 0 ≤ c → c + n = (mWide (A 1) k t) * (mHigh (A 1) k t) → mStrS x y (mWide (A 1) k t) n c S = Sf → mStrN x y (mWide (A 1) k t) n c S m = mf → rM a I (nup A 3 S) σ → g_Fr (mR a) σ0 σ → Go w mX9_strikes (0, 0) 15 [some (.ref a), some (.int (iZ k)), some (.int (iZ x)), some (.int (iZ y)), some (.int (iZ t)), some (.int (iZ (mWide (A 1) k t))), some (.int (iZ m)), some (.int (iZ c)), none] [] σ Φ := by
  intro n
  induction n with
  | zero =>
    intro c m S σ hc hcn hSf hmf hM hF
    obtain ⟨m0, m1, m2, m3, m4, m5, m6, m7, m8, m9, m10, m11⟩ := id hM
    have m4 : σ[a + 4]? = some (.inl (0, 156, .inl (zA S))) := m4
    have hab := zmul36 hw hh
    refine g_iload (q := 17) dX9_strikes_15 rfl rfl ?_
    refine g_iload (q := 19) dX9_strikes_17 rfl rfl ?_
    refine g_aload_n (q := 20) dX9_strikes_19 rfl rfl ?_
    refine g_iload_n (q := 21) dX9_strikes_20 rfl rfl ?_
    refine g_iload (q := 23) dX9_strikes_21 rfl rfl ?_
    refine g_callV (As := [.int (iZ k), .int (iZ t)]) (rest := [.int (iZ (mWide (A 1) k t)), .int (iZ c)]) (q := 26) moX9_high lkX9_strikes_118 dX9_strikes_23 rfl m0 (r_M_high σ a I (nup A 3 S) hM k t (by omega) (by omega) bT) rfl rfl (Nat.le_of_ble_eq_true rfl) (Nat.le_of_ble_eq_true rfl) (Nat.le_of_ble_eq_true rfl) rfl ?_
    rintro r1 s1 hp
    rw [hp.1, hp.2]
    show Go w mX9_strikes (0, 0) 26 [some (.ref a), some (.int (iZ k)), some (.int (iZ x)), some (.int (iZ y)), some (.int (iZ t)), some (.int (iZ (mWide (A 1) k t))), some (.int (iZ m)), some (.int (iZ c)), none] [.int (iZ (mHigh (A 1) k t)), .int (iZ (mWide (A 1) k t)), .int (iZ c)] σ Φ
    refine z_imul (q := 27) dX9_strikes_26 rfl ?_
    refine z_icmp_ge (t := 78) (q := 30) dX9_strikes_27 rfl (by omega) rfl (fun pc1 => ?_) (fun pc1 => ?_)
    · refine Go.wk (ml' := [some (.ref a), some (.int (iZ k)), some (.int (iZ x)), some (.int (iZ y)), some (.int (iZ t)), some (.int (iZ (mWide (A 1) k t))), some (.int (iZ m)), none, none]) ⟨Or.inr rfl, Or.inr rfl, Or.inr rfl, Or.inr rfl, Or.inr rfl, Or.inr rfl, Or.inr rfl, Or.inl rfl, Or.inl rfl, trivial⟩ ?_
      subst hSf; subst hmf
      exact K σ hM hF
    · have dm := zdm (c := c) (a := (mWide (A 1) k t)) (b := (mHigh (A 1) k t)) (by omega) (by omega) (by omega)
      exfalso
      omega
  | succ n ih =>
    intro c m S σ hc hcn hSf hmf hM hF
    obtain ⟨m0, m1, m2, m3, m4, m5, m6, m7, m8, m9, m10, m11⟩ := id hM
    have m4 : σ[a + 4]? = some (.inl (0, 156, .inl (zA S))) := m4
    have hab := zmul36 hw hh
    refine g_iload (q := 17) dX9_strikes_15 rfl rfl ?_
    refine g_iload (q := 19) dX9_strikes_17 rfl rfl ?_
    refine g_aload_n (q := 20) dX9_strikes_19 rfl rfl ?_
    refine g_iload_n (q := 21) dX9_strikes_20 rfl rfl ?_
    refine g_iload (q := 23) dX9_strikes_21 rfl rfl ?_
    refine g_callV (As := [.int (iZ k), .int (iZ t)]) (rest := [.int (iZ (mWide (A 1) k t)), .int (iZ c)]) (q := 26) moX9_high lkX9_strikes_118 dX9_strikes_23 rfl m0 (r_M_high σ a I (nup A 3 S) hM k t (by omega) (by omega) bT) rfl rfl (Nat.le_of_ble_eq_true rfl) (Nat.le_of_ble_eq_true rfl) (Nat.le_of_ble_eq_true rfl) rfl ?_
    rintro r1 s1 hp
    rw [hp.1, hp.2]
    show Go w mX9_strikes (0, 0) 26 [some (.ref a), some (.int (iZ k)), some (.int (iZ x)), some (.int (iZ y)), some (.int (iZ t)), some (.int (iZ (mWide (A 1) k t))), some (.int (iZ m)), some (.int (iZ c)), none] [.int (iZ (mHigh (A 1) k t)), .int (iZ (mWide (A 1) k t)), .int (iZ c)] σ Φ
    refine z_imul (q := 27) dX9_strikes_26 rfl ?_
    refine z_icmp_ge (t := 78) (q := 30) dX9_strikes_27 rfl (by omega) rfl (fun pc1 => ?_) (fun pc1 => ?_)
    · exfalso
      omega
    · have dm := zdm (c := c) (a := (mWide (A 1) k t)) (b := (mHigh (A 1) k t)) (by omega) (by omega) (by omega)
      refine g_bipush (v := iZ 12) (q := 32) dX9_strikes_30 (by decide) rfl ?_
      refine g_iload_n (q := 33) dX9_strikes_32 rfl rfl ?_
      refine g_iload (q := 35) dX9_strikes_33 rfl rfl ?_
      refine g_iload (q := 37) dX9_strikes_35 rfl rfl ?_
      refine z_idiv (q := 38) dX9_strikes_37 (by omega) rfl ?_
      refine z_iadd (q := 39) dX9_strikes_38 rfl ?_
      refine z_imulc (c := (12 * y + 12 * (c / (mWide (A 1) k t)))) (q := 40) dX9_strikes_39 (by omega) rfl ?_
      refine g_iload_n (q := 41) dX9_strikes_40 rfl rfl ?_
      refine z_iaddc (c := (12 * y + 12 * (c / (mWide (A 1) k t)) + x)) (q := 42) dX9_strikes_41 (by omega) rfl ?_
      refine g_iload (q := 44) dX9_strikes_42 rfl rfl ?_
      refine g_iload (q := 46) dX9_strikes_44 rfl rfl ?_
      refine z_irem (q := 47) dX9_strikes_46 (by omega) rfl ?_
      refine z_iaddc (c := (12 * y + 12 * (c / (mWide (A 1) k t)) + x + (c % (mWide (A 1) k t)))) (q := 48) dX9_strikes_47 (by omega) rfl ?_
      refine g_istore (ml' := [some (.ref a), some (.int (iZ k)), some (.int (iZ x)), some (.int (iZ y)), some (.int (iZ t)), some (.int (iZ (mWide (A 1) k t))), some (.int (iZ m)), some (.int (iZ c)), some (.int (iZ (12 * y + 12 * (c / (mWide (A 1) k t)) + x + (c % (mWide (A 1) k t)))))]) (q := 50) dX9_strikes_48 rfl (Nat.le_of_ble_eq_true rfl) rfl rfl ?_
      refine g_iload (q := 52) dX9_strikes_50 rfl rfl ?_
      refine z_iconst (q := 53) dX9_strikes_52 rfl ?_
      refine g_aload_n (q := 54) dX9_strikes_53 rfl rfl ?_
      refine g_get (q := 57) flX9_19 dX9_strikes_54 m0 rfl rfl ?_
      refine g_iload (q := 59) dX9_strikes_57 rfl rfl ?_
      refine z_iald (q := 60) dX9_strikes_59 m4 (by omega) rfl ?_
      refine z_isubc (c := (-(S (12 * y + 12 * (c / (mWide (A 1) k t)) + x + (c % (mWide (A 1) k t)))) + 1)) (q := 61) dX9_strikes_60 (by omega) rfl ?_
      refine z_iaddc (c := (m - (S (12 * y + 12 * (c / (mWide (A 1) k t)) + x + (c % (mWide (A 1) k t)))) + 1)) (q := 62) dX9_strikes_61 (by omega) rfl ?_
      refine g_istore (ml' := [some (.ref a), some (.int (iZ k)), some (.int (iZ x)), some (.int (iZ y)), some (.int (iZ t)), some (.int (iZ (mWide (A 1) k t))), some (.int (iZ (m - (S (12 * y + 12 * (c / (mWide (A 1) k t)) + x + (c % (mWide (A 1) k t)))) + 1))), some (.int (iZ c)), some (.int (iZ (12 * y + 12 * (c / (mWide (A 1) k t)) + x + (c % (mWide (A 1) k t)))))]) (q := 64) dX9_strikes_62 rfl (Nat.le_of_ble_eq_true rfl) rfl rfl ?_
      refine g_aload_n (q := 65) dX9_strikes_64 rfl rfl ?_
      refine g_get (q := 68) flX9_19 dX9_strikes_65 m0 rfl rfl ?_
      refine g_iload (q := 70) dX9_strikes_68 rfl rfl ?_
      refine z_iconst (q := 71) dX9_strikes_70 rfl ?_
      refine z_iast (q := 72) dX9_strikes_71 m4 (by omega) rfl (fun σ2 c3 f4 => ?_)
      have c5 := (f4.2 a (by omega)).trans m0
      have c6 := (f4.2 (a + 1) (by omega)).trans m1
      have c7 := (f4.2 (a + 2) (by omega)).trans m2
      have c8 := (f4.2 (a + 3) (by omega)).trans m3
      have c9 := (f4.2 (a + 5) (by omega)).trans m5
      have c10 := (f4.2 (a + 6) (by omega)).trans m6
      have c11 := (f4.2 (a + 7) (by omega)).trans m7
      have c12 := (f4.2 (a + 8) (by omega)).trans m8
      have c13 := (f4.2 (a + 9) (by omega)).trans m9
      have c14 := (f4.2 (a + 10) (by omega)).trans m10
      have c15 := (f4.2 (a + 11) (by omega)).trans m11
      refine z_iincc (c := (c + 1)) (ml' := [some (.ref a), some (.int (iZ k)), some (.int (iZ x)), some (.int (iZ y)), some (.int (iZ t)), some (.int (iZ (mWide (A 1) k t))), some (.int (iZ (m - (S (12 * y + 12 * (c / (mWide (A 1) k t)) + x + (c % (mWide (A 1) k t)))) + 1))), some (.int (iZ (c + 1))), some (.int (iZ (12 * y + 12 * (c / (mWide (A 1) k t)) + x + (c % (mWide (A 1) k t)))))]) (q := 75) dX9_strikes_72 rfl (by omega) rfl rfl rfl ?_
      refine g_goto (q := 15) dX9_strikes_75 rfl ?_
      refine Go.wk (ml' := [some (.ref a), some (.int (iZ k)), some (.int (iZ x)), some (.int (iZ y)), some (.int (iZ t)), some (.int (iZ (mWide (A 1) k t))), some (.int (iZ (m - (S (12 * y + 12 * (c / (mWide (A 1) k t)) + x + (c % (mWide (A 1) k t)))) + 1))), some (.int (iZ (c + 1))), none]) ⟨Or.inr rfl, Or.inr rfl, Or.inr rfl, Or.inr rfl, Or.inr rfl, Or.inr rfl, Or.inr rfl, Or.inr rfl, Or.inl rfl, trivial⟩ ?_
      exact ih (c + 1) (m - (S (12 * y + 12 * (c / (mWide (A 1) k t)) + x + (c % (mWide (A 1) k t)))) + 1) _ σ2 (by omega) (by omega) hSf hmf ⟨c5, c6, c7, c8, c3, c9, c10, c11, c12, c13, c14, c15⟩ (hF.step f4 ⟨by omega, by omega⟩)
theorem r_M_strikes (σ : g_H0) (a : Nat) (I : Nat → Int) (A : Nat → Int → Int) (hM : rM a I A σ) (k x y t : Int) (bk : 0 ≤ k ∧ k < 6) (b_x : 0 ≤ x ∧ x < 1000) (b_y : 0 ≤ y ∧ y < 1000) (b_t : 0 ≤ t ∧ t ≤ 1) (bT : zBd (A 1) 1000) (hw : 1 ≤ (mWide (A 1) k t) ∧ (mWide (A 1) k t) ≤ 6) (hh : 1 ≤ (mHigh (A 1) k t) ∧ (mHigh (A 1) k t) ≤ 6) (hcx : x + (mWide (A 1) k t) - 1 < 12) (hcy : y + (mHigh (A 1) k t) - 1 < 12) (hS150 : (mStrS x y (mWide (A 1) k t) ((mWide (A 1) k t) * (mHigh (A 1) k t)).toNat 0 (A 3)) 150 = A 3 150 ∧ 0 ≤ A 3 150 ∧ A 3 150 < 6) : Ret mX9_strikes [.ref a, .int (iZ k), .int (iZ x), .int (iZ y), .int (iZ t)] σ (fun r σ' => r = some (.int (iZ (mStrN x y (mWide (A 1) k t) ((mWide (A 1) k t) * (mHigh (A 1) k t)).toNat 0 (A 3) 0))) ∧ rM a I (nup A 3 (mStr (A 1) (A 3) k x y t)) σ' ∧ g_Fr (mR a) σ σ') := by
  refine Ret.of moX9_strikes.1 (Nat.le_of_ble_eq_true rfl) (fun w => ?_)
  obtain ⟨m0, m1, m2, m3, m4, m5, m6, m7, m8, m9, m10, m11⟩ := id hM
  show Go w mX9_strikes (0, 0) 0 [some (.ref a), some (.int (iZ k)), some (.int (iZ x)), some (.int (iZ y)), some (.int (iZ t)), none, none, none, none] [] σ (fun r σ' => r = some (.int (iZ (mStrN x y (mWide (A 1) k t) ((mWide (A 1) k t) * (mHigh (A 1) k t)).toNat 0 (A 3) 0))) ∧ rM a I (nup A 3 (mStr (A 1) (A 3) k x y t)) σ' ∧ g_Fr (mR a) σ σ')
  refine g_aload_n (q := 1) dX9_strikes_0 rfl rfl ?_
  refine g_iload_n (q := 2) dX9_strikes_1 rfl rfl ?_
  refine g_iload (q := 4) dX9_strikes_2 rfl rfl ?_
  refine g_callV (As := [.int (iZ k), .int (iZ t)]) (rest := []) (q := 7) moX9_wide lkX9_strikes_114 dX9_strikes_4 rfl m0 (r_M_wide σ a I A hM k t (by omega) (by omega) bT) rfl rfl (Nat.le_of_ble_eq_true rfl) (Nat.le_of_ble_eq_true rfl) (Nat.le_of_ble_eq_true rfl) rfl ?_
  rintro r1 s1 hp
  rw [hp.1, hp.2]
  show Go w mX9_strikes (0, 0) 7 [some (.ref a), some (.int (iZ k)), some (.int (iZ x)), some (.int (iZ y)), some (.int (iZ t)), none, none, none, none] [.int (iZ (mWide (A 1) k t))] σ (fun r σ' => r = some (.int (iZ (mStrN x y (mWide (A 1) k t) ((mWide (A 1) k t) * (mHigh (A 1) k t)).toNat 0 (A 3) 0))) ∧ rM a I (nup A 3 (mStr (A 1) (A 3) k x y t)) σ' ∧ g_Fr (mR a) σ σ')
  refine g_istore (ml' := [some (.ref a), some (.int (iZ k)), some (.int (iZ x)), some (.int (iZ y)), some (.int (iZ t)), some (.int (iZ (mWide (A 1) k t))), none, none, none]) (q := 9) dX9_strikes_7 rfl (Nat.le_of_ble_eq_true rfl) rfl rfl ?_
  refine z_iconst (q := 10) dX9_strikes_9 rfl ?_
  refine g_istore (ml' := [some (.ref a), some (.int (iZ k)), some (.int (iZ x)), some (.int (iZ y)), some (.int (iZ t)), some (.int (iZ (mWide (A 1) k t))), some (.int (iZ 0)), none, none]) (q := 12) dX9_strikes_10 rfl (Nat.le_of_ble_eq_true rfl) rfl rfl ?_
  refine z_iconst (q := 13) dX9_strikes_12 rfl ?_
  refine g_istore (ml' := [some (.ref a), some (.int (iZ k)), some (.int (iZ x)), some (.int (iZ y)), some (.int (iZ t)), some (.int (iZ (mWide (A 1) k t))), some (.int (iZ 0)), some (.int (iZ 0)), none]) (q := 15) dX9_strikes_13 rfl (Nat.le_of_ble_eq_true rfl) rfl rfl ?_
  refine l_M_strikes w _ σ a I A k x y t bk b_x b_y b_t bT hw hh hcx hcy (mStrS x y (mWide (A 1) k t) ((mWide (A 1) k t) * (mHigh (A 1) k t)).toNat 0 (A 3)) (mStrN x y (mWide (A 1) k t) ((mWide (A 1) k t) * (mHigh (A 1) k t)).toNat 0 (A 3) 0) (fun σ hM hF => ?_) ((mWide (A 1) k t) * (mHigh (A 1) k t)).toNat 0 0 (A 3) σ (by omega) (by have := zmul36 hw hh; omega) rfl rfl (by rw [nup_id]; exact hM) g_Fr.rf
  have e150 := hS150
  obtain ⟨m0, m1, m2, m3, m4, m5, m6, m7, m8, m9, m10, m11⟩ := id hM
  have m4 : σ[a + 4]? = some (.inl (0, 156, .inl (zA (mStrS x y (mWide (A 1) k t) ((mWide (A 1) k t) * (mHigh (A 1) k t)).toNat 0 (A 3))))) := m4
  refine g_aload_n (q := 79) dX9_strikes_78 rfl rfl ?_
  refine g_get (q := 82) flX9_19 dX9_strikes_79 m0 rfl rfl ?_
  refine g_sipush (v := iZ 144) (q := 85) dX9_strikes_82 (by decide) rfl ?_
  refine g_iload_n (q := 86) dX9_strikes_85 rfl rfl ?_
  refine z_iaddc (c := (k + 144)) (q := 87) dX9_strikes_86 (by omega) rfl ?_
  refine g_dup2 (q := 88) dX9_strikes_87 rfl rfl rfl ?_
  refine z_iald (q := 89) dX9_strikes_88 m4 (by omega) rfl ?_
  refine z_iconst (q := 90) dX9_strikes_89 rfl ?_
  refine z_iadd (q := 91) dX9_strikes_90 rfl ?_
  refine z_iast (q := 92) dX9_strikes_91 m4 (by omega) rfl (fun σ1 c2 f3 => ?_)
  have c4 := (f3.2 a (by omega)).trans m0
  have c5 := (f3.2 (a + 1) (by omega)).trans m1
  have c6 := (f3.2 (a + 2) (by omega)).trans m2
  have c7 := (f3.2 (a + 3) (by omega)).trans m3
  have c8 := (f3.2 (a + 5) (by omega)).trans m5
  have c9 := (f3.2 (a + 6) (by omega)).trans m6
  have c10 := (f3.2 (a + 7) (by omega)).trans m7
  have c11 := (f3.2 (a + 8) (by omega)).trans m8
  have c12 := (f3.2 (a + 9) (by omega)).trans m9
  have c13 := (f3.2 (a + 10) (by omega)).trans m10
  have c14 := (f3.2 (a + 11) (by omega)).trans m11
  refine g_aload_n (q := 93) dX9_strikes_92 rfl rfl ?_
  refine g_get (q := 96) flX9_19 dX9_strikes_93 c4 rfl rfl ?_
  refine g_sipush (v := iZ 153) (q := 99) dX9_strikes_96 (by decide) rfl ?_
  refine g_dup2 (q := 100) dX9_strikes_99 rfl rfl rfl ?_
  refine z_iald (q := 101) dX9_strikes_100 c2 (by omega) rfl ?_
  refine z_iconst (q := 102) dX9_strikes_101 rfl ?_
  refine z_iadd (q := 103) dX9_strikes_102 rfl ?_
  refine z_iast (q := 104) dX9_strikes_103 c2 (by omega) rfl (fun σ15 c16 f17 => ?_)
  have c18 := (f17.2 a (by omega)).trans c4
  have c19 := (f17.2 (a + 1) (by omega)).trans c5
  have c20 := (f17.2 (a + 2) (by omega)).trans c6
  have c21 := (f17.2 (a + 3) (by omega)).trans c7
  have c22 := (f17.2 (a + 5) (by omega)).trans c8
  have c23 := (f17.2 (a + 6) (by omega)).trans c9
  have c24 := (f17.2 (a + 7) (by omega)).trans c10
  have c25 := (f17.2 (a + 8) (by omega)).trans c11
  have c26 := (f17.2 (a + 9) (by omega)).trans c12
  have c27 := (f17.2 (a + 10) (by omega)).trans c13
  have c28 := (f17.2 (a + 11) (by omega)).trans c14
  refine g_aload_n (q := 105) dX9_strikes_104 rfl rfl ?_
  refine g_get (q := 108) flX9_19 dX9_strikes_105 c18 rfl rfl ?_
  refine g_sipush (v := iZ 154) (q := 111) dX9_strikes_108 (by decide) rfl ?_
  refine g_dup2 (q := 112) dX9_strikes_111 rfl rfl rfl ?_
  refine z_iald (q := 113) dX9_strikes_112 c16 (by omega) rfl ?_
  refine g_aload_n (q := 114) dX9_strikes_113 rfl rfl ?_
  refine g_aload_n (q := 115) dX9_strikes_114 rfl rfl ?_
  refine g_get (q := 118) flX9_19 dX9_strikes_115 c18 rfl rfl ?_
  refine g_sipush (v := iZ 150) (q := 121) dX9_strikes_118 (by decide) rfl ?_
  refine z_iald (q := 122) dX9_strikes_121 c16 (by omega) rfl ?_
  have e15 : ((zup (zup (mStrS x y (mWide (A 1) k t) ((mWide (A 1) k t) * (mHigh (A 1) k t)).toNat 0 (A 3)) (k + 144) (((mStrS x y (mWide (A 1) k t) ((mWide (A 1) k t) * (mHigh (A 1) k t)).toNat 0 (A 3)) (k + 144)) + 1)) 153 (((zup (mStrS x y (mWide (A 1) k t) ((mWide (A 1) k t) * (mHigh (A 1) k t)).toNat 0 (A 3)) (k + 144) (((mStrS x y (mWide (A 1) k t) ((mWide (A 1) k t) * (mHigh (A 1) k t)).toNat 0 (A 3)) (k + 144)) + 1)) 153) + 1)) 150) = A 3 150 := by rw [zup_ne _ _ (by omega), zup_ne _ _ (by omega)]; exact hS150.1
  rw [e15]
  refine g_iload_n (q := 123) dX9_strikes_122 rfl rfl ?_
  have hN : rM a I (nup A 3 (zup (zup (mStrS x y (mWide (A 1) k t) ((mWide (A 1) k t) * (mHigh (A 1) k t)).toNat 0 (A 3)) (k + 144) (((mStrS x y (mWide (A 1) k t) ((mWide (A 1) k t) * (mHigh (A 1) k t)).toNat 0 (A 3)) (k + 144)) + 1)) 153 (((zup (mStrS x y (mWide (A 1) k t) ((mWide (A 1) k t) * (mHigh (A 1) k t)).toNat 0 (A 3)) (k + 144) (((mStrS x y (mWide (A 1) k t) ((mWide (A 1) k t) * (mHigh (A 1) k t)).toNat 0 (A 3)) (k + 144)) + 1)) 153) + 1))) σ15 := ⟨c18, c19, c20, c21, c16, c22, c23, c24, c25, c26, c27, c28⟩
  refine g_callV (As := [.int (iZ (A 3 150)), .int (iZ k)]) (rest := [.int (iZ ((zup (zup (mStrS x y (mWide (A 1) k t) ((mWide (A 1) k t) * (mHigh (A 1) k t)).toNat 0 (A 3)) (k + 144) (((mStrS x y (mWide (A 1) k t) ((mWide (A 1) k t) * (mHigh (A 1) k t)).toNat 0 (A 3)) (k + 144)) + 1)) 153 (((zup (mStrS x y (mWide (A 1) k t) ((mWide (A 1) k t) * (mHigh (A 1) k t)).toNat 0 (A 3)) (k + 144) (((mStrS x y (mWide (A 1) k t) ((mWide (A 1) k t) * (mHigh (A 1) k t)).toNat 0 (A 3)) (k + 144)) + 1)) 153) + 1)) 154)), .int (iZ 154), .ref (a + 4)]) (q := 126) moX9_ring lkX9_strikes_143 dX9_strikes_123 rfl c18 (r_M_ring σ15 a I _ hN (A 3 150) k (by omega) (by omega) bT) rfl rfl (Nat.le_of_ble_eq_true rfl) (Nat.le_of_ble_eq_true rfl) (Nat.le_of_ble_eq_true rfl) rfl ?_
  rintro r1 s1 hp
  rw [hp.1, hp.2]
  show Go w mX9_strikes (0, 0) 126 [some (.ref a), some (.int (iZ k)), some (.int (iZ x)), some (.int (iZ y)), some (.int (iZ t)), some (.int (iZ (mWide (A 1) k t))), some (.int (iZ (mStrN x y (mWide (A 1) k t) ((mWide (A 1) k t) * (mHigh (A 1) k t)).toNat 0 (A 3) 0))), none, none] [.int (iZ (mRing (A 1) (A 3 150) k)), .int (iZ ((zup (zup (mStrS x y (mWide (A 1) k t) ((mWide (A 1) k t) * (mHigh (A 1) k t)).toNat 0 (A 3)) (k + 144) (((mStrS x y (mWide (A 1) k t) ((mWide (A 1) k t) * (mHigh (A 1) k t)).toNat 0 (A 3)) (k + 144)) + 1)) 153 (((zup (mStrS x y (mWide (A 1) k t) ((mWide (A 1) k t) * (mHigh (A 1) k t)).toNat 0 (A 3)) (k + 144) (((mStrS x y (mWide (A 1) k t) ((mWide (A 1) k t) * (mHigh (A 1) k t)).toNat 0 (A 3)) (k + 144)) + 1)) 153) + 1)) 154)), .int (iZ 154), .ref (a + 4)] σ15 _
  refine z_iadd (q := 127) dX9_strikes_126 rfl ?_
  refine z_iast (q := 128) dX9_strikes_127 c16 (by omega) rfl (fun σ29 c30 f31 => ?_)
  have c32 := (f31.2 a (by omega)).trans c18
  have c33 := (f31.2 (a + 1) (by omega)).trans c19
  have c34 := (f31.2 (a + 2) (by omega)).trans c20
  have c35 := (f31.2 (a + 3) (by omega)).trans c21
  have c36 := (f31.2 (a + 5) (by omega)).trans c22
  have c37 := (f31.2 (a + 6) (by omega)).trans c23
  have c38 := (f31.2 (a + 7) (by omega)).trans c24
  have c39 := (f31.2 (a + 8) (by omega)).trans c25
  have c40 := (f31.2 (a + 9) (by omega)).trans c26
  have c41 := (f31.2 (a + 10) (by omega)).trans c27
  have c42 := (f31.2 (a + 11) (by omega)).trans c28
  refine g_aload_n (q := 129) dX9_strikes_128 rfl rfl ?_
  refine g_get (q := 132) flX9_19 dX9_strikes_129 c32 rfl rfl ?_
  refine g_sipush (v := iZ 150) (q := 135) dX9_strikes_132 (by decide) rfl ?_
  refine g_iload_n (q := 136) dX9_strikes_135 rfl rfl ?_
  refine z_iast (q := 137) dX9_strikes_136 c30 (by omega) rfl (fun σ43 c44 f45 => ?_)
  have c46 := (f45.2 a (by omega)).trans c32
  have c47 := (f45.2 (a + 1) (by omega)).trans c33
  have c48 := (f45.2 (a + 2) (by omega)).trans c34
  have c49 := (f45.2 (a + 3) (by omega)).trans c35
  have c50 := (f45.2 (a + 5) (by omega)).trans c36
  have c51 := (f45.2 (a + 6) (by omega)).trans c37
  have c52 := (f45.2 (a + 7) (by omega)).trans c38
  have c53 := (f45.2 (a + 8) (by omega)).trans c39
  have c54 := (f45.2 (a + 9) (by omega)).trans c40
  have c55 := (f45.2 (a + 10) (by omega)).trans c41
  have c56 := (f45.2 (a + 11) (by omega)).trans c42
  refine g_iload (q := 139) dX9_strikes_137 rfl rfl ?_
  refine z_iret dX9_strikes_139 rfl ?_
  refine ⟨rfl, ?_, ((((hF.step f3 ⟨by omega, by omega⟩).step f17 ⟨by omega, by omega⟩).step f31 ⟨by omega, by omega⟩).step f45 ⟨by omega, by omega⟩)⟩
  have hN : rM a I (nup A 3 (zup (zup (zup (zup (mStrS x y (mWide (A 1) k t) ((mWide (A 1) k t) * (mHigh (A 1) k t)).toNat 0 (A 3)) (k + 144) (((mStrS x y (mWide (A 1) k t) ((mWide (A 1) k t) * (mHigh (A 1) k t)).toNat 0 (A 3)) (k + 144)) + 1)) 153 (((zup (mStrS x y (mWide (A 1) k t) ((mWide (A 1) k t) * (mHigh (A 1) k t)).toNat 0 (A 3)) (k + 144) (((mStrS x y (mWide (A 1) k t) ((mWide (A 1) k t) * (mHigh (A 1) k t)).toNat 0 (A 3)) (k + 144)) + 1)) 153) + 1)) 154 (((zup (zup (mStrS x y (mWide (A 1) k t) ((mWide (A 1) k t) * (mHigh (A 1) k t)).toNat 0 (A 3)) (k + 144) (((mStrS x y (mWide (A 1) k t) ((mWide (A 1) k t) * (mHigh (A 1) k t)).toNat 0 (A 3)) (k + 144)) + 1)) 153 (((zup (mStrS x y (mWide (A 1) k t) ((mWide (A 1) k t) * (mHigh (A 1) k t)).toNat 0 (A 3)) (k + 144) (((mStrS x y (mWide (A 1) k t) ((mWide (A 1) k t) * (mHigh (A 1) k t)).toNat 0 (A 3)) (k + 144)) + 1)) 153) + 1)) 154) + (mRing (A 1) (A 3 150) k))) 150 k)) σ43 := ⟨c46, c47, c48, c49, c44, c50, c51, c52, c53, c54, c55, c56⟩
  refine hN.congr (fun j _ => rfl) (fun j _ => ?_)
  unfold mStr mStrT; rw [hS150.1]
theorem l_M_isCut (w : g_W) (σ : g_H0) (a : Nat) (I : Nat → Int) (A : Nat → Int → Int) (hM : rM a I A σ) (k x y t : Int) (bk : 0 ≤ k ∧ k < 6) (b_x : 0 ≤ x ∧ x < 1000) (b_y : 0 ≤ y ∧ y < 1000) (b_t : 0 ≤ t ∧ t ≤ 1) (bT : zBd (A 1) 1000) (bS : zBs (A 3)) (hw : 1 ≤ (mWide (A 1) k t) ∧ (mWide (A 1) k t) ≤ 6) (hh : 1 ≤ (mHigh (A 1) k t) ∧ (mHigh (A 1) k t) ≤ 6) (hcx : x + (mWide (A 1) k t) - 1 < 12) (hcy : y + (mHigh (A 1) k t) - 1 < 12) : ∀ (n : Nat) (c l : Int), 0 ≤ c → c + n = (mWide (A 1) k t) * (mHigh (A 1) k t) → (0 ≤ l ∧ l ≤ 1) → Go w mX9_isCut (0, 0) 15 [some (.ref a), some (.int (iZ k)), some (.int (iZ x)), some (.int (iZ y)), some (.int (iZ t)), some (.int (iZ (mWide (A 1) k t))), some (.int (iZ l)), some (.int (iZ c))] [] σ (fun r σ' => r = some (.int (iZ (mCutF (A 3) x y (mWide (A 1) k t) n c l))) ∧ σ' = σ) := by
  intro n
  induction n with
  | zero =>
    intro c l hc hcn hl
    obtain ⟨m0, m1, m2, m3, m4, m5, m6, m7, m8, m9, m10, m11⟩ := id hM
    have hab := zmul36 hw hh
    refine g_iload (q := 17) dX9_isCut_15 rfl rfl ?_
    refine g_iload (q := 19) dX9_isCut_17 rfl rfl ?_
    refine g_aload_n (q := 20) dX9_isCut_19 rfl rfl ?_
    refine g_iload_n (q := 21) dX9_isCut_20 rfl rfl ?_
    refine g_iload (q := 23) dX9_isCut_21 rfl rfl ?_
    refine g_callV (As := [.int (iZ k), .int (iZ t)]) (rest := [.int (iZ (mWide (A 1) k t)), .int (iZ c)]) (q := 26) moX9_high lkX9_isCut_118 dX9_isCut_23 rfl m0 (r_M_high σ a I A hM k t (by omega) (by omega) bT) rfl rfl (Nat.le_of_ble_eq_true rfl) (Nat.le_of_ble_eq_true rfl) (Nat.le_of_ble_eq_true rfl) rfl ?_
    rintro r1 s1 hp
    rw [hp.1, hp.2]
    show Go w mX9_isCut (0, 0) 26 [some (.ref a), some (.int (iZ k)), some (.int (iZ x)), some (.int (iZ y)), some (.int (iZ t)), some (.int (iZ (mWide (A 1) k t))), some (.int (iZ l)), some (.int (iZ c))] [.int (iZ (mHigh (A 1) k t)), .int (iZ (mWide (A 1) k t)), .int (iZ c)] σ (fun r σ' => r = some (.int (iZ (mCutF (A 3) x y (mWide (A 1) k t) 0 c l))) ∧ σ' = σ)
    refine z_imul (q := 27) dX9_isCut_26 rfl ?_
    refine z_icmp_ge (t := 75) (q := 30) dX9_isCut_27 rfl (by omega) rfl (fun pc1 => ?_) (fun pc1 => ?_)
    · refine g_iload (q := 77) dX9_isCut_75 rfl rfl ?_
      refine z_zret dX9_isCut_77 rfl (z01_nar (by omega)) ?_
      exact ⟨rfl, rfl⟩
    · exfalso
      omega
  | succ n ih =>
    intro c l hc hcn hl
    obtain ⟨m0, m1, m2, m3, m4, m5, m6, m7, m8, m9, m10, m11⟩ := id hM
    have hab := zmul36 hw hh
    refine g_iload (q := 17) dX9_isCut_15 rfl rfl ?_
    refine g_iload (q := 19) dX9_isCut_17 rfl rfl ?_
    refine g_aload_n (q := 20) dX9_isCut_19 rfl rfl ?_
    refine g_iload_n (q := 21) dX9_isCut_20 rfl rfl ?_
    refine g_iload (q := 23) dX9_isCut_21 rfl rfl ?_
    refine g_callV (As := [.int (iZ k), .int (iZ t)]) (rest := [.int (iZ (mWide (A 1) k t)), .int (iZ c)]) (q := 26) moX9_high lkX9_isCut_118 dX9_isCut_23 rfl m0 (r_M_high σ a I A hM k t (by omega) (by omega) bT) rfl rfl (Nat.le_of_ble_eq_true rfl) (Nat.le_of_ble_eq_true rfl) (Nat.le_of_ble_eq_true rfl) rfl ?_
    rintro r1 s1 hp
    rw [hp.1, hp.2]
    show Go w mX9_isCut (0, 0) 26 [some (.ref a), some (.int (iZ k)), some (.int (iZ x)), some (.int (iZ y)), some (.int (iZ t)), some (.int (iZ (mWide (A 1) k t))), some (.int (iZ l)), some (.int (iZ c))] [.int (iZ (mHigh (A 1) k t)), .int (iZ (mWide (A 1) k t)), .int (iZ c)] σ (fun r σ' => r = some (.int (iZ (mCutF (A 3) x y (mWide (A 1) k t) (n + 1) c l))) ∧ σ' = σ)
    refine z_imul (q := 27) dX9_isCut_26 rfl ?_
    refine z_icmp_ge (t := 75) (q := 30) dX9_isCut_27 rfl (by omega) rfl (fun pc1 => ?_) (fun pc1 => ?_)
    · exfalso
      omega
    · have dm := zdm (c := c) (a := (mWide (A 1) k t)) (b := (mHigh (A 1) k t)) (by omega) (by omega) (by omega)
      have J2 : ∀ z3 : Int, z3 = (if l = 1 ∧ A 3 (12 * y + 12 * (c / (mWide (A 1) k t)) + x + (c % (mWide (A 1) k t))) = 1 then 1 else 0) → Go w mX9_isCut (0, 0) 67 [some (.ref a), some (.int (iZ k)), some (.int (iZ x)), some (.int (iZ y)), some (.int (iZ t)), some (.int (iZ (mWide (A 1) k t))), some (.int (iZ l)), some (.int (iZ c))] [.int (iZ z3)] σ (fun r σ' => r = some (.int (iZ (mCutF (A 3) x y (mWide (A 1) k t) (n + 1) c l))) ∧ σ' = σ) := by
        intro z3 e4
        refine g_istore (ml' := [some (.ref a), some (.int (iZ k)), some (.int (iZ x)), some (.int (iZ y)), some (.int (iZ t)), some (.int (iZ (mWide (A 1) k t))), some (.int (iZ z3)), some (.int (iZ c))]) (q := 69) dX9_isCut_67 rfl (Nat.le_of_ble_eq_true rfl) rfl rfl ?_
        refine z_iincc (c := (c + 1)) (ml' := [some (.ref a), some (.int (iZ k)), some (.int (iZ x)), some (.int (iZ y)), some (.int (iZ t)), some (.int (iZ (mWide (A 1) k t))), some (.int (iZ z3)), some (.int (iZ (c + 1)))]) (q := 72) dX9_isCut_69 rfl (by omega) rfl rfl rfl ?_
        refine g_goto (q := 15) dX9_isCut_72 rfl ?_
        refine (ih (c + 1) z3 (by omega) (by omega) (by omega)).mono (fun r σ1 hp => ⟨hp.1.trans ?_, hp.2⟩)
        subst_vars
        rfl
      refine g_iload (q := 32) dX9_isCut_30 rfl rfl ?_
      refine z_if_eq (t := 66) (q := 35) dX9_isCut_32 rfl (by omega) rfl (fun pc5 => ?_) (fun pc5 => ?_)
      · refine z_iconst (q := 67) dX9_isCut_66 rfl ?_
        exact J2 _ (by omega)
      · refine g_aload_n (q := 36) dX9_isCut_35 rfl rfl ?_
        refine g_get (q := 39) flX9_19 dX9_isCut_36 m0 rfl rfl ?_
        refine g_bipush (v := iZ 12) (q := 41) dX9_isCut_39 (by decide) rfl ?_
        refine g_iload_n (q := 42) dX9_isCut_41 rfl rfl ?_
        refine g_iload (q := 44) dX9_isCut_42 rfl rfl ?_
        refine g_iload (q := 46) dX9_isCut_44 rfl rfl ?_
        refine z_idiv (q := 47) dX9_isCut_46 (by omega) rfl ?_
        refine z_iadd (q := 48) dX9_isCut_47 rfl ?_
        refine z_imulc (c := (12 * y + 12 * (c / (mWide (A 1) k t)))) (q := 49) dX9_isCut_48 (by omega) rfl ?_
        refine g_iload_n (q := 50) dX9_isCut_49 rfl rfl ?_
        refine z_iaddc (c := (12 * y + 12 * (c / (mWide (A 1) k t)) + x)) (q := 51) dX9_isCut_50 (by omega) rfl ?_
        refine g_iload (q := 53) dX9_isCut_51 rfl rfl ?_
        refine g_iload (q := 55) dX9_isCut_53 rfl rfl ?_
        refine z_irem (q := 56) dX9_isCut_55 (by omega) rfl ?_
        refine z_iaddc (c := (12 * y + 12 * (c / (mWide (A 1) k t)) + x + (c % (mWide (A 1) k t)))) (q := 57) dX9_isCut_56 (by omega) rfl ?_
        refine z_iald (q := 58) dX9_isCut_57 m4 (by omega) rfl ?_
        have b6 := bS (12 * y + 12 * (c / (mWide (A 1) k t)) + x + (c % (mWide (A 1) k t)))
        refine z_iconst (q := 59) dX9_isCut_58 rfl ?_
        refine z_icmp_ne (t := 66) (q := 62) dX9_isCut_59 rfl (by omega) rfl (fun pc7 => ?_) (fun pc7 => ?_)
        · refine z_iconst (q := 67) dX9_isCut_66 rfl ?_
          exact J2 _ (by omega)
        · refine z_iconst (q := 63) dX9_isCut_62 rfl ?_
          refine g_goto (q := 67) dX9_isCut_63 rfl ?_
          exact J2 _ (by omega)
theorem r_M_isCut (σ : g_H0) (a : Nat) (I : Nat → Int) (A : Nat → Int → Int) (hM : rM a I A σ) (k x y t : Int) (bk : 0 ≤ k ∧ k < 6) (b_x : 0 ≤ x ∧ x < 1000) (b_y : 0 ≤ y ∧ y < 1000) (b_t : 0 ≤ t ∧ t ≤ 1) (bT : zBd (A 1) 1000) (bS : zBs (A 3)) (hw : 1 ≤ (mWide (A 1) k t) ∧ (mWide (A 1) k t) ≤ 6) (hh : 1 ≤ (mHigh (A 1) k t) ∧ (mHigh (A 1) k t) ≤ 6) (hcx : x + (mWide (A 1) k t) - 1 < 12) (hcy : y + (mHigh (A 1) k t) - 1 < 12) : Ret mX9_isCut [.ref a, .int (iZ k), .int (iZ x), .int (iZ y), .int (iZ t)] σ (fun r σ' => r = some (.int (iZ (mCutF (A 3) x y (mWide (A 1) k t) ((mWide (A 1) k t) * (mHigh (A 1) k t)).toNat 0 1))) ∧ σ' = σ) := by
  refine Ret.of moX9_isCut.1 (Nat.le_of_ble_eq_true rfl) (fun w => ?_)
  obtain ⟨m0, m1, m2, m3, m4, m5, m6, m7, m8, m9, m10, m11⟩ := id hM
  show Go w mX9_isCut (0, 0) 0 [some (.ref a), some (.int (iZ k)), some (.int (iZ x)), some (.int (iZ y)), some (.int (iZ t)), none, none, none] [] σ (fun r σ' => r = some (.int (iZ (mCutF (A 3) x y (mWide (A 1) k t) ((mWide (A 1) k t) * (mHigh (A 1) k t)).toNat 0 1))) ∧ σ' = σ)
  refine g_aload_n (q := 1) dX9_isCut_0 rfl rfl ?_
  refine g_iload_n (q := 2) dX9_isCut_1 rfl rfl ?_
  refine g_iload (q := 4) dX9_isCut_2 rfl rfl ?_
  refine g_callV (As := [.int (iZ k), .int (iZ t)]) (rest := []) (q := 7) moX9_wide lkX9_isCut_114 dX9_isCut_4 rfl m0 (r_M_wide σ a I A hM k t (by omega) (by omega) bT) rfl rfl (Nat.le_of_ble_eq_true rfl) (Nat.le_of_ble_eq_true rfl) (Nat.le_of_ble_eq_true rfl) rfl ?_
  rintro r1 s1 hp
  rw [hp.1, hp.2]
  show Go w mX9_isCut (0, 0) 7 [some (.ref a), some (.int (iZ k)), some (.int (iZ x)), some (.int (iZ y)), some (.int (iZ t)), none, none, none] [.int (iZ (mWide (A 1) k t))] σ (fun r σ' => r = some (.int (iZ (mCutF (A 3) x y (mWide (A 1) k t) ((mWide (A 1) k t) * (mHigh (A 1) k t)).toNat 0 1))) ∧ σ' = σ)
  refine g_istore (ml' := [some (.ref a), some (.int (iZ k)), some (.int (iZ x)), some (.int (iZ y)), some (.int (iZ t)), some (.int (iZ (mWide (A 1) k t))), none, none]) (q := 9) dX9_isCut_7 rfl (Nat.le_of_ble_eq_true rfl) rfl rfl ?_
  refine z_iconst (q := 10) dX9_isCut_9 rfl ?_
  refine g_istore (ml' := [some (.ref a), some (.int (iZ k)), some (.int (iZ x)), some (.int (iZ y)), some (.int (iZ t)), some (.int (iZ (mWide (A 1) k t))), some (.int (iZ 1)), none]) (q := 12) dX9_isCut_10 rfl (Nat.le_of_ble_eq_true rfl) rfl rfl ?_
  refine z_iconst (q := 13) dX9_isCut_12 rfl ?_
  refine g_istore (ml' := [some (.ref a), some (.int (iZ k)), some (.int (iZ x)), some (.int (iZ y)), some (.int (iZ t)), some (.int (iZ (mWide (A 1) k t))), some (.int (iZ 1)), some (.int (iZ 0))]) (q := 15) dX9_isCut_13 rfl (Nat.le_of_ble_eq_true rfl) rfl rfl ?_
  exact l_M_isCut w σ a I A hM k x y t bk b_x b_y b_t bT bS hw hh hcx hcy ((mWide (A 1) k t) * (mHigh (A 1) k t)).toNat 0 1 (by omega) (by have := zmul36 hw hh; omega) (by omega)
theorem l_M_open (w : g_W) (σ : g_H0) (a : Nat) (I : Nat → Int) (A : Nat → Int → Int) (hM : rM a I A σ) (h : Int) (bh : 0 ≤ h ∧ h < 5) (bT : zBd (A 1) 1000) (bS : zBs (A 3)) (h3 : 0 ≤ A 1 3 ∧ A 1 3 ≤ 5) : ∀ (n : Nat) (c m : Int), 0 ≤ c → c + n = 144 → Go w mX9_open (0, 0) 4 [some (.ref a), some (.int (iZ h)), some (.int (iZ m)), some (.int (iZ c))] [] σ (fun r σ' => r = some (.int (iZ (mOpenF (A 1) (A 3) h n c m))) ∧ σ' = σ) := by
  intro n
  induction n with
  | zero =>
    intro c m hc hcn
    obtain ⟨m0, m1, m2, m3, m4, m5, m6, m7, m8, m9, m10, m11⟩ := id hM
    refine g_iload_n (q := 5) dX9_open_4 rfl rfl ?_
    refine g_sipush (v := iZ 144) (q := 8) dX9_open_5 (by decide) rfl ?_
    refine z_icmp_ge (t := 48) (q := 11) dX9_open_8 rfl (by omega) rfl (fun pc1 => ?_) (fun pc1 => ?_)
    · refine g_iload_n (q := 49) dX9_open_48 rfl rfl ?_
      refine z_iret dX9_open_49 rfl ?_
      exact ⟨rfl, rfl⟩
    · exfalso
      omega
  | succ n ih =>
    intro c m hc hcn
    obtain ⟨m0, m1, m2, m3, m4, m5, m6, m7, m8, m9, m10, m11⟩ := id hM
    refine g_iload_n (q := 5) dX9_open_4 rfl rfl ?_
    refine g_sipush (v := iZ 144) (q := 8) dX9_open_5 (by decide) rfl ?_
    refine z_icmp_ge (t := 48) (q := 11) dX9_open_8 rfl (by omega) rfl (fun pc1 => ?_) (fun pc1 => ?_)
    · exfalso
      omega
    · refine g_iload_n (q := 12) dX9_open_11 rfl rfl ?_
      have J2 : ∀ z3 : Int, z3 = (if mHole (A 1) (c % 12) (c / 12) = h then 1 - A 3 c else 0) → Go w mX9_open (0, 0) 40 [some (.ref a), some (.int (iZ h)), some (.int (iZ m)), some (.int (iZ c))] [.int (iZ z3), .int (iZ m)] σ (fun r σ' => r = some (.int (iZ (mOpenF (A 1) (A 3) h (n + 1) c m))) ∧ σ' = σ) := by
        intro z3 e4
        refine z_iadd (q := 41) dX9_open_40 rfl ?_
        refine g_istore_n (ml' := [some (.ref a), some (.int (iZ h)), some (.int (iZ (m + z3))), some (.int (iZ c))]) (q := 42) dX9_open_41 rfl (Nat.le_of_ble_eq_true rfl) rfl rfl ?_
        refine z_iincc (c := (c + 1)) (ml' := [some (.ref a), some (.int (iZ h)), some (.int (iZ (m + z3))), some (.int (iZ (c + 1)))]) (q := 45) dX9_open_42 rfl (by omega) rfl rfl rfl ?_
        refine g_goto (q := 4) dX9_open_45 rfl ?_
        refine (ih (c + 1) (m + z3) (by omega) (by omega)).mono (fun r σ1 hp => ⟨hp.1.trans ?_, hp.2⟩)
        subst_vars
        rfl
      refine g_aload_n (q := 13) dX9_open_12 rfl rfl ?_
      refine g_iload_n (q := 14) dX9_open_13 rfl rfl ?_
      refine g_bipush (v := iZ 12) (q := 16) dX9_open_14 (by decide) rfl ?_
      refine z_irem (q := 17) dX9_open_16 (by omega) rfl ?_
      refine g_iload_n (q := 18) dX9_open_17 rfl rfl ?_
      refine g_bipush (v := iZ 12) (q := 20) dX9_open_18 (by decide) rfl ?_
      refine z_idiv (q := 21) dX9_open_20 (by omega) rfl ?_
      refine g_callV (As := [.int (iZ (c % 12)), .int (iZ (c / 12))]) (rest := [.int (iZ m)]) (q := 24) moX9_holeAt lkX9_open_124 dX9_open_21 rfl m0 (r_M_holeAt σ a I A hM (c % 12) (c / 12) (by omega) (by omega) bT h3) rfl rfl (Nat.le_of_ble_eq_true rfl) (Nat.le_of_ble_eq_true rfl) (Nat.le_of_ble_eq_true rfl) rfl ?_
      rintro r1 s1 hp
      rw [hp.1, hp.2]
      show Go w mX9_open (0, 0) 24 [some (.ref a), some (.int (iZ h)), some (.int (iZ m)), some (.int (iZ c))] [.int (iZ (mHole (A 1) (c % 12) (c / 12))), .int (iZ m)] σ (fun r σ' => r = some (.int (iZ (mOpenF (A 1) (A 3) h (n + 1) c m))) ∧ σ' = σ)
      have b5 := mHole_b (A 1) (c % 12) (c / 12) h3
      refine g_iload_n (q := 25) dX9_open_24 rfl rfl ?_
      refine z_icmp_ne (t := 39) (q := 28) dX9_open_25 rfl (by omega) rfl (fun pc6 => ?_) (fun pc6 => ?_)
      · refine z_iconst (q := 40) dX9_open_39 rfl ?_
        exact J2 _ (by omega)
      · refine z_iconst (q := 29) dX9_open_28 rfl ?_
        refine g_aload_n (q := 30) dX9_open_29 rfl rfl ?_
        refine g_get (q := 33) flX9_19 dX9_open_30 m0 rfl rfl ?_
        refine g_iload_n (q := 34) dX9_open_33 rfl rfl ?_
        refine z_iald (q := 35) dX9_open_34 m4 (by omega) rfl ?_
        have b7 := bS c
        refine z_isubc (c := (-((A 3) c) + 1)) (q := 36) dX9_open_35 (by omega) rfl ?_
        refine g_goto (q := 40) dX9_open_36 rfl ?_
        exact J2 _ (by omega)
theorem r_M_open (σ : g_H0) (a : Nat) (I : Nat → Int) (A : Nat → Int → Int) (hM : rM a I A σ) (h : Int) (bh : 0 ≤ h ∧ h < 5) (bT : zBd (A 1) 1000) (bS : zBs (A 3)) (h3 : 0 ≤ A 1 3 ∧ A 1 3 ≤ 5) : Ret mX9_open [.ref a, .int (iZ h)] σ (fun r σ' => r = some (.int (iZ (mOpen (A 1) (A 3) h))) ∧ σ' = σ) := by
  refine Ret.of moX9_open.1 (Nat.le_of_ble_eq_true rfl) (fun w => ?_)
  show Go w mX9_open (0, 0) 0 [some (.ref a), some (.int (iZ h)), none, none] [] σ (fun r σ' => r = some (.int (iZ (mOpen (A 1) (A 3) h))) ∧ σ' = σ)
  refine z_iconst (q := 1) dX9_open_0 rfl ?_
  refine g_istore_n (ml' := [some (.ref a), some (.int (iZ h)), some (.int (iZ 0)), none]) (q := 2) dX9_open_1 rfl (Nat.le_of_ble_eq_true rfl) rfl rfl ?_
  refine z_iconst (q := 3) dX9_open_2 rfl ?_
  refine g_istore_n (ml' := [some (.ref a), some (.int (iZ h)), some (.int (iZ 0)), some (.int (iZ 0))]) (q := 4) dX9_open_3 rfl (Nat.le_of_ble_eq_true rfl) rfl rfl ?_
  exact l_M_open w σ a I A hM h bh bT bS h3 144 0 0 (by omega) (by omega)
theorem r_M_nibbles (σ : g_H0) (a : Nat) (I : Nat → Int) (A : Nat → Int → Int) (hM : rM a I A σ) (h k t : Int) (bh : 0 ≤ h ∧ h < 5) (bk : 0 ≤ k ∧ k < 6) (b_t : 0 ≤ t ∧ t ≤ 1) (bT : zBd (A 1) 1000) (hw : 1 ≤ (mWide (A 1) k t) ∧ (mWide (A 1) k t) ≤ 6) (hh : 1 ≤ (mHigh (A 1) k t) ∧ (mHigh (A 1) k t) ≤ 6) (hq1 : 0 ≤ A 1 (4 * h + 31) ∧ A 1 (4 * h + 31) ≤ 12) (hq2 : 0 ≤ A 1 (4 * h + 32) ∧ A 1 (4 * h + 32) ≤ 12) : Ret mX9_nibbles [.ref a, .int (iZ h), .int (iZ k), .int (iZ t)] σ (fun r σ' => r = some (.int (iZ (mNib (A 1) h k t))) ∧ σ' = σ) := by
  refine Ret.of moX9_nibbles.1 (Nat.le_of_ble_eq_true rfl) (fun w => ?_)
  obtain ⟨m0, m1, m2, m3, m4, m5, m6, m7, m8, m9, m10, m11⟩ := id hM
  show Go w mX9_nibbles (0, 0) 0 [some (.ref a), some (.int (iZ h)), some (.int (iZ k)), some (.int (iZ t)), none, none, none, none] [] σ (fun r σ' => r = some (.int (iZ (mNib (A 1) h k t))) ∧ σ' = σ)
  refine g_aload_n (q := 1) dX9_nibbles_0 rfl rfl ?_
  refine g_iload_n (q := 2) dX9_nibbles_1 rfl rfl ?_
  refine g_iload_n (q := 3) dX9_nibbles_2 rfl rfl ?_
  refine g_callV (As := [.int (iZ k), .int (iZ t)]) (rest := []) (q := 6) moX9_wide lkX9_nibbles_114 dX9_nibbles_3 rfl m0 (r_M_wide σ a I A hM k t (by omega) (by omega) bT) rfl rfl (Nat.le_of_ble_eq_true rfl) (Nat.le_of_ble_eq_true rfl) (Nat.le_of_ble_eq_true rfl) rfl ?_
  rintro r1 s1 hp
  rw [hp.1, hp.2]
  show Go w mX9_nibbles (0, 0) 6 [some (.ref a), some (.int (iZ h)), some (.int (iZ k)), some (.int (iZ t)), none, none, none, none] [.int (iZ (mWide (A 1) k t))] σ (fun r σ' => r = some (.int (iZ (mNib (A 1) h k t))) ∧ σ' = σ)
  refine g_istore (ml' := [some (.ref a), some (.int (iZ h)), some (.int (iZ k)), some (.int (iZ t)), some (.int (iZ (mWide (A 1) k t))), none, none, none]) (q := 8) dX9_nibbles_6 rfl (Nat.le_of_ble_eq_true rfl) rfl rfl ?_
  refine g_aload_n (q := 9) dX9_nibbles_8 rfl rfl ?_
  refine g_iload_n (q := 10) dX9_nibbles_9 rfl rfl ?_
  refine g_iload_n (q := 11) dX9_nibbles_10 rfl rfl ?_
  refine g_callV (As := [.int (iZ k), .int (iZ t)]) (rest := []) (q := 14) moX9_high lkX9_nibbles_118 dX9_nibbles_11 rfl m0 (r_M_high σ a I A hM k t (by omega) (by omega) bT) rfl rfl (Nat.le_of_ble_eq_true rfl) (Nat.le_of_ble_eq_true rfl) (Nat.le_of_ble_eq_true rfl) rfl ?_
  rintro r1 s1 hp
  rw [hp.1, hp.2]
  show Go w mX9_nibbles (0, 0) 14 [some (.ref a), some (.int (iZ h)), some (.int (iZ k)), some (.int (iZ t)), some (.int (iZ (mWide (A 1) k t))), none, none, none] [.int (iZ (mHigh (A 1) k t))] σ (fun r σ' => r = some (.int (iZ (mNib (A 1) h k t))) ∧ σ' = σ)
  refine g_istore (ml' := [some (.ref a), some (.int (iZ h)), some (.int (iZ k)), some (.int (iZ t)), some (.int (iZ (mWide (A 1) k t))), some (.int (iZ (mHigh (A 1) k t))), none, none]) (q := 16) dX9_nibbles_14 rfl (Nat.le_of_ble_eq_true rfl) rfl rfl ?_
  refine g_bipush (v := iZ 29) (q := 18) dX9_nibbles_16 (by decide) rfl ?_
  refine z_iconst (q := 19) dX9_nibbles_18 rfl ?_
  refine g_iload_n (q := 20) dX9_nibbles_19 rfl rfl ?_
  refine z_imul (q := 21) dX9_nibbles_20 rfl ?_
  refine z_iaddc (c := (4 * h + 29)) (q := 22) dX9_nibbles_21 (by omega) rfl ?_
  refine g_istore (ml' := [some (.ref a), some (.int (iZ h)), some (.int (iZ k)), some (.int (iZ t)), some (.int (iZ (mWide (A 1) k t))), some (.int (iZ (mHigh (A 1) k t))), some (.int (iZ (4 * h + 29))), none]) (q := 24) dX9_nibbles_22 rfl (Nat.le_of_ble_eq_true rfl) rfl rfl ?_
  have J1 : ∀ z2 : Int, z2 = (if (t = 0 ∨ A 1 (4 * k + 7) = 1) ∧ (mWide (A 1) k t) ≤ A 1 (4 * h + 31) ∧ (mHigh (A 1) k t) ≤ A 1 (4 * h + 32) then 1 else 0) → Go w mX9_nibbles (0, 0) 77 [some (.ref a), some (.int (iZ h)), some (.int (iZ k)), some (.int (iZ t)), some (.int (iZ (mWide (A 1) k t))), some (.int (iZ (mHigh (A 1) k t))), some (.int (iZ (4 * h + 29))), none] [.int (iZ z2)] σ (fun r σ' => r = some (.int (iZ (mNib (A 1) h k t))) ∧ σ' = σ) := by
    intro z2 e3
    refine g_istore (ml' := [some (.ref a), some (.int (iZ h)), some (.int (iZ k)), some (.int (iZ t)), some (.int (iZ (mWide (A 1) k t))), some (.int (iZ (mHigh (A 1) k t))), some (.int (iZ (4 * h + 29))), some (.int (iZ z2))]) (q := 79) dX9_nibbles_77 rfl (Nat.le_of_ble_eq_true rfl) rfl rfl ?_
    refine g_iload (q := 81) dX9_nibbles_79 rfl rfl ?_
    refine z_if_eq (t := 116) (q := 84) dX9_nibbles_81 rfl (by omega) rfl (fun pc4 => ?_) (fun pc4 => ?_)
    · refine g_bipush (v := iZ (-4)) (q := 118) dX9_nibbles_116 (by decide) rfl ?_
      refine z_iret dX9_nibbles_118 rfl ?_
      exact ⟨congrArg (fun z => some (Value.int (iZ z))) (by unfold mNib; first | (rw [if_pos (by omega)]; done) | (rw [if_neg (by omega)]; done)), rfl⟩
    · refine g_aload_n (q := 85) dX9_nibbles_84 rfl rfl ?_
      refine g_get (q := 88) flX9_13 dX9_nibbles_85 m0 rfl rfl ?_
      refine g_iload (q := 90) dX9_nibbles_88 rfl rfl ?_
      refine z_iconst (q := 91) dX9_nibbles_90 rfl ?_
      refine z_iaddc (c := (4 * h + 31)) (q := 92) dX9_nibbles_91 (by omega) rfl ?_
      refine z_iald (q := 93) dX9_nibbles_92 m2 (by omega) rfl ?_
      have b5 := bT (4 * h + 31)
      refine g_iload (q := 95) dX9_nibbles_93 rfl rfl ?_
      refine g_callS (As := [.int (iZ ((A 1) (4 * h + 31))), .int (iZ (mWide (A 1) k t))]) (rest := []) (q := 98) moX9_parts lkX9_nibbles_155 dX9_nibbles_95 (r_M_parts σ ((A 1) (4 * h + 31)) (mWide (A 1) k t) (by omega) (by omega)) rfl rfl (Nat.le_of_ble_eq_true rfl) (Nat.le_of_ble_eq_true rfl) (Nat.le_of_ble_eq_true rfl) rfl ?_
      rintro r1 s1 hp
      rw [hp.1, hp.2]
      show Go w mX9_nibbles (0, 0) 98 [some (.ref a), some (.int (iZ h)), some (.int (iZ k)), some (.int (iZ t)), some (.int (iZ (mWide (A 1) k t))), some (.int (iZ (mHigh (A 1) k t))), some (.int (iZ (4 * h + 29))), some (.int (iZ z2))] [.int (iZ ((((A 1) (4 * h + 31)) + (mWide (A 1) k t) - 1) / (mWide (A 1) k t)))] σ (fun r σ' => r = some (.int (iZ (mNib (A 1) h k t))) ∧ σ' = σ)
      refine g_aload_n (q := 99) dX9_nibbles_98 rfl rfl ?_
      refine g_get (q := 102) flX9_13 dX9_nibbles_99 m0 rfl rfl ?_
      refine g_iload (q := 104) dX9_nibbles_102 rfl rfl ?_
      refine z_iconst (q := 105) dX9_nibbles_104 rfl ?_
      refine z_iaddc (c := (4 * h + 32)) (q := 106) dX9_nibbles_105 (by omega) rfl ?_
      refine z_iald (q := 107) dX9_nibbles_106 m2 (by omega) rfl ?_
      have b6 := bT (4 * h + 32)
      refine g_iload (q := 109) dX9_nibbles_107 rfl rfl ?_
      refine g_callS (As := [.int (iZ ((A 1) (4 * h + 32))), .int (iZ (mHigh (A 1) k t))]) (rest := [.int (iZ ((((A 1) (4 * h + 31)) + (mWide (A 1) k t) - 1) / (mWide (A 1) k t)))]) (q := 112) moX9_parts lkX9_nibbles_155 dX9_nibbles_109 (r_M_parts σ ((A 1) (4 * h + 32)) (mHigh (A 1) k t) (by omega) (by omega)) rfl rfl (Nat.le_of_ble_eq_true rfl) (Nat.le_of_ble_eq_true rfl) (Nat.le_of_ble_eq_true rfl) rfl ?_
      rintro r1 s1 hp
      rw [hp.1, hp.2]
      show Go w mX9_nibbles (0, 0) 112 [some (.ref a), some (.int (iZ h)), some (.int (iZ k)), some (.int (iZ t)), some (.int (iZ (mWide (A 1) k t))), some (.int (iZ (mHigh (A 1) k t))), some (.int (iZ (4 * h + 29))), some (.int (iZ z2))] [.int (iZ ((((A 1) (4 * h + 32)) + (mHigh (A 1) k t) - 1) / (mHigh (A 1) k t))), .int (iZ ((((A 1) (4 * h + 31)) + (mWide (A 1) k t) - 1) / (mWide (A 1) k t)))] σ (fun r σ' => r = some (.int (iZ (mNib (A 1) h k t))) ∧ σ' = σ)
      refine z_imul (q := 113) dX9_nibbles_112 rfl ?_
      refine g_goto (q := 118) dX9_nibbles_113 rfl ?_
      refine z_iret dX9_nibbles_118 rfl ?_
      exact ⟨congrArg (fun z => some (Value.int (iZ z))) (by unfold mNib; first | (rw [if_pos (by omega)]; done) | (rw [if_neg (by omega)]; done)), rfl⟩
  refine g_iload_n (q := 25) dX9_nibbles_24 rfl rfl ?_
  refine z_if_eq (t := 44) (q := 28) dX9_nibbles_25 rfl (by omega) rfl (fun pc7 => ?_) (fun pc7 => ?_)
  · refine g_iload (q := 46) dX9_nibbles_44 rfl rfl ?_
    refine g_aload_n (q := 47) dX9_nibbles_46 rfl rfl ?_
    refine g_get (q := 50) flX9_13 dX9_nibbles_47 m0 rfl rfl ?_
    refine g_iload (q := 52) dX9_nibbles_50 rfl rfl ?_
    refine z_iconst (q := 53) dX9_nibbles_52 rfl ?_
    refine z_iaddc (c := (4 * h + 31)) (q := 54) dX9_nibbles_53 (by omega) rfl ?_
    refine z_iald (q := 55) dX9_nibbles_54 m2 (by omega) rfl ?_
    have b8 := bT (4 * h + 31)
    refine z_icmp_gt (t := 76) (q := 58) dX9_nibbles_55 rfl (by omega) rfl (fun pc9 => ?_) (fun pc9 => ?_)
    · refine z_iconst (q := 77) dX9_nibbles_76 rfl ?_
      exact J1 _ (by omega)
    · refine g_iload (q := 60) dX9_nibbles_58 rfl rfl ?_
      refine g_aload_n (q := 61) dX9_nibbles_60 rfl rfl ?_
      refine g_get (q := 64) flX9_13 dX9_nibbles_61 m0 rfl rfl ?_
      refine g_iload (q := 66) dX9_nibbles_64 rfl rfl ?_
      refine z_iconst (q := 67) dX9_nibbles_66 rfl ?_
      refine z_iaddc (c := (4 * h + 32)) (q := 68) dX9_nibbles_67 (by omega) rfl ?_
      refine z_iald (q := 69) dX9_nibbles_68 m2 (by omega) rfl ?_
      have b10 := bT (4 * h + 32)
      refine z_icmp_gt (t := 76) (q := 72) dX9_nibbles_69 rfl (by omega) rfl (fun pc11 => ?_) (fun pc11 => ?_)
      · refine z_iconst (q := 77) dX9_nibbles_76 rfl ?_
        exact J1 _ (by omega)
      · refine z_iconst (q := 73) dX9_nibbles_72 rfl ?_
        refine g_goto (q := 77) dX9_nibbles_73 rfl ?_
        exact J1 _ (by omega)
  · refine g_aload_n (q := 29) dX9_nibbles_28 rfl rfl ?_
    refine g_get (q := 32) flX9_13 dX9_nibbles_29 m0 rfl rfl ?_
    refine z_iconst (q := 33) dX9_nibbles_32 rfl ?_
    refine z_iconst (q := 34) dX9_nibbles_33 rfl ?_
    refine g_iload_n (q := 35) dX9_nibbles_34 rfl rfl ?_
    refine z_imul (q := 36) dX9_nibbles_35 rfl ?_
    refine z_iaddc (c := (4 * k + 5)) (q := 37) dX9_nibbles_36 (by omega) rfl ?_
    refine z_iconst (q := 38) dX9_nibbles_37 rfl ?_
    refine z_iaddc (c := (4 * k + 7)) (q := 39) dX9_nibbles_38 (by omega) rfl ?_
    refine z_iald (q := 40) dX9_nibbles_39 m2 (by omega) rfl ?_
    have b12 := bT (4 * k + 7)
    refine z_iconst (q := 41) dX9_nibbles_40 rfl ?_
    refine z_icmp_ne (t := 76) (q := 44) dX9_nibbles_41 rfl (by omega) rfl (fun pc13 => ?_) (fun pc13 => ?_)
    · refine z_iconst (q := 77) dX9_nibbles_76 rfl ?_
      exact J1 _ (by omega)
    · refine g_iload (q := 46) dX9_nibbles_44 rfl rfl ?_
      refine g_aload_n (q := 47) dX9_nibbles_46 rfl rfl ?_
      refine g_get (q := 50) flX9_13 dX9_nibbles_47 m0 rfl rfl ?_
      refine g_iload (q := 52) dX9_nibbles_50 rfl rfl ?_
      refine z_iconst (q := 53) dX9_nibbles_52 rfl ?_
      refine z_iaddc (c := (4 * h + 31)) (q := 54) dX9_nibbles_53 (by omega) rfl ?_
      refine z_iald (q := 55) dX9_nibbles_54 m2 (by omega) rfl ?_
      have b14 := bT (4 * h + 31)
      refine z_icmp_gt (t := 76) (q := 58) dX9_nibbles_55 rfl (by omega) rfl (fun pc15 => ?_) (fun pc15 => ?_)
      · refine z_iconst (q := 77) dX9_nibbles_76 rfl ?_
        exact J1 _ (by omega)
      · refine g_iload (q := 60) dX9_nibbles_58 rfl rfl ?_
        refine g_aload_n (q := 61) dX9_nibbles_60 rfl rfl ?_
        refine g_get (q := 64) flX9_13 dX9_nibbles_61 m0 rfl rfl ?_
        refine g_iload (q := 66) dX9_nibbles_64 rfl rfl ?_
        refine z_iconst (q := 67) dX9_nibbles_66 rfl ?_
        refine z_iaddc (c := (4 * h + 32)) (q := 68) dX9_nibbles_67 (by omega) rfl ?_
        refine z_iald (q := 69) dX9_nibbles_68 m2 (by omega) rfl ?_
        have b16 := bT (4 * h + 32)
        refine z_icmp_gt (t := 76) (q := 72) dX9_nibbles_69 rfl (by omega) rfl (fun pc17 => ?_) (fun pc17 => ?_)
        · refine z_iconst (q := 77) dX9_nibbles_76 rfl ?_
          exact J1 _ (by omega)
        · refine z_iconst (q := 73) dX9_nibbles_72 rfl ?_
          refine g_goto (q := 77) dX9_nibbles_73 rfl ?_
          exact J1 _ (by omega)
end
