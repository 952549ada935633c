-- ===== PART A: goes FIRST, ahead of the names: the tables' words, and 'selects' of the private methods out of them =====
/-- a private method of a class that the tables say can be made, by its rows of tables_1 -/
def lw_okq (q : MethodName × Nat) : Prop := (q.1.cls ≠ "java/lang/invoke/MethodHandle" ∧ q.1.cls ≠ "java/lang/invoke/VarHandle") ∧ Cond.instantiable q.1.cls q.2 ∈ tables_1 ∧ Cond.privateMethod q.1 ∈ tables_1 ∧ Cond.instanceMethod q.1 ∈ tables_1
theorem lw_p0 : lw_okq (⟨"TurretPunch", "layDraft", "()Z"⟩, 9) := ⟨⟨by decide +kernel, by decide +kernel⟩, List.mem_of_getElem? (i := 20) (by decide +kernel), List.mem_of_getElem? (i := 305) (by decide +kernel), List.mem_of_getElem? (i := 306) (by decide +kernel)⟩
theorem lw_p1 : lw_okq (⟨"TurretPunch$Reader", "takesItem", "(LTurretPunch$Text;LTurretPunch$Job;)Z"⟩, 2) := ⟨⟨by decide +kernel, by decide +kernel⟩, List.mem_of_getElem? (i := 44) (by decide +kernel), List.mem_of_getElem? (i := 321) (by decide +kernel), List.mem_of_getElem? (i := 322) (by decide +kernel)⟩
theorem lw_p2 : lw_okq (⟨"TurretPunch$Reader", "takesWord", "(LTurretPunch$Text;Ljava/lang/String;)Z"⟩, 2) := ⟨⟨by decide +kernel, by decide +kernel⟩, List.mem_of_getElem? (i := 44) (by decide +kernel), List.mem_of_getElem? (i := 326) (by decide +kernel), List.mem_of_getElem? (i := 327) (by decide +kernel)⟩
theorem lw_p3 : lw_okq (⟨"TurretPunch$Reader", "takesNumbers", "(LTurretPunch$Text;I)Z"⟩, 2) := ⟨⟨by decide +kernel, by decide +kernel⟩, List.mem_of_getElem? (i := 44) (by decide +kernel), List.mem_of_getElem? (i := 336) (by decide +kernel), List.mem_of_getElem? (i := 337) (by decide +kernel)⟩
theorem lw_p4 : lw_okq (⟨"TurretPunch$Reader", "takeNumber", "(LTurretPunch$Text;)I"⟩, 2) := ⟨⟨by decide +kernel, by decide +kernel⟩, List.mem_of_getElem? (i := 44) (by decide +kernel), List.mem_of_getElem? (i := 343) (by decide +kernel), List.mem_of_getElem? (i := 344) (by decide +kernel)⟩
theorem lw_p5 : lw_okq (⟨"TurretPunch", "isHitTold", "(IIII)Z"⟩, 9) := ⟨⟨by decide +kernel, by decide +kernel⟩, List.mem_of_getElem? (i := 20) (by decide +kernel), List.mem_of_getElem? (i := 458) (by decide +kernel), List.mem_of_getElem? (i := 459) (by decide +kernel)⟩
theorem lw_p6 : lw_okq (⟨"TurretPunch", "isStation", "(I)Z"⟩, 9) := ⟨⟨by decide +kernel, by decide +kernel⟩, List.mem_of_getElem? (i := 20) (by decide +kernel), List.mem_of_getElem? (i := 462) (by decide +kernel), List.mem_of_getElem? (i := 463) (by decide +kernel)⟩
theorem lw_p7 : lw_okq (⟨"TurretPunch$State", "isClamped", "(LTurretPunch$Job;LTurretPunch$Area;)Z"⟩, 7) := ⟨⟨by decide +kernel, by decide +kernel⟩, List.mem_of_getElem? (i := 58) (by decide +kernel), List.mem_of_getElem? (i := 490) (by decide +kernel), List.mem_of_getElem? (i := 491) (by decide +kernel)⟩
theorem lw_p8 : lw_okq (⟨"TurretPunch", "isHole", "(I)Z"⟩, 9) := ⟨⟨by decide +kernel, by decide +kernel⟩, List.mem_of_getElem? (i := 20) (by decide +kernel), List.mem_of_getElem? (i := 551) (by decide +kernel), List.mem_of_getElem? (i := 552) (by decide +kernel)⟩
theorem lw_p9 : lw_okq (⟨"TurretPunch", "punchAll", "(LTurretPunch$Area;IZ)I"⟩, 9) := ⟨⟨by decide +kernel, by decide +kernel⟩, List.mem_of_getElem? (i := 20) (by decide +kernel), List.mem_of_getElem? (i := 557) (by decide +kernel), List.mem_of_getElem? (i := 558) (by decide +kernel)⟩
theorem lw_p10 : lw_okq (⟨"TurretPunch", "isClamp", "(I)Z"⟩, 9) := ⟨⟨by decide +kernel, by decide +kernel⟩, List.mem_of_getElem? (i := 20) (by decide +kernel), List.mem_of_getElem? (i := 576) (by decide +kernel), List.mem_of_getElem? (i := 577) (by decide +kernel)⟩
theorem lw_p11 : lw_okq (⟨"TurretPunch$Planner", "weighWays", "(LTurretPunch$Job;)V"⟩, 8) := ⟨⟨by decide +kernel, by decide +kernel⟩, List.mem_of_getElem? (i := 113) (by decide +kernel), List.mem_of_getElem? (i := 647) (by decide +kernel), List.mem_of_getElem? (i := 648) (by decide +kernel)⟩
theorem lw_p12 : lw_okq (⟨"TurretPunch$Planner", "triesSet", "(LTurretPunch$Job;LTurretPunch$State;I)Z"⟩, 8) := ⟨⟨by decide +kernel, by decide +kernel⟩, List.mem_of_getElem? (i := 113) (by decide +kernel), List.mem_of_getElem? (i := 653) (by decide +kernel), List.mem_of_getElem? (i := 654) (by decide +kernel)⟩
theorem lw_p13 : lw_okq (⟨"TurretPunch$Planner", "takeFirstFewest", "(III)I"⟩, 8) := ⟨⟨by decide +kernel, by decide +kernel⟩, List.mem_of_getElem? (i := 113) (by decide +kernel), List.mem_of_getElem? (i := 658) (by decide +kernel), List.mem_of_getElem? (i := 659) (by decide +kernel)⟩
theorem lw_p14 : lw_okq (⟨"TurretPunch$Job", "downBeyond", "(III)I"⟩, 7) := ⟨⟨by decide +kernel, by decide +kernel⟩, List.mem_of_getElem? (i := 176) (by decide +kernel), List.mem_of_getElem? (i := 666) (by decide +kernel), List.mem_of_getElem? (i := 667) (by decide +kernel)⟩
theorem lw_p15 : lw_okq (⟨"TurretPunch$Planner", "isBetter", "(II)Z"⟩, 8) := ⟨⟨by decide +kernel, by decide +kernel⟩, List.mem_of_getElem? (i := 113) (by decide +kernel), List.mem_of_getElem? (i := 670) (by decide +kernel), List.mem_of_getElem? (i := 671) (by decide +kernel)⟩
def lw_privs_1 : List (MethodName × Nat) := [(⟨"TurretPunch", "layDraft", "()Z"⟩, 9), (⟨"TurretPunch$Reader", "takesItem", "(LTurretPunch$Text;LTurretPunch$Job;)Z"⟩, 2), (⟨"TurretPunch$Reader", "takesWord", "(LTurretPunch$Text;Ljava/lang/String;)Z"⟩, 2), (⟨"TurretPunch$Reader", "takesNumbers", "(LTurretPunch$Text;I)Z"⟩, 2), (⟨"TurretPunch$Reader", "takeNumber", "(LTurretPunch$Text;)I"⟩, 2), (⟨"TurretPunch", "isHitTold", "(IIII)Z"⟩, 9), (⟨"TurretPunch", "isStation", "(I)Z"⟩, 9), (⟨"TurretPunch$State", "isClamped", "(LTurretPunch$Job;LTurretPunch$Area;)Z"⟩, 7), (⟨"TurretPunch", "isHole", "(I)Z"⟩, 9), (⟨"TurretPunch", "punchAll", "(LTurretPunch$Area;IZ)I"⟩, 9), (⟨"TurretPunch", "isClamp", "(I)Z"⟩, 9), (⟨"TurretPunch$Planner", "weighWays", "(LTurretPunch$Job;)V"⟩, 8), (⟨"TurretPunch$Planner", "triesSet", "(LTurretPunch$Job;LTurretPunch$State;I)Z"⟩, 8), (⟨"TurretPunch$Planner", "takeFirstFewest", "(III)I"⟩, 8), (⟨"TurretPunch$Job", "downBeyond", "(III)I"⟩, 7), (⟨"TurretPunch$Planner", "isBetter", "(II)Z"⟩, 8)]
theorem lw_r1 : ∀ q ∈ lw_privs_1, lw_okq q := List.forall_mem_cons.mpr ⟨lw_p0, List.forall_mem_cons.mpr ⟨lw_p1, List.forall_mem_cons.mpr ⟨lw_p2, List.forall_mem_cons.mpr ⟨lw_p3, List.forall_mem_cons.mpr ⟨lw_p4, List.forall_mem_cons.mpr ⟨lw_p5, List.forall_mem_cons.mpr ⟨lw_p6, List.forall_mem_cons.mpr ⟨lw_p7, List.forall_mem_cons.mpr ⟨lw_p8, List.forall_mem_cons.mpr ⟨lw_p9, List.forall_mem_cons.mpr ⟨lw_p10, List.forall_mem_cons.mpr ⟨lw_p11, List.forall_mem_cons.mpr ⟨lw_p12, List.forall_mem_cons.mpr ⟨lw_p13, List.forall_mem_cons.mpr ⟨lw_p14, List.forall_mem_cons.mpr ⟨lw_p15, fun _ h => absurd h List.not_mem_nil⟩⟩⟩⟩⟩⟩⟩⟩⟩⟩⟩⟩⟩⟩⟩⟩
theorem lw_p16 : lw_okq (⟨"TurretPunch$Planner", "keepTried", "(I)V"⟩, 8) := ⟨⟨by decide +kernel, by decide +kernel⟩, List.mem_of_getElem? (i := 113) (by decide +kernel), List.mem_of_getElem? (i := 674) (by decide +kernel), List.mem_of_getElem? (i := 675) (by decide +kernel)⟩
theorem lw_p17 : lw_okq (⟨"TurretPunch", "signAt", "(II)C"⟩, 9) := ⟨⟨by decide +kernel, by decide +kernel⟩, List.mem_of_getElem? (i := 20) (by decide +kernel), List.mem_of_getElem? (i := 683) (by decide +kernel), List.mem_of_getElem? (i := 684) (by decide +kernel)⟩
theorem lw_p18 : lw_okq (⟨"TurretPunchModel", "adds", "(IIIIII)V"⟩, 16) := ⟨⟨by decide +kernel, by decide +kernel⟩, List.mem_of_getElem? (i := 699) (by decide +kernel), List.mem_of_getElem? (i := 705) (by decide +kernel), List.mem_of_getElem? (i := 706) (by decide +kernel)⟩
theorem lw_p19 : lw_okq (⟨"TurretPunchModel", "anew", "()V"⟩, 16) := ⟨⟨by decide +kernel, by decide +kernel⟩, List.mem_of_getElem? (i := 699) (by decide +kernel), List.mem_of_getElem? (i := 709) (by decide +kernel), List.mem_of_getElem? (i := 710) (by decide +kernel)⟩
theorem lw_p20 : lw_okq (⟨"TurretPunchModel", "item", "()Z"⟩, 16) := ⟨⟨by decide +kernel, by decide +kernel⟩, List.mem_of_getElem? (i := 699) (by decide +kernel), List.mem_of_getElem? (i := 779) (by decide +kernel), List.mem_of_getElem? (i := 780) (by decide +kernel)⟩
theorem lw_p21 : lw_okq (⟨"TurretPunchModel", "word", "(JI)Z"⟩, 16) := ⟨⟨by decide +kernel, by decide +kernel⟩, List.mem_of_getElem? (i := 699) (by decide +kernel), List.mem_of_getElem? (i := 787) (by decide +kernel), List.mem_of_getElem? (i := 788) (by decide +kernel)⟩
theorem lw_p22 : lw_okq (⟨"TurretPunchModel", "byteAt", "(I)I"⟩, 16) := ⟨⟨by decide +kernel, by decide +kernel⟩, List.mem_of_getElem? (i := 699) (by decide +kernel), List.mem_of_getElem? (i := 791) (by decide +kernel), List.mem_of_getElem? (i := 792) (by decide +kernel)⟩
theorem lw_p23 : lw_okq (⟨"TurretPunchModel", "number", "(IIII)Z"⟩, 16) := ⟨⟨by decide +kernel, by decide +kernel⟩, List.mem_of_getElem? (i := 699) (by decide +kernel), List.mem_of_getElem? (i := 796) (by decide +kernel), List.mem_of_getElem? (i := 797) (by decide +kernel)⟩
theorem lw_p24 : lw_okq (⟨"TurretPunchModel", "holeItem", "()Z"⟩, 16) := ⟨⟨by decide +kernel, by decide +kernel⟩, List.mem_of_getElem? (i := 699) (by decide +kernel), List.mem_of_getElem? (i := 805) (by decide +kernel), List.mem_of_getElem? (i := 806) (by decide +kernel)⟩
theorem lw_p25 : lw_okq (⟨"TurretPunchModel", "isApart", "(II)Z"⟩, 16) := ⟨⟨by decide +kernel, by decide +kernel⟩, List.mem_of_getElem? (i := 699) (by decide +kernel), List.mem_of_getElem? (i := 809) (by decide +kernel), List.mem_of_getElem? (i := 810) (by decide +kernel)⟩
theorem lw_p26 : lw_okq (⟨"TurretPunchModel", "takesBack", "()V"⟩, 16) := ⟨⟨by decide +kernel, by decide +kernel⟩, List.mem_of_getElem? (i := 699) (by decide +kernel), List.mem_of_getElem? (i := 822) (by decide +kernel), List.mem_of_getElem? (i := 823) (by decide +kernel)⟩
theorem lw_p27 : lw_okq (⟨"TurretPunchModel", "isStation", "(I)Z"⟩, 16) := ⟨⟨by decide +kernel, by decide +kernel⟩, List.mem_of_getElem? (i := 699) (by decide +kernel), List.mem_of_getElem? (i := 830) (by decide +kernel), List.mem_of_getElem? (i := 831) (by decide +kernel)⟩
theorem lw_p28 : lw_okq (⟨"TurretPunchModel", "whyNot", "(IIII)I"⟩, 16) := ⟨⟨by decide +kernel, by decide +kernel⟩, List.mem_of_getElem? (i := 699) (by decide +kernel), List.mem_of_getElem? (i := 835) (by decide +kernel), List.mem_of_getElem? (i := 836) (by decide +kernel)⟩
theorem lw_p29 : lw_okq (⟨"TurretPunchModel", "wide", "(II)I"⟩, 16) := ⟨⟨by decide +kernel, by decide +kernel⟩, List.mem_of_getElem? (i := 699) (by decide +kernel), List.mem_of_getElem? (i := 839) (by decide +kernel), List.mem_of_getElem? (i := 840) (by decide +kernel)⟩
theorem lw_p30 : lw_okq (⟨"TurretPunchModel", "high", "(II)I"⟩, 16) := ⟨⟨by decide +kernel, by decide +kernel⟩, List.mem_of_getElem? (i := 699) (by decide +kernel), List.mem_of_getElem? (i := 843) (by decide +kernel), List.mem_of_getElem? (i := 844) (by decide +kernel)⟩
theorem lw_p31 : lw_okq (⟨"TurretPunchModel", "isCell", "(II)Z"⟩, 16) := ⟨⟨by decide +kernel, by decide +kernel⟩, List.mem_of_getElem? (i := 699) (by decide +kernel), List.mem_of_getElem? (i := 847) (by decide +kernel), List.mem_of_getElem? (i := 848) (by decide +kernel)⟩
def lw_privs_2 : List (MethodName × Nat) := [(⟨"TurretPunch$Planner", "keepTried", "(I)V"⟩, 8), (⟨"TurretPunch", "signAt", "(II)C"⟩, 9), (⟨"TurretPunchModel", "adds", "(IIIIII)V"⟩, 16), (⟨"TurretPunchModel", "anew", "()V"⟩, 16), (⟨"TurretPunchModel", "item", "()Z"⟩, 16), (⟨"TurretPunchModel", "word", "(JI)Z"⟩, 16), (⟨"TurretPunchModel", "byteAt", "(I)I"⟩, 16), (⟨"TurretPunchModel", "number", "(IIII)Z"⟩, 16), (⟨"TurretPunchModel", "holeItem", "()Z"⟩, 16), (⟨"TurretPunchModel", "isApart", "(II)Z"⟩, 16), (⟨"TurretPunchModel", "takesBack", "()V"⟩, 16), (⟨"TurretPunchModel", "isStation", "(I)Z"⟩, 16), (⟨"TurretPunchModel", "whyNot", "(IIII)I"⟩, 16), (⟨"TurretPunchModel", "wide", "(II)I"⟩, 16), (⟨"TurretPunchModel", "high", "(II)I"⟩, 16), (⟨"TurretPunchModel", "isCell", "(II)Z"⟩, 16)]
theorem lw_r2 : ∀ q ∈ lw_privs_2, lw_okq q := List.forall_mem_cons.mpr ⟨lw_p16, List.forall_mem_cons.mpr ⟨lw_p17, List.forall_mem_cons.mpr ⟨lw_p18, List.forall_mem_cons.mpr ⟨lw_p19, List.forall_mem_cons.mpr ⟨lw_p20, List.forall_mem_cons.mpr ⟨lw_p21, List.forall_mem_cons.mpr ⟨lw_p22, List.forall_mem_cons.mpr ⟨lw_p23, List.forall_mem_cons.mpr ⟨lw_p24, List.forall_mem_cons.mpr ⟨lw_p25, List.forall_mem_cons.mpr ⟨lw_p26, List.forall_mem_cons.mpr ⟨lw_p27, List.forall_mem_cons.mpr ⟨lw_p28, List.forall_mem_cons.mpr ⟨lw_p29, List.forall_mem_cons.mpr ⟨lw_p30, List.forall_mem_cons.mpr ⟨lw_p31, fun _ h => absurd h List.not_mem_nil⟩⟩⟩⟩⟩⟩⟩⟩⟩⟩⟩⟩⟩⟩⟩⟩
theorem lw_p32 : lw_okq (⟨"TurretPunchModel", "holeAt", "(II)I"⟩, 16) := ⟨⟨by decide +kernel, by decide +kernel⟩, List.mem_of_getElem? (i := 699) (by decide +kernel), List.mem_of_getElem? (i := 851) (by decide +kernel), List.mem_of_getElem? (i := 852) (by decide +kernel)⟩
theorem lw_p33 : lw_okq (⟨"TurretPunchModel", "clampAt", "(II)I"⟩, 16) := ⟨⟨by decide +kernel, by decide +kernel⟩, List.mem_of_getElem? (i := 699) (by decide +kernel), List.mem_of_getElem? (i := 855) (by decide +kernel), List.mem_of_getElem? (i := 856) (by decide +kernel)⟩
theorem lw_p34 : lw_okq (⟨"TurretPunchModel", "isDull", "(I)Z"⟩, 16) := ⟨⟨by decide +kernel, by decide +kernel⟩, List.mem_of_getElem? (i := 699) (by decide +kernel), List.mem_of_getElem? (i := 859) (by decide +kernel), List.mem_of_getElem? (i := 860) (by decide +kernel)⟩
theorem lw_p35 : lw_okq (⟨"TurretPunchModel", "note", "()V"⟩, 16) := ⟨⟨by decide +kernel, by decide +kernel⟩, List.mem_of_getElem? (i := 699) (by decide +kernel), List.mem_of_getElem? (i := 868) (by decide +kernel), List.mem_of_getElem? (i := 869) (by decide +kernel)⟩
theorem lw_p36 : lw_okq (⟨"TurretPunchModel", "strikes", "(IIII)I"⟩, 16) := ⟨⟨by decide +kernel, by decide +kernel⟩, List.mem_of_getElem? (i := 699) (by decide +kernel), List.mem_of_getElem? (i := 872) (by decide +kernel), List.mem_of_getElem? (i := 873) (by decide +kernel)⟩
theorem lw_p37 : lw_okq (⟨"TurretPunchModel", "ring", "(II)I"⟩, 16) := ⟨⟨by decide +kernel, by decide +kernel⟩, List.mem_of_getElem? (i := 699) (by decide +kernel), List.mem_of_getElem? (i := 876) (by decide +kernel), List.mem_of_getElem? (i := 877) (by decide +kernel)⟩
theorem lw_p38 : lw_okq (⟨"TurretPunchModel", "isHole", "(I)Z"⟩, 16) := ⟨⟨by decide +kernel, by decide +kernel⟩, List.mem_of_getElem? (i := 699) (by decide +kernel), List.mem_of_getElem? (i := 884) (by decide +kernel), List.mem_of_getElem? (i := 885) (by decide +kernel)⟩
theorem lw_p39 : lw_okq (⟨"TurretPunchModel", "nibbles", "(III)I"⟩, 16) := ⟨⟨by decide +kernel, by decide +kernel⟩, List.mem_of_getElem? (i := 699) (by decide +kernel), List.mem_of_getElem? (i := 888) (by decide +kernel), List.mem_of_getElem? (i := 889) (by decide +kernel)⟩
theorem lw_p40 : lw_okq (⟨"TurretPunchModel", "open", "(I)I"⟩, 16) := ⟨⟨by decide +kernel, by decide +kernel⟩, List.mem_of_getElem? (i := 699) (by decide +kernel), List.mem_of_getElem? (i := 895) (by decide +kernel), List.mem_of_getElem? (i := 896) (by decide +kernel)⟩
theorem lw_p41 : lw_okq (⟨"TurretPunchModel", "isCut", "(IIII)Z"⟩, 16) := ⟨⟨by decide +kernel, by decide +kernel⟩, List.mem_of_getElem? (i := 699) (by decide +kernel), List.mem_of_getElem? (i := 899) (by decide +kernel), List.mem_of_getElem? (i := 900) (by decide +kernel)⟩
theorem lw_p42 : lw_okq (⟨"TurretPunchModel", "swaps", "()V"⟩, 16) := ⟨⟨by decide +kernel, by decide +kernel⟩, List.mem_of_getElem? (i := 699) (by decide +kernel), List.mem_of_getElem? (i := 903) (by decide +kernel), List.mem_of_getElem? (i := 904) (by decide +kernel)⟩
theorem lw_p43 : lw_okq (⟨"TurretPunchModel", "looks", "()V"⟩, 16) := ⟨⟨by decide +kernel, by decide +kernel⟩, List.mem_of_getElem? (i := 699) (by decide +kernel), List.mem_of_getElem? (i := 944) (by decide +kernel), List.mem_of_getElem? (i := 945) (by decide +kernel)⟩
theorem lw_p44 : lw_okq (⟨"TurretPunchModel", "plans", "()Z"⟩, 16) := ⟨⟨by decide +kernel, by decide +kernel⟩, List.mem_of_getElem? (i := 699) (by decide +kernel), List.mem_of_getElem? (i := 948) (by decide +kernel), List.mem_of_getElem? (i := 949) (by decide +kernel)⟩
theorem lw_p45 : lw_okq (⟨"TurretPunchModel", "round", "(I)I"⟩, 16) := ⟨⟨by decide +kernel, by decide +kernel⟩, List.mem_of_getElem? (i := 699) (by decide +kernel), List.mem_of_getElem? (i := 952) (by decide +kernel), List.mem_of_getElem? (i := 953) (by decide +kernel)⟩
def lw_privs_3 : List (MethodName × Nat) := [(⟨"TurretPunchModel", "holeAt", "(II)I"⟩, 16), (⟨"TurretPunchModel", "clampAt", "(II)I"⟩, 16), (⟨"TurretPunchModel", "isDull", "(I)Z"⟩, 16), (⟨"TurretPunchModel", "note", "()V"⟩, 16), (⟨"TurretPunchModel", "strikes", "(IIII)I"⟩, 16), (⟨"TurretPunchModel", "ring", "(II)I"⟩, 16), (⟨"TurretPunchModel", "isHole", "(I)Z"⟩, 16), (⟨"TurretPunchModel", "nibbles", "(III)I"⟩, 16), (⟨"TurretPunchModel", "open", "(I)I"⟩, 16), (⟨"TurretPunchModel", "isCut", "(IIII)Z"⟩, 16), (⟨"TurretPunchModel", "swaps", "()V"⟩, 16), (⟨"TurretPunchModel", "looks", "()V"⟩, 16), (⟨"TurretPunchModel", "plans", "()Z"⟩, 16), (⟨"TurretPunchModel", "round", "(I)I"⟩, 16)]
theorem lw_r3 : ∀ q ∈ lw_privs_3, lw_okq q := List.forall_mem_cons.mpr ⟨lw_p32, List.forall_mem_cons.mpr ⟨lw_p33, List.forall_mem_cons.mpr ⟨lw_p34, List.forall_mem_cons.mpr ⟨lw_p35, List.forall_mem_cons.mpr ⟨lw_p36, List.forall_mem_cons.mpr ⟨lw_p37, List.forall_mem_cons.mpr ⟨lw_p38, List.forall_mem_cons.mpr ⟨lw_p39, List.forall_mem_cons.mpr ⟨lw_p40, List.forall_mem_cons.mpr ⟨lw_p41, List.forall_mem_cons.mpr ⟨lw_p42, List.forall_mem_cons.mpr ⟨lw_p43, List.forall_mem_cons.mpr ⟨lw_p44, List.forall_mem_cons.mpr ⟨lw_p45, fun _ h => absurd h List.not_mem_nil⟩⟩⟩⟩⟩⟩⟩⟩⟩⟩⟩⟩⟩⟩
def lw_privs : List (MethodName × Nat) := lw_privs_1 ++ (lw_privs_2 ++ (lw_privs_3))
def lw_tbl : List Cond := k2_sels lw_privs ++ tables_1
theorem lw_privs_ok : ∀ q ∈ lw_privs, lw_okq q := by
  show ∀ q ∈ lw_privs_1 ++ (lw_privs_2 ++ (lw_privs_3)), lw_okq q
  exact List.forall_mem_append.mpr ⟨lw_r1, List.forall_mem_append.mpr ⟨lw_r2, lw_r3⟩⟩
-- names, printed
def RX0 : String := "TurretPunch$Area"
def TX0 : u_T := fun k => match k with
  | 0 => ("TurretPunch$Area", "x", "I", false)
  | 1 => ("TurretPunch$Area", "y", "I", false)
  | 2 => ("TurretPunch$Area", "wide", "I", false)
  | _ => ("TurretPunch$Area", "high", "I", false)
def tyX0 : Nat → FieldType := fun k => match k with
  | 0 => .int
  | 1 => .int
  | 2 => .int
  | _ => .int
theorem nmX0 : ∀ a, a < 4 → ∀ b, b < 4 → a ≠ b → (TX0 a).2.1 ≠ (TX0 b).2.1 := by decide +kernel
theorem tyX0_ok : ∀ k, k < 4 → parseFieldDescriptor (TX0 k).2.2.1 = some (tyX0 k) := by decide +kernel
abbrev cX0_init : ByteArray := prog_2_method_1_code
def yX0_init : MethodName := ⟨RX0, "<init>", "()V"⟩
abbrev cX0_put : ByteArray := prog_2_method_2_code
def yX0_put : MethodName := ⟨RX0, "put", "(IIII)V"⟩
abbrev cX0_has : ByteArray := prog_2_method_3_code
def yX0_has : MethodName := ⟨RX0, "has", "(II)Z"⟩
abbrev cX0_covers : ByteArray := prog_2_method_4_code
def yX0_covers : MethodName := ⟨RX0, "covers", "(LTurretPunch$Area;)Z"⟩
abbrev cX0_meets : ByteArray := prog_2_method_5_code
def yX0_meets : MethodName := ⟨RX0, "meets", "(LTurretPunch$Area;)Z"⟩
abbrev cX0_rowBits : ByteArray := prog_2_method_6_code
def yX0_rowBits : MethodName := ⟨RX0, "rowBits", "()I"⟩
def RX1 : String := "TurretPunch$History"
def TX1 : u_T := fun k => match k with
  | 0 => ("TurretPunch$History", "kept", "[LTurretPunch$State;", true)
  | 1 => ("TurretPunch$History", "next", "I", false)
  | _ => ("TurretPunch$History", "size", "I", false)
def tyX1 : Nat → FieldType := fun k => match k with
  | 0 => .array (.object "TurretPunch$State")
  | 1 => .int
  | _ => .int
theorem nmX1 : ∀ a, a < 3 → ∀ b, b < 3 → a ≠ b → (TX1 a).2.1 ≠ (TX1 b).2.1 := by decide +kernel
theorem tyX1_ok : ∀ k, k < 3 → parseFieldDescriptor (TX1 k).2.2.1 = some (tyX1 k) := by decide +kernel
abbrev cX1_init : ByteArray := prog_3_method_1_code
def yX1_init : MethodName := ⟨RX1, "<init>", "()V"⟩
abbrev cX1_forget : ByteArray := prog_3_method_2_code
def yX1_forget : MethodName := ⟨RX1, "forget", "()V"⟩
abbrev cX1_keep : ByteArray := prog_3_method_3_code
def yX1_keep : MethodName := ⟨RX1, "keep", "(LTurretPunch$State;)V"⟩
abbrev cX1_giveBack : ByteArray := prog_3_method_4_code
def yX1_giveBack : MethodName := ⟨RX1, "giveBack", "(LTurretPunch$State;)Z"⟩
def RX2 : String := "TurretPunch$Job"
def TX2 : u_T := fun k => match k with
  | 0 => ("TurretPunch$Job", "sheet", "LTurretPunch$Area;", true)
  | 1 => ("TurretPunch$Job", "tools", "[LTurretPunch$Tool;", true)
  | 2 => ("TurretPunch$Job", "holes", "[LTurretPunch$Area;", true)
  | 3 => ("TurretPunch$Job", "columns", "[I", true)
  | 4 => ("TurretPunch$Job", "stations", "I", false)
  | 5 => ("TurretPunch$Job", "holeCount", "I", false)
  | _ => ("TurretPunch$Job", "clampCount", "I", false)
def tyX2 : Nat → FieldType := fun k => match k with
  | 0 => .object "TurretPunch$Area"
  | 1 => .array (.object "TurretPunch$Tool")
  | 2 => .array (.object "TurretPunch$Area")
  | 3 => .array .int
  | 4 => .int
  | 5 => .int
  | _ => .int
theorem nmX2 : ∀ a, a < 7 → ∀ b, b < 7 → a ≠ b → (TX2 a).2.1 ≠ (TX2 b).2.1 := by decide +kernel
theorem tyX2_ok : ∀ k, k < 7 → parseFieldDescriptor (TX2 k).2.2.1 = some (tyX2 k) := by decide +kernel
abbrev cX2_init : ByteArray := prog_4_method_1_code
def yX2_init : MethodName := ⟨RX2, "<init>", "()V"⟩
abbrev cX2_clear : ByteArray := prog_4_method_2_code
def yX2_clear : MethodName := ⟨RX2, "clear", "()V"⟩
abbrev cX2_hasSheet : ByteArray := prog_4_method_3_code
def yX2_hasSheet : MethodName := ⟨RX2, "hasSheet", "()Z"⟩
abbrev cX2_takeSheet : ByteArray := prog_4_method_4_code
def yX2_takeSheet : MethodName := ⟨RX2, "takeSheet", "(II)Z"⟩
abbrev cX2_takeTool : ByteArray := prog_4_method_5_code
def yX2_takeTool : MethodName := ⟨RX2, "takeTool", "(IIII)Z"⟩
abbrev cX2_takeHole : ByteArray := prog_4_method_6_code
def yX2_takeHole : MethodName := ⟨RX2, "takeHole", "(IIII)Z"⟩
abbrev cX2_takeClamp : ByteArray := prog_4_method_7_code
def yX2_takeClamp : MethodName := ⟨RX2, "takeClamp", "(I)Z"⟩
abbrev cX2_isColumn : ByteArray := prog_4_method_8_code
def yX2_isColumn : MethodName := ⟨RX2, "isColumn", "(I)Z"⟩
abbrev cX2_areTooNear : ByteArray := prog_4_method_9_code
def yX2_areTooNear : MethodName := ⟨RX2, "areTooNear", "(II)Z"⟩
abbrev cX2_holeAt : ByteArray := prog_4_method_10_code
def yX2_holeAt : MethodName := ⟨RX2, "holeAt", "(II)I"⟩
abbrev cX2_isOfOneHole : ByteArray := prog_4_method_11_code
def yX2_isOfOneHole : MethodName := ⟨RX2, "isOfOneHole", "(LTurretPunch$Area;)Z"⟩
abbrev cX2_turnsBetween : ByteArray := prog_4_method_12_code
def yX2_turnsBetween : MethodName := ⟨RX2, "turnsBetween", "(II)I"⟩
abbrev cX2_turnsThrough : ByteArray := prog_4_method_13_code
def yX2_turnsThrough : MethodName := ⟨RX2, "turnsThrough", "(II)I"⟩
abbrev cX2_downBeyond : ByteArray := prog_4_method_14_code
def yX2_downBeyond : MethodName := ⟨RX2, "downBeyond", "(III)I"⟩
def RX3 : String := "TurretPunch$Planner"
def TX3 : u_T := fun k => match k with
  | 0 => ("TurretPunch$Planner", "fewest", "[I", true)
  | 1 => ("TurretPunch$Planner", "ways", "[I", true)
  | 2 => ("TurretPunch$Planner", "tried", "[I", true)
  | 3 => ("TurretPunch$Planner", "triedHits", "I", false)
  | 4 => ("TurretPunch$Planner", "best", "[I", true)
  | 5 => ("TurretPunch$Planner", "bestHits", "I", false)
  | 6 => ("TurretPunch$Planner", "bestTurns", "I", false)
  | _ => ("TurretPunch$Planner", "found", "Z", false)
def tyX3 : Nat → FieldType := fun k => match k with
  | 0 => .array .int
  | 1 => .array .int
  | 2 => .array .int
  | 3 => .int
  | 4 => .array .int
  | 5 => .int
  | 6 => .int
  | _ => .boolean
theorem nmX3 : ∀ a, a < 8 → ∀ b, b < 8 → a ≠ b → (TX3 a).2.1 ≠ (TX3 b).2.1 := by decide +kernel
theorem tyX3_ok : ∀ k, k < 8 → parseFieldDescriptor (TX3 k).2.2.1 = some (tyX3 k) := by decide +kernel
abbrev cX3_init : ByteArray := prog_5_method_1_code
def yX3_init : MethodName := ⟨RX3, "<init>", "()V"⟩
abbrev cX3_work : ByteArray := prog_5_method_2_code
def yX3_work : MethodName := ⟨RX3, "work", "(LTurretPunch$Job;LTurretPunch$State;)V"⟩
abbrev cX3_weighWays : ByteArray := prog_5_method_3_code
def yX3_weighWays : MethodName := ⟨RX3, "weighWays", "(LTurretPunch$Job;)V"⟩
abbrev cX3_triesSet : ByteArray := prog_5_method_4_code
def yX3_triesSet : MethodName := ⟨RX3, "triesSet", "(LTurretPunch$Job;LTurretPunch$State;I)Z"⟩
abbrev cX3_takeFirstFewest : ByteArray := prog_5_method_5_code
def yX3_takeFirstFewest : MethodName := ⟨RX3, "takeFirstFewest", "(III)I"⟩
abbrev cX3_isBetter : ByteArray := prog_5_method_6_code
def yX3_isBetter : MethodName := ⟨RX3, "isBetter", "(II)Z"⟩
abbrev cX3_keepTried : ByteArray := prog_5_method_7_code
def yX3_keepTried : MethodName := ⟨RX3, "keepTried", "(I)V"⟩
def RX4 : String := "TurretPunch$Reader"
def TX4 : u_T := fun k => match k with
  | 0 => ("TurretPunch$Reader", "numbers", "[I", true)
  | _ => ("TurretPunch$Reader", "at", "I", false)
def tyX4 : Nat → FieldType := fun k => match k with
  | 0 => .array .int
  | _ => .int
theorem nmX4 : ∀ a, a < 2 → ∀ b, b < 2 → a ≠ b → (TX4 a).2.1 ≠ (TX4 b).2.1 := by decide +kernel
theorem tyX4_ok : ∀ k, k < 2 → parseFieldDescriptor (TX4 k).2.2.1 = some (tyX4 k) := by decide +kernel
abbrev cX4_init : ByteArray := prog_6_method_1_code
def yX4_init : MethodName := ⟨RX4, "<init>", "()V"⟩
abbrev cX4_firstFault : ByteArray := prog_6_method_2_code
def yX4_firstFault : MethodName := ⟨RX4, "firstFault", "(LTurretPunch$Text;LTurretPunch$Job;)I"⟩
abbrev cX4_takesItem : ByteArray := prog_6_method_3_code
def yX4_takesItem : MethodName := ⟨RX4, "takesItem", "(LTurretPunch$Text;LTurretPunch$Job;)Z"⟩
abbrev cX4_takesWord : ByteArray := prog_6_method_4_code
def yX4_takesWord : MethodName := ⟨RX4, "takesWord", "(LTurretPunch$Text;Ljava/lang/String;)Z"⟩
abbrev cX4_takesNumbers : ByteArray := prog_6_method_5_code
def yX4_takesNumbers : MethodName := ⟨RX4, "takesNumbers", "(LTurretPunch$Text;I)Z"⟩
abbrev cX4_takeNumber : ByteArray := prog_6_method_6_code
def yX4_takeNumber : MethodName := ⟨RX4, "takeNumber", "(LTurretPunch$Text;)I"⟩
abbrev cX4_isFigure : ByteArray := prog_6_method_7_code
def yX4_isFigure : MethodName := ⟨RX4, "isFigure", "(C)Z"⟩
def RX5 : String := "TurretPunch$State"
def TX5 : u_T := fun k => match k with
  | 0 => ("TurretPunch$State", "cut", "[I", true)
  | 1 => ("TurretPunch$State", "worn", "[I", true)
  | 2 => ("TurretPunch$State", "columns", "[I", true)
  | 3 => ("TurretPunch$State", "here", "I", false)
  | 4 => ("TurretPunch$State", "hitsMade", "I", false)
  | 5 => ("TurretPunch$State", "turnsMade", "I", false)
  | _ => ("TurretPunch$State", "movesMade", "I", false)
def tyX5 : Nat → FieldType := fun k => match k with
  | 0 => .array .int
  | 1 => .array .int
  | 2 => .array .int
  | 3 => .int
  | 4 => .int
  | 5 => .int
  | _ => .int
theorem nmX5 : ∀ a, a < 7 → ∀ b, b < 7 → a ≠ b → (TX5 a).2.1 ≠ (TX5 b).2.1 := by decide +kernel
theorem tyX5_ok : ∀ k, k < 7 → parseFieldDescriptor (TX5 k).2.2.1 = some (tyX5 k) := by decide +kernel
abbrev cX5_init : ByteArray := prog_7_method_1_code
def yX5_init : MethodName := ⟨RX5, "<init>", "()V"⟩
abbrev cX5_begin : ByteArray := prog_7_method_2_code
def yX5_begin : MethodName := ⟨RX5, "begin", "(LTurretPunch$Job;)V"⟩
abbrev cX5_copyFrom : ByteArray := prog_7_method_3_code
def yX5_copyFrom : MethodName := ⟨RX5, "copyFrom", "(LTurretPunch$State;)V"⟩
abbrev cX5_refusal : ByteArray := prog_7_method_4_code
def yX5_refusal : MethodName := ⟨RX5, "refusal", "(LTurretPunch$Job;IZLTurretPunch$Area;)I"⟩
abbrev cX5_punch : ByteArray := prog_7_method_5_code
def yX5_punch : MethodName := ⟨RX5, "punch", "(LTurretPunch$Job;ILTurretPunch$Area;)I"⟩
abbrev cX5_isDull : ByteArray := prog_7_method_6_code
def yX5_isDull : MethodName := ⟨RX5, "isDull", "(LTurretPunch$Job;I)Z"⟩
abbrev cX5_uncutIn : ByteArray := prog_7_method_7_code
def yX5_uncutIn : MethodName := ⟨RX5, "uncutIn", "(LTurretPunch$Area;)I"⟩
abbrev cX5_isCut : ByteArray := prog_7_method_8_code
def yX5_isCut : MethodName := ⟨RX5, "isCut", "(LTurretPunch$Area;)Z"⟩
abbrev cX5_isCellCut : ByteArray := prog_7_method_9_code
def yX5_isCellCut : MethodName := ⟨RX5, "isCellCut", "(II)Z"⟩
abbrev cX5_cutCells : ByteArray := prog_7_method_10_code
def yX5_cutCells : MethodName := ⟨RX5, "cutCells", "()I"⟩
abbrev cX5_holesDone : ByteArray := prog_7_method_11_code
def yX5_holesDone : MethodName := ⟨RX5, "holesDone", "(LTurretPunch$Job;)I"⟩
abbrev cX5_clampAt : ByteArray := prog_7_method_12_code
def yX5_clampAt : MethodName := ⟨RX5, "clampAt", "(LTurretPunch$Job;II)I"⟩
abbrev cX5_isTakenByOther : ByteArray := prog_7_method_13_code
def yX5_isTakenByOther : MethodName := ⟨RX5, "isTakenByOther", "(LTurretPunch$Job;II)Z"⟩
abbrev cX5_isClamped : ByteArray := prog_7_method_14_code
def yX5_isClamped : MethodName := ⟨RX5, "isClamped", "(LTurretPunch$Job;LTurretPunch$Area;)Z"⟩
def RX6 : String := "TurretPunch$Text"
def TX6 : u_T := fun k => match k with
  | 0 => ("TurretPunch$Text", "letters", "[C", true)
  | _ => ("TurretPunch$Text", "length", "I", false)
def tyX6 : Nat → FieldType := fun k => match k with
  | 0 => .array .char
  | _ => .int
theorem nmX6 : ∀ a, a < 2 → ∀ b, b < 2 → a ≠ b → (TX6 a).2.1 ≠ (TX6 b).2.1 := by decide +kernel
theorem tyX6_ok : ∀ k, k < 2 → parseFieldDescriptor (TX6 k).2.2.1 = some (tyX6 k) := by decide +kernel
abbrev cX6_init : ByteArray := prog_8_method_1_code
def yX6_init : MethodName := ⟨RX6, "<init>", "()V"⟩
abbrev cX6_append : ByteArray := prog_8_method_2_code
def yX6_append : MethodName := ⟨RX6, "append", "(C)Z"⟩
abbrev cX6_clear : ByteArray := prog_8_method_3_code
def yX6_clear : MethodName := ⟨RX6, "clear", "()V"⟩
abbrev cX6_letterAt : ByteArray := prog_8_method_4_code
def yX6_letterAt : MethodName := ⟨RX6, "letterAt", "(I)C"⟩
def RX7 : String := "TurretPunch$Tool"
def TX7 : u_T := fun k => match k with
  | 0 => ("TurretPunch$Tool", "wide", "I", false)
  | 1 => ("TurretPunch$Tool", "high", "I", false)
  | 2 => ("TurretPunch$Tool", "life", "I", false)
  | _ => ("TurretPunch$Tool", "canTurn", "Z", false)
def tyX7 : Nat → FieldType := fun k => match k with
  | 0 => .int
  | 1 => .int
  | 2 => .int
  | _ => .boolean
theorem nmX7 : ∀ a, a < 4 → ∀ b, b < 4 → a ≠ b → (TX7 a).2.1 ≠ (TX7 b).2.1 := by decide +kernel
theorem tyX7_ok : ∀ k, k < 4 → parseFieldDescriptor (TX7 k).2.2.1 = some (tyX7 k) := by decide +kernel
abbrev cX7_init : ByteArray := prog_9_method_1_code
def yX7_init : MethodName := ⟨RX7, "<init>", "()V"⟩
abbrev cX7_wideWhen : ByteArray := prog_9_method_2_code
def yX7_wideWhen : MethodName := ⟨RX7, "wideWhen", "(Z)I"⟩
abbrev cX7_highWhen : ByteArray := prog_9_method_3_code
def yX7_highWhen : MethodName := ⟨RX7, "highWhen", "(Z)I"⟩
abbrev cX7_stampAt : ByteArray := prog_9_method_4_code
def yX7_stampAt : MethodName := ⟨RX7, "stampAt", "(LTurretPunch$Area;IIZ)V"⟩
abbrev cX7_hitsFor : ByteArray := prog_9_method_5_code
def yX7_hitsFor : MethodName := ⟨RX7, "hitsFor", "(LTurretPunch$Area;Z)I"⟩
def RX8 : String := "TurretPunch"
def TX8 : u_T := fun k => match k with
  | 0 => ("TurretPunch", "text", "LTurretPunch$Text;", true)
  | 1 => ("TurretPunch", "reader", "LTurretPunch$Reader;", true)
  | 2 => ("TurretPunch", "now", "LTurretPunch$State;", true)
  | 3 => ("TurretPunch", "trial", "LTurretPunch$State;", true)
  | 4 => ("TurretPunch", "history", "LTurretPunch$History;", true)
  | 5 => ("TurretPunch", "planner", "LTurretPunch$Planner;", true)
  | 6 => ("TurretPunch", "stamp", "LTurretPunch$Area;", true)
  | 7 => ("TurretPunch", "laid", "LTurretPunch$Job;", false)
  | _ => ("TurretPunch", "draft", "LTurretPunch$Job;", false)
def tyX8 : Nat → FieldType := fun k => match k with
  | 0 => .object "TurretPunch$Text"
  | 1 => .object "TurretPunch$Reader"
  | 2 => .object "TurretPunch$State"
  | 3 => .object "TurretPunch$State"
  | 4 => .object "TurretPunch$History"
  | 5 => .object "TurretPunch$Planner"
  | 6 => .object "TurretPunch$Area"
  | 7 => .object "TurretPunch$Job"
  | _ => .object "TurretPunch$Job"
theorem nmX8 : ∀ a, a < 9 → ∀ b, b < 9 → a ≠ b → (TX8 a).2.1 ≠ (TX8 b).2.1 := by decide +kernel
theorem tyX8_ok : ∀ k, k < 9 → parseFieldDescriptor (TX8 k).2.2.1 = some (tyX8 k) := by decide +kernel
abbrev cX8_init : ByteArray := prog_1_method_1_code
def yX8_init : MethodName := ⟨RX8, "<init>", "()V"⟩
abbrev cX8_write : ByteArray := prog_1_method_2_code
def yX8_write : MethodName := ⟨RX8, "write", "(I)I"⟩
abbrev cX8_wipe : ByteArray := prog_1_method_3_code
def yX8_wipe : MethodName := ⟨RX8, "wipe", "()I"⟩
abbrev cX8_fault : ByteArray := prog_1_method_4_code
def yX8_fault : MethodName := ⟨RX8, "fault", "()I"⟩
abbrev cX8_lay : ByteArray := prog_1_method_5_code
def yX8_lay : MethodName := ⟨RX8, "lay", "()I"⟩
abbrev cX8_hit : ByteArray := prog_1_method_6_code
def yX8_hit : MethodName := ⟨RX8, "hit", "(IIII)I"⟩
abbrev cX8_why : ByteArray := prog_1_method_7_code
def yX8_why : MethodName := ⟨RX8, "why", "(IIII)I"⟩
abbrev cX8_nibble : ByteArray := prog_1_method_8_code
def yX8_nibble : MethodName := ⟨RX8, "nibble", "(III)I"⟩
abbrev cX8_clamp : ByteArray := prog_1_method_9_code
def yX8_clamp : MethodName := ⟨RX8, "clamp", "(II)I"⟩
abbrev cX8_sharpen : ByteArray := prog_1_method_10_code
def yX8_sharpen : MethodName := ⟨RX8, "sharpen", "(I)I"⟩
abbrev cX8_undo : ByteArray := prog_1_method_11_code
def yX8_undo : MethodName := ⟨RX8, "undo", "()I"⟩
abbrev cX8_station : ByteArray := prog_1_method_12_code
def yX8_station : MethodName := ⟨RX8, "station", "(II)I"⟩
abbrev cX8_hole : ByteArray := prog_1_method_13_code
def yX8_hole : MethodName := ⟨RX8, "hole", "(II)I"⟩
abbrev cX8_hits : ByteArray := prog_1_method_14_code
def yX8_hits : MethodName := ⟨RX8, "hits", "(III)I"⟩
abbrev cX8_cell : ByteArray := prog_1_method_15_code
def yX8_cell : MethodName := ⟨RX8, "cell", "(III)I"⟩
abbrev cX8_column : ByteArray := prog_1_method_16_code
def yX8_column : MethodName := ⟨RX8, "column", "(I)I"⟩
abbrev cX8_plan : ByteArray := prog_1_method_17_code
def yX8_plan : MethodName := ⟨RX8, "plan", "(I)I"⟩
abbrev cX8_drawn : ByteArray := prog_1_method_18_code
def yX8_drawn : MethodName := ⟨RX8, "drawn", "(I)I"⟩
abbrev cX8_count : ByteArray := prog_1_method_19_code
def yX8_count : MethodName := ⟨RX8, "count", "(I)I"⟩
abbrev cX8_layDraft : ByteArray := prog_1_method_20_code
def yX8_layDraft : MethodName := ⟨RX8, "layDraft", "()Z"⟩
abbrev cX8_punchAll : ByteArray := prog_1_method_21_code
def yX8_punchAll : MethodName := ⟨RX8, "punchAll", "(LTurretPunch$Area;IZ)I"⟩
abbrev cX8_signAt : ByteArray := prog_1_method_22_code
def yX8_signAt : MethodName := ⟨RX8, "signAt", "(II)C"⟩
abbrev cX8_isHitTold : ByteArray := prog_1_method_23_code
def yX8_isHitTold : MethodName := ⟨RX8, "isHitTold", "(IIII)Z"⟩
abbrev cX8_isStation : ByteArray := prog_1_method_24_code
def yX8_isStation : MethodName := ⟨RX8, "isStation", "(I)Z"⟩
abbrev cX8_isHole : ByteArray := prog_1_method_25_code
def yX8_isHole : MethodName := ⟨RX8, "isHole", "(I)Z"⟩
abbrev cX8_isClamp : ByteArray := prog_1_method_26_code
def yX8_isClamp : MethodName := ⟨RX8, "isClamp", "(I)Z"⟩
abbrev cX8_isFlag : ByteArray := prog_1_method_27_code
def yX8_isFlag : MethodName := ⟨RX8, "isFlag", "(I)Z"⟩
abbrev cX8_asFlag : ByteArray := prog_1_method_28_code
def yX8_asFlag : MethodName := ⟨RX8, "asFlag", "(Z)I"⟩
abbrev cX8_isWithin : ByteArray := prog_1_method_29_code
def yX8_isWithin : MethodName := ⟨RX8, "isWithin", "(III)Z"⟩
abbrev cX8_stepsOver : ByteArray := prog_1_method_30_code
def yX8_stepsOver : MethodName := ⟨RX8, "stepsOver", "(II)I"⟩
def RX9 : String := "TurretPunchModel"
def TX9 : u_T := fun k => match k with
  | 0 => ("TurretPunchModel", "length", "I", false)
  | 1 => ("TurretPunchModel", "text", "[I", true)
  | 2 => ("TurretPunchModel", "spot", "I", false)
  | 3 => ("TurretPunchModel", "told", "[I", true)
  | 4 => ("TurretPunchModel", "read", "[I", true)
  | 5 => ("TurretPunchModel", "s", "[I", true)
  | 6 => ("TurretPunchModel", "before", "[I", true)
  | 7 => ("TurretPunchModel", "undoMany", "I", false)
  | 8 => ("TurretPunchModel", "held", "[I", true)
  | 9 => ("TurretPunchModel", "turns", "[I", true)
  | 10 => ("TurretPunchModel", "best", "[I", true)
  | 11 => ("TurretPunchModel", "bestHits", "I", false)
  | 12 => ("TurretPunchModel", "bestTurns", "I", false)
  | 13 => ("TurretPunchModel", "openAs", "[I", true)
  | 14 => ("TurretPunchModel", "hitsAs", "[I", true)
  | _ => ("TurretPunchModel", "wayAs", "[I", true)
def tyX9 : Nat → FieldType := fun k => match k with
  | 0 => .int
  | 1 => .array .int
  | 2 => .int
  | 3 => .array .int
  | 4 => .array .int
  | 5 => .array .int
  | 6 => .array .int
  | 7 => .int
  | 8 => .array .int
  | 9 => .array .int
  | 10 => .array .int
  | 11 => .int
  | 12 => .int
  | 13 => .array .int
  | 14 => .array .int
  | _ => .array .int
theorem nmX9 : ∀ a, a < 16 → ∀ b, b < 16 → a ≠ b → (TX9 a).2.1 ≠ (TX9 b).2.1 := by decide +kernel
theorem tyX9_ok : ∀ k, k < 16 → parseFieldDescriptor (TX9 k).2.2.1 = some (tyX9 k) := by decide +kernel
abbrev cX9_init : ByteArray := prog_11_method_1_code
def yX9_init : MethodName := ⟨RX9, "<init>", "()V"⟩
abbrev cX9_adds : ByteArray := prog_11_method_2_code
def yX9_adds : MethodName := ⟨RX9, "adds", "(IIIIII)V"⟩
abbrev cX9_anew : ByteArray := prog_11_method_3_code
def yX9_anew : MethodName := ⟨RX9, "anew", "()V"⟩
abbrev cX9_in : ByteArray := prog_11_method_4_code
def yX9_in : MethodName := ⟨RX9, "in", "(JJJ)Z"⟩
abbrev cX9_write : ByteArray := prog_11_method_5_code
def yX9_write : MethodName := ⟨RX9, "write", "(I)I"⟩
abbrev cX9_wipe : ByteArray := prog_11_method_6_code
def yX9_wipe : MethodName := ⟨RX9, "wipe", "()I"⟩
abbrev cX9_byteAt : ByteArray := prog_11_method_7_code
def yX9_byteAt : MethodName := ⟨RX9, "byteAt", "(I)I"⟩
abbrev cX9_number : ByteArray := prog_11_method_8_code
def yX9_number : MethodName := ⟨RX9, "number", "(IIII)Z"⟩
abbrev cX9_word : ByteArray := prog_11_method_9_code
def yX9_word : MethodName := ⟨RX9, "word", "(JI)Z"⟩
abbrev cX9_word5 : ByteArray := prog_11_method_10_code
def yX9_word5 : MethodName := ⟨RX9, "word5", "(IIIII)J"⟩
abbrev cX9_word4 : ByteArray := prog_11_method_11_code
def yX9_word4 : MethodName := ⟨RX9, "word4", "(IIII)J"⟩
abbrev cX9_isApart : ByteArray := prog_11_method_12_code
def yX9_isApart : MethodName := ⟨RX9, "isApart", "(II)Z"⟩
abbrev cX9_holeItem : ByteArray := prog_11_method_13_code
def yX9_holeItem : MethodName := ⟨RX9, "holeItem", "()Z"⟩
abbrev cX9_item : ByteArray := prog_11_method_14_code
def yX9_item : MethodName := ⟨RX9, "item", "()Z"⟩
abbrev cX9_fault : ByteArray := prog_11_method_15_code
def yX9_fault : MethodName := ⟨RX9, "fault", "()I"⟩
abbrev cX9_lay : ByteArray := prog_11_method_16_code
def yX9_lay : MethodName := ⟨RX9, "lay", "()I"⟩
abbrev cX9_note : ByteArray := prog_11_method_17_code
def yX9_note : MethodName := ⟨RX9, "note", "()V"⟩
abbrev cX9_takesBack : ByteArray := prog_11_method_18_code
def yX9_takesBack : MethodName := ⟨RX9, "takesBack", "()V"⟩
abbrev cX9_undo : ByteArray := prog_11_method_19_code
def yX9_undo : MethodName := ⟨RX9, "undo", "()I"⟩
abbrev cX9_isCell : ByteArray := prog_11_method_20_code
def yX9_isCell : MethodName := ⟨RX9, "isCell", "(II)Z"⟩
abbrev cX9_isStation : ByteArray := prog_11_method_21_code
def yX9_isStation : MethodName := ⟨RX9, "isStation", "(I)Z"⟩
abbrev cX9_isHole : ByteArray := prog_11_method_22_code
def yX9_isHole : MethodName := ⟨RX9, "isHole", "(I)Z"⟩
abbrev cX9_holeAt : ByteArray := prog_11_method_23_code
def yX9_holeAt : MethodName := ⟨RX9, "holeAt", "(II)I"⟩
abbrev cX9_clampAt : ByteArray := prog_11_method_24_code
def yX9_clampAt : MethodName := ⟨RX9, "clampAt", "(II)I"⟩
abbrev cX9_wide : ByteArray := prog_11_method_25_code
def yX9_wide : MethodName := ⟨RX9, "wide", "(II)I"⟩
abbrev cX9_high : ByteArray := prog_11_method_26_code
def yX9_high : MethodName := ⟨RX9, "high", "(II)I"⟩
abbrev cX9_isDull : ByteArray := prog_11_method_27_code
def yX9_isDull : MethodName := ⟨RX9, "isDull", "(I)Z"⟩
abbrev cX9_ring : ByteArray := prog_11_method_28_code
def yX9_ring : MethodName := ⟨RX9, "ring", "(II)I"⟩
abbrev cX9_whyNot : ByteArray := prog_11_method_29_code
def yX9_whyNot : MethodName := ⟨RX9, "whyNot", "(IIII)I"⟩
abbrev cX9_why : ByteArray := prog_11_method_30_code
def yX9_why : MethodName := ⟨RX9, "why", "(IIII)I"⟩
abbrev cX9_strikes : ByteArray := prog_11_method_31_code
def yX9_strikes : MethodName := ⟨RX9, "strikes", "(IIII)I"⟩
abbrev cX9_hit : ByteArray := prog_11_method_32_code
def yX9_hit : MethodName := ⟨RX9, "hit", "(IIII)I"⟩
abbrev cX9_open : ByteArray := prog_11_method_33_code
def yX9_open : MethodName := ⟨RX9, "open", "(I)I"⟩
abbrev cX9_parts : ByteArray := prog_11_method_34_code
def yX9_parts : MethodName := ⟨RX9, "parts", "(II)I"⟩
abbrev cX9_nibbles : ByteArray := prog_11_method_35_code
def yX9_nibbles : MethodName := ⟨RX9, "nibbles", "(III)I"⟩
abbrev cX9_isCut : ByteArray := prog_11_method_36_code
def yX9_isCut : MethodName := ⟨RX9, "isCut", "(IIII)Z"⟩
abbrev cX9_nibble : ByteArray := prog_11_method_37_code
def yX9_nibble : MethodName := ⟨RX9, "nibble", "(III)I"⟩
abbrev cX9_swaps : ByteArray := prog_11_method_38_code
def yX9_swaps : MethodName := ⟨RX9, "swaps", "()V"⟩
abbrev cX9_clamp : ByteArray := prog_11_method_39_code
def yX9_clamp : MethodName := ⟨RX9, "clamp", "(II)I"⟩
abbrev cX9_sharpen : ByteArray := prog_11_method_40_code
def yX9_sharpen : MethodName := ⟨RX9, "sharpen", "(I)I"⟩
abbrev cX9_station : ByteArray := prog_11_method_41_code
def yX9_station : MethodName := ⟨RX9, "station", "(II)I"⟩
abbrev cX9_hole : ByteArray := prog_11_method_42_code
def yX9_hole : MethodName := ⟨RX9, "hole", "(II)I"⟩
abbrev cX9_hits : ByteArray := prog_11_method_43_code
def yX9_hits : MethodName := ⟨RX9, "hits", "(III)I"⟩
abbrev cX9_cell : ByteArray := prog_11_method_44_code
def yX9_cell : MethodName := ⟨RX9, "cell", "(III)I"⟩
abbrev cX9_column : ByteArray := prog_11_method_45_code
def yX9_column : MethodName := ⟨RX9, "column", "(I)I"⟩
abbrev cX9_round : ByteArray := prog_11_method_46_code
def yX9_round : MethodName := ⟨RX9, "round", "(I)I"⟩
abbrev cX9_plans : ByteArray := prog_11_method_47_code
def yX9_plans : MethodName := ⟨RX9, "plans", "()Z"⟩
abbrev cX9_looks : ByteArray := prog_11_method_48_code
def yX9_looks : MethodName := ⟨RX9, "looks", "()V"⟩
abbrev cX9_plan : ByteArray := prog_11_method_49_code
def yX9_plan : MethodName := ⟨RX9, "plan", "(I)I"⟩
abbrev cX9_drawn : ByteArray := prog_11_method_50_code
def yX9_drawn : MethodName := ⟨RX9, "drawn", "(I)I"⟩
abbrev cX9_count : ByteArray := prog_11_method_51_code
def yX9_count : MethodName := ⟨RX9, "count", "(I)I"⟩
def RJ6 : String := "java/lang/Integer"
abbrev cJ6_bitCount_0f7a4 : ByteArray := prog_12_method_49_code
def yJ6_bitCount_0f7a4 : MethodName := ⟨RJ6, "bitCount", "(I)I"⟩
def RJ9 : String := "java/lang/Math"
abbrev cJ9_abs_0f7a4 : ByteArray := prog_13_method_59_code
def yJ9_abs_0f7a4 : MethodName := ⟨RJ9, "abs", "(I)I"⟩
abbrev cJ9_min_7cf53 : ByteArray := prog_13_method_69_code
def yJ9_min_7cf53 : MethodName := ⟨RJ9, "min", "(II)I"⟩
def RJ0 : String := "java/lang/String"
abbrev cJ0_length_8abf5 : ByteArray := prog_14_method_54_code
def yJ0_length_8abf5 : MethodName := ⟨RJ0, "length", "()I"⟩
abbrev cJ0_charAt_5068e : ByteArray := prog_14_method_56_code
def yJ0_charAt_5068e : MethodName := ⟨RJ0, "charAt", "(I)C"⟩
abbrev cJ0_coder_7d493 : ByteArray := prog_14_method_152_code
def yJ0_coder_7d493 : MethodName := ⟨RJ0, "coder", "()B"⟩
abbrev cJ0_isLatin1_aae02 : ByteArray := prog_14_method_154_code
def yJ0_isLatin1_aae02 : MethodName := ⟨RJ0, "isLatin1", "()Z"⟩
abbrev cJ0_checkIndex_df160 : ByteArray := prog_14_method_155_code
def yJ0_checkIndex_df160 : MethodName := ⟨RJ0, "checkIndex", "(II)V"⟩
def RJ1 : String := "java/lang/StringLatin1"
abbrev cJ1_charAt_3b067 : ByteArray := prog_15_method_2_code
def yJ1_charAt_3b067 : MethodName := ⟨RJ1, "charAt", "([BI)C"⟩
def RJ10 : String := "java/lang/System"
def RJ7 : String := "java/util/Arrays"
abbrev cJ7_fill_53178 : ByteArray := prog_18_method_103_code
def yJ7_fill_53178 : MethodName := ⟨RJ7, "fill", "([II)V"⟩
def RJ3 : String := "jdk/internal/util/Preconditions"
abbrev cJ3_checkIndex_8e157 : ByteArray := prog_19_method_11_code
def yJ3_checkIndex_8e157 : MethodName := ⟨RJ3, "checkIndex", "(IILjava/util/function/BiFunction;)I"⟩
def RL : String := "TurretPunchLaw"
abbrev cL_law : ByteArray := code
def yL_law : MethodName := ⟨RL, "law", "([I)Z"⟩
abbrev vwCl : List vw_C := [(RX0, TX0, 4), (RX1, TX1, 3), (RX2, TX2, 7), (RX3, TX3, 8), (RX4, TX4, 2), (RX5, TX5, 7), (RX6, TX6, 2), (RX7, TX7, 4), (RX8, TX8, 9), (RX9, TX9, 16)]
def gTb : List Cond := lw_tbl.filter goodWord
theorem g_tb {w : Cond} (i : Nat) (h : tables_1[i]? = some w) (hg : goodWord w = true) : w ∈ gTb := List.mem_filter.mpr ⟨List.mem_append_right _ (List.mem_of_getElem? h), hg⟩
theorem g_tp {w : Cond} (i : Nat) (h : (k2_sels lw_privs)[i]? = some w) (hg : goodWord w = true) : w ∈ gTb := List.mem_filter.mpr ⟨List.mem_append_left _ (List.mem_of_getElem? h), hg⟩
theorem g_in0 : ∀ w ∈ u_ws RX0 TX0 4, w ∈ gTb := by decide +kernel
theorem g_in1 : ∀ w ∈ u_ws RX1 TX1 3, w ∈ gTb := by decide +kernel
theorem g_in2 : ∀ w ∈ u_ws RX2 TX2 7, w ∈ gTb := by decide +kernel
theorem g_in3 : ∀ w ∈ u_ws RX3 TX3 8, w ∈ gTb := by decide +kernel
theorem g_in4 : ∀ w ∈ u_ws RX4 TX4 2, w ∈ gTb := by decide +kernel
theorem g_in5 : ∀ w ∈ u_ws RX5 TX5 7, w ∈ gTb := by decide +kernel
theorem g_in6 : ∀ w ∈ u_ws RX6 TX6 2, w ∈ gTb := by decide +kernel
theorem g_in7 : ∀ w ∈ u_ws RX7 TX7 4, w ∈ gTb := by decide +kernel
theorem g_in8 : ∀ w ∈ u_ws RX8 TX8 9, w ∈ gTb := by decide +kernel
theorem g_in9 : ∀ w ∈ u_ws RX9 TX9 16, w ∈ gTb := by decide +kernel
