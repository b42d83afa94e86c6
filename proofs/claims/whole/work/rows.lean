section
-- ===== PART A: goes FIRST, ahead of the names: the tables' words, and 'selects' of the private methods out of them =====
/-- a private method of a class that the tables say can be made, by its rows of tables_1 -/
def lw_okq (q : MethodName × Nat) : Prop := (q.1.cls ≠ "java/lang/invoke/MethodHandle" ∧ q.1.cls ≠ "java/lang/invoke/VarHandle") ∧ Cond.instantiable q.1.cls q.2 ∈ tables_1 ∧ Cond.privateMethod q.1 ∈ tables_1 ∧ Cond.instanceMethod q.1 ∈ tables_1
theorem lw_p0 : lw_okq (⟨"TriggerConditions$Permission", "copyFrom", "(LTriggerConditions$Permission;)V"⟩, 9) := ⟨⟨by decide +kernel, by decide +kernel⟩, List.mem_of_getElem? (i := 17) (by decide +kernel), List.mem_of_getElem? (i := 194) (by decide +kernel), List.mem_of_getElem? (i := 195) (by decide +kernel)⟩
theorem lw_p1 : lw_okq (⟨"TriggerConditions$Condition", "copyFrom", "(LTriggerConditions$Condition;)V"⟩, 14) := ⟨⟨by decide +kernel, by decide +kernel⟩, List.mem_of_getElem? (i := 24) (by decide +kernel), List.mem_of_getElem? (i := 198) (by decide +kernel), List.mem_of_getElem? (i := 199) (by decide +kernel)⟩
theorem lw_p2 : lw_okq (⟨"TriggerConditions$Permission", "addCondition", "(IIII)I"⟩, 9) := ⟨⟨by decide +kernel, by decide +kernel⟩, List.mem_of_getElem? (i := 17) (by decide +kernel), List.mem_of_getElem? (i := 202) (by decide +kernel), List.mem_of_getElem? (i := 203) (by decide +kernel)⟩
theorem lw_p3 : lw_okq (⟨"TriggerConditions$Permission", "isBegun", "(I)Z"⟩, 9) := ⟨⟨by decide +kernel, by decide +kernel⟩, List.mem_of_getElem? (i := 17) (by decide +kernel), List.mem_of_getElem? (i := 213) (by decide +kernel), List.mem_of_getElem? (i := 214) (by decide +kernel)⟩
theorem lw_p4 : lw_okq (⟨"TriggerConditions$Condition", "startAs", "(IIII)V"⟩, 14) := ⟨⟨by decide +kernel, by decide +kernel⟩, List.mem_of_getElem? (i := 24) (by decide +kernel), List.mem_of_getElem? (i := 219) (by decide +kernel), List.mem_of_getElem? (i := 220) (by decide +kernel)⟩
theorem lw_p5 : lw_okq (⟨"TriggerConditions$Condition", "endBreach", "()V"⟩, 14) := ⟨⟨by decide +kernel, by decide +kernel⟩, List.mem_of_getElem? (i := 24) (by decide +kernel), List.mem_of_getElem? (i := 223) (by decide +kernel), List.mem_of_getElem? (i := 224) (by decide +kernel)⟩
theorem lw_p6 : lw_okq (⟨"TriggerConditions", "recorded", "(I)I"⟩, 6) := ⟨⟨by decide +kernel, by decide +kernel⟩, List.mem_of_getElem? (i := 9) (by decide +kernel), List.mem_of_getElem? (i := 227) (by decide +kernel), List.mem_of_getElem? (i := 228) (by decide +kernel)⟩
theorem lw_p7 : lw_okq (⟨"TriggerConditions", "rotateHistory", "()V"⟩, 6) := ⟨⟨by decide +kernel, by decide +kernel⟩, List.mem_of_getElem? (i := 9) (by decide +kernel), List.mem_of_getElem? (i := 231) (by decide +kernel), List.mem_of_getElem? (i := 232) (by decide +kernel)⟩
theorem lw_p8 : lw_okq (⟨"TriggerConditions$Permission", "beginStage", "(I)I"⟩, 9) := ⟨⟨by decide +kernel, by decide +kernel⟩, List.mem_of_getElem? (i := 17) (by decide +kernel), List.mem_of_getElem? (i := 239) (by decide +kernel), List.mem_of_getElem? (i := 240) (by decide +kernel)⟩
theorem lw_p9 : lw_okq (⟨"TriggerConditions$Permission", "canBegin", "(I)Z"⟩, 9) := ⟨⟨by decide +kernel, by decide +kernel⟩, List.mem_of_getElem? (i := 17) (by decide +kernel), List.mem_of_getElem? (i := 243) (by decide +kernel), List.mem_of_getElem? (i := 244) (by decide +kernel)⟩
theorem lw_p10 : lw_okq (⟨"TriggerConditions$Permission", "unmetAhead", "(I)I"⟩, 9) := ⟨⟨by decide +kernel, by decide +kernel⟩, List.mem_of_getElem? (i := 17) (by decide +kernel), List.mem_of_getElem? (i := 247) (by decide +kernel), List.mem_of_getElem? (i := 248) (by decide +kernel)⟩
theorem lw_p11 : lw_okq (⟨"TriggerConditions$Condition", "isMet", "()Z"⟩, 14) := ⟨⟨by decide +kernel, by decide +kernel⟩, List.mem_of_getElem? (i := 24) (by decide +kernel), List.mem_of_getElem? (i := 251) (by decide +kernel), List.mem_of_getElem? (i := 252) (by decide +kernel)⟩
theorem lw_p12 : lw_okq (⟨"TriggerConditions$Permission", "startBreach", "(LTriggerConditions$Condition;)V"⟩, 9) := ⟨⟨by decide +kernel, by decide +kernel⟩, List.mem_of_getElem? (i := 17) (by decide +kernel), List.mem_of_getElem? (i := 255) (by decide +kernel), List.mem_of_getElem? (i := 256) (by decide +kernel)⟩
theorem lw_p13 : lw_okq (⟨"TriggerConditions$Permission", "finishStage", "(I)I"⟩, 9) := ⟨⟨by decide +kernel, by decide +kernel⟩, List.mem_of_getElem? (i := 17) (by decide +kernel), List.mem_of_getElem? (i := 263) (by decide +kernel), List.mem_of_getElem? (i := 264) (by decide +kernel)⟩
theorem lw_p14 : lw_okq (⟨"TriggerConditions$Permission", "isFinished", "(I)Z"⟩, 9) := ⟨⟨by decide +kernel, by decide +kernel⟩, List.mem_of_getElem? (i := 17) (by decide +kernel), List.mem_of_getElem? (i := 267) (by decide +kernel), List.mem_of_getElem? (i := 268) (by decide +kernel)⟩
theorem lw_p15 : lw_okq (⟨"TriggerConditions$Permission", "applyFor", "(II)I"⟩, 9) := ⟨⟨by decide +kernel, by decide +kernel⟩, List.mem_of_getElem? (i := 17) (by decide +kernel), List.mem_of_getElem? (i := 275) (by decide +kernel), List.mem_of_getElem? (i := 276) (by decide +kernel)⟩
def lw_privs_1 : List (MethodName × Nat) := [(⟨"TriggerConditions$Permission", "copyFrom", "(LTriggerConditions$Permission;)V"⟩, 9), (⟨"TriggerConditions$Condition", "copyFrom", "(LTriggerConditions$Condition;)V"⟩, 14), (⟨"TriggerConditions$Permission", "addCondition", "(IIII)I"⟩, 9), (⟨"TriggerConditions$Permission", "isBegun", "(I)Z"⟩, 9), (⟨"TriggerConditions$Condition", "startAs", "(IIII)V"⟩, 14), (⟨"TriggerConditions$Condition", "endBreach", "()V"⟩, 14), (⟨"TriggerConditions", "recorded", "(I)I"⟩, 6), (⟨"TriggerConditions", "rotateHistory", "()V"⟩, 6), (⟨"TriggerConditions$Permission", "beginStage", "(I)I"⟩, 9), (⟨"TriggerConditions$Permission", "canBegin", "(I)Z"⟩, 9), (⟨"TriggerConditions$Permission", "unmetAhead", "(I)I"⟩, 9), (⟨"TriggerConditions$Condition", "isMet", "()Z"⟩, 14), (⟨"TriggerConditions$Permission", "startBreach", "(LTriggerConditions$Condition;)V"⟩, 9), (⟨"TriggerConditions$Permission", "finishStage", "(I)I"⟩, 9), (⟨"TriggerConditions$Permission", "isFinished", "(I)Z"⟩, 9), (⟨"TriggerConditions$Permission", "applyFor", "(II)I"⟩, 9)]
theorem lw_r1 : ∀ q ∈ lw_privs_1, lw_okq q := List.forall_mem_cons.mpr ⟨lw_p0, List.forall_mem_cons.mpr ⟨lw_p1, List.forall_mem_cons.mpr ⟨lw_p2, List.forall_mem_cons.mpr ⟨lw_p3, List.forall_mem_cons.mpr ⟨lw_p4, List.forall_mem_cons.mpr ⟨lw_p5, List.forall_mem_cons.mpr ⟨lw_p6, List.forall_mem_cons.mpr ⟨lw_p7, List.forall_mem_cons.mpr ⟨lw_p8, List.forall_mem_cons.mpr ⟨lw_p9, List.forall_mem_cons.mpr ⟨lw_p10, List.forall_mem_cons.mpr ⟨lw_p11, List.forall_mem_cons.mpr ⟨lw_p12, List.forall_mem_cons.mpr ⟨lw_p13, List.forall_mem_cons.mpr ⟨lw_p14, List.forall_mem_cons.mpr ⟨lw_p15, fun _ h => absurd h List.not_mem_nil⟩⟩⟩⟩⟩⟩⟩⟩⟩⟩⟩⟩⟩⟩⟩⟩
theorem lw_p16 : lw_okq (⟨"TriggerConditions$Permission", "hasCondition", "(I)Z"⟩, 9) := ⟨⟨by decide +kernel, by decide +kernel⟩, List.mem_of_getElem? (i := 17) (by decide +kernel), List.mem_of_getElem? (i := 279) (by decide +kernel), List.mem_of_getElem? (i := 280) (by decide +kernel)⟩
theorem lw_p17 : lw_okq (⟨"TriggerConditions$Condition", "isPartsSet", "(I)Z"⟩, 14) := ⟨⟨by decide +kernel, by decide +kernel⟩, List.mem_of_getElem? (i := 24) (by decide +kernel), List.mem_of_getElem? (i := 283) (by decide +kernel), List.mem_of_getElem? (i := 284) (by decide +kernel)⟩
theorem lw_p18 : lw_okq (⟨"TriggerConditions$Permission", "decideOn", "(II)I"⟩, 9) := ⟨⟨by decide +kernel, by decide +kernel⟩, List.mem_of_getElem? (i := 17) (by decide +kernel), List.mem_of_getElem? (i := 291) (by decide +kernel), List.mem_of_getElem? (i := 292) (by decide +kernel)⟩
theorem lw_p19 : lw_okq (⟨"TriggerConditions$Condition", "approve", "(I)V"⟩, 14) := ⟨⟨by decide +kernel, by decide +kernel⟩, List.mem_of_getElem? (i := 24) (by decide +kernel), List.mem_of_getElem? (i := 295) (by decide +kernel), List.mem_of_getElem? (i := 296) (by decide +kernel)⟩
theorem lw_p20 : lw_okq (⟨"TriggerConditions$Permission", "lapseOf", "(I)I"⟩, 9) := ⟨⟨by decide +kernel, by decide +kernel⟩, List.mem_of_getElem? (i := 17) (by decide +kernel), List.mem_of_getElem? (i := 310) (by decide +kernel), List.mem_of_getElem? (i := 311) (by decide +kernel)⟩
theorem lw_p21 : lw_okq (⟨"TriggerConditions$Permission", "stateOf", "(LTriggerConditions$Condition;)I"⟩, 9) := ⟨⟨by decide +kernel, by decide +kernel⟩, List.mem_of_getElem? (i := 17) (by decide +kernel), List.mem_of_getElem? (i := 314) (by decide +kernel), List.mem_of_getElem? (i := 315) (by decide +kernel)⟩
theorem lw_p22 : lw_okq (⟨"TriggerConditions$Permission", "cureOf", "(I)I"⟩, 9) := ⟨⟨by decide +kernel, by decide +kernel⟩, List.mem_of_getElem? (i := 17) (by decide +kernel), List.mem_of_getElem? (i := 322) (by decide +kernel), List.mem_of_getElem? (i := 323) (by decide +kernel)⟩
theorem lw_p23 : lw_okq (⟨"TriggerConditions$Permission", "serveOn", "(II)I"⟩, 9) := ⟨⟨by decide +kernel, by decide +kernel⟩, List.mem_of_getElem? (i := 17) (by decide +kernel), List.mem_of_getElem? (i := 331) (by decide +kernel), List.mem_of_getElem? (i := 332) (by decide +kernel)⟩
theorem lw_p24 : lw_okq (⟨"TriggerConditions$Permission", "varyTo", "(III)I"⟩, 9) := ⟨⟨by decide +kernel, by decide +kernel⟩, List.mem_of_getElem? (i := 17) (by decide +kernel), List.mem_of_getElem? (i := 339) (by decide +kernel), List.mem_of_getElem? (i := 340) (by decide +kernel)⟩
theorem lw_p25 : lw_okq (⟨"TriggerConditions$Permission", "canVary", "(LTriggerConditions$Condition;II)Z"⟩, 9) := ⟨⟨by decide +kernel, by decide +kernel⟩, List.mem_of_getElem? (i := 17) (by decide +kernel), List.mem_of_getElem? (i := 346) (by decide +kernel), List.mem_of_getElem? (i := 347) (by decide +kernel)⟩
theorem lw_p26 : lw_okq (⟨"TriggerConditions$Permission", "passDays", "(I)I"⟩, 9) := ⟨⟨by decide +kernel, by decide +kernel⟩, List.mem_of_getElem? (i := 17) (by decide +kernel), List.mem_of_getElem? (i := 354) (by decide +kernel), List.mem_of_getElem? (i := 355) (by decide +kernel)⟩
theorem lw_p27 : lw_okq (⟨"TriggerConditions$Permission", "passDayOf", "(LTriggerConditions$Condition;)V"⟩, 9) := ⟨⟨by decide +kernel, by decide +kernel⟩, List.mem_of_getElem? (i := 17) (by decide +kernel), List.mem_of_getElem? (i := 358) (by decide +kernel), List.mem_of_getElem? (i := 359) (by decide +kernel)⟩
theorem lw_p28 : lw_okq (⟨"TriggerConditions$Permission", "passClock", "(LTriggerConditions$Condition;)V"⟩, 9) := ⟨⟨by decide +kernel, by decide +kernel⟩, List.mem_of_getElem? (i := 17) (by decide +kernel), List.mem_of_getElem? (i := 362) (by decide +kernel), List.mem_of_getElem? (i := 363) (by decide +kernel)⟩
theorem lw_p29 : lw_okq (⟨"TriggerConditions$Condition", "ageBreach", "(I)V"⟩, 14) := ⟨⟨by decide +kernel, by decide +kernel⟩, List.mem_of_getElem? (i := 24) (by decide +kernel), List.mem_of_getElem? (i := 366) (by decide +kernel), List.mem_of_getElem? (i := 367) (by decide +kernel)⟩
theorem lw_p30 : lw_okq (⟨"TriggerConditions$Permission", "putSetting", "(II)I"⟩, 9) := ⟨⟨by decide +kernel, by decide +kernel⟩, List.mem_of_getElem? (i := 17) (by decide +kernel), List.mem_of_getElem? (i := 374) (by decide +kernel), List.mem_of_getElem? (i := 375) (by decide +kernel)⟩
theorem lw_p31 : lw_okq (⟨"TriggerConditions$Permission", "progressOf", "(I)I"⟩, 9) := ⟨⟨by decide +kernel, by decide +kernel⟩, List.mem_of_getElem? (i := 17) (by decide +kernel), List.mem_of_getElem? (i := 391) (by decide +kernel), List.mem_of_getElem? (i := 392) (by decide +kernel)⟩
def lw_privs_2 : List (MethodName × Nat) := [(⟨"TriggerConditions$Permission", "hasCondition", "(I)Z"⟩, 9), (⟨"TriggerConditions$Condition", "isPartsSet", "(I)Z"⟩, 14), (⟨"TriggerConditions$Permission", "decideOn", "(II)I"⟩, 9), (⟨"TriggerConditions$Condition", "approve", "(I)V"⟩, 14), (⟨"TriggerConditions$Permission", "lapseOf", "(I)I"⟩, 9), (⟨"TriggerConditions$Permission", "stateOf", "(LTriggerConditions$Condition;)I"⟩, 9), (⟨"TriggerConditions$Permission", "cureOf", "(I)I"⟩, 9), (⟨"TriggerConditions$Permission", "serveOn", "(II)I"⟩, 9), (⟨"TriggerConditions$Permission", "varyTo", "(III)I"⟩, 9), (⟨"TriggerConditions$Permission", "canVary", "(LTriggerConditions$Condition;II)Z"⟩, 9), (⟨"TriggerConditions$Permission", "passDays", "(I)I"⟩, 9), (⟨"TriggerConditions$Permission", "passDayOf", "(LTriggerConditions$Condition;)V"⟩, 9), (⟨"TriggerConditions$Permission", "passClock", "(LTriggerConditions$Condition;)V"⟩, 9), (⟨"TriggerConditions$Condition", "ageBreach", "(I)V"⟩, 14), (⟨"TriggerConditions$Permission", "putSetting", "(II)I"⟩, 9), (⟨"TriggerConditions$Permission", "progressOf", "(I)I"⟩, 9)]
theorem lw_r2 : ∀ q ∈ lw_privs_2, lw_okq q := List.forall_mem_cons.mpr ⟨lw_p16, List.forall_mem_cons.mpr ⟨lw_p17, List.forall_mem_cons.mpr ⟨lw_p18, List.forall_mem_cons.mpr ⟨lw_p19, List.forall_mem_cons.mpr ⟨lw_p20, List.forall_mem_cons.mpr ⟨lw_p21, List.forall_mem_cons.mpr ⟨lw_p22, List.forall_mem_cons.mpr ⟨lw_p23, List.forall_mem_cons.mpr ⟨lw_p24, List.forall_mem_cons.mpr ⟨lw_p25, List.forall_mem_cons.mpr ⟨lw_p26, List.forall_mem_cons.mpr ⟨lw_p27, List.forall_mem_cons.mpr ⟨lw_p28, List.forall_mem_cons.mpr ⟨lw_p29, List.forall_mem_cons.mpr ⟨lw_p30, List.forall_mem_cons.mpr ⟨lw_p31, fun _ h => absurd h List.not_mem_nil⟩⟩⟩⟩⟩⟩⟩⟩⟩⟩⟩⟩⟩⟩⟩⟩
theorem lw_p32 : lw_okq (⟨"TriggerConditions$Permission", "withState", "(I)I"⟩, 9) := ⟨⟨by decide +kernel, by decide +kernel⟩, List.mem_of_getElem? (i := 17) (by decide +kernel), List.mem_of_getElem? (i := 402) (by decide +kernel), List.mem_of_getElem? (i := 403) (by decide +kernel)⟩
theorem lw_p33 : lw_okq (⟨"TriggerConditions$Permission", "daysUntil", "(II)I"⟩, 9) := ⟨⟨by decide +kernel, by decide +kernel⟩, List.mem_of_getElem? (i := 17) (by decide +kernel), List.mem_of_getElem? (i := 410) (by decide +kernel), List.mem_of_getElem? (i := 411) (by decide +kernel)⟩
theorem lw_p34 : lw_okq (⟨"TriggerConditions$Permission", "daysUntilLawful", "(I)I"⟩, 9) := ⟨⟨by decide +kernel, by decide +kernel⟩, List.mem_of_getElem? (i := 17) (by decide +kernel), List.mem_of_getElem? (i := 421) (by decide +kernel), List.mem_of_getElem? (i := 422) (by decide +kernel)⟩
theorem lw_p35 : lw_okq (⟨"TriggerConditions$Permission", "partsOfAll", "()I"⟩, 9) := ⟨⟨by decide +kernel, by decide +kernel⟩, List.mem_of_getElem? (i := 17) (by decide +kernel), List.mem_of_getElem? (i := 450) (by decide +kernel), List.mem_of_getElem? (i := 451) (by decide +kernel)⟩
theorem lw_p36 : lw_okq (⟨"TriggerConditions$Permission", "approvedOfAll", "()I"⟩, 9) := ⟨⟨by decide +kernel, by decide +kernel⟩, List.mem_of_getElem? (i := 17) (by decide +kernel), List.mem_of_getElem? (i := 454) (by decide +kernel), List.mem_of_getElem? (i := 455) (by decide +kernel)⟩
theorem lw_p37 : lw_okq (⟨"TriggerConditions$Orders", "append", "(C)I"⟩, 7) := ⟨⟨by decide +kernel, by decide +kernel⟩, List.mem_of_getElem? (i := 138) (by decide +kernel), List.mem_of_getElem? (i := 466) (by decide +kernel), List.mem_of_getElem? (i := 467) (by decide +kernel)⟩
theorem lw_p38 : lw_okq (⟨"TriggerConditions$Orders", "empty", "()I"⟩, 7) := ⟨⟨by decide +kernel, by decide +kernel⟩, List.mem_of_getElem? (i := 138) (by decide +kernel), List.mem_of_getElem? (i := 475) (by decide +kernel), List.mem_of_getElem? (i := 476) (by decide +kernel)⟩
theorem lw_p39 : lw_okq (⟨"TriggerConditions$Orders", "doAll", "(LTriggerConditions$Permission;)I"⟩, 7) := ⟨⟨by decide +kernel, by decide +kernel⟩, List.mem_of_getElem? (i := 138) (by decide +kernel), List.mem_of_getElem? (i := 483) (by decide +kernel), List.mem_of_getElem? (i := 484) (by decide +kernel)⟩
theorem lw_p40 : lw_okq (⟨"TriggerConditions$Orders", "readOrder", "()Z"⟩, 7) := ⟨⟨by decide +kernel, by decide +kernel⟩, List.mem_of_getElem? (i := 138) (by decide +kernel), List.mem_of_getElem? (i := 487) (by decide +kernel), List.mem_of_getElem? (i := 488) (by decide +kernel)⟩
theorem lw_p41 : lw_okq (⟨"TriggerConditions$Orders", "readNumber", "(I)Z"⟩, 7) := ⟨⟨by decide +kernel, by decide +kernel⟩, List.mem_of_getElem? (i := 138) (by decide +kernel), List.mem_of_getElem? (i := 494) (by decide +kernel), List.mem_of_getElem? (i := 495) (by decide +kernel)⟩
theorem lw_p42 : lw_okq (⟨"TriggerConditions$Orders", "readSign", "(C)Z"⟩, 7) := ⟨⟨by decide +kernel, by decide +kernel⟩, List.mem_of_getElem? (i := 138) (by decide +kernel), List.mem_of_getElem? (i := 501) (by decide +kernel), List.mem_of_getElem? (i := 502) (by decide +kernel)⟩
theorem lw_p43 : lw_okq (⟨"TriggerConditions$Orders", "doOrder", "(LTriggerConditions$Permission;)I"⟩, 7) := ⟨⟨by decide +kernel, by decide +kernel⟩, List.mem_of_getElem? (i := 138) (by decide +kernel), List.mem_of_getElem? (i := 505) (by decide +kernel), List.mem_of_getElem? (i := 506) (by decide +kernel)⟩
theorem lw_p44 : lw_okq (⟨"TriggerConditionsModel", "doCondition", "(IIII)I"⟩, 13) := ⟨⟨by decide +kernel, by decide +kernel⟩, List.mem_of_getElem? (i := 519) (by decide +kernel), List.mem_of_getElem? (i := 572) (by decide +kernel), List.mem_of_getElem? (i := 573) (by decide +kernel)⟩
theorem lw_p45 : lw_okq (⟨"TriggerConditionsModel", "hasBegun", "(I)Z"⟩, 13) := ⟨⟨by decide +kernel, by decide +kernel⟩, List.mem_of_getElem? (i := 519) (by decide +kernel), List.mem_of_getElem? (i := 590) (by decide +kernel), List.mem_of_getElem? (i := 591) (by decide +kernel)⟩
theorem lw_p46 : lw_okq (⟨"TriggerConditionsModel", "put", "(III)V"⟩, 13) := ⟨⟨by decide +kernel, by decide +kernel⟩, List.mem_of_getElem? (i := 519) (by decide +kernel), List.mem_of_getElem? (i := 596) (by decide +kernel), List.mem_of_getElem? (i := 597) (by decide +kernel)⟩
theorem lw_p47 : lw_okq (⟨"TriggerConditionsModel", "changed", "(I)I"⟩, 13) := ⟨⟨by decide +kernel, by decide +kernel⟩, List.mem_of_getElem? (i := 519) (by decide +kernel), List.mem_of_getElem? (i := 600) (by decide +kernel), List.mem_of_getElem? (i := 601) (by decide +kernel)⟩
def lw_privs_3 : List (MethodName × Nat) := [(⟨"TriggerConditions$Permission", "withState", "(I)I"⟩, 9), (⟨"TriggerConditions$Permission", "daysUntil", "(II)I"⟩, 9), (⟨"TriggerConditions$Permission", "daysUntilLawful", "(I)I"⟩, 9), (⟨"TriggerConditions$Permission", "partsOfAll", "()I"⟩, 9), (⟨"TriggerConditions$Permission", "approvedOfAll", "()I"⟩, 9), (⟨"TriggerConditions$Orders", "append", "(C)I"⟩, 7), (⟨"TriggerConditions$Orders", "empty", "()I"⟩, 7), (⟨"TriggerConditions$Orders", "doAll", "(LTriggerConditions$Permission;)I"⟩, 7), (⟨"TriggerConditions$Orders", "readOrder", "()Z"⟩, 7), (⟨"TriggerConditions$Orders", "readNumber", "(I)Z"⟩, 7), (⟨"TriggerConditions$Orders", "readSign", "(C)Z"⟩, 7), (⟨"TriggerConditions$Orders", "doOrder", "(LTriggerConditions$Permission;)I"⟩, 7), (⟨"TriggerConditionsModel", "doCondition", "(IIII)I"⟩, 13), (⟨"TriggerConditionsModel", "hasBegun", "(I)Z"⟩, 13), (⟨"TriggerConditionsModel", "put", "(III)V"⟩, 13), (⟨"TriggerConditionsModel", "changed", "(I)I"⟩, 13)]
theorem lw_r3 : ∀ q ∈ lw_privs_3, lw_okq q := List.forall_mem_cons.mpr ⟨lw_p32, List.forall_mem_cons.mpr ⟨lw_p33, List.forall_mem_cons.mpr ⟨lw_p34, List.forall_mem_cons.mpr ⟨lw_p35, List.forall_mem_cons.mpr ⟨lw_p36, List.forall_mem_cons.mpr ⟨lw_p37, List.forall_mem_cons.mpr ⟨lw_p38, List.forall_mem_cons.mpr ⟨lw_p39, List.forall_mem_cons.mpr ⟨lw_p40, List.forall_mem_cons.mpr ⟨lw_p41, List.forall_mem_cons.mpr ⟨lw_p42, List.forall_mem_cons.mpr ⟨lw_p43, List.forall_mem_cons.mpr ⟨lw_p44, List.forall_mem_cons.mpr ⟨lw_p45, List.forall_mem_cons.mpr ⟨lw_p46, List.forall_mem_cons.mpr ⟨lw_p47, fun _ h => absurd h List.not_mem_nil⟩⟩⟩⟩⟩⟩⟩⟩⟩⟩⟩⟩⟩⟩⟩⟩
theorem lw_p48 : lw_okq (⟨"TriggerConditionsModel", "record", "()V"⟩, 13) := ⟨⟨by decide +kernel, by decide +kernel⟩, List.mem_of_getElem? (i := 519) (by decide +kernel), List.mem_of_getElem? (i := 608) (by decide +kernel), List.mem_of_getElem? (i := 609) (by decide +kernel)⟩
theorem lw_p49 : lw_okq (⟨"TriggerConditionsModel", "doBegin", "(I)I"⟩, 13) := ⟨⟨by decide +kernel, by decide +kernel⟩, List.mem_of_getElem? (i := 519) (by decide +kernel), List.mem_of_getElem? (i := 616) (by decide +kernel), List.mem_of_getElem? (i := 617) (by decide +kernel)⟩
theorem lw_p50 : lw_okq (⟨"TriggerConditionsModel", "mayBegin", "(I)Z"⟩, 13) := ⟨⟨by decide +kernel, by decide +kernel⟩, List.mem_of_getElem? (i := 519) (by decide +kernel), List.mem_of_getElem? (i := 620) (by decide +kernel), List.mem_of_getElem? (i := 621) (by decide +kernel)⟩
theorem lw_p51 : lw_okq (⟨"TriggerConditionsModel", "unmetAhead", "(I)I"⟩, 13) := ⟨⟨by decide +kernel, by decide +kernel⟩, List.mem_of_getElem? (i := 519) (by decide +kernel), List.mem_of_getElem? (i := 624) (by decide +kernel), List.mem_of_getElem? (i := 625) (by decide +kernel)⟩
theorem lw_p52 : lw_okq (⟨"TriggerConditionsModel", "get", "(II)I"⟩, 13) := ⟨⟨by decide +kernel, by decide +kernel⟩, List.mem_of_getElem? (i := 519) (by decide +kernel), List.mem_of_getElem? (i := 628) (by decide +kernel), List.mem_of_getElem? (i := 629) (by decide +kernel)⟩
theorem lw_p53 : lw_okq (⟨"TriggerConditionsModel", "isMet", "(I)Z"⟩, 13) := ⟨⟨by decide +kernel, by decide +kernel⟩, List.mem_of_getElem? (i := 519) (by decide +kernel), List.mem_of_getElem? (i := 632) (by decide +kernel), List.mem_of_getElem? (i := 633) (by decide +kernel)⟩
theorem lw_p54 : lw_okq (⟨"TriggerConditionsModel", "allParts", "(I)I"⟩, 13) := ⟨⟨by decide +kernel, by decide +kernel⟩, List.mem_of_getElem? (i := 519) (by decide +kernel), List.mem_of_getElem? (i := 636) (by decide +kernel), List.mem_of_getElem? (i := 637) (by decide +kernel)⟩
theorem lw_p55 : lw_okq (⟨"TriggerConditionsModel", "breaks", "(I)V"⟩, 13) := ⟨⟨by decide +kernel, by decide +kernel⟩, List.mem_of_getElem? (i := 519) (by decide +kernel), List.mem_of_getElem? (i := 640) (by decide +kernel), List.mem_of_getElem? (i := 641) (by decide +kernel)⟩
theorem lw_p56 : lw_okq (⟨"TriggerConditionsModel", "doFinish", "(I)I"⟩, 13) := ⟨⟨by decide +kernel, by decide +kernel⟩, List.mem_of_getElem? (i := 519) (by decide +kernel), List.mem_of_getElem? (i := 648) (by decide +kernel), List.mem_of_getElem? (i := 649) (by decide +kernel)⟩
theorem lw_p57 : lw_okq (⟨"TriggerConditionsModel", "isFinished", "(I)Z"⟩, 13) := ⟨⟨by decide +kernel, by decide +kernel⟩, List.mem_of_getElem? (i := 519) (by decide +kernel), List.mem_of_getElem? (i := 652) (by decide +kernel), List.mem_of_getElem? (i := 653) (by decide +kernel)⟩
theorem lw_p58 : lw_okq (⟨"TriggerConditionsModel", "doApply", "(II)I"⟩, 13) := ⟨⟨by decide +kernel, by decide +kernel⟩, List.mem_of_getElem? (i := 519) (by decide +kernel), List.mem_of_getElem? (i := 660) (by decide +kernel), List.mem_of_getElem? (i := 661) (by decide +kernel)⟩
theorem lw_p59 : lw_okq (⟨"TriggerConditionsModel", "isCondition", "(I)Z"⟩, 13) := ⟨⟨by decide +kernel, by decide +kernel⟩, List.mem_of_getElem? (i := 519) (by decide +kernel), List.mem_of_getElem? (i := 664) (by decide +kernel), List.mem_of_getElem? (i := 665) (by decide +kernel)⟩
theorem lw_p60 : lw_okq (⟨"TriggerConditionsModel", "doDecide", "(II)I"⟩, 13) := ⟨⟨by decide +kernel, by decide +kernel⟩, List.mem_of_getElem? (i := 519) (by decide +kernel), List.mem_of_getElem? (i := 672) (by decide +kernel), List.mem_of_getElem? (i := 673) (by decide +kernel)⟩
theorem lw_p61 : lw_okq (⟨"TriggerConditionsModel", "approves", "(II)V"⟩, 13) := ⟨⟨by decide +kernel, by decide +kernel⟩, List.mem_of_getElem? (i := 519) (by decide +kernel), List.mem_of_getElem? (i := 676) (by decide +kernel), List.mem_of_getElem? (i := 677) (by decide +kernel)⟩
theorem lw_p62 : lw_okq (⟨"TriggerConditionsModel", "mends", "(I)V"⟩, 13) := ⟨⟨by decide +kernel, by decide +kernel⟩, List.mem_of_getElem? (i := 519) (by decide +kernel), List.mem_of_getElem? (i := 680) (by decide +kernel), List.mem_of_getElem? (i := 681) (by decide +kernel)⟩
theorem lw_p63 : lw_okq (⟨"TriggerConditionsModel", "doLapse", "(I)I"⟩, 13) := ⟨⟨by decide +kernel, by decide +kernel⟩, List.mem_of_getElem? (i := 519) (by decide +kernel), List.mem_of_getElem? (i := 691) (by decide +kernel), List.mem_of_getElem? (i := 692) (by decide +kernel)⟩
def lw_privs_4 : List (MethodName × Nat) := [(⟨"TriggerConditionsModel", "record", "()V"⟩, 13), (⟨"TriggerConditionsModel", "doBegin", "(I)I"⟩, 13), (⟨"TriggerConditionsModel", "mayBegin", "(I)Z"⟩, 13), (⟨"TriggerConditionsModel", "unmetAhead", "(I)I"⟩, 13), (⟨"TriggerConditionsModel", "get", "(II)I"⟩, 13), (⟨"TriggerConditionsModel", "isMet", "(I)Z"⟩, 13), (⟨"TriggerConditionsModel", "allParts", "(I)I"⟩, 13), (⟨"TriggerConditionsModel", "breaks", "(I)V"⟩, 13), (⟨"TriggerConditionsModel", "doFinish", "(I)I"⟩, 13), (⟨"TriggerConditionsModel", "isFinished", "(I)Z"⟩, 13), (⟨"TriggerConditionsModel", "doApply", "(II)I"⟩, 13), (⟨"TriggerConditionsModel", "isCondition", "(I)Z"⟩, 13), (⟨"TriggerConditionsModel", "doDecide", "(II)I"⟩, 13), (⟨"TriggerConditionsModel", "approves", "(II)V"⟩, 13), (⟨"TriggerConditionsModel", "mends", "(I)V"⟩, 13), (⟨"TriggerConditionsModel", "doLapse", "(I)I"⟩, 13)]
theorem lw_r4 : ∀ q ∈ lw_privs_4, lw_okq q := List.forall_mem_cons.mpr ⟨lw_p48, List.forall_mem_cons.mpr ⟨lw_p49, List.forall_mem_cons.mpr ⟨lw_p50, List.forall_mem_cons.mpr ⟨lw_p51, List.forall_mem_cons.mpr ⟨lw_p52, List.forall_mem_cons.mpr ⟨lw_p53, List.forall_mem_cons.mpr ⟨lw_p54, List.forall_mem_cons.mpr ⟨lw_p55, List.forall_mem_cons.mpr ⟨lw_p56, List.forall_mem_cons.mpr ⟨lw_p57, List.forall_mem_cons.mpr ⟨lw_p58, List.forall_mem_cons.mpr ⟨lw_p59, List.forall_mem_cons.mpr ⟨lw_p60, List.forall_mem_cons.mpr ⟨lw_p61, List.forall_mem_cons.mpr ⟨lw_p62, List.forall_mem_cons.mpr ⟨lw_p63, fun _ h => absurd h List.not_mem_nil⟩⟩⟩⟩⟩⟩⟩⟩⟩⟩⟩⟩⟩⟩⟩⟩
theorem lw_p64 : lw_okq (⟨"TriggerConditionsModel", "stateOf", "(I)I"⟩, 13) := ⟨⟨by decide +kernel, by decide +kernel⟩, List.mem_of_getElem? (i := 519) (by decide +kernel), List.mem_of_getElem? (i := 695) (by decide +kernel), List.mem_of_getElem? (i := 696) (by decide +kernel)⟩
theorem lw_p65 : lw_okq (⟨"TriggerConditionsModel", "isAsleep", "(I)Z"⟩, 13) := ⟨⟨by decide +kernel, by decide +kernel⟩, List.mem_of_getElem? (i := 519) (by decide +kernel), List.mem_of_getElem? (i := 699) (by decide +kernel), List.mem_of_getElem? (i := 700) (by decide +kernel)⟩
theorem lw_p66 : lw_okq (⟨"TriggerConditionsModel", "doCure", "(I)I"⟩, 13) := ⟨⟨by decide +kernel, by decide +kernel⟩, List.mem_of_getElem? (i := 519) (by decide +kernel), List.mem_of_getElem? (i := 707) (by decide +kernel), List.mem_of_getElem? (i := 708) (by decide +kernel)⟩
theorem lw_p67 : lw_okq (⟨"TriggerConditionsModel", "doServe", "(II)I"⟩, 13) := ⟨⟨by decide +kernel, by decide +kernel⟩, List.mem_of_getElem? (i := 519) (by decide +kernel), List.mem_of_getElem? (i := 715) (by decide +kernel), List.mem_of_getElem? (i := 716) (by decide +kernel)⟩
theorem lw_p68 : lw_okq (⟨"TriggerConditionsModel", "doVary", "(III)I"⟩, 13) := ⟨⟨by decide +kernel, by decide +kernel⟩, List.mem_of_getElem? (i := 519) (by decide +kernel), List.mem_of_getElem? (i := 724) (by decide +kernel), List.mem_of_getElem? (i := 725) (by decide +kernel)⟩
theorem lw_p69 : lw_okq (⟨"TriggerConditionsModel", "isValue", "(III)Z"⟩, 13) := ⟨⟨by decide +kernel, by decide +kernel⟩, List.mem_of_getElem? (i := 519) (by decide +kernel), List.mem_of_getElem? (i := 728) (by decide +kernel), List.mem_of_getElem? (i := 729) (by decide +kernel)⟩
theorem lw_p70 : lw_okq (⟨"TriggerConditionsModel", "mayVary", "(III)Z"⟩, 13) := ⟨⟨by decide +kernel, by decide +kernel⟩, List.mem_of_getElem? (i := 519) (by decide +kernel), List.mem_of_getElem? (i := 732) (by decide +kernel), List.mem_of_getElem? (i := 733) (by decide +kernel)⟩
theorem lw_p71 : lw_okq (⟨"TriggerConditionsModel", "doPass", "(I)I"⟩, 13) := ⟨⟨by decide +kernel, by decide +kernel⟩, List.mem_of_getElem? (i := 519) (by decide +kernel), List.mem_of_getElem? (i := 740) (by decide +kernel), List.mem_of_getElem? (i := 741) (by decide +kernel)⟩
theorem lw_p72 : lw_okq (⟨"TriggerConditionsModel", "passDay", "()V"⟩, 13) := ⟨⟨by decide +kernel, by decide +kernel⟩, List.mem_of_getElem? (i := 519) (by decide +kernel), List.mem_of_getElem? (i := 745) (by decide +kernel), List.mem_of_getElem? (i := 746) (by decide +kernel)⟩
theorem lw_p73 : lw_okq (⟨"TriggerConditionsModel", "waitsOn", "(I)V"⟩, 13) := ⟨⟨by decide +kernel, by decide +kernel⟩, List.mem_of_getElem? (i := 519) (by decide +kernel), List.mem_of_getElem? (i := 749) (by decide +kernel), List.mem_of_getElem? (i := 750) (by decide +kernel)⟩
theorem lw_p74 : lw_okq (⟨"TriggerConditionsModel", "runsOn", "(I)V"⟩, 13) := ⟨⟨by decide +kernel, by decide +kernel⟩, List.mem_of_getElem? (i := 519) (by decide +kernel), List.mem_of_getElem? (i := 753) (by decide +kernel), List.mem_of_getElem? (i := 754) (by decide +kernel)⟩
theorem lw_p75 : lw_okq (⟨"TriggerConditionsModel", "ages", "(I)V"⟩, 13) := ⟨⟨by decide +kernel, by decide +kernel⟩, List.mem_of_getElem? (i := 519) (by decide +kernel), List.mem_of_getElem? (i := 757) (by decide +kernel), List.mem_of_getElem? (i := 758) (by decide +kernel)⟩
theorem lw_p76 : lw_okq (⟨"TriggerConditionsModel", "doSet", "(II)I"⟩, 13) := ⟨⟨by decide +kernel, by decide +kernel⟩, List.mem_of_getElem? (i := 519) (by decide +kernel), List.mem_of_getElem? (i := 765) (by decide +kernel), List.mem_of_getElem? (i := 766) (by decide +kernel)⟩
theorem lw_p77 : lw_okq (⟨"TriggerConditionsModel", "withState", "(I)I"⟩, 13) := ⟨⟨by decide +kernel, by decide +kernel⟩, List.mem_of_getElem? (i := 519) (by decide +kernel), List.mem_of_getElem? (i := 784) (by decide +kernel), List.mem_of_getElem? (i := 785) (by decide +kernel)⟩
theorem lw_p78 : lw_okq (⟨"TriggerConditionsModel", "partsOf", "(Z)I"⟩, 13) := ⟨⟨by decide +kernel, by decide +kernel⟩, List.mem_of_getElem? (i := 519) (by decide +kernel), List.mem_of_getElem? (i := 817) (by decide +kernel), List.mem_of_getElem? (i := 818) (by decide +kernel)⟩
theorem lw_p79 : lw_okq (⟨"TriggerConditionsModel", "doesAll", "()Z"⟩, 13) := ⟨⟨by decide +kernel, by decide +kernel⟩, List.mem_of_getElem? (i := 519) (by decide +kernel), List.mem_of_getElem? (i := 839) (by decide +kernel), List.mem_of_getElem? (i := 840) (by decide +kernel)⟩
def lw_privs_5 : List (MethodName × Nat) := [(⟨"TriggerConditionsModel", "stateOf", "(I)I"⟩, 13), (⟨"TriggerConditionsModel", "isAsleep", "(I)Z"⟩, 13), (⟨"TriggerConditionsModel", "doCure", "(I)I"⟩, 13), (⟨"TriggerConditionsModel", "doServe", "(II)I"⟩, 13), (⟨"TriggerConditionsModel", "doVary", "(III)I"⟩, 13), (⟨"TriggerConditionsModel", "isValue", "(III)Z"⟩, 13), (⟨"TriggerConditionsModel", "mayVary", "(III)Z"⟩, 13), (⟨"TriggerConditionsModel", "doPass", "(I)I"⟩, 13), (⟨"TriggerConditionsModel", "passDay", "()V"⟩, 13), (⟨"TriggerConditionsModel", "waitsOn", "(I)V"⟩, 13), (⟨"TriggerConditionsModel", "runsOn", "(I)V"⟩, 13), (⟨"TriggerConditionsModel", "ages", "(I)V"⟩, 13), (⟨"TriggerConditionsModel", "doSet", "(II)I"⟩, 13), (⟨"TriggerConditionsModel", "withState", "(I)I"⟩, 13), (⟨"TriggerConditionsModel", "partsOf", "(Z)I"⟩, 13), (⟨"TriggerConditionsModel", "doesAll", "()Z"⟩, 13)]
theorem lw_r5 : ∀ q ∈ lw_privs_5, lw_okq q := List.forall_mem_cons.mpr ⟨lw_p64, List.forall_mem_cons.mpr ⟨lw_p65, List.forall_mem_cons.mpr ⟨lw_p66, List.forall_mem_cons.mpr ⟨lw_p67, List.forall_mem_cons.mpr ⟨lw_p68, List.forall_mem_cons.mpr ⟨lw_p69, List.forall_mem_cons.mpr ⟨lw_p70, List.forall_mem_cons.mpr ⟨lw_p71, List.forall_mem_cons.mpr ⟨lw_p72, List.forall_mem_cons.mpr ⟨lw_p73, List.forall_mem_cons.mpr ⟨lw_p74, List.forall_mem_cons.mpr ⟨lw_p75, List.forall_mem_cons.mpr ⟨lw_p76, List.forall_mem_cons.mpr ⟨lw_p77, List.forall_mem_cons.mpr ⟨lw_p78, List.forall_mem_cons.mpr ⟨lw_p79, fun _ h => absurd h List.not_mem_nil⟩⟩⟩⟩⟩⟩⟩⟩⟩⟩⟩⟩⟩⟩⟩⟩
theorem lw_p80 : lw_okq (⟨"TriggerConditionsModel", "readsOrder", "()Z"⟩, 13) := ⟨⟨by decide +kernel, by decide +kernel⟩, List.mem_of_getElem? (i := 519) (by decide +kernel), List.mem_of_getElem? (i := 843) (by decide +kernel), List.mem_of_getElem? (i := 844) (by decide +kernel)⟩
theorem lw_p81 : lw_okq (⟨"TriggerConditionsModel", "takes", "(I)Z"⟩, 13) := ⟨⟨by decide +kernel, by decide +kernel⟩, List.mem_of_getElem? (i := 519) (by decide +kernel), List.mem_of_getElem? (i := 850) (by decide +kernel), List.mem_of_getElem? (i := 851) (by decide +kernel)⟩
theorem lw_p82 : lw_okq (⟨"TriggerConditionsModel", "takesNumber", "(I)Z"⟩, 13) := ⟨⟨by decide +kernel, by decide +kernel⟩, List.mem_of_getElem? (i := 519) (by decide +kernel), List.mem_of_getElem? (i := 854) (by decide +kernel), List.mem_of_getElem? (i := 855) (by decide +kernel)⟩
theorem lw_p83 : lw_okq (⟨"TriggerConditionsModel", "doesOrder", "()I"⟩, 13) := ⟨⟨by decide +kernel, by decide +kernel⟩, List.mem_of_getElem? (i := 519) (by decide +kernel), List.mem_of_getElem? (i := 860) (by decide +kernel), List.mem_of_getElem? (i := 861) (by decide +kernel)⟩
def lw_privs_6 : List (MethodName × Nat) := [(⟨"TriggerConditionsModel", "readsOrder", "()Z"⟩, 13), (⟨"TriggerConditionsModel", "takes", "(I)Z"⟩, 13), (⟨"TriggerConditionsModel", "takesNumber", "(I)Z"⟩, 13), (⟨"TriggerConditionsModel", "doesOrder", "()I"⟩, 13)]
theorem lw_r6 : ∀ q ∈ lw_privs_6, lw_okq q := List.forall_mem_cons.mpr ⟨lw_p80, List.forall_mem_cons.mpr ⟨lw_p81, List.forall_mem_cons.mpr ⟨lw_p82, List.forall_mem_cons.mpr ⟨lw_p83, fun _ h => absurd h List.not_mem_nil⟩⟩⟩⟩
def lw_privs : List (MethodName × Nat) := lw_privs_1 ++ (lw_privs_2 ++ (lw_privs_3 ++ (lw_privs_4 ++ (lw_privs_5 ++ (lw_privs_6)))))
def lw_tbl : List Cond := k2_sels lw_privs ++ tables_1
theorem lw_privs_ok : ∀ q ∈ lw_privs, lw_okq q := by
  show ∀ q ∈ lw_privs_1 ++ (lw_privs_2 ++ (lw_privs_3 ++ (lw_privs_4 ++ (lw_privs_5 ++ (lw_privs_6))))), lw_okq q
  exact List.forall_mem_append.mpr ⟨lw_r1, List.forall_mem_append.mpr ⟨lw_r2, List.forall_mem_append.mpr ⟨lw_r3, List.forall_mem_append.mpr ⟨lw_r4, List.forall_mem_append.mpr ⟨lw_r5, lw_r6⟩⟩⟩⟩⟩
/-- the streams that the claim lets the run draw from -/
abbrev lw_cs : List Choice := [Jvm.Choice.named "NaN.bits"]
theorem lw_bits : nanBits ∈ lw_cs := by first | decide | exact List.mem_cons_self | simp [lw_cs, nanBits]
end
section
-- names out of the printed list of the task: classes, fields, methods
def RX0 : String := "TriggerConditions$Condition"
def TX0 : u_T := fun k => match k with
  | 0 => ("TriggerConditions$Condition", "kind", "I", false)
  | 1 => ("TriggerConditions$Condition", "stage", "I", false)
  | 2 => ("TriggerConditions$Condition", "days", "I", false)
  | 3 => ("TriggerConditions$Condition", "parts", "I", false)
  | 4 => ("TriggerConditions$Condition", "approved", "I", false)
  | 5 => ("TriggerConditions$Condition", "applied", "I", false)
  | 6 => ("TriggerConditions$Condition", "appliedDays", "I", false)
  | 7 => ("TriggerConditions$Condition", "clock", "I", false)
  | 8 => ("TriggerConditions$Condition", "inBreach", "Z", false)
  | 9 => ("TriggerConditions$Condition", "immune", "Z", false)
  | 10 => ("TriggerConditions$Condition", "age", "I", false)
  | 11 => ("TriggerConditions$Condition", "noticed", "Z", false)
  | 12 => ("TriggerConditions$Condition", "noticeDays", "I", false)
  | _ => ("TriggerConditions$Condition", "overdue", "I", false)
def tyX0 : Nat → FieldType := fun k => match k with
  | 0 => .int
  | 1 => .int
  | 2 => .int
  | 3 => .int
  | 4 => .int
  | 5 => .int
  | 6 => .int
  | 7 => .int
  | 8 => .boolean
  | 9 => .boolean
  | 10 => .int
  | 11 => .boolean
  | 12 => .int
  | _ => .int
theorem nmX0 : ∀ a, a < 14 → ∀ b, b < 14 → a ≠ b → (TX0 a).2.1 ≠ (TX0 b).2.1 := by decide +kernel
theorem tyX0_ok : ∀ k, k < 14 → parseFieldDescriptor (TX0 k).2.2.1 = some (tyX0 k) := by decide +kernel
abbrev cX0_init : ByteArray := prog_2_method_1_code
def yX0_init : MethodName := ⟨RX0, "<init>", "()V"⟩
abbrev cX0_startAs : ByteArray := prog_2_method_2_code
def yX0_startAs : MethodName := ⟨RX0, "startAs", "(IIII)V"⟩
abbrev cX0_copyFrom : ByteArray := prog_2_method_3_code
def yX0_copyFrom : MethodName := ⟨RX0, "copyFrom", "(LTriggerConditions$Condition;)V"⟩
abbrev cX0_isMet : ByteArray := prog_2_method_4_code
def yX0_isMet : MethodName := ⟨RX0, "isMet", "()Z"⟩
abbrev cX0_isPartsSet : ByteArray := prog_2_method_5_code
def yX0_isPartsSet : MethodName := ⟨RX0, "isPartsSet", "(I)Z"⟩
abbrev cX0_approve : ByteArray := prog_2_method_6_code
def yX0_approve : MethodName := ⟨RX0, "approve", "(I)V"⟩
abbrev cX0_endBreach : ByteArray := prog_2_method_7_code
def yX0_endBreach : MethodName := ⟨RX0, "endBreach", "()V"⟩
abbrev cX0_ageBreach : ByteArray := prog_2_method_8_code
def yX0_ageBreach : MethodName := ⟨RX0, "ageBreach", "(I)V"⟩
def RX1 : String := "TriggerConditions$Orders"
def TX1 : u_T := fun k => match k with
  | 0 => ("TriggerConditions$Orders", "text", "[C", true)
  | 1 => ("TriggerConditions$Orders", "numbers", "[I", true)
  | 2 => ("TriggerConditions$Orders", "length", "I", false)
  | 3 => ("TriggerConditions$Orders", "start", "I", false)
  | 4 => ("TriggerConditions$Orders", "position", "I", false)
  | 5 => ("TriggerConditions$Orders", "reason", "I", false)
  | _ => ("TriggerConditions$Orders", "cause", "I", false)
def tyX1 : Nat → FieldType := fun k => match k with
  | 0 => .array .char
  | 1 => .array .int
  | 2 => .int
  | 3 => .int
  | 4 => .int
  | 5 => .int
  | _ => .int
theorem nmX1 : ∀ a, a < 7 → ∀ b, b < 7 → a ≠ b → (TX1 a).2.1 ≠ (TX1 b).2.1 := by decide +kernel
theorem tyX1_ok : ∀ k, k < 7 → parseFieldDescriptor (TX1 k).2.2.1 = some (tyX1 k) := by decide +kernel
abbrev cX1_init : ByteArray := prog_3_method_1_code
def yX1_init : MethodName := ⟨RX1, "<init>", "()V"⟩
abbrev cX1_append : ByteArray := prog_3_method_2_code
def yX1_append : MethodName := ⟨RX1, "append", "(C)I"⟩
abbrev cX1_empty : ByteArray := prog_3_method_3_code
def yX1_empty : MethodName := ⟨RX1, "empty", "()I"⟩
abbrev cX1_doAll : ByteArray := prog_3_method_4_code
def yX1_doAll : MethodName := ⟨RX1, "doAll", "(LTriggerConditions$Permission;)I"⟩
abbrev cX1_readOrder : ByteArray := prog_3_method_5_code
def yX1_readOrder : MethodName := ⟨RX1, "readOrder", "()Z"⟩
abbrev cX1_numbersBehind : ByteArray := prog_3_method_6_code
def yX1_numbersBehind : MethodName := ⟨RX1, "numbersBehind", "(C)I"⟩
abbrev cX1_readNumber : ByteArray := prog_3_method_7_code
def yX1_readNumber : MethodName := ⟨RX1, "readNumber", "(I)Z"⟩
abbrev cX1_isDigit : ByteArray := prog_3_method_8_code
def yX1_isDigit : MethodName := ⟨RX1, "isDigit", "(C)Z"⟩
abbrev cX1_readSign : ByteArray := prog_3_method_9_code
def yX1_readSign : MethodName := ⟨RX1, "readSign", "(C)Z"⟩
abbrev cX1_doOrder : ByteArray := prog_3_method_10_code
def yX1_doOrder : MethodName := ⟨RX1, "doOrder", "(LTriggerConditions$Permission;)I"⟩
def RX2 : String := "TriggerConditions$Permission"
def TX2 : u_T := fun k => match k with
  | 0 => ("TriggerConditions$Permission", "conditions", "[LTriggerConditions$Condition;", true)
  | 1 => ("TriggerConditions$Permission", "begunOn", "[I", true)
  | 2 => ("TriggerConditions$Permission", "finishedOn", "[I", true)
  | 3 => ("TriggerConditions$Permission", "conditionCount", "I", false)
  | 4 => ("TriggerConditions$Permission", "day", "I", false)
  | 5 => ("TriggerConditions$Permission", "breaches", "I", false)
  | 6 => ("TriggerConditions$Permission", "presumed", "I", false)
  | 7 => ("TriggerConditions$Permission", "applicationDays", "I", false)
  | _ => ("TriggerConditions$Permission", "immunityAge", "I", false)
def tyX2 : Nat → FieldType := fun k => match k with
  | 0 => .array (.object "TriggerConditions$Condition")
  | 1 => .array .int
  | 2 => .array .int
  | 3 => .int
  | 4 => .int
  | 5 => .int
  | 6 => .int
  | 7 => .int
  | _ => .int
theorem nmX2 : ∀ a, a < 9 → ∀ b, b < 9 → a ≠ b → (TX2 a).2.1 ≠ (TX2 b).2.1 := by decide +kernel
theorem tyX2_ok : ∀ k, k < 9 → parseFieldDescriptor (TX2 k).2.2.1 = some (tyX2 k) := by decide +kernel
abbrev cX2_init : ByteArray := prog_4_method_1_code
def yX2_init : MethodName := ⟨RX2, "<init>", "()V"⟩
abbrev cX2_copyFrom : ByteArray := prog_4_method_2_code
def yX2_copyFrom : MethodName := ⟨RX2, "copyFrom", "(LTriggerConditions$Permission;)V"⟩
abbrev cX2_hasCondition : ByteArray := prog_4_method_3_code
def yX2_hasCondition : MethodName := ⟨RX2, "hasCondition", "(I)Z"⟩
abbrev cX2_isBegun : ByteArray := prog_4_method_4_code
def yX2_isBegun : MethodName := ⟨RX2, "isBegun", "(I)Z"⟩
abbrev cX2_isFinished : ByteArray := prog_4_method_5_code
def yX2_isFinished : MethodName := ⟨RX2, "isFinished", "(I)Z"⟩
abbrev cX2_canBegin : ByteArray := prog_4_method_6_code
def yX2_canBegin : MethodName := ⟨RX2, "canBegin", "(I)Z"⟩
abbrev cX2_progressOf : ByteArray := prog_4_method_7_code
def yX2_progressOf : MethodName := ⟨RX2, "progressOf", "(I)I"⟩
abbrev cX2_stateOf : ByteArray := prog_4_method_8_code
def yX2_stateOf : MethodName := ⟨RX2, "stateOf", "(LTriggerConditions$Condition;)I"⟩
abbrev cX2_withState : ByteArray := prog_4_method_9_code
def yX2_withState : MethodName := ⟨RX2, "withState", "(I)I"⟩
abbrev cX2_unmetAhead : ByteArray := prog_4_method_10_code
def yX2_unmetAhead : MethodName := ⟨RX2, "unmetAhead", "(I)I"⟩
abbrev cX2_partsOfAll : ByteArray := prog_4_method_11_code
def yX2_partsOfAll : MethodName := ⟨RX2, "partsOfAll", "()I"⟩
abbrev cX2_approvedOfAll : ByteArray := prog_4_method_12_code
def yX2_approvedOfAll : MethodName := ⟨RX2, "approvedOfAll", "()I"⟩
abbrev cX2_addCondition : ByteArray := prog_4_method_13_code
def yX2_addCondition : MethodName := ⟨RX2, "addCondition", "(IIII)I"⟩
abbrev cX2_leastDays : ByteArray := prog_4_method_14_code
def yX2_leastDays : MethodName := ⟨RX2, "leastDays", "(I)I"⟩
abbrev cX2_beginStage : ByteArray := prog_4_method_15_code
def yX2_beginStage : MethodName := ⟨RX2, "beginStage", "(I)I"⟩
abbrev cX2_finishStage : ByteArray := prog_4_method_16_code
def yX2_finishStage : MethodName := ⟨RX2, "finishStage", "(I)I"⟩
abbrev cX2_applyFor : ByteArray := prog_4_method_17_code
def yX2_applyFor : MethodName := ⟨RX2, "applyFor", "(II)I"⟩
abbrev cX2_decideOn : ByteArray := prog_4_method_18_code
def yX2_decideOn : MethodName := ⟨RX2, "decideOn", "(II)I"⟩
abbrev cX2_lapseOf : ByteArray := prog_4_method_19_code
def yX2_lapseOf : MethodName := ⟨RX2, "lapseOf", "(I)I"⟩
abbrev cX2_cureOf : ByteArray := prog_4_method_20_code
def yX2_cureOf : MethodName := ⟨RX2, "cureOf", "(I)I"⟩
abbrev cX2_serveOn : ByteArray := prog_4_method_21_code
def yX2_serveOn : MethodName := ⟨RX2, "serveOn", "(II)I"⟩
abbrev cX2_varyTo : ByteArray := prog_4_method_22_code
def yX2_varyTo : MethodName := ⟨RX2, "varyTo", "(III)I"⟩
abbrev cX2_isVariation : ByteArray := prog_4_method_23_code
def yX2_isVariation : MethodName := ⟨RX2, "isVariation", "(III)Z"⟩
abbrev cX2_canVary : ByteArray := prog_4_method_24_code
def yX2_canVary : MethodName := ⟨RX2, "canVary", "(LTriggerConditions$Condition;II)Z"⟩
abbrev cX2_putSetting : ByteArray := prog_4_method_25_code
def yX2_putSetting : MethodName := ⟨RX2, "putSetting", "(II)I"⟩
abbrev cX2_passDays : ByteArray := prog_4_method_26_code
def yX2_passDays : MethodName := ⟨RX2, "passDays", "(I)I"⟩
abbrev cX2_passDayOf : ByteArray := prog_4_method_27_code
def yX2_passDayOf : MethodName := ⟨RX2, "passDayOf", "(LTriggerConditions$Condition;)V"⟩
abbrev cX2_passClock : ByteArray := prog_4_method_28_code
def yX2_passClock : MethodName := ⟨RX2, "passClock", "(LTriggerConditions$Condition;)V"⟩
abbrev cX2_startBreach : ByteArray := prog_4_method_29_code
def yX2_startBreach : MethodName := ⟨RX2, "startBreach", "(LTriggerConditions$Condition;)V"⟩
abbrev cX2_daysUntil : ByteArray := prog_4_method_30_code
def yX2_daysUntil : MethodName := ⟨RX2, "daysUntil", "(II)I"⟩
abbrev cX2_daysUntilLawful : ByteArray := prog_4_method_31_code
def yX2_daysUntilLawful : MethodName := ⟨RX2, "daysUntilLawful", "(I)I"⟩
def RX3 : String := "TriggerConditions"
def TX3 : u_T := fun k => match k with
  | 0 => ("TriggerConditions", "now", "LTriggerConditions$Permission;", true)
  | 1 => ("TriggerConditions", "trial", "LTriggerConditions$Permission;", true)
  | 2 => ("TriggerConditions", "history", "[LTriggerConditions$Permission;", true)
  | 3 => ("TriggerConditions", "orders", "LTriggerConditions$Orders;", true)
  | 4 => ("TriggerConditions", "before", "LTriggerConditions$Permission;", false)
  | _ => ("TriggerConditions", "states", "I", false)
def tyX3 : Nat → FieldType := fun k => match k with
  | 0 => .object "TriggerConditions$Permission"
  | 1 => .object "TriggerConditions$Permission"
  | 2 => .array (.object "TriggerConditions$Permission")
  | 3 => .object "TriggerConditions$Orders"
  | 4 => .object "TriggerConditions$Permission"
  | _ => .int
theorem nmX3 : ∀ a, a < 6 → ∀ b, b < 6 → a ≠ b → (TX3 a).2.1 ≠ (TX3 b).2.1 := by decide +kernel
theorem tyX3_ok : ∀ k, k < 6 → parseFieldDescriptor (TX3 k).2.2.1 = some (tyX3 k) := by decide +kernel
abbrev cX3_init : ByteArray := prog_1_method_1_code
def yX3_init : MethodName := ⟨RX3, "<init>", "()V"⟩
abbrev cX3_condition : ByteArray := prog_1_method_2_code
def yX3_condition : MethodName := ⟨RX3, "condition", "(IIII)I"⟩
abbrev cX3_begin : ByteArray := prog_1_method_3_code
def yX3_begin : MethodName := ⟨RX3, "begin", "(I)I"⟩
abbrev cX3_finish : ByteArray := prog_1_method_4_code
def yX3_finish : MethodName := ⟨RX3, "finish", "(I)I"⟩
abbrev cX3_apply : ByteArray := prog_1_method_5_code
def yX3_apply : MethodName := ⟨RX3, "apply", "(II)I"⟩
abbrev cX3_decide : ByteArray := prog_1_method_6_code
def yX3_decide : MethodName := ⟨RX3, "decide", "(II)I"⟩
abbrev cX3_lapse : ByteArray := prog_1_method_7_code
def yX3_lapse : MethodName := ⟨RX3, "lapse", "(I)I"⟩
abbrev cX3_cure : ByteArray := prog_1_method_8_code
def yX3_cure : MethodName := ⟨RX3, "cure", "(I)I"⟩
abbrev cX3_serve : ByteArray := prog_1_method_9_code
def yX3_serve : MethodName := ⟨RX3, "serve", "(II)I"⟩
abbrev cX3_vary : ByteArray := prog_1_method_10_code
def yX3_vary : MethodName := ⟨RX3, "vary", "(III)I"⟩
abbrev cX3_pass : ByteArray := prog_1_method_11_code
def yX3_pass : MethodName := ⟨RX3, "pass", "(I)I"⟩
abbrev cX3_set : ByteArray := prog_1_method_12_code
def yX3_set : MethodName := ⟨RX3, "set", "(II)I"⟩
abbrev cX3_conditionOf : ByteArray := prog_1_method_13_code
def yX3_conditionOf : MethodName := ⟨RX3, "conditionOf", "(II)I"⟩
abbrev cX3_stageOf : ByteArray := prog_1_method_14_code
def yX3_stageOf : MethodName := ⟨RX3, "stageOf", "(II)I"⟩
abbrev cX3_which : ByteArray := prog_1_method_15_code
def yX3_which : MethodName := ⟨RX3, "which", "(I)I"⟩
abbrev cX3_when : ByteArray := prog_1_method_16_code
def yX3_when : MethodName := ⟨RX3, "when", "(II)I"⟩
abbrev cX3_lawful : ByteArray := prog_1_method_17_code
def yX3_lawful : MethodName := ⟨RX3, "lawful", "(I)I"⟩
abbrev cX3_fine : ByteArray := prog_1_method_18_code
def yX3_fine : MethodName := ⟨RX3, "fine", "(IJ)J"⟩
abbrev cX3_share : ByteArray := prog_1_method_19_code
def yX3_share : MethodName := ⟨RX3, "share", "()I"⟩
abbrev cX3_count : ByteArray := prog_1_method_20_code
def yX3_count : MethodName := ⟨RX3, "count", "(I)I"⟩
abbrev cX3_undo : ByteArray := prog_1_method_21_code
def yX3_undo : MethodName := ⟨RX3, "undo", "()I"⟩
abbrev cX3_type : ByteArray := prog_1_method_22_code
def yX3_type : MethodName := ⟨RX3, "type", "(I)I"⟩
abbrev cX3_clearText : ByteArray := prog_1_method_23_code
def yX3_clearText : MethodName := ⟨RX3, "clearText", "()I"⟩
abbrev cX3_fault : ByteArray := prog_1_method_24_code
def yX3_fault : MethodName := ⟨RX3, "fault", "(I)I"⟩
abbrev cX3_play : ByteArray := prog_1_method_25_code
def yX3_play : MethodName := ⟨RX3, "play", "()I"⟩
abbrev cX3_recorded : ByteArray := prog_1_method_26_code
def yX3_recorded : MethodName := ⟨RX3, "recorded", "(I)I"⟩
abbrev cX3_rotateHistory : ByteArray := prog_1_method_27_code
def yX3_rotateHistory : MethodName := ⟨RX3, "rotateHistory", "()V"⟩
abbrev cX3_isWithin : ByteArray := prog_1_method_28_code
def yX3_isWithin : MethodName := ⟨RX3, "isWithin", "(III)Z"⟩
abbrev cX3_bitsOf : ByteArray := prog_1_method_29_code
def yX3_bitsOf : MethodName := ⟨RX3, "bitsOf", "(F)I"⟩
def RX4 : String := "TriggerConditionsModel"
def TX4 : u_T := fun k => match k with
  | 0 => ("TriggerConditionsModel", "all", "[I", true)
  | 1 => ("TriggerConditionsModel", "kept", "[I", true)
  | 2 => ("TriggerConditionsModel", "tried", "[I", true)
  | 3 => ("TriggerConditionsModel", "history", "[I", true)
  | 4 => ("TriggerConditionsModel", "historyLong", "I", false)
  | 5 => ("TriggerConditionsModel", "text", "[I", true)
  | 6 => ("TriggerConditionsModel", "textLong", "I", false)
  | 7 => ("TriggerConditionsModel", "from", "I", false)
  | 8 => ("TriggerConditionsModel", "at", "I", false)
  | 9 => ("TriggerConditionsModel", "number", "[I", true)
  | 10 => ("TriggerConditionsModel", "faultWhy", "I", false)
  | 11 => ("TriggerConditionsModel", "faultCause", "I", false)
  | _ => ("TriggerConditionsModel", "done", "I", false)
def tyX4 : Nat → FieldType := fun k => match k with
  | 0 => .array .int
  | 1 => .array .int
  | 2 => .array .int
  | 3 => .array .int
  | 4 => .int
  | 5 => .array .int
  | 6 => .int
  | 7 => .int
  | 8 => .int
  | 9 => .array .int
  | 10 => .int
  | 11 => .int
  | _ => .int
theorem nmX4 : ∀ a, a < 13 → ∀ b, b < 13 → a ≠ b → (TX4 a).2.1 ≠ (TX4 b).2.1 := by decide +kernel
theorem tyX4_ok : ∀ k, k < 13 → parseFieldDescriptor (TX4 k).2.2.1 = some (tyX4 k) := by decide +kernel
abbrev cX4_init : ByteArray := prog_6_method_1_code
def yX4_init : MethodName := ⟨RX4, "<init>", "()V"⟩
abbrev cX4_in : ByteArray := prog_6_method_3_code
def yX4_in : MethodName := ⟨RX4, "in", "(JJJ)Z"⟩
abbrev cX4_copy : ByteArray := prog_6_method_4_code
def yX4_copy : MethodName := ⟨RX4, "copy", "([I[I)V"⟩
abbrev cX4_isError : ByteArray := prog_6_method_5_code
def yX4_isError : MethodName := ⟨RX4, "isError", "(I)Z"⟩
abbrev cX4_record : ByteArray := prog_6_method_6_code
def yX4_record : MethodName := ⟨RX4, "record", "()V"⟩
abbrev cX4_changed : ByteArray := prog_6_method_7_code
def yX4_changed : MethodName := ⟨RX4, "changed", "(I)I"⟩
abbrev cX4_get : ByteArray := prog_6_method_8_code
def yX4_get : MethodName := ⟨RX4, "get", "(II)I"⟩
abbrev cX4_put : ByteArray := prog_6_method_9_code
def yX4_put : MethodName := ⟨RX4, "put", "(III)V"⟩
abbrev cX4_bits : ByteArray := prog_6_method_10_code
def yX4_bits : MethodName := ⟨RX4, "bits", "(I)I"⟩
abbrev cX4_isCondition : ByteArray := prog_6_method_11_code
def yX4_isCondition : MethodName := ⟨RX4, "isCondition", "(I)Z"⟩
abbrev cX4_isStage : ByteArray := prog_6_method_12_code
def yX4_isStage : MethodName := ⟨RX4, "isStage", "(I)Z"⟩
abbrev cX4_allParts : ByteArray := prog_6_method_13_code
def yX4_allParts : MethodName := ⟨RX4, "allParts", "(I)I"⟩
abbrev cX4_hasBegun : ByteArray := prog_6_method_14_code
def yX4_hasBegun : MethodName := ⟨RX4, "hasBegun", "(I)Z"⟩
abbrev cX4_isFinished : ByteArray := prog_6_method_15_code
def yX4_isFinished : MethodName := ⟨RX4, "isFinished", "(I)Z"⟩
abbrev cX4_isMet : ByteArray := prog_6_method_16_code
def yX4_isMet : MethodName := ⟨RX4, "isMet", "(I)Z"⟩
abbrev cX4_isAsleep : ByteArray := prog_6_method_17_code
def yX4_isAsleep : MethodName := ⟨RX4, "isAsleep", "(I)Z"⟩
abbrev cX4_stateOf : ByteArray := prog_6_method_18_code
def yX4_stateOf : MethodName := ⟨RX4, "stateOf", "(I)I"⟩
abbrev cX4_breaks : ByteArray := prog_6_method_19_code
def yX4_breaks : MethodName := ⟨RX4, "breaks", "(I)V"⟩
abbrev cX4_mends : ByteArray := prog_6_method_20_code
def yX4_mends : MethodName := ⟨RX4, "mends", "(I)V"⟩
abbrev cX4_approves : ByteArray := prog_6_method_21_code
def yX4_approves : MethodName := ⟨RX4, "approves", "(II)V"⟩
abbrev cX4_areDays : ByteArray := prog_6_method_22_code
def yX4_areDays : MethodName := ⟨RX4, "areDays", "(II)Z"⟩
abbrev cX4_doCondition : ByteArray := prog_6_method_23_code
def yX4_doCondition : MethodName := ⟨RX4, "doCondition", "(IIII)I"⟩
abbrev cX4_mayBegin : ByteArray := prog_6_method_24_code
def yX4_mayBegin : MethodName := ⟨RX4, "mayBegin", "(I)Z"⟩
abbrev cX4_unmetAhead : ByteArray := prog_6_method_25_code
def yX4_unmetAhead : MethodName := ⟨RX4, "unmetAhead", "(I)I"⟩
abbrev cX4_doBegin : ByteArray := prog_6_method_26_code
def yX4_doBegin : MethodName := ⟨RX4, "doBegin", "(I)I"⟩
abbrev cX4_doFinish : ByteArray := prog_6_method_27_code
def yX4_doFinish : MethodName := ⟨RX4, "doFinish", "(I)I"⟩
abbrev cX4_doApply : ByteArray := prog_6_method_28_code
def yX4_doApply : MethodName := ⟨RX4, "doApply", "(II)I"⟩
abbrev cX4_doDecide : ByteArray := prog_6_method_29_code
def yX4_doDecide : MethodName := ⟨RX4, "doDecide", "(II)I"⟩
abbrev cX4_doLapse : ByteArray := prog_6_method_30_code
def yX4_doLapse : MethodName := ⟨RX4, "doLapse", "(I)I"⟩
abbrev cX4_doCure : ByteArray := prog_6_method_31_code
def yX4_doCure : MethodName := ⟨RX4, "doCure", "(I)I"⟩
abbrev cX4_doServe : ByteArray := prog_6_method_32_code
def yX4_doServe : MethodName := ⟨RX4, "doServe", "(II)I"⟩
abbrev cX4_isValue : ByteArray := prog_6_method_33_code
def yX4_isValue : MethodName := ⟨RX4, "isValue", "(III)Z"⟩
abbrev cX4_mayVary : ByteArray := prog_6_method_34_code
def yX4_mayVary : MethodName := ⟨RX4, "mayVary", "(III)Z"⟩
abbrev cX4_doVary : ByteArray := prog_6_method_35_code
def yX4_doVary : MethodName := ⟨RX4, "doVary", "(III)I"⟩
abbrev cX4_waitsOn : ByteArray := prog_6_method_36_code
def yX4_waitsOn : MethodName := ⟨RX4, "waitsOn", "(I)V"⟩
abbrev cX4_runsOn : ByteArray := prog_6_method_37_code
def yX4_runsOn : MethodName := ⟨RX4, "runsOn", "(I)V"⟩
abbrev cX4_ages : ByteArray := prog_6_method_38_code
def yX4_ages : MethodName := ⟨RX4, "ages", "(I)V"⟩
abbrev cX4_passDay : ByteArray := prog_6_method_39_code
def yX4_passDay : MethodName := ⟨RX4, "passDay", "()V"⟩
abbrev cX4_doPass : ByteArray := prog_6_method_40_code
def yX4_doPass : MethodName := ⟨RX4, "doPass", "(I)I"⟩
abbrev cX4_doSet : ByteArray := prog_6_method_41_code
def yX4_doSet : MethodName := ⟨RX4, "doSet", "(II)I"⟩
abbrev cX4_condition : ByteArray := prog_6_method_42_code
def yX4_condition : MethodName := ⟨RX4, "condition", "(IIII)I"⟩
abbrev cX4_begin : ByteArray := prog_6_method_43_code
def yX4_begin : MethodName := ⟨RX4, "begin", "(I)I"⟩
abbrev cX4_finish : ByteArray := prog_6_method_44_code
def yX4_finish : MethodName := ⟨RX4, "finish", "(I)I"⟩
abbrev cX4_apply : ByteArray := prog_6_method_45_code
def yX4_apply : MethodName := ⟨RX4, "apply", "(II)I"⟩
abbrev cX4_decide : ByteArray := prog_6_method_46_code
def yX4_decide : MethodName := ⟨RX4, "decide", "(II)I"⟩
abbrev cX4_lapse : ByteArray := prog_6_method_47_code
def yX4_lapse : MethodName := ⟨RX4, "lapse", "(I)I"⟩
abbrev cX4_cure : ByteArray := prog_6_method_48_code
def yX4_cure : MethodName := ⟨RX4, "cure", "(I)I"⟩
abbrev cX4_serve : ByteArray := prog_6_method_49_code
def yX4_serve : MethodName := ⟨RX4, "serve", "(II)I"⟩
abbrev cX4_vary : ByteArray := prog_6_method_50_code
def yX4_vary : MethodName := ⟨RX4, "vary", "(III)I"⟩
abbrev cX4_pass : ByteArray := prog_6_method_51_code
def yX4_pass : MethodName := ⟨RX4, "pass", "(I)I"⟩
abbrev cX4_set : ByteArray := prog_6_method_52_code
def yX4_set : MethodName := ⟨RX4, "set", "(II)I"⟩
abbrev cX4_conditionOf : ByteArray := prog_6_method_53_code
def yX4_conditionOf : MethodName := ⟨RX4, "conditionOf", "(II)I"⟩
abbrev cX4_stageOf : ByteArray := prog_6_method_54_code
def yX4_stageOf : MethodName := ⟨RX4, "stageOf", "(II)I"⟩
abbrev cX4_withState : ByteArray := prog_6_method_55_code
def yX4_withState : MethodName := ⟨RX4, "withState", "(I)I"⟩
abbrev cX4_which : ByteArray := prog_6_method_56_code
def yX4_which : MethodName := ⟨RX4, "which", "(I)I"⟩
abbrev cX4_when : ByteArray := prog_6_method_57_code
def yX4_when : MethodName := ⟨RX4, "when", "(II)I"⟩
abbrev cX4_lawful : ByteArray := prog_6_method_58_code
def yX4_lawful : MethodName := ⟨RX4, "lawful", "(I)I"⟩
abbrev cX4_fine : ByteArray := prog_6_method_59_code
def yX4_fine : MethodName := ⟨RX4, "fine", "(IJ)J"⟩
abbrev cX4_shareBits : ByteArray := prog_6_method_60_code
def yX4_shareBits : MethodName := ⟨RX4, "shareBits", "(II)I"⟩
abbrev cX4_share : ByteArray := prog_6_method_61_code
def yX4_share : MethodName := ⟨RX4, "share", "()I"⟩
abbrev cX4_partsOf : ByteArray := prog_6_method_62_code
def yX4_partsOf : MethodName := ⟨RX4, "partsOf", "(Z)I"⟩
abbrev cX4_count : ByteArray := prog_6_method_63_code
def yX4_count : MethodName := ⟨RX4, "count", "(I)I"⟩
abbrev cX4_undo : ByteArray := prog_6_method_64_code
def yX4_undo : MethodName := ⟨RX4, "undo", "()I"⟩
abbrev cX4_type : ByteArray := prog_6_method_65_code
def yX4_type : MethodName := ⟨RX4, "type", "(I)I"⟩
abbrev cX4_clearText : ByteArray := prog_6_method_66_code
def yX4_clearText : MethodName := ⟨RX4, "clearText", "()I"⟩
abbrev cX4_numbersOf : ByteArray := prog_6_method_67_code
def yX4_numbersOf : MethodName := ⟨RX4, "numbersOf", "(I)I"⟩
abbrev cX4_takes : ByteArray := prog_6_method_68_code
def yX4_takes : MethodName := ⟨RX4, "takes", "(I)Z"⟩
abbrev cX4_takesNumber : ByteArray := prog_6_method_69_code
def yX4_takesNumber : MethodName := ⟨RX4, "takesNumber", "(I)Z"⟩
abbrev cX4_readsOrder : ByteArray := prog_6_method_70_code
def yX4_readsOrder : MethodName := ⟨RX4, "readsOrder", "()Z"⟩
abbrev cX4_doesOrder : ByteArray := prog_6_method_71_code
def yX4_doesOrder : MethodName := ⟨RX4, "doesOrder", "()I"⟩
abbrev cX4_doesAll : ByteArray := prog_6_method_72_code
def yX4_doesAll : MethodName := ⟨RX4, "doesAll", "()Z"⟩
abbrev cX4_fault : ByteArray := prog_6_method_73_code
def yX4_fault : MethodName := ⟨RX4, "fault", "(I)I"⟩
abbrev cX4_play : ByteArray := prog_6_method_74_code
def yX4_play : MethodName := ⟨RX4, "play", "()I"⟩
def RJ6 : String := "java/lang/Integer"
def TJ6 : u_T := fun k => match k with
  | _ => ("", "", "", false)
def tyJ6 : Nat → FieldType := fun k => match k with
  | _ => .int
theorem nmJ6 : ∀ a, a < 0 → ∀ b, b < 0 → a ≠ b → (TJ6 a).2.1 ≠ (TJ6 b).2.1 := by decide +kernel
theorem tyJ6_ok : ∀ k, k < 0 → parseFieldDescriptor (TJ6 k).2.2.1 = some (tyJ6 k) := by decide +kernel
abbrev cJ6_bitCount_0f7a4 : ByteArray := prog_7_method_49_code
def yJ6_bitCount_0f7a4 : MethodName := ⟨RJ6, "bitCount", "(I)I"⟩
def RJ9 : String := "java/lang/Math"
def TJ9 : u_T := fun k => match k with
  | _ => ("", "", "", false)
def tyJ9 : Nat → FieldType := fun k => match k with
  | _ => .int
theorem nmJ9 : ∀ a, a < 0 → ∀ b, b < 0 → a ≠ b → (TJ9 a).2.1 ≠ (TJ9 b).2.1 := by decide +kernel
theorem tyJ9_ok : ∀ k, k < 0 → parseFieldDescriptor (TJ9 k).2.2.1 = some (tyJ9 k) := by decide +kernel
abbrev cJ9_max_7cf53 : ByteArray := prog_8_method_65_code
def yJ9_max_7cf53 : MethodName := ⟨RJ9, "max", "(II)I"⟩
def RL : String := "TriggerConditionsLaw"
abbrev cL_law : ByteArray := code
def yL_law : MethodName := ⟨RL, "law", "([I)Z"⟩
abbrev vwCl : List vw_C := [(RX0, TX0, 14), (RX1, TX1, 7), (RX2, TX2, 9), (RX3, TX3, 6), (RX4, TX4, 13)]
end
section
-- decode rows out of the printed list of the task
theorem dX0_init_0 : decode cX0_init 0 = .ok (.aload_n 0, 1) := by decide +kernel
theorem dX0_init_1 : decode cX0_init 1 = .ok (.invokespecial 3, 3) := by decide +kernel
theorem dX0_init_4 : decode cX0_init 4 = .ok (.aload_n 0, 1) := by decide +kernel
theorem dX0_init_5 : decode cX0_init 5 = .ok (.iconst 0, 1) := by decide +kernel
theorem dX0_init_6 : decode cX0_init 6 = .ok (.putfield 9, 3) := by decide +kernel
theorem dX0_init_9 : decode cX0_init 9 = .ok (.aload_n 0, 1) := by decide +kernel
theorem dX0_init_10 : decode cX0_init 10 = .ok (.iconst 0, 1) := by decide +kernel
theorem dX0_init_11 : decode cX0_init 11 = .ok (.putfield 15, 3) := by decide +kernel
theorem dX0_init_14 : decode cX0_init 14 = .ok (.aload_n 0, 1) := by decide +kernel
theorem dX0_init_15 : decode cX0_init 15 = .ok (.iconst 0, 1) := by decide +kernel
theorem dX0_init_16 : decode cX0_init 16 = .ok (.putfield 18, 3) := by decide +kernel
theorem dX0_init_19 : decode cX0_init 19 = .ok (.aload_n 0, 1) := by decide +kernel
theorem dX0_init_20 : decode cX0_init 20 = .ok (.iconst 1, 1) := by decide +kernel
theorem dX0_init_21 : decode cX0_init 21 = .ok (.putfield 21, 3) := by decide +kernel
theorem dX0_init_24 : decode cX0_init 24 = .ok (.aload_n 0, 1) := by decide +kernel
theorem dX0_init_25 : decode cX0_init 25 = .ok (.iconst 0, 1) := by decide +kernel
theorem dX0_init_26 : decode cX0_init 26 = .ok (.putfield 24, 3) := by decide +kernel
theorem dX0_init_29 : decode cX0_init 29 = .ok (.aload_n 0, 1) := by decide +kernel
theorem dX0_init_30 : decode cX0_init 30 = .ok (.iconst 0, 1) := by decide +kernel
theorem dX0_init_31 : decode cX0_init 31 = .ok (.putfield 27, 3) := by decide +kernel
theorem dX0_init_34 : decode cX0_init 34 = .ok (.aload_n 0, 1) := by decide +kernel
theorem dX0_init_35 : decode cX0_init 35 = .ok (.iconst 0, 1) := by decide +kernel
theorem dX0_init_36 : decode cX0_init 36 = .ok (.putfield 30, 3) := by decide +kernel
theorem dX0_init_39 : decode cX0_init 39 = .ok (.aload_n 0, 1) := by decide +kernel
theorem dX0_init_40 : decode cX0_init 40 = .ok (.iconst 0, 1) := by decide +kernel
theorem dX0_init_41 : decode cX0_init 41 = .ok (.putfield 33, 3) := by decide +kernel
theorem dX0_init_44 : decode cX0_init 44 = .ok (.aload_n 0, 1) := by decide +kernel
theorem dX0_init_45 : decode cX0_init 45 = .ok (.iconst 0, 1) := by decide +kernel
theorem dX0_init_46 : decode cX0_init 46 = .ok (.putfield 36, 3) := by decide +kernel
theorem dX0_init_49 : decode cX0_init 49 = .ok (.aload_n 0, 1) := by decide +kernel
theorem dX0_init_50 : decode cX0_init 50 = .ok (.iconst 0, 1) := by decide +kernel
theorem dX0_init_51 : decode cX0_init 51 = .ok (.putfield 40, 3) := by decide +kernel
theorem dX0_init_54 : decode cX0_init 54 = .ok (.aload_n 0, 1) := by decide +kernel
theorem dX0_init_55 : decode cX0_init 55 = .ok (.iconst 0, 1) := by decide +kernel
theorem dX0_init_56 : decode cX0_init 56 = .ok (.putfield 43, 3) := by decide +kernel
theorem dX0_init_59 : decode cX0_init 59 = .ok (.aload_n 0, 1) := by decide +kernel
theorem dX0_init_60 : decode cX0_init 60 = .ok (.iconst 0, 1) := by decide +kernel
theorem dX0_init_61 : decode cX0_init 61 = .ok (.putfield 46, 3) := by decide +kernel
theorem dX0_init_64 : decode cX0_init 64 = .ok (.aload_n 0, 1) := by decide +kernel
theorem dX0_init_65 : decode cX0_init 65 = .ok (.iconst 0, 1) := by decide +kernel
theorem dX0_init_66 : decode cX0_init 66 = .ok (.putfield 49, 3) := by decide +kernel
theorem dX0_init_69 : decode cX0_init 69 = .ok (.aload_n 0, 1) := by decide +kernel
theorem dX0_init_70 : decode cX0_init 70 = .ok (.iconst 0, 1) := by decide +kernel
theorem dX0_init_71 : decode cX0_init 71 = .ok (.putfield 52, 3) := by decide +kernel
theorem dX0_init_74 : decode cX0_init 74 = .ok (.return_, 1) := by decide +kernel
theorem dX0_startAs_0 : decode cX0_startAs 0 = .ok (.aload_n 0, 1) := by decide +kernel
theorem dX0_startAs_1 : decode cX0_startAs 1 = .ok (.iload_n 1, 1) := by decide +kernel
theorem dX0_startAs_2 : decode cX0_startAs 2 = .ok (.putfield 9, 3) := by decide +kernel
theorem dX0_startAs_5 : decode cX0_startAs 5 = .ok (.aload_n 0, 1) := by decide +kernel
theorem dX0_startAs_6 : decode cX0_startAs 6 = .ok (.iload_n 2, 1) := by decide +kernel
theorem dX0_startAs_7 : decode cX0_startAs 7 = .ok (.putfield 15, 3) := by decide +kernel
theorem dX0_startAs_10 : decode cX0_startAs 10 = .ok (.aload_n 0, 1) := by decide +kernel
theorem dX0_startAs_11 : decode cX0_startAs 11 = .ok (.iload_n 3, 1) := by decide +kernel
theorem dX0_startAs_12 : decode cX0_startAs 12 = .ok (.putfield 18, 3) := by decide +kernel
theorem dX0_startAs_15 : decode cX0_startAs 15 = .ok (.aload_n 0, 1) := by decide +kernel
theorem dX0_startAs_16 : decode cX0_startAs 16 = .ok (.iload 4, 2) := by decide +kernel
theorem dX0_startAs_18 : decode cX0_startAs 18 = .ok (.putfield 21, 3) := by decide +kernel
theorem dX0_startAs_21 : decode cX0_startAs 21 = .ok (.aload_n 0, 1) := by decide +kernel
theorem dX0_startAs_22 : decode cX0_startAs 22 = .ok (.iconst 0, 1) := by decide +kernel
theorem dX0_startAs_23 : decode cX0_startAs 23 = .ok (.putfield 24, 3) := by decide +kernel
theorem dX0_startAs_26 : decode cX0_startAs 26 = .ok (.aload_n 0, 1) := by decide +kernel
theorem dX0_startAs_27 : decode cX0_startAs 27 = .ok (.iconst 0, 1) := by decide +kernel
theorem dX0_startAs_28 : decode cX0_startAs 28 = .ok (.putfield 27, 3) := by decide +kernel
theorem dX0_startAs_31 : decode cX0_startAs 31 = .ok (.aload_n 0, 1) := by decide +kernel
theorem dX0_startAs_32 : decode cX0_startAs 32 = .ok (.iconst 0, 1) := by decide +kernel
theorem dX0_startAs_33 : decode cX0_startAs 33 = .ok (.putfield 33, 3) := by decide +kernel
theorem dX0_startAs_36 : decode cX0_startAs 36 = .ok (.aload_n 0, 1) := by decide +kernel
theorem dX0_startAs_37 : decode cX0_startAs 37 = .ok (.iconst 0, 1) := by decide +kernel
theorem dX0_startAs_38 : decode cX0_startAs 38 = .ok (.putfield 40, 3) := by decide +kernel
theorem dX0_startAs_41 : decode cX0_startAs 41 = .ok (.aload_n 0, 1) := by decide +kernel
theorem dX0_startAs_42 : decode cX0_startAs 42 = .ok (.iconst 0, 1) := by decide +kernel
theorem dX0_startAs_43 : decode cX0_startAs 43 = .ok (.putfield 52, 3) := by decide +kernel
theorem dX0_startAs_46 : decode cX0_startAs 46 = .ok (.aload_n 0, 1) := by decide +kernel
theorem dX0_startAs_47 : decode cX0_startAs 47 = .ok (.invokevirtual 55, 3) := by decide +kernel
theorem dX0_startAs_50 : decode cX0_startAs 50 = .ok (.return_, 1) := by decide +kernel
theorem dX0_copyFrom_0 : decode cX0_copyFrom 0 = .ok (.aload_n 0, 1) := by decide +kernel
theorem dX0_copyFrom_1 : decode cX0_copyFrom 1 = .ok (.aload_n 1, 1) := by decide +kernel
theorem dX0_copyFrom_2 : decode cX0_copyFrom 2 = .ok (.getfield 9, 3) := by decide +kernel
theorem dX0_copyFrom_5 : decode cX0_copyFrom 5 = .ok (.putfield 9, 3) := by decide +kernel
theorem dX0_copyFrom_8 : decode cX0_copyFrom 8 = .ok (.aload_n 0, 1) := by decide +kernel
theorem dX0_copyFrom_9 : decode cX0_copyFrom 9 = .ok (.aload_n 1, 1) := by decide +kernel
theorem dX0_copyFrom_10 : decode cX0_copyFrom 10 = .ok (.getfield 15, 3) := by decide +kernel
theorem dX0_copyFrom_13 : decode cX0_copyFrom 13 = .ok (.putfield 15, 3) := by decide +kernel
theorem dX0_copyFrom_16 : decode cX0_copyFrom 16 = .ok (.aload_n 0, 1) := by decide +kernel
theorem dX0_copyFrom_17 : decode cX0_copyFrom 17 = .ok (.aload_n 1, 1) := by decide +kernel
theorem dX0_copyFrom_18 : decode cX0_copyFrom 18 = .ok (.getfield 18, 3) := by decide +kernel
theorem dX0_copyFrom_21 : decode cX0_copyFrom 21 = .ok (.putfield 18, 3) := by decide +kernel
theorem dX0_copyFrom_24 : decode cX0_copyFrom 24 = .ok (.aload_n 0, 1) := by decide +kernel
theorem dX0_copyFrom_25 : decode cX0_copyFrom 25 = .ok (.aload_n 1, 1) := by decide +kernel
theorem dX0_copyFrom_26 : decode cX0_copyFrom 26 = .ok (.getfield 21, 3) := by decide +kernel
theorem dX0_copyFrom_29 : decode cX0_copyFrom 29 = .ok (.putfield 21, 3) := by decide +kernel
theorem dX0_copyFrom_32 : decode cX0_copyFrom 32 = .ok (.aload_n 0, 1) := by decide +kernel
theorem dX0_copyFrom_33 : decode cX0_copyFrom 33 = .ok (.aload_n 1, 1) := by decide +kernel
theorem dX0_copyFrom_34 : decode cX0_copyFrom 34 = .ok (.getfield 24, 3) := by decide +kernel
theorem dX0_copyFrom_37 : decode cX0_copyFrom 37 = .ok (.putfield 24, 3) := by decide +kernel
theorem dX0_copyFrom_40 : decode cX0_copyFrom 40 = .ok (.aload_n 0, 1) := by decide +kernel
theorem dX0_copyFrom_41 : decode cX0_copyFrom 41 = .ok (.aload_n 1, 1) := by decide +kernel
theorem dX0_copyFrom_42 : decode cX0_copyFrom 42 = .ok (.getfield 27, 3) := by decide +kernel
theorem dX0_copyFrom_45 : decode cX0_copyFrom 45 = .ok (.putfield 27, 3) := by decide +kernel
theorem dX0_copyFrom_48 : decode cX0_copyFrom 48 = .ok (.aload_n 0, 1) := by decide +kernel
theorem dX0_copyFrom_49 : decode cX0_copyFrom 49 = .ok (.aload_n 1, 1) := by decide +kernel
theorem dX0_copyFrom_50 : decode cX0_copyFrom 50 = .ok (.getfield 30, 3) := by decide +kernel
theorem dX0_copyFrom_53 : decode cX0_copyFrom 53 = .ok (.putfield 30, 3) := by decide +kernel
theorem dX0_copyFrom_56 : decode cX0_copyFrom 56 = .ok (.aload_n 0, 1) := by decide +kernel
theorem dX0_copyFrom_57 : decode cX0_copyFrom 57 = .ok (.aload_n 1, 1) := by decide +kernel
theorem dX0_copyFrom_58 : decode cX0_copyFrom 58 = .ok (.getfield 33, 3) := by decide +kernel
theorem dX0_copyFrom_61 : decode cX0_copyFrom 61 = .ok (.putfield 33, 3) := by decide +kernel
theorem dX0_copyFrom_64 : decode cX0_copyFrom 64 = .ok (.aload_n 0, 1) := by decide +kernel
theorem dX0_copyFrom_65 : decode cX0_copyFrom 65 = .ok (.aload_n 1, 1) := by decide +kernel
theorem dX0_copyFrom_66 : decode cX0_copyFrom 66 = .ok (.getfield 36, 3) := by decide +kernel
theorem dX0_copyFrom_69 : decode cX0_copyFrom 69 = .ok (.putfield 36, 3) := by decide +kernel
theorem dX0_copyFrom_72 : decode cX0_copyFrom 72 = .ok (.aload_n 0, 1) := by decide +kernel
theorem dX0_copyFrom_73 : decode cX0_copyFrom 73 = .ok (.aload_n 1, 1) := by decide +kernel
theorem dX0_copyFrom_74 : decode cX0_copyFrom 74 = .ok (.getfield 40, 3) := by decide +kernel
theorem dX0_copyFrom_77 : decode cX0_copyFrom 77 = .ok (.putfield 40, 3) := by decide +kernel
theorem dX0_copyFrom_80 : decode cX0_copyFrom 80 = .ok (.aload_n 0, 1) := by decide +kernel
theorem dX0_copyFrom_81 : decode cX0_copyFrom 81 = .ok (.aload_n 1, 1) := by decide +kernel
theorem dX0_copyFrom_82 : decode cX0_copyFrom 82 = .ok (.getfield 43, 3) := by decide +kernel
theorem dX0_copyFrom_85 : decode cX0_copyFrom 85 = .ok (.putfield 43, 3) := by decide +kernel
theorem dX0_copyFrom_88 : decode cX0_copyFrom 88 = .ok (.aload_n 0, 1) := by decide +kernel
theorem dX0_copyFrom_89 : decode cX0_copyFrom 89 = .ok (.aload_n 1, 1) := by decide +kernel
theorem dX0_copyFrom_90 : decode cX0_copyFrom 90 = .ok (.getfield 46, 3) := by decide +kernel
theorem dX0_copyFrom_93 : decode cX0_copyFrom 93 = .ok (.putfield 46, 3) := by decide +kernel
theorem dX0_copyFrom_96 : decode cX0_copyFrom 96 = .ok (.aload_n 0, 1) := by decide +kernel
theorem dX0_copyFrom_97 : decode cX0_copyFrom 97 = .ok (.aload_n 1, 1) := by decide +kernel
theorem dX0_copyFrom_98 : decode cX0_copyFrom 98 = .ok (.getfield 49, 3) := by decide +kernel
theorem dX0_copyFrom_101 : decode cX0_copyFrom 101 = .ok (.putfield 49, 3) := by decide +kernel
theorem dX0_copyFrom_104 : decode cX0_copyFrom 104 = .ok (.aload_n 0, 1) := by decide +kernel
theorem dX0_copyFrom_105 : decode cX0_copyFrom 105 = .ok (.aload_n 1, 1) := by decide +kernel
theorem dX0_copyFrom_106 : decode cX0_copyFrom 106 = .ok (.getfield 52, 3) := by decide +kernel
theorem dX0_copyFrom_109 : decode cX0_copyFrom 109 = .ok (.putfield 52, 3) := by decide +kernel
theorem dX0_copyFrom_112 : decode cX0_copyFrom 112 = .ok (.return_, 1) := by decide +kernel
theorem dX0_isMet_0 : decode cX0_isMet 0 = .ok (.aload_n 0, 1) := by decide +kernel
theorem dX0_isMet_1 : decode cX0_isMet 1 = .ok (.getfield 9, 3) := by decide +kernel
theorem dX0_isMet_4 : decode cX0_isMet 4 = .ok (.iconst 2, 1) := by decide +kernel
theorem dX0_isMet_5 : decode cX0_isMet 5 = .ok (.if_icmp .ne 20, 3) := by decide +kernel
theorem dX0_isMet_8 : decode cX0_isMet 8 = .ok (.aload_n 0, 1) := by decide +kernel
theorem dX0_isMet_9 : decode cX0_isMet 9 = .ok (.getfield 33, 3) := by decide +kernel
theorem dX0_isMet_12 : decode cX0_isMet 12 = .ok (.aload_n 0, 1) := by decide +kernel
theorem dX0_isMet_13 : decode cX0_isMet 13 = .ok (.getfield 18, 3) := by decide +kernel
theorem dX0_isMet_16 : decode cX0_isMet 16 = .ok (.if_icmp .lt 7, 3) := by decide +kernel
theorem dX0_isMet_19 : decode cX0_isMet 19 = .ok (.iconst 1, 1) := by decide +kernel
theorem dX0_isMet_20 : decode cX0_isMet 20 = .ok (.goto 4, 3) := by decide +kernel
theorem dX0_isMet_23 : decode cX0_isMet 23 = .ok (.iconst 0, 1) := by decide +kernel
theorem dX0_isMet_24 : decode cX0_isMet 24 = .ok (.ireturn, 1) := by decide +kernel
theorem dX0_isMet_25 : decode cX0_isMet 25 = .ok (.aload_n 0, 1) := by decide +kernel
theorem dX0_isMet_26 : decode cX0_isMet 26 = .ok (.getfield 24, 3) := by decide +kernel
theorem dX0_isMet_29 : decode cX0_isMet 29 = .ok (.iconst 1, 1) := by decide +kernel
theorem dX0_isMet_30 : decode cX0_isMet 30 = .ok (.aload_n 0, 1) := by decide +kernel
theorem dX0_isMet_31 : decode cX0_isMet 31 = .ok (.getfield 21, 3) := by decide +kernel
theorem dX0_isMet_34 : decode cX0_isMet 34 = .ok (.ishl, 1) := by decide +kernel
theorem dX0_isMet_35 : decode cX0_isMet 35 = .ok (.iconst 1, 1) := by decide +kernel
theorem dX0_isMet_36 : decode cX0_isMet 36 = .ok (.isub, 1) := by decide +kernel
theorem dX0_isMet_37 : decode cX0_isMet 37 = .ok (.if_icmp .ne 7, 3) := by decide +kernel
theorem dX0_isMet_40 : decode cX0_isMet 40 = .ok (.iconst 1, 1) := by decide +kernel
theorem dX0_isMet_41 : decode cX0_isMet 41 = .ok (.goto 4, 3) := by decide +kernel
theorem dX0_isMet_44 : decode cX0_isMet 44 = .ok (.iconst 0, 1) := by decide +kernel
theorem dX0_isMet_45 : decode cX0_isMet 45 = .ok (.ireturn, 1) := by decide +kernel
theorem dX0_isPartsSet_0 : decode cX0_isPartsSet 0 = .ok (.iload_n 1, 1) := by decide +kernel
theorem dX0_isPartsSet_1 : decode cX0_isPartsSet 1 = .ok (.ifCond .lt 17, 3) := by decide +kernel
theorem dX0_isPartsSet_4 : decode cX0_isPartsSet 4 = .ok (.iload_n 1, 1) := by decide +kernel
theorem dX0_isPartsSet_5 : decode cX0_isPartsSet 5 = .ok (.iconst 1, 1) := by decide +kernel
theorem dX0_isPartsSet_6 : decode cX0_isPartsSet 6 = .ok (.aload_n 0, 1) := by decide +kernel
theorem dX0_isPartsSet_7 : decode cX0_isPartsSet 7 = .ok (.getfield 21, 3) := by decide +kernel
theorem dX0_isPartsSet_10 : decode cX0_isPartsSet 10 = .ok (.ishl, 1) := by decide +kernel
theorem dX0_isPartsSet_11 : decode cX0_isPartsSet 11 = .ok (.if_icmp .ge 7, 3) := by decide +kernel
theorem dX0_isPartsSet_14 : decode cX0_isPartsSet 14 = .ok (.iconst 1, 1) := by decide +kernel
theorem dX0_isPartsSet_15 : decode cX0_isPartsSet 15 = .ok (.goto 4, 3) := by decide +kernel
theorem dX0_isPartsSet_18 : decode cX0_isPartsSet 18 = .ok (.iconst 0, 1) := by decide +kernel
theorem dX0_isPartsSet_19 : decode cX0_isPartsSet 19 = .ok (.ireturn, 1) := by decide +kernel
theorem dX0_approve_0 : decode cX0_approve 0 = .ok (.aload_n 0, 1) := by decide +kernel
theorem dX0_approve_1 : decode cX0_approve 1 = .ok (.aload_n 0, 1) := by decide +kernel
theorem dX0_approve_2 : decode cX0_approve 2 = .ok (.getfield 24, 3) := by decide +kernel
theorem dX0_approve_5 : decode cX0_approve 5 = .ok (.iload_n 1, 1) := by decide +kernel
theorem dX0_approve_6 : decode cX0_approve 6 = .ok (.ior, 1) := by decide +kernel
theorem dX0_approve_7 : decode cX0_approve 7 = .ok (.putfield 24, 3) := by decide +kernel
theorem dX0_approve_10 : decode cX0_approve 10 = .ok (.aload_n 0, 1) := by decide +kernel
theorem dX0_approve_11 : decode cX0_approve 11 = .ok (.iconst 0, 1) := by decide +kernel
theorem dX0_approve_12 : decode cX0_approve 12 = .ok (.putfield 27, 3) := by decide +kernel
theorem dX0_approve_15 : decode cX0_approve 15 = .ok (.aload_n 0, 1) := by decide +kernel
theorem dX0_approve_16 : decode cX0_approve 16 = .ok (.getfield 36, 3) := by decide +kernel
theorem dX0_approve_19 : decode cX0_approve 19 = .ok (.ifCond .eq 14, 3) := by decide +kernel
theorem dX0_approve_22 : decode cX0_approve 22 = .ok (.aload_n 0, 1) := by decide +kernel
theorem dX0_approve_23 : decode cX0_approve 23 = .ok (.invokevirtual 58, 3) := by decide +kernel
theorem dX0_approve_26 : decode cX0_approve 26 = .ok (.ifCond .eq 7, 3) := by decide +kernel
theorem dX0_approve_29 : decode cX0_approve 29 = .ok (.aload_n 0, 1) := by decide +kernel
theorem dX0_approve_30 : decode cX0_approve 30 = .ok (.invokevirtual 55, 3) := by decide +kernel
theorem dX0_approve_33 : decode cX0_approve 33 = .ok (.return_, 1) := by decide +kernel
theorem dX0_endBreach_0 : decode cX0_endBreach 0 = .ok (.aload_n 0, 1) := by decide +kernel
theorem dX0_endBreach_1 : decode cX0_endBreach 1 = .ok (.iconst 0, 1) := by decide +kernel
theorem dX0_endBreach_2 : decode cX0_endBreach 2 = .ok (.putfield 36, 3) := by decide +kernel
theorem dX0_endBreach_5 : decode cX0_endBreach 5 = .ok (.aload_n 0, 1) := by decide +kernel
theorem dX0_endBreach_6 : decode cX0_endBreach 6 = .ok (.iconst 0, 1) := by decide +kernel
theorem dX0_endBreach_7 : decode cX0_endBreach 7 = .ok (.putfield 43, 3) := by decide +kernel
theorem dX0_endBreach_10 : decode cX0_endBreach 10 = .ok (.aload_n 0, 1) := by decide +kernel
theorem dX0_endBreach_11 : decode cX0_endBreach 11 = .ok (.iconst 0, 1) := by decide +kernel
theorem dX0_endBreach_12 : decode cX0_endBreach 12 = .ok (.putfield 46, 3) := by decide +kernel
theorem dX0_endBreach_15 : decode cX0_endBreach 15 = .ok (.return_, 1) := by decide +kernel
theorem dX0_ageBreach_0 : decode cX0_ageBreach 0 = .ok (.aload_n 0, 1) := by decide +kernel
theorem dX0_ageBreach_1 : decode cX0_ageBreach 1 = .ok (.dup, 1) := by decide +kernel
theorem dX0_ageBreach_2 : decode cX0_ageBreach 2 = .ok (.getfield 43, 3) := by decide +kernel
theorem dX0_ageBreach_5 : decode cX0_ageBreach 5 = .ok (.iconst 1, 1) := by decide +kernel
theorem dX0_ageBreach_6 : decode cX0_ageBreach 6 = .ok (.iadd, 1) := by decide +kernel
theorem dX0_ageBreach_7 : decode cX0_ageBreach 7 = .ok (.putfield 43, 3) := by decide +kernel
theorem dX0_ageBreach_10 : decode cX0_ageBreach 10 = .ok (.aload_n 0, 1) := by decide +kernel
theorem dX0_ageBreach_11 : decode cX0_ageBreach 11 = .ok (.getfield 46, 3) := by decide +kernel
theorem dX0_ageBreach_14 : decode cX0_ageBreach 14 = .ok (.ifCond .eq 23, 3) := by decide +kernel
theorem dX0_ageBreach_17 : decode cX0_ageBreach 17 = .ok (.aload_n 0, 1) := by decide +kernel
theorem dX0_ageBreach_18 : decode cX0_ageBreach 18 = .ok (.getfield 49, 3) := by decide +kernel
theorem dX0_ageBreach_21 : decode cX0_ageBreach 21 = .ok (.ifCond .le 16, 3) := by decide +kernel
theorem dX0_ageBreach_24 : decode cX0_ageBreach 24 = .ok (.aload_n 0, 1) := by decide +kernel
theorem dX0_ageBreach_25 : decode cX0_ageBreach 25 = .ok (.dup, 1) := by decide +kernel
theorem dX0_ageBreach_26 : decode cX0_ageBreach 26 = .ok (.getfield 49, 3) := by decide +kernel
theorem dX0_ageBreach_29 : decode cX0_ageBreach 29 = .ok (.iconst 1, 1) := by decide +kernel
theorem dX0_ageBreach_30 : decode cX0_ageBreach 30 = .ok (.isub, 1) := by decide +kernel
theorem dX0_ageBreach_31 : decode cX0_ageBreach 31 = .ok (.putfield 49, 3) := by decide +kernel
theorem dX0_ageBreach_34 : decode cX0_ageBreach 34 = .ok (.goto 40, 3) := by decide +kernel
theorem dX0_ageBreach_37 : decode cX0_ageBreach 37 = .ok (.aload_n 0, 1) := by decide +kernel
theorem dX0_ageBreach_38 : decode cX0_ageBreach 38 = .ok (.getfield 46, 3) := by decide +kernel
theorem dX0_ageBreach_41 : decode cX0_ageBreach 41 = .ok (.ifCond .eq 16, 3) := by decide +kernel
theorem dX0_ageBreach_44 : decode cX0_ageBreach 44 = .ok (.aload_n 0, 1) := by decide +kernel
theorem dX0_ageBreach_45 : decode cX0_ageBreach 45 = .ok (.dup, 1) := by decide +kernel
theorem dX0_ageBreach_46 : decode cX0_ageBreach 46 = .ok (.getfield 52, 3) := by decide +kernel
theorem dX0_ageBreach_49 : decode cX0_ageBreach 49 = .ok (.iconst 1, 1) := by decide +kernel
theorem dX0_ageBreach_50 : decode cX0_ageBreach 50 = .ok (.iadd, 1) := by decide +kernel
theorem dX0_ageBreach_51 : decode cX0_ageBreach 51 = .ok (.putfield 52, 3) := by decide +kernel
theorem dX0_ageBreach_54 : decode cX0_ageBreach 54 = .ok (.goto 20, 3) := by decide +kernel
theorem dX0_ageBreach_57 : decode cX0_ageBreach 57 = .ok (.aload_n 0, 1) := by decide +kernel
theorem dX0_ageBreach_58 : decode cX0_ageBreach 58 = .ok (.getfield 43, 3) := by decide +kernel
theorem dX0_ageBreach_61 : decode cX0_ageBreach 61 = .ok (.iload_n 1, 1) := by decide +kernel
theorem dX0_ageBreach_62 : decode cX0_ageBreach 62 = .ok (.if_icmp .lt 12, 3) := by decide +kernel
theorem dX0_ageBreach_65 : decode cX0_ageBreach 65 = .ok (.aload_n 0, 1) := by decide +kernel
theorem dX0_ageBreach_66 : decode cX0_ageBreach 66 = .ok (.invokevirtual 55, 3) := by decide +kernel
theorem dX0_ageBreach_69 : decode cX0_ageBreach 69 = .ok (.aload_n 0, 1) := by decide +kernel
theorem dX0_ageBreach_70 : decode cX0_ageBreach 70 = .ok (.iconst 1, 1) := by decide +kernel
theorem dX0_ageBreach_71 : decode cX0_ageBreach 71 = .ok (.putfield 40, 3) := by decide +kernel
theorem dX0_ageBreach_74 : decode cX0_ageBreach 74 = .ok (.return_, 1) := by decide +kernel
theorem dX1_init_0 : decode cX1_init 0 = .ok (.aload_n 0, 1) := by decide +kernel
theorem dX1_init_1 : decode cX1_init 1 = .ok (.invokespecial 3, 3) := by decide +kernel
theorem dX1_init_4 : decode cX1_init 4 = .ok (.aload_n 0, 1) := by decide +kernel
theorem dX1_init_5 : decode cX1_init 5 = .ok (.bipush 80, 2) := by decide +kernel
theorem dX1_init_7 : decode cX1_init 7 = .ok (.newarray .char, 2) := by decide +kernel
theorem dX1_init_9 : decode cX1_init 9 = .ok (.putfield 9, 3) := by decide +kernel
theorem dX1_init_12 : decode cX1_init 12 = .ok (.aload_n 0, 1) := by decide +kernel
theorem dX1_init_13 : decode cX1_init 13 = .ok (.iconst 4, 1) := by decide +kernel
theorem dX1_init_14 : decode cX1_init 14 = .ok (.newarray .int, 2) := by decide +kernel
theorem dX1_init_16 : decode cX1_init 16 = .ok (.putfield 15, 3) := by decide +kernel
theorem dX1_init_19 : decode cX1_init 19 = .ok (.aload_n 0, 1) := by decide +kernel
theorem dX1_init_20 : decode cX1_init 20 = .ok (.iconst 0, 1) := by decide +kernel
theorem dX1_init_21 : decode cX1_init 21 = .ok (.putfield 19, 3) := by decide +kernel
theorem dX1_init_24 : decode cX1_init 24 = .ok (.aload_n 0, 1) := by decide +kernel
theorem dX1_init_25 : decode cX1_init 25 = .ok (.iconst 0, 1) := by decide +kernel
theorem dX1_init_26 : decode cX1_init 26 = .ok (.putfield 23, 3) := by decide +kernel
theorem dX1_init_29 : decode cX1_init 29 = .ok (.aload_n 0, 1) := by decide +kernel
theorem dX1_init_30 : decode cX1_init 30 = .ok (.iconst 0, 1) := by decide +kernel
theorem dX1_init_31 : decode cX1_init 31 = .ok (.putfield 26, 3) := by decide +kernel
theorem dX1_init_34 : decode cX1_init 34 = .ok (.aload_n 0, 1) := by decide +kernel
theorem dX1_init_35 : decode cX1_init 35 = .ok (.iconst 0, 1) := by decide +kernel
theorem dX1_init_36 : decode cX1_init 36 = .ok (.putfield 29, 3) := by decide +kernel
theorem dX1_init_39 : decode cX1_init 39 = .ok (.aload_n 0, 1) := by decide +kernel
theorem dX1_init_40 : decode cX1_init 40 = .ok (.iconst 0, 1) := by decide +kernel
theorem dX1_init_41 : decode cX1_init 41 = .ok (.putfield 32, 3) := by decide +kernel
theorem dX1_init_44 : decode cX1_init 44 = .ok (.return_, 1) := by decide +kernel
theorem dX1_append_0 : decode cX1_append 0 = .ok (.aload_n 0, 1) := by decide +kernel
theorem dX1_append_1 : decode cX1_append 1 = .ok (.getfield 19, 3) := by decide +kernel
theorem dX1_append_4 : decode cX1_append 4 = .ok (.bipush 80, 2) := by decide +kernel
theorem dX1_append_6 : decode cX1_append 6 = .ok (.if_icmp .lt 6, 3) := by decide +kernel
theorem dX1_append_9 : decode cX1_append 9 = .ok (.ldc 35, 2) := by decide +kernel
theorem dX1_append_11 : decode cX1_append 11 = .ok (.ireturn, 1) := by decide +kernel
theorem dX1_append_12 : decode cX1_append 12 = .ok (.aload_n 0, 1) := by decide +kernel
theorem dX1_append_13 : decode cX1_append 13 = .ok (.getfield 9, 3) := by decide +kernel
theorem dX1_append_16 : decode cX1_append 16 = .ok (.aload_n 0, 1) := by decide +kernel
theorem dX1_append_17 : decode cX1_append 17 = .ok (.getfield 19, 3) := by decide +kernel
theorem dX1_append_20 : decode cX1_append 20 = .ok (.iload_n 1, 1) := by decide +kernel
theorem dX1_append_21 : decode cX1_append 21 = .ok (.castore, 1) := by decide +kernel
theorem dX1_append_22 : decode cX1_append 22 = .ok (.aload_n 0, 1) := by decide +kernel
theorem dX1_append_23 : decode cX1_append 23 = .ok (.dup, 1) := by decide +kernel
theorem dX1_append_24 : decode cX1_append 24 = .ok (.getfield 19, 3) := by decide +kernel
theorem dX1_append_27 : decode cX1_append 27 = .ok (.iconst 1, 1) := by decide +kernel
theorem dX1_append_28 : decode cX1_append 28 = .ok (.iadd, 1) := by decide +kernel
theorem dX1_append_29 : decode cX1_append 29 = .ok (.putfield 19, 3) := by decide +kernel
theorem dX1_append_32 : decode cX1_append 32 = .ok (.aload_n 0, 1) := by decide +kernel
theorem dX1_append_33 : decode cX1_append 33 = .ok (.getfield 19, 3) := by decide +kernel
theorem dX1_append_36 : decode cX1_append 36 = .ok (.ireturn, 1) := by decide +kernel
theorem dX1_empty_0 : decode cX1_empty 0 = .ok (.aload_n 0, 1) := by decide +kernel
theorem dX1_empty_1 : decode cX1_empty 1 = .ok (.getfield 19, 3) := by decide +kernel
theorem dX1_empty_4 : decode cX1_empty 4 = .ok (.istore_n 1, 1) := by decide +kernel
theorem dX1_empty_5 : decode cX1_empty 5 = .ok (.aload_n 0, 1) := by decide +kernel
theorem dX1_empty_6 : decode cX1_empty 6 = .ok (.iconst 0, 1) := by decide +kernel
theorem dX1_empty_7 : decode cX1_empty 7 = .ok (.putfield 19, 3) := by decide +kernel
theorem dX1_empty_10 : decode cX1_empty 10 = .ok (.iload_n 1, 1) := by decide +kernel
theorem dX1_empty_11 : decode cX1_empty 11 = .ok (.ireturn, 1) := by decide +kernel
theorem dX1_doAll_0 : decode cX1_doAll 0 = .ok (.aload_n 0, 1) := by decide +kernel
theorem dX1_doAll_1 : decode cX1_doAll 1 = .ok (.iconst 0, 1) := by decide +kernel
theorem dX1_doAll_2 : decode cX1_doAll 2 = .ok (.putfield 29, 3) := by decide +kernel
theorem dX1_doAll_5 : decode cX1_doAll 5 = .ok (.aload_n 0, 1) := by decide +kernel
theorem dX1_doAll_6 : decode cX1_doAll 6 = .ok (.iconst 0, 1) := by decide +kernel
theorem dX1_doAll_7 : decode cX1_doAll 7 = .ok (.putfield 32, 3) := by decide +kernel
theorem dX1_doAll_10 : decode cX1_doAll 10 = .ok (.aload_n 0, 1) := by decide +kernel
theorem dX1_doAll_11 : decode cX1_doAll 11 = .ok (.iconst 0, 1) := by decide +kernel
theorem dX1_doAll_12 : decode cX1_doAll 12 = .ok (.putfield 23, 3) := by decide +kernel
theorem dX1_doAll_15 : decode cX1_doAll 15 = .ok (.aload_n 0, 1) := by decide +kernel
theorem dX1_doAll_16 : decode cX1_doAll 16 = .ok (.iconst 0, 1) := by decide +kernel
theorem dX1_doAll_17 : decode cX1_doAll 17 = .ok (.putfield 26, 3) := by decide +kernel
theorem dX1_doAll_20 : decode cX1_doAll 20 = .ok (.iconst 0, 1) := by decide +kernel
theorem dX1_doAll_21 : decode cX1_doAll 21 = .ok (.istore_n 2, 1) := by decide +kernel
theorem dX1_doAll_22 : decode cX1_doAll 22 = .ok (.iload_n 2, 1) := by decide +kernel
theorem dX1_doAll_23 : decode cX1_doAll 23 = .ok (.bipush 80, 2) := by decide +kernel
theorem dX1_doAll_25 : decode cX1_doAll 25 = .ok (.if_icmp .ge 77, 3) := by decide +kernel
theorem dX1_doAll_28 : decode cX1_doAll 28 = .ok (.aload_n 0, 1) := by decide +kernel
theorem dX1_doAll_29 : decode cX1_doAll 29 = .ok (.getfield 26, 3) := by decide +kernel
theorem dX1_doAll_32 : decode cX1_doAll 32 = .ok (.aload_n 0, 1) := by decide +kernel
theorem dX1_doAll_33 : decode cX1_doAll 33 = .ok (.getfield 19, 3) := by decide +kernel
theorem dX1_doAll_36 : decode cX1_doAll 36 = .ok (.if_icmp .ge 66, 3) := by decide +kernel
theorem dX1_doAll_39 : decode cX1_doAll 39 = .ok (.aload_n 0, 1) := by decide +kernel
theorem dX1_doAll_40 : decode cX1_doAll 40 = .ok (.aload_n 0, 1) := by decide +kernel
theorem dX1_doAll_41 : decode cX1_doAll 41 = .ok (.getfield 26, 3) := by decide +kernel
theorem dX1_doAll_44 : decode cX1_doAll 44 = .ok (.putfield 23, 3) := by decide +kernel
theorem dX1_doAll_47 : decode cX1_doAll 47 = .ok (.aload_n 0, 1) := by decide +kernel
theorem dX1_doAll_48 : decode cX1_doAll 48 = .ok (.invokevirtual 36, 3) := by decide +kernel
theorem dX1_doAll_51 : decode cX1_doAll 51 = .ok (.ifCond .ne 23, 3) := by decide +kernel
theorem dX1_doAll_54 : decode cX1_doAll 54 = .ok (.aload_n 0, 1) := by decide +kernel
theorem dX1_doAll_55 : decode cX1_doAll 55 = .ok (.iconst 1, 1) := by decide +kernel
theorem dX1_doAll_56 : decode cX1_doAll 56 = .ok (.putfield 29, 3) := by decide +kernel
theorem dX1_doAll_59 : decode cX1_doAll 59 = .ok (.aload_n 0, 1) := by decide +kernel
theorem dX1_doAll_60 : decode cX1_doAll 60 = .ok (.aload_n 0, 1) := by decide +kernel
theorem dX1_doAll_61 : decode cX1_doAll 61 = .ok (.getfield 26, 3) := by decide +kernel
theorem dX1_doAll_64 : decode cX1_doAll 64 = .ok (.aload_n 0, 1) := by decide +kernel
theorem dX1_doAll_65 : decode cX1_doAll 65 = .ok (.getfield 23, 3) := by decide +kernel
theorem dX1_doAll_68 : decode cX1_doAll 68 = .ok (.isub, 1) := by decide +kernel
theorem dX1_doAll_69 : decode cX1_doAll 69 = .ok (.putfield 32, 3) := by decide +kernel
theorem dX1_doAll_72 : decode cX1_doAll 72 = .ok (.iload_n 2, 1) := by decide +kernel
theorem dX1_doAll_73 : decode cX1_doAll 73 = .ok (.ireturn, 1) := by decide +kernel
theorem dX1_doAll_74 : decode cX1_doAll 74 = .ok (.aload_n 0, 1) := by decide +kernel
theorem dX1_doAll_75 : decode cX1_doAll 75 = .ok (.aload_n 1, 1) := by decide +kernel
theorem dX1_doAll_76 : decode cX1_doAll 76 = .ok (.invokevirtual 40, 3) := by decide +kernel
theorem dX1_doAll_79 : decode cX1_doAll 79 = .ok (.istore_n 3, 1) := by decide +kernel
theorem dX1_doAll_80 : decode cX1_doAll 80 = .ok (.iload_n 3, 1) := by decide +kernel
theorem dX1_doAll_81 : decode cX1_doAll 81 = .ok (.ifCond .ge 15, 3) := by decide +kernel
theorem dX1_doAll_84 : decode cX1_doAll 84 = .ok (.aload_n 0, 1) := by decide +kernel
theorem dX1_doAll_85 : decode cX1_doAll 85 = .ok (.iconst 2, 1) := by decide +kernel
theorem dX1_doAll_86 : decode cX1_doAll 86 = .ok (.putfield 29, 3) := by decide +kernel
theorem dX1_doAll_89 : decode cX1_doAll 89 = .ok (.aload_n 0, 1) := by decide +kernel
theorem dX1_doAll_90 : decode cX1_doAll 90 = .ok (.iload_n 3, 1) := by decide +kernel
theorem dX1_doAll_91 : decode cX1_doAll 91 = .ok (.putfield 32, 3) := by decide +kernel
theorem dX1_doAll_94 : decode cX1_doAll 94 = .ok (.iload_n 2, 1) := by decide +kernel
theorem dX1_doAll_95 : decode cX1_doAll 95 = .ok (.ireturn, 1) := by decide +kernel
theorem dX1_doAll_96 : decode cX1_doAll 96 = .ok (.iinc 2 1, 3) := by decide +kernel
theorem dX1_doAll_99 : decode cX1_doAll 99 = .ok (.goto (-77), 3) := by decide +kernel
theorem dX1_doAll_102 : decode cX1_doAll 102 = .ok (.iload_n 2, 1) := by decide +kernel
theorem dX1_doAll_103 : decode cX1_doAll 103 = .ok (.ireturn, 1) := by decide +kernel
theorem dX1_readOrder_0 : decode cX1_readOrder 0 = .ok (.aload_n 0, 1) := by decide +kernel
theorem dX1_readOrder_1 : decode cX1_readOrder 1 = .ok (.getfield 26, 3) := by decide +kernel
theorem dX1_readOrder_4 : decode cX1_readOrder 4 = .ok (.aload_n 0, 1) := by decide +kernel
theorem dX1_readOrder_5 : decode cX1_readOrder 5 = .ok (.getfield 19, 3) := by decide +kernel
theorem dX1_readOrder_8 : decode cX1_readOrder 8 = .ok (.if_icmp .ge 18, 3) := by decide +kernel
theorem dX1_readOrder_11 : decode cX1_readOrder 11 = .ok (.aload_n 0, 1) := by decide +kernel
theorem dX1_readOrder_12 : decode cX1_readOrder 12 = .ok (.getfield 9, 3) := by decide +kernel
theorem dX1_readOrder_15 : decode cX1_readOrder 15 = .ok (.aload_n 0, 1) := by decide +kernel
theorem dX1_readOrder_16 : decode cX1_readOrder 16 = .ok (.getfield 26, 3) := by decide +kernel
theorem dX1_readOrder_19 : decode cX1_readOrder 19 = .ok (.caload, 1) := by decide +kernel
theorem dX1_readOrder_20 : decode cX1_readOrder 20 = .ok (.invokestatic 44, 3) := by decide +kernel
theorem dX1_readOrder_23 : decode cX1_readOrder 23 = .ok (.goto 4, 3) := by decide +kernel
theorem dX1_readOrder_26 : decode cX1_readOrder 26 = .ok (.iconst 0, 1) := by decide +kernel
theorem dX1_readOrder_27 : decode cX1_readOrder 27 = .ok (.istore_n 1, 1) := by decide +kernel
theorem dX1_readOrder_28 : decode cX1_readOrder 28 = .ok (.iload_n 1, 1) := by decide +kernel
theorem dX1_readOrder_29 : decode cX1_readOrder 29 = .ok (.ifCond .ne 5, 3) := by decide +kernel
theorem dX1_readOrder_32 : decode cX1_readOrder 32 = .ok (.iconst 0, 1) := by decide +kernel
theorem dX1_readOrder_33 : decode cX1_readOrder 33 = .ok (.ireturn, 1) := by decide +kernel
theorem dX1_readOrder_34 : decode cX1_readOrder 34 = .ok (.aload_n 0, 1) := by decide +kernel
theorem dX1_readOrder_35 : decode cX1_readOrder 35 = .ok (.dup, 1) := by decide +kernel
theorem dX1_readOrder_36 : decode cX1_readOrder 36 = .ok (.getfield 26, 3) := by decide +kernel
theorem dX1_readOrder_39 : decode cX1_readOrder 39 = .ok (.iconst 1, 1) := by decide +kernel
theorem dX1_readOrder_40 : decode cX1_readOrder 40 = .ok (.iadd, 1) := by decide +kernel
theorem dX1_readOrder_41 : decode cX1_readOrder 41 = .ok (.putfield 26, 3) := by decide +kernel
theorem dX1_readOrder_44 : decode cX1_readOrder 44 = .ok (.iconst 0, 1) := by decide +kernel
theorem dX1_readOrder_45 : decode cX1_readOrder 45 = .ok (.istore_n 2, 1) := by decide +kernel
theorem dX1_readOrder_46 : decode cX1_readOrder 46 = .ok (.iload_n 2, 1) := by decide +kernel
theorem dX1_readOrder_47 : decode cX1_readOrder 47 = .ok (.iload_n 1, 1) := by decide +kernel
theorem dX1_readOrder_48 : decode cX1_readOrder 48 = .ok (.if_icmp .ge 42, 3) := by decide +kernel
theorem dX1_readOrder_51 : decode cX1_readOrder 51 = .ok (.iload_n 2, 1) := by decide +kernel
theorem dX1_readOrder_52 : decode cX1_readOrder 52 = .ok (.iload_n 1, 1) := by decide +kernel
theorem dX1_readOrder_53 : decode cX1_readOrder 53 = .ok (.iconst 1, 1) := by decide +kernel
theorem dX1_readOrder_54 : decode cX1_readOrder 54 = .ok (.isub, 1) := by decide +kernel
theorem dX1_readOrder_55 : decode cX1_readOrder 55 = .ok (.if_icmp .ge 8, 3) := by decide +kernel
theorem dX1_readOrder_58 : decode cX1_readOrder 58 = .ok (.bipush 44, 2) := by decide +kernel
theorem dX1_readOrder_60 : decode cX1_readOrder 60 = .ok (.goto 5, 3) := by decide +kernel
theorem dX1_readOrder_63 : decode cX1_readOrder 63 = .ok (.bipush 59, 2) := by decide +kernel
theorem dX1_readOrder_65 : decode cX1_readOrder 65 = .ok (.istore_n 3, 1) := by decide +kernel
theorem dX1_readOrder_66 : decode cX1_readOrder 66 = .ok (.aload_n 0, 1) := by decide +kernel
theorem dX1_readOrder_67 : decode cX1_readOrder 67 = .ok (.iload_n 2, 1) := by decide +kernel
theorem dX1_readOrder_68 : decode cX1_readOrder 68 = .ok (.invokevirtual 48, 3) := by decide +kernel
theorem dX1_readOrder_71 : decode cX1_readOrder 71 = .ok (.ifCond .eq 11, 3) := by decide +kernel
theorem dX1_readOrder_74 : decode cX1_readOrder 74 = .ok (.aload_n 0, 1) := by decide +kernel
theorem dX1_readOrder_75 : decode cX1_readOrder 75 = .ok (.iload_n 3, 1) := by decide +kernel
theorem dX1_readOrder_76 : decode cX1_readOrder 76 = .ok (.invokevirtual 52, 3) := by decide +kernel
theorem dX1_readOrder_79 : decode cX1_readOrder 79 = .ok (.ifCond .ne 5, 3) := by decide +kernel
theorem dX1_readOrder_82 : decode cX1_readOrder 82 = .ok (.iconst 0, 1) := by decide +kernel
theorem dX1_readOrder_83 : decode cX1_readOrder 83 = .ok (.ireturn, 1) := by decide +kernel
theorem dX1_readOrder_84 : decode cX1_readOrder 84 = .ok (.iinc 2 1, 3) := by decide +kernel
theorem dX1_readOrder_87 : decode cX1_readOrder 87 = .ok (.goto (-41), 3) := by decide +kernel
theorem dX1_readOrder_90 : decode cX1_readOrder 90 = .ok (.iconst 1, 1) := by decide +kernel
theorem dX1_readOrder_91 : decode cX1_readOrder 91 = .ok (.ireturn, 1) := by decide +kernel
theorem dX1_numbersBehind_0 : decode cX1_numbersBehind 0 = .ok (.iload_n 0, 1) := by decide +kernel
theorem dX1_numbersBehind_1 : decode cX1_numbersBehind 1 = .ok (.tableswitch 85 97 112 #[81, 83, 79, 81, 85, 83, 85, 85, 85, 85, 85, 85, 85, 85, 85, 83], 79) := by decide +kernel
theorem dX1_numbersBehind_80 : decode cX1_numbersBehind 80 = .ok (.iconst 4, 1) := by decide +kernel
theorem dX1_numbersBehind_81 : decode cX1_numbersBehind 81 = .ok (.ireturn, 1) := by decide +kernel
theorem dX1_numbersBehind_82 : decode cX1_numbersBehind 82 = .ok (.iconst 2, 1) := by decide +kernel
theorem dX1_numbersBehind_83 : decode cX1_numbersBehind 83 = .ok (.ireturn, 1) := by decide +kernel
theorem dX1_numbersBehind_84 : decode cX1_numbersBehind 84 = .ok (.iconst 1, 1) := by decide +kernel
theorem dX1_numbersBehind_85 : decode cX1_numbersBehind 85 = .ok (.ireturn, 1) := by decide +kernel
theorem dX1_numbersBehind_86 : decode cX1_numbersBehind 86 = .ok (.iconst 0, 1) := by decide +kernel
theorem dX1_numbersBehind_87 : decode cX1_numbersBehind 87 = .ok (.ireturn, 1) := by decide +kernel
theorem dX1_readNumber_0 : decode cX1_readNumber 0 = .ok (.iconst 0, 1) := by decide +kernel
theorem dX1_readNumber_1 : decode cX1_readNumber 1 = .ok (.istore_n 2, 1) := by decide +kernel
theorem dX1_readNumber_2 : decode cX1_readNumber 2 = .ok (.iconst 0, 1) := by decide +kernel
theorem dX1_readNumber_3 : decode cX1_readNumber 3 = .ok (.istore_n 3, 1) := by decide +kernel
theorem dX1_readNumber_4 : decode cX1_readNumber 4 = .ok (.iload_n 3, 1) := by decide +kernel
theorem dX1_readNumber_5 : decode cX1_readNumber 5 = .ok (.iconst 3, 1) := by decide +kernel
theorem dX1_readNumber_6 : decode cX1_readNumber 6 = .ok (.if_icmp .ge 63, 3) := by decide +kernel
theorem dX1_readNumber_9 : decode cX1_readNumber 9 = .ok (.aload_n 0, 1) := by decide +kernel
theorem dX1_readNumber_10 : decode cX1_readNumber 10 = .ok (.getfield 26, 3) := by decide +kernel
theorem dX1_readNumber_13 : decode cX1_readNumber 13 = .ok (.aload_n 0, 1) := by decide +kernel
theorem dX1_readNumber_14 : decode cX1_readNumber 14 = .ok (.getfield 19, 3) := by decide +kernel
theorem dX1_readNumber_17 : decode cX1_readNumber 17 = .ok (.if_icmp .ge 52, 3) := by decide +kernel
theorem dX1_readNumber_20 : decode cX1_readNumber 20 = .ok (.aload_n 0, 1) := by decide +kernel
theorem dX1_readNumber_21 : decode cX1_readNumber 21 = .ok (.getfield 9, 3) := by decide +kernel
theorem dX1_readNumber_24 : decode cX1_readNumber 24 = .ok (.aload_n 0, 1) := by decide +kernel
theorem dX1_readNumber_25 : decode cX1_readNumber 25 = .ok (.getfield 26, 3) := by decide +kernel
theorem dX1_readNumber_28 : decode cX1_readNumber 28 = .ok (.caload, 1) := by decide +kernel
theorem dX1_readNumber_29 : decode cX1_readNumber 29 = .ok (.invokestatic 56, 3) := by decide +kernel
theorem dX1_readNumber_32 : decode cX1_readNumber 32 = .ok (.ifCond .eq 37, 3) := by decide +kernel
theorem dX1_readNumber_35 : decode cX1_readNumber 35 = .ok (.iload_n 2, 1) := by decide +kernel
theorem dX1_readNumber_36 : decode cX1_readNumber 36 = .ok (.bipush 10, 2) := by decide +kernel
theorem dX1_readNumber_38 : decode cX1_readNumber 38 = .ok (.imul, 1) := by decide +kernel
theorem dX1_readNumber_39 : decode cX1_readNumber 39 = .ok (.aload_n 0, 1) := by decide +kernel
theorem dX1_readNumber_40 : decode cX1_readNumber 40 = .ok (.getfield 9, 3) := by decide +kernel
theorem dX1_readNumber_43 : decode cX1_readNumber 43 = .ok (.aload_n 0, 1) := by decide +kernel
theorem dX1_readNumber_44 : decode cX1_readNumber 44 = .ok (.getfield 26, 3) := by decide +kernel
theorem dX1_readNumber_47 : decode cX1_readNumber 47 = .ok (.caload, 1) := by decide +kernel
theorem dX1_readNumber_48 : decode cX1_readNumber 48 = .ok (.bipush 48, 2) := by decide +kernel
theorem dX1_readNumber_50 : decode cX1_readNumber 50 = .ok (.isub, 1) := by decide +kernel
theorem dX1_readNumber_51 : decode cX1_readNumber 51 = .ok (.iadd, 1) := by decide +kernel
theorem dX1_readNumber_52 : decode cX1_readNumber 52 = .ok (.istore_n 2, 1) := by decide +kernel
theorem dX1_readNumber_53 : decode cX1_readNumber 53 = .ok (.aload_n 0, 1) := by decide +kernel
theorem dX1_readNumber_54 : decode cX1_readNumber 54 = .ok (.dup, 1) := by decide +kernel
theorem dX1_readNumber_55 : decode cX1_readNumber 55 = .ok (.getfield 26, 3) := by decide +kernel
theorem dX1_readNumber_58 : decode cX1_readNumber 58 = .ok (.iconst 1, 1) := by decide +kernel
theorem dX1_readNumber_59 : decode cX1_readNumber 59 = .ok (.iadd, 1) := by decide +kernel
theorem dX1_readNumber_60 : decode cX1_readNumber 60 = .ok (.putfield 26, 3) := by decide +kernel
theorem dX1_readNumber_63 : decode cX1_readNumber 63 = .ok (.iinc 3 1, 3) := by decide +kernel
theorem dX1_readNumber_66 : decode cX1_readNumber 66 = .ok (.goto (-62), 3) := by decide +kernel
theorem dX1_readNumber_69 : decode cX1_readNumber 69 = .ok (.iload_n 3, 1) := by decide +kernel
theorem dX1_readNumber_70 : decode cX1_readNumber 70 = .ok (.ifCond .eq 12, 3) := by decide +kernel
theorem dX1_readNumber_73 : decode cX1_readNumber 73 = .ok (.iload_n 1, 1) := by decide +kernel
theorem dX1_readNumber_74 : decode cX1_readNumber 74 = .ok (.ifCond .lt 8, 3) := by decide +kernel
theorem dX1_readNumber_77 : decode cX1_readNumber 77 = .ok (.iload_n 1, 1) := by decide +kernel
theorem dX1_readNumber_78 : decode cX1_readNumber 78 = .ok (.iconst 4, 1) := by decide +kernel
theorem dX1_readNumber_79 : decode cX1_readNumber 79 = .ok (.if_icmp .lt 5, 3) := by decide +kernel
theorem dX1_readNumber_82 : decode cX1_readNumber 82 = .ok (.iconst 0, 1) := by decide +kernel
theorem dX1_readNumber_83 : decode cX1_readNumber 83 = .ok (.ireturn, 1) := by decide +kernel
theorem dX1_readNumber_84 : decode cX1_readNumber 84 = .ok (.aload_n 0, 1) := by decide +kernel
theorem dX1_readNumber_85 : decode cX1_readNumber 85 = .ok (.getfield 15, 3) := by decide +kernel
theorem dX1_readNumber_88 : decode cX1_readNumber 88 = .ok (.iload_n 1, 1) := by decide +kernel
theorem dX1_readNumber_89 : decode cX1_readNumber 89 = .ok (.iload_n 2, 1) := by decide +kernel
theorem dX1_readNumber_90 : decode cX1_readNumber 90 = .ok (.iastore, 1) := by decide +kernel
theorem dX1_readNumber_91 : decode cX1_readNumber 91 = .ok (.iconst 1, 1) := by decide +kernel
theorem dX1_readNumber_92 : decode cX1_readNumber 92 = .ok (.ireturn, 1) := by decide +kernel
theorem dX1_isDigit_0 : decode cX1_isDigit 0 = .ok (.iload_n 0, 1) := by decide +kernel
theorem dX1_isDigit_1 : decode cX1_isDigit 1 = .ok (.bipush 48, 2) := by decide +kernel
theorem dX1_isDigit_3 : decode cX1_isDigit 3 = .ok (.if_icmp .lt 13, 3) := by decide +kernel
theorem dX1_isDigit_6 : decode cX1_isDigit 6 = .ok (.iload_n 0, 1) := by decide +kernel
theorem dX1_isDigit_7 : decode cX1_isDigit 7 = .ok (.bipush 57, 2) := by decide +kernel
theorem dX1_isDigit_9 : decode cX1_isDigit 9 = .ok (.if_icmp .gt 7, 3) := by decide +kernel
theorem dX1_isDigit_12 : decode cX1_isDigit 12 = .ok (.iconst 1, 1) := by decide +kernel
theorem dX1_isDigit_13 : decode cX1_isDigit 13 = .ok (.goto 4, 3) := by decide +kernel
theorem dX1_isDigit_16 : decode cX1_isDigit 16 = .ok (.iconst 0, 1) := by decide +kernel
theorem dX1_isDigit_17 : decode cX1_isDigit 17 = .ok (.ireturn, 1) := by decide +kernel
theorem dX1_readSign_0 : decode cX1_readSign 0 = .ok (.aload_n 0, 1) := by decide +kernel
theorem dX1_readSign_1 : decode cX1_readSign 1 = .ok (.getfield 26, 3) := by decide +kernel
theorem dX1_readSign_4 : decode cX1_readSign 4 = .ok (.aload_n 0, 1) := by decide +kernel
theorem dX1_readSign_5 : decode cX1_readSign 5 = .ok (.getfield 19, 3) := by decide +kernel
theorem dX1_readSign_8 : decode cX1_readSign 8 = .ok (.if_icmp .ge 16, 3) := by decide +kernel
theorem dX1_readSign_11 : decode cX1_readSign 11 = .ok (.aload_n 0, 1) := by decide +kernel
theorem dX1_readSign_12 : decode cX1_readSign 12 = .ok (.getfield 9, 3) := by decide +kernel
theorem dX1_readSign_15 : decode cX1_readSign 15 = .ok (.aload_n 0, 1) := by decide +kernel
theorem dX1_readSign_16 : decode cX1_readSign 16 = .ok (.getfield 26, 3) := by decide +kernel
theorem dX1_readSign_19 : decode cX1_readSign 19 = .ok (.caload, 1) := by decide +kernel
theorem dX1_readSign_20 : decode cX1_readSign 20 = .ok (.iload_n 1, 1) := by decide +kernel
theorem dX1_readSign_21 : decode cX1_readSign 21 = .ok (.if_icmp .eq 5, 3) := by decide +kernel
theorem dX1_readSign_24 : decode cX1_readSign 24 = .ok (.iconst 0, 1) := by decide +kernel
theorem dX1_readSign_25 : decode cX1_readSign 25 = .ok (.ireturn, 1) := by decide +kernel
theorem dX1_readSign_26 : decode cX1_readSign 26 = .ok (.aload_n 0, 1) := by decide +kernel
theorem dX1_readSign_27 : decode cX1_readSign 27 = .ok (.dup, 1) := by decide +kernel
theorem dX1_readSign_28 : decode cX1_readSign 28 = .ok (.getfield 26, 3) := by decide +kernel
theorem dX1_readSign_31 : decode cX1_readSign 31 = .ok (.iconst 1, 1) := by decide +kernel
theorem dX1_readSign_32 : decode cX1_readSign 32 = .ok (.iadd, 1) := by decide +kernel
theorem dX1_readSign_33 : decode cX1_readSign 33 = .ok (.putfield 26, 3) := by decide +kernel
theorem dX1_readSign_36 : decode cX1_readSign 36 = .ok (.iconst 1, 1) := by decide +kernel
theorem dX1_readSign_37 : decode cX1_readSign 37 = .ok (.ireturn, 1) := by decide +kernel
theorem dX1_doOrder_0 : decode cX1_doOrder 0 = .ok (.aload_n 0, 1) := by decide +kernel
theorem dX1_doOrder_1 : decode cX1_doOrder 1 = .ok (.getfield 9, 3) := by decide +kernel
theorem dX1_doOrder_4 : decode cX1_doOrder 4 = .ok (.aload_n 0, 1) := by decide +kernel
theorem dX1_doOrder_5 : decode cX1_doOrder 5 = .ok (.getfield 23, 3) := by decide +kernel
theorem dX1_doOrder_8 : decode cX1_doOrder 8 = .ok (.caload, 1) := by decide +kernel
theorem dX1_doOrder_9 : decode cX1_doOrder 9 = .ok (.tableswitch 124 97 102 #[90, 68, 39, 107, 124, 79], 39) := by decide +kernel
theorem dX1_doOrder_48 : decode cX1_doOrder 48 = .ok (.aload_n 1, 1) := by decide +kernel
theorem dX1_doOrder_49 : decode cX1_doOrder 49 = .ok (.aload_n 0, 1) := by decide +kernel
theorem dX1_doOrder_50 : decode cX1_doOrder 50 = .ok (.getfield 15, 3) := by decide +kernel
theorem dX1_doOrder_53 : decode cX1_doOrder 53 = .ok (.iconst 0, 1) := by decide +kernel
theorem dX1_doOrder_54 : decode cX1_doOrder 54 = .ok (.iaload, 1) := by decide +kernel
theorem dX1_doOrder_55 : decode cX1_doOrder 55 = .ok (.aload_n 0, 1) := by decide +kernel
theorem dX1_doOrder_56 : decode cX1_doOrder 56 = .ok (.getfield 15, 3) := by decide +kernel
theorem dX1_doOrder_59 : decode cX1_doOrder 59 = .ok (.iconst 1, 1) := by decide +kernel
theorem dX1_doOrder_60 : decode cX1_doOrder 60 = .ok (.iaload, 1) := by decide +kernel
theorem dX1_doOrder_61 : decode cX1_doOrder 61 = .ok (.aload_n 0, 1) := by decide +kernel
theorem dX1_doOrder_62 : decode cX1_doOrder 62 = .ok (.getfield 15, 3) := by decide +kernel
theorem dX1_doOrder_65 : decode cX1_doOrder 65 = .ok (.iconst 2, 1) := by decide +kernel
theorem dX1_doOrder_66 : decode cX1_doOrder 66 = .ok (.iaload, 1) := by decide +kernel
theorem dX1_doOrder_67 : decode cX1_doOrder 67 = .ok (.aload_n 0, 1) := by decide +kernel
theorem dX1_doOrder_68 : decode cX1_doOrder 68 = .ok (.getfield 15, 3) := by decide +kernel
theorem dX1_doOrder_71 : decode cX1_doOrder 71 = .ok (.iconst 3, 1) := by decide +kernel
theorem dX1_doOrder_72 : decode cX1_doOrder 72 = .ok (.iaload, 1) := by decide +kernel
theorem dX1_doOrder_73 : decode cX1_doOrder 73 = .ok (.invokevirtual 59, 3) := by decide +kernel
theorem dX1_doOrder_76 : decode cX1_doOrder 76 = .ok (.ireturn, 1) := by decide +kernel
theorem dX1_doOrder_77 : decode cX1_doOrder 77 = .ok (.aload_n 1, 1) := by decide +kernel
theorem dX1_doOrder_78 : decode cX1_doOrder 78 = .ok (.aload_n 0, 1) := by decide +kernel
theorem dX1_doOrder_79 : decode cX1_doOrder 79 = .ok (.getfield 15, 3) := by decide +kernel
theorem dX1_doOrder_82 : decode cX1_doOrder 82 = .ok (.iconst 0, 1) := by decide +kernel
theorem dX1_doOrder_83 : decode cX1_doOrder 83 = .ok (.iaload, 1) := by decide +kernel
theorem dX1_doOrder_84 : decode cX1_doOrder 84 = .ok (.invokevirtual 65, 3) := by decide +kernel
theorem dX1_doOrder_87 : decode cX1_doOrder 87 = .ok (.ireturn, 1) := by decide +kernel
theorem dX1_doOrder_88 : decode cX1_doOrder 88 = .ok (.aload_n 1, 1) := by decide +kernel
theorem dX1_doOrder_89 : decode cX1_doOrder 89 = .ok (.aload_n 0, 1) := by decide +kernel
theorem dX1_doOrder_90 : decode cX1_doOrder 90 = .ok (.getfield 15, 3) := by decide +kernel
theorem dX1_doOrder_93 : decode cX1_doOrder 93 = .ok (.iconst 0, 1) := by decide +kernel
theorem dX1_doOrder_94 : decode cX1_doOrder 94 = .ok (.iaload, 1) := by decide +kernel
theorem dX1_doOrder_95 : decode cX1_doOrder 95 = .ok (.invokevirtual 69, 3) := by decide +kernel
theorem dX1_doOrder_98 : decode cX1_doOrder 98 = .ok (.ireturn, 1) := by decide +kernel
theorem dX1_doOrder_99 : decode cX1_doOrder 99 = .ok (.aload_n 1, 1) := by decide +kernel
theorem dX1_doOrder_100 : decode cX1_doOrder 100 = .ok (.aload_n 0, 1) := by decide +kernel
theorem dX1_doOrder_101 : decode cX1_doOrder 101 = .ok (.getfield 15, 3) := by decide +kernel
theorem dX1_doOrder_104 : decode cX1_doOrder 104 = .ok (.iconst 0, 1) := by decide +kernel
theorem dX1_doOrder_105 : decode cX1_doOrder 105 = .ok (.iaload, 1) := by decide +kernel
theorem dX1_doOrder_106 : decode cX1_doOrder 106 = .ok (.aload_n 0, 1) := by decide +kernel
theorem dX1_doOrder_107 : decode cX1_doOrder 107 = .ok (.getfield 15, 3) := by decide +kernel
theorem dX1_doOrder_110 : decode cX1_doOrder 110 = .ok (.iconst 1, 1) := by decide +kernel
theorem dX1_doOrder_111 : decode cX1_doOrder 111 = .ok (.iaload, 1) := by decide +kernel
theorem dX1_doOrder_112 : decode cX1_doOrder 112 = .ok (.invokevirtual 72, 3) := by decide +kernel
theorem dX1_doOrder_115 : decode cX1_doOrder 115 = .ok (.ireturn, 1) := by decide +kernel
theorem dX1_doOrder_116 : decode cX1_doOrder 116 = .ok (.aload_n 1, 1) := by decide +kernel
theorem dX1_doOrder_117 : decode cX1_doOrder 117 = .ok (.aload_n 0, 1) := by decide +kernel
theorem dX1_doOrder_118 : decode cX1_doOrder 118 = .ok (.getfield 15, 3) := by decide +kernel
theorem dX1_doOrder_121 : decode cX1_doOrder 121 = .ok (.iconst 0, 1) := by decide +kernel
theorem dX1_doOrder_122 : decode cX1_doOrder 122 = .ok (.iaload, 1) := by decide +kernel
theorem dX1_doOrder_123 : decode cX1_doOrder 123 = .ok (.aload_n 0, 1) := by decide +kernel
theorem dX1_doOrder_124 : decode cX1_doOrder 124 = .ok (.getfield 15, 3) := by decide +kernel
theorem dX1_doOrder_127 : decode cX1_doOrder 127 = .ok (.iconst 1, 1) := by decide +kernel
theorem dX1_doOrder_128 : decode cX1_doOrder 128 = .ok (.iaload, 1) := by decide +kernel
theorem dX1_doOrder_129 : decode cX1_doOrder 129 = .ok (.invokevirtual 76, 3) := by decide +kernel
theorem dX1_doOrder_132 : decode cX1_doOrder 132 = .ok (.ireturn, 1) := by decide +kernel
theorem dX1_doOrder_133 : decode cX1_doOrder 133 = .ok (.aload_n 1, 1) := by decide +kernel
theorem dX1_doOrder_134 : decode cX1_doOrder 134 = .ok (.aload_n 0, 1) := by decide +kernel
theorem dX1_doOrder_135 : decode cX1_doOrder 135 = .ok (.getfield 15, 3) := by decide +kernel
theorem dX1_doOrder_138 : decode cX1_doOrder 138 = .ok (.iconst 0, 1) := by decide +kernel
theorem dX1_doOrder_139 : decode cX1_doOrder 139 = .ok (.iaload, 1) := by decide +kernel
theorem dX1_doOrder_140 : decode cX1_doOrder 140 = .ok (.invokevirtual 79, 3) := by decide +kernel
theorem dX1_doOrder_143 : decode cX1_doOrder 143 = .ok (.ireturn, 1) := by decide +kernel
theorem dX2_init_0 : decode cX2_init 0 = .ok (.aload_n 0, 1) := by decide +kernel
theorem dX2_init_1 : decode cX2_init 1 = .ok (.invokespecial 3, 3) := by decide +kernel
theorem dX2_init_4 : decode cX2_init 4 = .ok (.aload_n 0, 1) := by decide +kernel
theorem dX2_init_5 : decode cX2_init 5 = .ok (.bipush 10, 2) := by decide +kernel
theorem dX2_init_7 : decode cX2_init 7 = .ok (.anewarray 9, 3) := by decide +kernel
theorem dX2_init_10 : decode cX2_init 10 = .ok (.putfield 11, 3) := by decide +kernel
theorem dX2_init_13 : decode cX2_init 13 = .ok (.aload_n 0, 1) := by decide +kernel
theorem dX2_init_14 : decode cX2_init 14 = .ok (.iconst 5, 1) := by decide +kernel
theorem dX2_init_15 : decode cX2_init 15 = .ok (.newarray .int, 2) := by decide +kernel
theorem dX2_init_17 : decode cX2_init 17 = .ok (.putfield 17, 3) := by decide +kernel
theorem dX2_init_20 : decode cX2_init 20 = .ok (.aload_n 0, 1) := by decide +kernel
theorem dX2_init_21 : decode cX2_init 21 = .ok (.iconst 5, 1) := by decide +kernel
theorem dX2_init_22 : decode cX2_init 22 = .ok (.newarray .int, 2) := by decide +kernel
theorem dX2_init_24 : decode cX2_init 24 = .ok (.putfield 21, 3) := by decide +kernel
theorem dX2_init_27 : decode cX2_init 27 = .ok (.aload_n 0, 1) := by decide +kernel
theorem dX2_init_28 : decode cX2_init 28 = .ok (.iconst 0, 1) := by decide +kernel
theorem dX2_init_29 : decode cX2_init 29 = .ok (.putfield 24, 3) := by decide +kernel
theorem dX2_init_32 : decode cX2_init 32 = .ok (.aload_n 0, 1) := by decide +kernel
theorem dX2_init_33 : decode cX2_init 33 = .ok (.iconst 0, 1) := by decide +kernel
theorem dX2_init_34 : decode cX2_init 34 = .ok (.putfield 28, 3) := by decide +kernel
theorem dX2_init_37 : decode cX2_init 37 = .ok (.aload_n 0, 1) := by decide +kernel
theorem dX2_init_38 : decode cX2_init 38 = .ok (.iconst 0, 1) := by decide +kernel
theorem dX2_init_39 : decode cX2_init 39 = .ok (.putfield 31, 3) := by decide +kernel
theorem dX2_init_42 : decode cX2_init 42 = .ok (.aload_n 0, 1) := by decide +kernel
theorem dX2_init_43 : decode cX2_init 43 = .ok (.iconst 0, 1) := by decide +kernel
theorem dX2_init_44 : decode cX2_init 44 = .ok (.putfield 34, 3) := by decide +kernel
theorem dX2_init_47 : decode cX2_init 47 = .ok (.aload_n 0, 1) := by decide +kernel
theorem dX2_init_48 : decode cX2_init 48 = .ok (.bipush 56, 2) := by decide +kernel
theorem dX2_init_50 : decode cX2_init 50 = .ok (.putfield 37, 3) := by decide +kernel
theorem dX2_init_53 : decode cX2_init 53 = .ok (.aload_n 0, 1) := by decide +kernel
theorem dX2_init_54 : decode cX2_init 54 = .ok (.bipush 100, 2) := by decide +kernel
theorem dX2_init_56 : decode cX2_init 56 = .ok (.putfield 40, 3) := by decide +kernel
theorem dX2_init_59 : decode cX2_init 59 = .ok (.iconst 0, 1) := by decide +kernel
theorem dX2_init_60 : decode cX2_init 60 = .ok (.istore_n 1, 1) := by decide +kernel
theorem dX2_init_61 : decode cX2_init 61 = .ok (.iload_n 1, 1) := by decide +kernel
theorem dX2_init_62 : decode cX2_init 62 = .ok (.bipush 10, 2) := by decide +kernel
theorem dX2_init_64 : decode cX2_init 64 = .ok (.if_icmp .ge 22, 3) := by decide +kernel
theorem dX2_init_67 : decode cX2_init 67 = .ok (.aload_n 0, 1) := by decide +kernel
theorem dX2_init_68 : decode cX2_init 68 = .ok (.getfield 11, 3) := by decide +kernel
theorem dX2_init_71 : decode cX2_init 71 = .ok (.iload_n 1, 1) := by decide +kernel
theorem dX2_init_72 : decode cX2_init 72 = .ok (.new 9, 3) := by decide +kernel
theorem dX2_init_75 : decode cX2_init 75 = .ok (.dup, 1) := by decide +kernel
theorem dX2_init_76 : decode cX2_init 76 = .ok (.invokespecial 43, 3) := by decide +kernel
theorem dX2_init_79 : decode cX2_init 79 = .ok (.aastore, 1) := by decide +kernel
theorem dX2_init_80 : decode cX2_init 80 = .ok (.iinc 1 1, 3) := by decide +kernel
theorem dX2_init_83 : decode cX2_init 83 = .ok (.goto (-22), 3) := by decide +kernel
theorem dX2_init_86 : decode cX2_init 86 = .ok (.iconst 0, 1) := by decide +kernel
theorem dX2_init_87 : decode cX2_init 87 = .ok (.istore_n 1, 1) := by decide +kernel
theorem dX2_init_88 : decode cX2_init 88 = .ok (.iload_n 1, 1) := by decide +kernel
theorem dX2_init_89 : decode cX2_init 89 = .ok (.iconst 5, 1) := by decide +kernel
theorem dX2_init_90 : decode cX2_init 90 = .ok (.if_icmp .ge 23, 3) := by decide +kernel
theorem dX2_init_93 : decode cX2_init 93 = .ok (.aload_n 0, 1) := by decide +kernel
theorem dX2_init_94 : decode cX2_init 94 = .ok (.getfield 17, 3) := by decide +kernel
theorem dX2_init_97 : decode cX2_init 97 = .ok (.iload_n 1, 1) := by decide +kernel
theorem dX2_init_98 : decode cX2_init 98 = .ok (.iconst (-1), 1) := by decide +kernel
theorem dX2_init_99 : decode cX2_init 99 = .ok (.iastore, 1) := by decide +kernel
theorem dX2_init_100 : decode cX2_init 100 = .ok (.aload_n 0, 1) := by decide +kernel
theorem dX2_init_101 : decode cX2_init 101 = .ok (.getfield 21, 3) := by decide +kernel
theorem dX2_init_104 : decode cX2_init 104 = .ok (.iload_n 1, 1) := by decide +kernel
theorem dX2_init_105 : decode cX2_init 105 = .ok (.iconst (-1), 1) := by decide +kernel
theorem dX2_init_106 : decode cX2_init 106 = .ok (.iastore, 1) := by decide +kernel
theorem dX2_init_107 : decode cX2_init 107 = .ok (.iinc 1 1, 3) := by decide +kernel
theorem dX2_init_110 : decode cX2_init 110 = .ok (.goto (-22), 3) := by decide +kernel
theorem dX2_init_113 : decode cX2_init 113 = .ok (.return_, 1) := by decide +kernel
theorem dX2_copyFrom_0 : decode cX2_copyFrom 0 = .ok (.aload_n 0, 1) := by decide +kernel
theorem dX2_copyFrom_1 : decode cX2_copyFrom 1 = .ok (.aload_n 1, 1) := by decide +kernel
theorem dX2_copyFrom_2 : decode cX2_copyFrom 2 = .ok (.getfield 24, 3) := by decide +kernel
theorem dX2_copyFrom_5 : decode cX2_copyFrom 5 = .ok (.putfield 24, 3) := by decide +kernel
theorem dX2_copyFrom_8 : decode cX2_copyFrom 8 = .ok (.iconst 0, 1) := by decide +kernel
theorem dX2_copyFrom_9 : decode cX2_copyFrom 9 = .ok (.istore_n 2, 1) := by decide +kernel
theorem dX2_copyFrom_10 : decode cX2_copyFrom 10 = .ok (.iload_n 2, 1) := by decide +kernel
theorem dX2_copyFrom_11 : decode cX2_copyFrom 11 = .ok (.aload_n 0, 1) := by decide +kernel
theorem dX2_copyFrom_12 : decode cX2_copyFrom 12 = .ok (.getfield 24, 3) := by decide +kernel
theorem dX2_copyFrom_15 : decode cX2_copyFrom 15 = .ok (.if_icmp .ge 24, 3) := by decide +kernel
theorem dX2_copyFrom_18 : decode cX2_copyFrom 18 = .ok (.aload_n 0, 1) := by decide +kernel
theorem dX2_copyFrom_19 : decode cX2_copyFrom 19 = .ok (.getfield 11, 3) := by decide +kernel
theorem dX2_copyFrom_22 : decode cX2_copyFrom 22 = .ok (.iload_n 2, 1) := by decide +kernel
theorem dX2_copyFrom_23 : decode cX2_copyFrom 23 = .ok (.aaload, 1) := by decide +kernel
theorem dX2_copyFrom_24 : decode cX2_copyFrom 24 = .ok (.aload_n 1, 1) := by decide +kernel
theorem dX2_copyFrom_25 : decode cX2_copyFrom 25 = .ok (.getfield 11, 3) := by decide +kernel
theorem dX2_copyFrom_28 : decode cX2_copyFrom 28 = .ok (.iload_n 2, 1) := by decide +kernel
theorem dX2_copyFrom_29 : decode cX2_copyFrom 29 = .ok (.aaload, 1) := by decide +kernel
theorem dX2_copyFrom_30 : decode cX2_copyFrom 30 = .ok (.invokevirtual 44, 3) := by decide +kernel
theorem dX2_copyFrom_33 : decode cX2_copyFrom 33 = .ok (.iinc 2 1, 3) := by decide +kernel
theorem dX2_copyFrom_36 : decode cX2_copyFrom 36 = .ok (.goto (-26), 3) := by decide +kernel
theorem dX2_copyFrom_39 : decode cX2_copyFrom 39 = .ok (.iconst 0, 1) := by decide +kernel
theorem dX2_copyFrom_40 : decode cX2_copyFrom 40 = .ok (.istore_n 2, 1) := by decide +kernel
theorem dX2_copyFrom_41 : decode cX2_copyFrom 41 = .ok (.iload_n 2, 1) := by decide +kernel
theorem dX2_copyFrom_42 : decode cX2_copyFrom 42 = .ok (.iconst 5, 1) := by decide +kernel
theorem dX2_copyFrom_43 : decode cX2_copyFrom 43 = .ok (.if_icmp .ge 33, 3) := by decide +kernel
theorem dX2_copyFrom_46 : decode cX2_copyFrom 46 = .ok (.aload_n 0, 1) := by decide +kernel
theorem dX2_copyFrom_47 : decode cX2_copyFrom 47 = .ok (.getfield 17, 3) := by decide +kernel
theorem dX2_copyFrom_50 : decode cX2_copyFrom 50 = .ok (.iload_n 2, 1) := by decide +kernel
theorem dX2_copyFrom_51 : decode cX2_copyFrom 51 = .ok (.aload_n 1, 1) := by decide +kernel
theorem dX2_copyFrom_52 : decode cX2_copyFrom 52 = .ok (.getfield 17, 3) := by decide +kernel
theorem dX2_copyFrom_55 : decode cX2_copyFrom 55 = .ok (.iload_n 2, 1) := by decide +kernel
theorem dX2_copyFrom_56 : decode cX2_copyFrom 56 = .ok (.iaload, 1) := by decide +kernel
theorem dX2_copyFrom_57 : decode cX2_copyFrom 57 = .ok (.iastore, 1) := by decide +kernel
theorem dX2_copyFrom_58 : decode cX2_copyFrom 58 = .ok (.aload_n 0, 1) := by decide +kernel
theorem dX2_copyFrom_59 : decode cX2_copyFrom 59 = .ok (.getfield 21, 3) := by decide +kernel
theorem dX2_copyFrom_62 : decode cX2_copyFrom 62 = .ok (.iload_n 2, 1) := by decide +kernel
theorem dX2_copyFrom_63 : decode cX2_copyFrom 63 = .ok (.aload_n 1, 1) := by decide +kernel
theorem dX2_copyFrom_64 : decode cX2_copyFrom 64 = .ok (.getfield 21, 3) := by decide +kernel
theorem dX2_copyFrom_67 : decode cX2_copyFrom 67 = .ok (.iload_n 2, 1) := by decide +kernel
theorem dX2_copyFrom_68 : decode cX2_copyFrom 68 = .ok (.iaload, 1) := by decide +kernel
theorem dX2_copyFrom_69 : decode cX2_copyFrom 69 = .ok (.iastore, 1) := by decide +kernel
theorem dX2_copyFrom_70 : decode cX2_copyFrom 70 = .ok (.iinc 2 1, 3) := by decide +kernel
theorem dX2_copyFrom_73 : decode cX2_copyFrom 73 = .ok (.goto (-32), 3) := by decide +kernel
theorem dX2_copyFrom_76 : decode cX2_copyFrom 76 = .ok (.aload_n 0, 1) := by decide +kernel
theorem dX2_copyFrom_77 : decode cX2_copyFrom 77 = .ok (.aload_n 1, 1) := by decide +kernel
theorem dX2_copyFrom_78 : decode cX2_copyFrom 78 = .ok (.getfield 28, 3) := by decide +kernel
theorem dX2_copyFrom_81 : decode cX2_copyFrom 81 = .ok (.putfield 28, 3) := by decide +kernel
theorem dX2_copyFrom_84 : decode cX2_copyFrom 84 = .ok (.aload_n 0, 1) := by decide +kernel
theorem dX2_copyFrom_85 : decode cX2_copyFrom 85 = .ok (.aload_n 1, 1) := by decide +kernel
theorem dX2_copyFrom_86 : decode cX2_copyFrom 86 = .ok (.getfield 31, 3) := by decide +kernel
theorem dX2_copyFrom_89 : decode cX2_copyFrom 89 = .ok (.putfield 31, 3) := by decide +kernel
theorem dX2_copyFrom_92 : decode cX2_copyFrom 92 = .ok (.aload_n 0, 1) := by decide +kernel
theorem dX2_copyFrom_93 : decode cX2_copyFrom 93 = .ok (.aload_n 1, 1) := by decide +kernel
theorem dX2_copyFrom_94 : decode cX2_copyFrom 94 = .ok (.getfield 34, 3) := by decide +kernel
theorem dX2_copyFrom_97 : decode cX2_copyFrom 97 = .ok (.putfield 34, 3) := by decide +kernel
theorem dX2_copyFrom_100 : decode cX2_copyFrom 100 = .ok (.aload_n 0, 1) := by decide +kernel
theorem dX2_copyFrom_101 : decode cX2_copyFrom 101 = .ok (.aload_n 1, 1) := by decide +kernel
theorem dX2_copyFrom_102 : decode cX2_copyFrom 102 = .ok (.getfield 37, 3) := by decide +kernel
theorem dX2_copyFrom_105 : decode cX2_copyFrom 105 = .ok (.putfield 37, 3) := by decide +kernel
theorem dX2_copyFrom_108 : decode cX2_copyFrom 108 = .ok (.aload_n 0, 1) := by decide +kernel
theorem dX2_copyFrom_109 : decode cX2_copyFrom 109 = .ok (.aload_n 1, 1) := by decide +kernel
theorem dX2_copyFrom_110 : decode cX2_copyFrom 110 = .ok (.getfield 40, 3) := by decide +kernel
theorem dX2_copyFrom_113 : decode cX2_copyFrom 113 = .ok (.putfield 40, 3) := by decide +kernel
theorem dX2_copyFrom_116 : decode cX2_copyFrom 116 = .ok (.return_, 1) := by decide +kernel
theorem dX2_hasCondition_0 : decode cX2_hasCondition 0 = .ok (.iload_n 1, 1) := by decide +kernel
theorem dX2_hasCondition_1 : decode cX2_hasCondition 1 = .ok (.ifCond .lt 15, 3) := by decide +kernel
theorem dX2_hasCondition_4 : decode cX2_hasCondition 4 = .ok (.iload_n 1, 1) := by decide +kernel
theorem dX2_hasCondition_5 : decode cX2_hasCondition 5 = .ok (.aload_n 0, 1) := by decide +kernel
theorem dX2_hasCondition_6 : decode cX2_hasCondition 6 = .ok (.getfield 24, 3) := by decide +kernel
theorem dX2_hasCondition_9 : decode cX2_hasCondition 9 = .ok (.if_icmp .ge 7, 3) := by decide +kernel
theorem dX2_hasCondition_12 : decode cX2_hasCondition 12 = .ok (.iconst 1, 1) := by decide +kernel
theorem dX2_hasCondition_13 : decode cX2_hasCondition 13 = .ok (.goto 4, 3) := by decide +kernel
theorem dX2_hasCondition_16 : decode cX2_hasCondition 16 = .ok (.iconst 0, 1) := by decide +kernel
theorem dX2_hasCondition_17 : decode cX2_hasCondition 17 = .ok (.ireturn, 1) := by decide +kernel
theorem dX2_isBegun_0 : decode cX2_isBegun 0 = .ok (.aload_n 0, 1) := by decide +kernel
theorem dX2_isBegun_1 : decode cX2_isBegun 1 = .ok (.getfield 17, 3) := by decide +kernel
theorem dX2_isBegun_4 : decode cX2_isBegun 4 = .ok (.iload_n 1, 1) := by decide +kernel
theorem dX2_isBegun_5 : decode cX2_isBegun 5 = .ok (.iaload, 1) := by decide +kernel
theorem dX2_isBegun_6 : decode cX2_isBegun 6 = .ok (.iconst (-1), 1) := by decide +kernel
theorem dX2_isBegun_7 : decode cX2_isBegun 7 = .ok (.if_icmp .eq 7, 3) := by decide +kernel
theorem dX2_isBegun_10 : decode cX2_isBegun 10 = .ok (.iconst 1, 1) := by decide +kernel
theorem dX2_isBegun_11 : decode cX2_isBegun 11 = .ok (.goto 4, 3) := by decide +kernel
theorem dX2_isBegun_14 : decode cX2_isBegun 14 = .ok (.iconst 0, 1) := by decide +kernel
theorem dX2_isBegun_15 : decode cX2_isBegun 15 = .ok (.ireturn, 1) := by decide +kernel
theorem dX2_isFinished_0 : decode cX2_isFinished 0 = .ok (.aload_n 0, 1) := by decide +kernel
theorem dX2_isFinished_1 : decode cX2_isFinished 1 = .ok (.getfield 21, 3) := by decide +kernel
theorem dX2_isFinished_4 : decode cX2_isFinished 4 = .ok (.iload_n 1, 1) := by decide +kernel
theorem dX2_isFinished_5 : decode cX2_isFinished 5 = .ok (.iaload, 1) := by decide +kernel
theorem dX2_isFinished_6 : decode cX2_isFinished 6 = .ok (.iconst (-1), 1) := by decide +kernel
theorem dX2_isFinished_7 : decode cX2_isFinished 7 = .ok (.if_icmp .eq 7, 3) := by decide +kernel
theorem dX2_isFinished_10 : decode cX2_isFinished 10 = .ok (.iconst 1, 1) := by decide +kernel
theorem dX2_isFinished_11 : decode cX2_isFinished 11 = .ok (.goto 4, 3) := by decide +kernel
theorem dX2_isFinished_14 : decode cX2_isFinished 14 = .ok (.iconst 0, 1) := by decide +kernel
theorem dX2_isFinished_15 : decode cX2_isFinished 15 = .ok (.ireturn, 1) := by decide +kernel
theorem dX2_canBegin_0 : decode cX2_canBegin 0 = .ok (.aload_n 0, 1) := by decide +kernel
theorem dX2_canBegin_1 : decode cX2_canBegin 1 = .ok (.iload_n 1, 1) := by decide +kernel
theorem dX2_canBegin_2 : decode cX2_canBegin 2 = .ok (.invokevirtual 48, 3) := by decide +kernel
theorem dX2_canBegin_5 : decode cX2_canBegin 5 = .ok (.ifCond .ne 21, 3) := by decide +kernel
theorem dX2_canBegin_8 : decode cX2_canBegin 8 = .ok (.iload_n 1, 1) := by decide +kernel
theorem dX2_canBegin_9 : decode cX2_canBegin 9 = .ok (.ifCond .eq 13, 3) := by decide +kernel
theorem dX2_canBegin_12 : decode cX2_canBegin 12 = .ok (.aload_n 0, 1) := by decide +kernel
theorem dX2_canBegin_13 : decode cX2_canBegin 13 = .ok (.iload_n 1, 1) := by decide +kernel
theorem dX2_canBegin_14 : decode cX2_canBegin 14 = .ok (.iconst 1, 1) := by decide +kernel
theorem dX2_canBegin_15 : decode cX2_canBegin 15 = .ok (.isub, 1) := by decide +kernel
theorem dX2_canBegin_16 : decode cX2_canBegin 16 = .ok (.invokevirtual 48, 3) := by decide +kernel
theorem dX2_canBegin_19 : decode cX2_canBegin 19 = .ok (.ifCond .eq 7, 3) := by decide +kernel
theorem dX2_canBegin_22 : decode cX2_canBegin 22 = .ok (.iconst 1, 1) := by decide +kernel
theorem dX2_canBegin_23 : decode cX2_canBegin 23 = .ok (.goto 4, 3) := by decide +kernel
theorem dX2_canBegin_26 : decode cX2_canBegin 26 = .ok (.iconst 0, 1) := by decide +kernel
theorem dX2_canBegin_27 : decode cX2_canBegin 27 = .ok (.ireturn, 1) := by decide +kernel
theorem dX2_progressOf_0 : decode cX2_progressOf 0 = .ok (.aload_n 0, 1) := by decide +kernel
theorem dX2_progressOf_1 : decode cX2_progressOf 1 = .ok (.iload_n 1, 1) := by decide +kernel
theorem dX2_progressOf_2 : decode cX2_progressOf 2 = .ok (.invokevirtual 52, 3) := by decide +kernel
theorem dX2_progressOf_5 : decode cX2_progressOf 5 = .ok (.ifCond .eq 5, 3) := by decide +kernel
theorem dX2_progressOf_8 : decode cX2_progressOf 8 = .ok (.iconst 2, 1) := by decide +kernel
theorem dX2_progressOf_9 : decode cX2_progressOf 9 = .ok (.ireturn, 1) := by decide +kernel
theorem dX2_progressOf_10 : decode cX2_progressOf 10 = .ok (.aload_n 0, 1) := by decide +kernel
theorem dX2_progressOf_11 : decode cX2_progressOf 11 = .ok (.iload_n 1, 1) := by decide +kernel
theorem dX2_progressOf_12 : decode cX2_progressOf 12 = .ok (.invokevirtual 48, 3) := by decide +kernel
theorem dX2_progressOf_15 : decode cX2_progressOf 15 = .ok (.ifCond .eq 7, 3) := by decide +kernel
theorem dX2_progressOf_18 : decode cX2_progressOf 18 = .ok (.iconst 1, 1) := by decide +kernel
theorem dX2_progressOf_19 : decode cX2_progressOf 19 = .ok (.goto 4, 3) := by decide +kernel
theorem dX2_progressOf_22 : decode cX2_progressOf 22 = .ok (.iconst 0, 1) := by decide +kernel
theorem dX2_progressOf_23 : decode cX2_progressOf 23 = .ok (.ireturn, 1) := by decide +kernel
theorem dX2_stateOf_0 : decode cX2_stateOf 0 = .ok (.aload_n 1, 1) := by decide +kernel
theorem dX2_stateOf_1 : decode cX2_stateOf 1 = .ok (.getfield 55, 3) := by decide +kernel
theorem dX2_stateOf_4 : decode cX2_stateOf 4 = .ok (.ifCond .eq 5, 3) := by decide +kernel
theorem dX2_stateOf_7 : decode cX2_stateOf 7 = .ok (.iconst 4, 1) := by decide +kernel
theorem dX2_stateOf_8 : decode cX2_stateOf 8 = .ok (.ireturn, 1) := by decide +kernel
theorem dX2_stateOf_9 : decode cX2_stateOf 9 = .ok (.aload_n 1, 1) := by decide +kernel
theorem dX2_stateOf_10 : decode cX2_stateOf 10 = .ok (.getfield 59, 3) := by decide +kernel
theorem dX2_stateOf_13 : decode cX2_stateOf 13 = .ok (.ifCond .eq 5, 3) := by decide +kernel
theorem dX2_stateOf_16 : decode cX2_stateOf 16 = .ok (.iconst 3, 1) := by decide +kernel
theorem dX2_stateOf_17 : decode cX2_stateOf 17 = .ok (.ireturn, 1) := by decide +kernel
theorem dX2_stateOf_18 : decode cX2_stateOf 18 = .ok (.aload_n 1, 1) := by decide +kernel
theorem dX2_stateOf_19 : decode cX2_stateOf 19 = .ok (.invokevirtual 62, 3) := by decide +kernel
theorem dX2_stateOf_22 : decode cX2_stateOf 22 = .ok (.ifCond .eq 5, 3) := by decide +kernel
theorem dX2_stateOf_25 : decode cX2_stateOf 25 = .ok (.iconst 2, 1) := by decide +kernel
theorem dX2_stateOf_26 : decode cX2_stateOf 26 = .ok (.ireturn, 1) := by decide +kernel
theorem dX2_stateOf_27 : decode cX2_stateOf 27 = .ok (.aload_n 1, 1) := by decide +kernel
theorem dX2_stateOf_28 : decode cX2_stateOf 28 = .ok (.getfield 66, 3) := by decide +kernel
theorem dX2_stateOf_31 : decode cX2_stateOf 31 = .ok (.iconst 1, 1) := by decide +kernel
theorem dX2_stateOf_32 : decode cX2_stateOf 32 = .ok (.if_icmp .ne 16, 3) := by decide +kernel
theorem dX2_stateOf_35 : decode cX2_stateOf 35 = .ok (.aload_n 0, 1) := by decide +kernel
theorem dX2_stateOf_36 : decode cX2_stateOf 36 = .ok (.aload_n 1, 1) := by decide +kernel
theorem dX2_stateOf_37 : decode cX2_stateOf 37 = .ok (.getfield 69, 3) := by decide +kernel
theorem dX2_stateOf_40 : decode cX2_stateOf 40 = .ok (.invokevirtual 48, 3) := by decide +kernel
theorem dX2_stateOf_43 : decode cX2_stateOf 43 = .ok (.ifCond .ne 5, 3) := by decide +kernel
theorem dX2_stateOf_46 : decode cX2_stateOf 46 = .ok (.iconst 0, 1) := by decide +kernel
theorem dX2_stateOf_47 : decode cX2_stateOf 47 = .ok (.ireturn, 1) := by decide +kernel
theorem dX2_stateOf_48 : decode cX2_stateOf 48 = .ok (.aload_n 1, 1) := by decide +kernel
theorem dX2_stateOf_49 : decode cX2_stateOf 49 = .ok (.getfield 66, 3) := by decide +kernel
theorem dX2_stateOf_52 : decode cX2_stateOf 52 = .ok (.iconst 2, 1) := by decide +kernel
theorem dX2_stateOf_53 : decode cX2_stateOf 53 = .ok (.if_icmp .ne 16, 3) := by decide +kernel
theorem dX2_stateOf_56 : decode cX2_stateOf 56 = .ok (.aload_n 0, 1) := by decide +kernel
theorem dX2_stateOf_57 : decode cX2_stateOf 57 = .ok (.aload_n 1, 1) := by decide +kernel
theorem dX2_stateOf_58 : decode cX2_stateOf 58 = .ok (.getfield 69, 3) := by decide +kernel
theorem dX2_stateOf_61 : decode cX2_stateOf 61 = .ok (.invokevirtual 52, 3) := by decide +kernel
theorem dX2_stateOf_64 : decode cX2_stateOf 64 = .ok (.ifCond .ne 5, 3) := by decide +kernel
theorem dX2_stateOf_67 : decode cX2_stateOf 67 = .ok (.iconst 0, 1) := by decide +kernel
theorem dX2_stateOf_68 : decode cX2_stateOf 68 = .ok (.ireturn, 1) := by decide +kernel
theorem dX2_stateOf_69 : decode cX2_stateOf 69 = .ok (.iconst 1, 1) := by decide +kernel
theorem dX2_stateOf_70 : decode cX2_stateOf 70 = .ok (.ireturn, 1) := by decide +kernel
theorem dX2_withState_0 : decode cX2_withState 0 = .ok (.iconst 0, 1) := by decide +kernel
theorem dX2_withState_1 : decode cX2_withState 1 = .ok (.istore_n 2, 1) := by decide +kernel
theorem dX2_withState_2 : decode cX2_withState 2 = .ok (.iconst 0, 1) := by decide +kernel
theorem dX2_withState_3 : decode cX2_withState 3 = .ok (.istore_n 3, 1) := by decide +kernel
theorem dX2_withState_4 : decode cX2_withState 4 = .ok (.iload_n 3, 1) := by decide +kernel
theorem dX2_withState_5 : decode cX2_withState 5 = .ok (.aload_n 0, 1) := by decide +kernel
theorem dX2_withState_6 : decode cX2_withState 6 = .ok (.getfield 24, 3) := by decide +kernel
theorem dX2_withState_9 : decode cX2_withState 9 = .ok (.if_icmp .ge 29, 3) := by decide +kernel
theorem dX2_withState_12 : decode cX2_withState 12 = .ok (.aload_n 0, 1) := by decide +kernel
theorem dX2_withState_13 : decode cX2_withState 13 = .ok (.aload_n 0, 1) := by decide +kernel
theorem dX2_withState_14 : decode cX2_withState 14 = .ok (.getfield 11, 3) := by decide +kernel
theorem dX2_withState_17 : decode cX2_withState 17 = .ok (.iload_n 3, 1) := by decide +kernel
theorem dX2_withState_18 : decode cX2_withState 18 = .ok (.aaload, 1) := by decide +kernel
theorem dX2_withState_19 : decode cX2_withState 19 = .ok (.invokevirtual 72, 3) := by decide +kernel
theorem dX2_withState_22 : decode cX2_withState 22 = .ok (.iload_n 1, 1) := by decide +kernel
theorem dX2_withState_23 : decode cX2_withState 23 = .ok (.if_icmp .ne 9, 3) := by decide +kernel
theorem dX2_withState_26 : decode cX2_withState 26 = .ok (.iload_n 2, 1) := by decide +kernel
theorem dX2_withState_27 : decode cX2_withState 27 = .ok (.iconst 1, 1) := by decide +kernel
theorem dX2_withState_28 : decode cX2_withState 28 = .ok (.iload_n 3, 1) := by decide +kernel
theorem dX2_withState_29 : decode cX2_withState 29 = .ok (.ishl, 1) := by decide +kernel
theorem dX2_withState_30 : decode cX2_withState 30 = .ok (.ior, 1) := by decide +kernel
theorem dX2_withState_31 : decode cX2_withState 31 = .ok (.istore_n 2, 1) := by decide +kernel
theorem dX2_withState_32 : decode cX2_withState 32 = .ok (.iinc 3 1, 3) := by decide +kernel
theorem dX2_withState_35 : decode cX2_withState 35 = .ok (.goto (-31), 3) := by decide +kernel
theorem dX2_withState_38 : decode cX2_withState 38 = .ok (.iload_n 2, 1) := by decide +kernel
theorem dX2_withState_39 : decode cX2_withState 39 = .ok (.ireturn, 1) := by decide +kernel
theorem dX2_unmetAhead_0 : decode cX2_unmetAhead 0 = .ok (.iconst 0, 1) := by decide +kernel
theorem dX2_unmetAhead_1 : decode cX2_unmetAhead 1 = .ok (.istore_n 2, 1) := by decide +kernel
theorem dX2_unmetAhead_2 : decode cX2_unmetAhead 2 = .ok (.iconst 0, 1) := by decide +kernel
theorem dX2_unmetAhead_3 : decode cX2_unmetAhead 3 = .ok (.istore_n 3, 1) := by decide +kernel
theorem dX2_unmetAhead_4 : decode cX2_unmetAhead 4 = .ok (.iload_n 3, 1) := by decide +kernel
theorem dX2_unmetAhead_5 : decode cX2_unmetAhead 5 = .ok (.aload_n 0, 1) := by decide +kernel
theorem dX2_unmetAhead_6 : decode cX2_unmetAhead 6 = .ok (.getfield 24, 3) := by decide +kernel
theorem dX2_unmetAhead_9 : decode cX2_unmetAhead 9 = .ok (.if_icmp .ge 48, 3) := by decide +kernel
theorem dX2_unmetAhead_12 : decode cX2_unmetAhead 12 = .ok (.aload_n 0, 1) := by decide +kernel
theorem dX2_unmetAhead_13 : decode cX2_unmetAhead 13 = .ok (.getfield 11, 3) := by decide +kernel
theorem dX2_unmetAhead_16 : decode cX2_unmetAhead 16 = .ok (.iload_n 3, 1) := by decide +kernel
theorem dX2_unmetAhead_17 : decode cX2_unmetAhead 17 = .ok (.aaload, 1) := by decide +kernel
theorem dX2_unmetAhead_18 : decode cX2_unmetAhead 18 = .ok (.astore 4, 2) := by decide +kernel
theorem dX2_unmetAhead_20 : decode cX2_unmetAhead 20 = .ok (.aload 4, 2) := by decide +kernel
theorem dX2_unmetAhead_22 : decode cX2_unmetAhead 22 = .ok (.getfield 66, 3) := by decide +kernel
theorem dX2_unmetAhead_25 : decode cX2_unmetAhead 25 = .ok (.ifCond .ne 26, 3) := by decide +kernel
theorem dX2_unmetAhead_28 : decode cX2_unmetAhead 28 = .ok (.aload 4, 2) := by decide +kernel
theorem dX2_unmetAhead_30 : decode cX2_unmetAhead 30 = .ok (.getfield 69, 3) := by decide +kernel
theorem dX2_unmetAhead_33 : decode cX2_unmetAhead 33 = .ok (.iload_n 1, 1) := by decide +kernel
theorem dX2_unmetAhead_34 : decode cX2_unmetAhead 34 = .ok (.if_icmp .ne 17, 3) := by decide +kernel
theorem dX2_unmetAhead_37 : decode cX2_unmetAhead 37 = .ok (.aload 4, 2) := by decide +kernel
theorem dX2_unmetAhead_39 : decode cX2_unmetAhead 39 = .ok (.invokevirtual 62, 3) := by decide +kernel
theorem dX2_unmetAhead_42 : decode cX2_unmetAhead 42 = .ok (.ifCond .ne 9, 3) := by decide +kernel
theorem dX2_unmetAhead_45 : decode cX2_unmetAhead 45 = .ok (.iload_n 2, 1) := by decide +kernel
theorem dX2_unmetAhead_46 : decode cX2_unmetAhead 46 = .ok (.iconst 1, 1) := by decide +kernel
theorem dX2_unmetAhead_47 : decode cX2_unmetAhead 47 = .ok (.iload_n 3, 1) := by decide +kernel
theorem dX2_unmetAhead_48 : decode cX2_unmetAhead 48 = .ok (.ishl, 1) := by decide +kernel
theorem dX2_unmetAhead_49 : decode cX2_unmetAhead 49 = .ok (.ior, 1) := by decide +kernel
theorem dX2_unmetAhead_50 : decode cX2_unmetAhead 50 = .ok (.istore_n 2, 1) := by decide +kernel
theorem dX2_unmetAhead_51 : decode cX2_unmetAhead 51 = .ok (.iinc 3 1, 3) := by decide +kernel
theorem dX2_unmetAhead_54 : decode cX2_unmetAhead 54 = .ok (.goto (-50), 3) := by decide +kernel
theorem dX2_unmetAhead_57 : decode cX2_unmetAhead 57 = .ok (.iload_n 2, 1) := by decide +kernel
theorem dX2_unmetAhead_58 : decode cX2_unmetAhead 58 = .ok (.ireturn, 1) := by decide +kernel
theorem dX2_partsOfAll_0 : decode cX2_partsOfAll 0 = .ok (.iconst 0, 1) := by decide +kernel
theorem dX2_partsOfAll_1 : decode cX2_partsOfAll 1 = .ok (.istore_n 1, 1) := by decide +kernel
theorem dX2_partsOfAll_2 : decode cX2_partsOfAll 2 = .ok (.iconst 0, 1) := by decide +kernel
theorem dX2_partsOfAll_3 : decode cX2_partsOfAll 3 = .ok (.istore_n 2, 1) := by decide +kernel
theorem dX2_partsOfAll_4 : decode cX2_partsOfAll 4 = .ok (.iload_n 2, 1) := by decide +kernel
theorem dX2_partsOfAll_5 : decode cX2_partsOfAll 5 = .ok (.aload_n 0, 1) := by decide +kernel
theorem dX2_partsOfAll_6 : decode cX2_partsOfAll 6 = .ok (.getfield 24, 3) := by decide +kernel
theorem dX2_partsOfAll_9 : decode cX2_partsOfAll 9 = .ok (.if_icmp .ge 21, 3) := by decide +kernel
theorem dX2_partsOfAll_12 : decode cX2_partsOfAll 12 = .ok (.iload_n 1, 1) := by decide +kernel
theorem dX2_partsOfAll_13 : decode cX2_partsOfAll 13 = .ok (.aload_n 0, 1) := by decide +kernel
theorem dX2_partsOfAll_14 : decode cX2_partsOfAll 14 = .ok (.getfield 11, 3) := by decide +kernel
theorem dX2_partsOfAll_17 : decode cX2_partsOfAll 17 = .ok (.iload_n 2, 1) := by decide +kernel
theorem dX2_partsOfAll_18 : decode cX2_partsOfAll 18 = .ok (.aaload, 1) := by decide +kernel
theorem dX2_partsOfAll_19 : decode cX2_partsOfAll 19 = .ok (.getfield 76, 3) := by decide +kernel
theorem dX2_partsOfAll_22 : decode cX2_partsOfAll 22 = .ok (.iadd, 1) := by decide +kernel
theorem dX2_partsOfAll_23 : decode cX2_partsOfAll 23 = .ok (.istore_n 1, 1) := by decide +kernel
theorem dX2_partsOfAll_24 : decode cX2_partsOfAll 24 = .ok (.iinc 2 1, 3) := by decide +kernel
theorem dX2_partsOfAll_27 : decode cX2_partsOfAll 27 = .ok (.goto (-23), 3) := by decide +kernel
theorem dX2_partsOfAll_30 : decode cX2_partsOfAll 30 = .ok (.iload_n 1, 1) := by decide +kernel
theorem dX2_partsOfAll_31 : decode cX2_partsOfAll 31 = .ok (.ireturn, 1) := by decide +kernel
theorem dX2_approvedOfAll_0 : decode cX2_approvedOfAll 0 = .ok (.iconst 0, 1) := by decide +kernel
theorem dX2_approvedOfAll_1 : decode cX2_approvedOfAll 1 = .ok (.istore_n 1, 1) := by decide +kernel
theorem dX2_approvedOfAll_2 : decode cX2_approvedOfAll 2 = .ok (.iconst 0, 1) := by decide +kernel
theorem dX2_approvedOfAll_3 : decode cX2_approvedOfAll 3 = .ok (.istore_n 2, 1) := by decide +kernel
theorem dX2_approvedOfAll_4 : decode cX2_approvedOfAll 4 = .ok (.iload_n 2, 1) := by decide +kernel
theorem dX2_approvedOfAll_5 : decode cX2_approvedOfAll 5 = .ok (.aload_n 0, 1) := by decide +kernel
theorem dX2_approvedOfAll_6 : decode cX2_approvedOfAll 6 = .ok (.getfield 24, 3) := by decide +kernel
theorem dX2_approvedOfAll_9 : decode cX2_approvedOfAll 9 = .ok (.if_icmp .ge 24, 3) := by decide +kernel
theorem dX2_approvedOfAll_12 : decode cX2_approvedOfAll 12 = .ok (.iload_n 1, 1) := by decide +kernel
theorem dX2_approvedOfAll_13 : decode cX2_approvedOfAll 13 = .ok (.aload_n 0, 1) := by decide +kernel
theorem dX2_approvedOfAll_14 : decode cX2_approvedOfAll 14 = .ok (.getfield 11, 3) := by decide +kernel
theorem dX2_approvedOfAll_17 : decode cX2_approvedOfAll 17 = .ok (.iload_n 2, 1) := by decide +kernel
theorem dX2_approvedOfAll_18 : decode cX2_approvedOfAll 18 = .ok (.aaload, 1) := by decide +kernel
theorem dX2_approvedOfAll_19 : decode cX2_approvedOfAll 19 = .ok (.getfield 79, 3) := by decide +kernel
theorem dX2_approvedOfAll_22 : decode cX2_approvedOfAll 22 = .ok (.invokestatic 82, 3) := by decide +kernel
theorem dX2_approvedOfAll_25 : decode cX2_approvedOfAll 25 = .ok (.iadd, 1) := by decide +kernel
theorem dX2_approvedOfAll_26 : decode cX2_approvedOfAll 26 = .ok (.istore_n 1, 1) := by decide +kernel
theorem dX2_approvedOfAll_27 : decode cX2_approvedOfAll 27 = .ok (.iinc 2 1, 3) := by decide +kernel
theorem dX2_approvedOfAll_30 : decode cX2_approvedOfAll 30 = .ok (.goto (-26), 3) := by decide +kernel
theorem dX2_approvedOfAll_33 : decode cX2_approvedOfAll 33 = .ok (.iload_n 1, 1) := by decide +kernel
theorem dX2_approvedOfAll_34 : decode cX2_approvedOfAll 34 = .ok (.ireturn, 1) := by decide +kernel
theorem dX2_addCondition_0 : decode cX2_addCondition 0 = .ok (.iload_n 1, 1) := by decide +kernel
theorem dX2_addCondition_1 : decode cX2_addCondition 1 = .ok (.iconst 0, 1) := by decide +kernel
theorem dX2_addCondition_2 : decode cX2_addCondition 2 = .ok (.iconst 2, 1) := by decide +kernel
theorem dX2_addCondition_3 : decode cX2_addCondition 3 = .ok (.invokestatic 88, 3) := by decide +kernel
theorem dX2_addCondition_6 : decode cX2_addCondition 6 = .ok (.ifCond .eq 37, 3) := by decide +kernel
theorem dX2_addCondition_9 : decode cX2_addCondition 9 = .ok (.iload_n 2, 1) := by decide +kernel
theorem dX2_addCondition_10 : decode cX2_addCondition 10 = .ok (.iconst 0, 1) := by decide +kernel
theorem dX2_addCondition_11 : decode cX2_addCondition 11 = .ok (.iconst 4, 1) := by decide +kernel
theorem dX2_addCondition_12 : decode cX2_addCondition 12 = .ok (.invokestatic 88, 3) := by decide +kernel
theorem dX2_addCondition_15 : decode cX2_addCondition 15 = .ok (.ifCond .eq 28, 3) := by decide +kernel
theorem dX2_addCondition_18 : decode cX2_addCondition 18 = .ok (.iload_n 3, 1) := by decide +kernel
theorem dX2_addCondition_19 : decode cX2_addCondition 19 = .ok (.iload_n 1, 1) := by decide +kernel
theorem dX2_addCondition_20 : decode cX2_addCondition 20 = .ok (.invokestatic 92, 3) := by decide +kernel
theorem dX2_addCondition_23 : decode cX2_addCondition 23 = .ok (.sipush 365, 3) := by decide +kernel
theorem dX2_addCondition_26 : decode cX2_addCondition 26 = .ok (.invokestatic 88, 3) := by decide +kernel
theorem dX2_addCondition_29 : decode cX2_addCondition 29 = .ok (.ifCond .eq 14, 3) := by decide +kernel
theorem dX2_addCondition_32 : decode cX2_addCondition 32 = .ok (.iload 4, 2) := by decide +kernel
theorem dX2_addCondition_34 : decode cX2_addCondition 34 = .ok (.iconst 1, 1) := by decide +kernel
theorem dX2_addCondition_35 : decode cX2_addCondition 35 = .ok (.bipush 6, 2) := by decide +kernel
theorem dX2_addCondition_37 : decode cX2_addCondition 37 = .ok (.invokestatic 88, 3) := by decide +kernel
theorem dX2_addCondition_40 : decode cX2_addCondition 40 = .ok (.ifCond .ne 6, 3) := by decide +kernel
theorem dX2_addCondition_43 : decode cX2_addCondition 43 = .ok (.ldc 95, 2) := by decide +kernel
theorem dX2_addCondition_45 : decode cX2_addCondition 45 = .ok (.ireturn, 1) := by decide +kernel
theorem dX2_addCondition_46 : decode cX2_addCondition 46 = .ok (.aload_n 0, 1) := by decide +kernel
theorem dX2_addCondition_47 : decode cX2_addCondition 47 = .ok (.iload_n 2, 1) := by decide +kernel
theorem dX2_addCondition_48 : decode cX2_addCondition 48 = .ok (.invokevirtual 48, 3) := by decide +kernel
theorem dX2_addCondition_51 : decode cX2_addCondition 51 = .ok (.ifCond .eq 6, 3) := by decide +kernel
theorem dX2_addCondition_54 : decode cX2_addCondition 54 = .ok (.ldc 96, 2) := by decide +kernel
theorem dX2_addCondition_56 : decode cX2_addCondition 56 = .ok (.ireturn, 1) := by decide +kernel
theorem dX2_addCondition_57 : decode cX2_addCondition 57 = .ok (.aload_n 0, 1) := by decide +kernel
theorem dX2_addCondition_58 : decode cX2_addCondition 58 = .ok (.getfield 24, 3) := by decide +kernel
theorem dX2_addCondition_61 : decode cX2_addCondition 61 = .ok (.bipush 10, 2) := by decide +kernel
theorem dX2_addCondition_63 : decode cX2_addCondition 63 = .ok (.if_icmp .lt 6, 3) := by decide +kernel
theorem dX2_addCondition_66 : decode cX2_addCondition 66 = .ok (.ldc 97, 2) := by decide +kernel
theorem dX2_addCondition_68 : decode cX2_addCondition 68 = .ok (.ireturn, 1) := by decide +kernel
theorem dX2_addCondition_69 : decode cX2_addCondition 69 = .ok (.aload_n 0, 1) := by decide +kernel
theorem dX2_addCondition_70 : decode cX2_addCondition 70 = .ok (.getfield 11, 3) := by decide +kernel
theorem dX2_addCondition_73 : decode cX2_addCondition 73 = .ok (.aload_n 0, 1) := by decide +kernel
theorem dX2_addCondition_74 : decode cX2_addCondition 74 = .ok (.getfield 24, 3) := by decide +kernel
theorem dX2_addCondition_77 : decode cX2_addCondition 77 = .ok (.aaload, 1) := by decide +kernel
theorem dX2_addCondition_78 : decode cX2_addCondition 78 = .ok (.iload_n 1, 1) := by decide +kernel
theorem dX2_addCondition_79 : decode cX2_addCondition 79 = .ok (.iload_n 2, 1) := by decide +kernel
theorem dX2_addCondition_80 : decode cX2_addCondition 80 = .ok (.iload_n 3, 1) := by decide +kernel
theorem dX2_addCondition_81 : decode cX2_addCondition 81 = .ok (.iload 4, 2) := by decide +kernel
theorem dX2_addCondition_83 : decode cX2_addCondition 83 = .ok (.invokevirtual 98, 3) := by decide +kernel
theorem dX2_addCondition_86 : decode cX2_addCondition 86 = .ok (.aload_n 0, 1) := by decide +kernel
theorem dX2_addCondition_87 : decode cX2_addCondition 87 = .ok (.dup, 1) := by decide +kernel
theorem dX2_addCondition_88 : decode cX2_addCondition 88 = .ok (.getfield 24, 3) := by decide +kernel
theorem dX2_addCondition_91 : decode cX2_addCondition 91 = .ok (.iconst 1, 1) := by decide +kernel
theorem dX2_addCondition_92 : decode cX2_addCondition 92 = .ok (.iadd, 1) := by decide +kernel
theorem dX2_addCondition_93 : decode cX2_addCondition 93 = .ok (.putfield 24, 3) := by decide +kernel
theorem dX2_addCondition_96 : decode cX2_addCondition 96 = .ok (.aload_n 0, 1) := by decide +kernel
theorem dX2_addCondition_97 : decode cX2_addCondition 97 = .ok (.getfield 24, 3) := by decide +kernel
theorem dX2_addCondition_100 : decode cX2_addCondition 100 = .ok (.iconst 1, 1) := by decide +kernel
theorem dX2_addCondition_101 : decode cX2_addCondition 101 = .ok (.isub, 1) := by decide +kernel
theorem dX2_addCondition_102 : decode cX2_addCondition 102 = .ok (.ireturn, 1) := by decide +kernel
theorem dX2_leastDays_0 : decode cX2_leastDays 0 = .ok (.iload_n 0, 1) := by decide +kernel
theorem dX2_leastDays_1 : decode cX2_leastDays 1 = .ok (.iconst 2, 1) := by decide +kernel
theorem dX2_leastDays_2 : decode cX2_leastDays 2 = .ok (.if_icmp .ne 7, 3) := by decide +kernel
theorem dX2_leastDays_5 : decode cX2_leastDays 5 = .ok (.iconst 1, 1) := by decide +kernel
theorem dX2_leastDays_6 : decode cX2_leastDays 6 = .ok (.goto 4, 3) := by decide +kernel
theorem dX2_leastDays_9 : decode cX2_leastDays 9 = .ok (.iconst 0, 1) := by decide +kernel
theorem dX2_leastDays_10 : decode cX2_leastDays 10 = .ok (.ireturn, 1) := by decide +kernel
theorem dX2_beginStage_0 : decode cX2_beginStage 0 = .ok (.iload_n 1, 1) := by decide +kernel
theorem dX2_beginStage_1 : decode cX2_beginStage 1 = .ok (.iconst 0, 1) := by decide +kernel
theorem dX2_beginStage_2 : decode cX2_beginStage 2 = .ok (.iconst 4, 1) := by decide +kernel
theorem dX2_beginStage_3 : decode cX2_beginStage 3 = .ok (.invokestatic 88, 3) := by decide +kernel
theorem dX2_beginStage_6 : decode cX2_beginStage 6 = .ok (.ifCond .ne 6, 3) := by decide +kernel
theorem dX2_beginStage_9 : decode cX2_beginStage 9 = .ok (.ldc 95, 2) := by decide +kernel
theorem dX2_beginStage_11 : decode cX2_beginStage 11 = .ok (.ireturn, 1) := by decide +kernel
theorem dX2_beginStage_12 : decode cX2_beginStage 12 = .ok (.aload_n 0, 1) := by decide +kernel
theorem dX2_beginStage_13 : decode cX2_beginStage 13 = .ok (.iload_n 1, 1) := by decide +kernel
theorem dX2_beginStage_14 : decode cX2_beginStage 14 = .ok (.invokevirtual 102, 3) := by decide +kernel
theorem dX2_beginStage_17 : decode cX2_beginStage 17 = .ok (.ifCond .ne 6, 3) := by decide +kernel
theorem dX2_beginStage_20 : decode cX2_beginStage 20 = .ok (.ldc 96, 2) := by decide +kernel
theorem dX2_beginStage_22 : decode cX2_beginStage 22 = .ok (.ireturn, 1) := by decide +kernel
theorem dX2_beginStage_23 : decode cX2_beginStage 23 = .ok (.aload_n 0, 1) := by decide +kernel
theorem dX2_beginStage_24 : decode cX2_beginStage 24 = .ok (.getfield 17, 3) := by decide +kernel
theorem dX2_beginStage_27 : decode cX2_beginStage 27 = .ok (.iload_n 1, 1) := by decide +kernel
theorem dX2_beginStage_28 : decode cX2_beginStage 28 = .ok (.aload_n 0, 1) := by decide +kernel
theorem dX2_beginStage_29 : decode cX2_beginStage 29 = .ok (.getfield 28, 3) := by decide +kernel
theorem dX2_beginStage_32 : decode cX2_beginStage 32 = .ok (.iastore, 1) := by decide +kernel
theorem dX2_beginStage_33 : decode cX2_beginStage 33 = .ok (.aload_n 0, 1) := by decide +kernel
theorem dX2_beginStage_34 : decode cX2_beginStage 34 = .ok (.iload_n 1, 1) := by decide +kernel
theorem dX2_beginStage_35 : decode cX2_beginStage 35 = .ok (.invokevirtual 105, 3) := by decide +kernel
theorem dX2_beginStage_38 : decode cX2_beginStage 38 = .ok (.istore_n 2, 1) := by decide +kernel
theorem dX2_beginStage_39 : decode cX2_beginStage 39 = .ok (.iconst 0, 1) := by decide +kernel
theorem dX2_beginStage_40 : decode cX2_beginStage 40 = .ok (.istore_n 3, 1) := by decide +kernel
theorem dX2_beginStage_41 : decode cX2_beginStage 41 = .ok (.iload_n 3, 1) := by decide +kernel
theorem dX2_beginStage_42 : decode cX2_beginStage 42 = .ok (.aload_n 0, 1) := by decide +kernel
theorem dX2_beginStage_43 : decode cX2_beginStage 43 = .ok (.getfield 24, 3) := by decide +kernel
theorem dX2_beginStage_46 : decode cX2_beginStage 46 = .ok (.if_icmp .ge 27, 3) := by decide +kernel
theorem dX2_beginStage_49 : decode cX2_beginStage 49 = .ok (.iload_n 2, 1) := by decide +kernel
theorem dX2_beginStage_50 : decode cX2_beginStage 50 = .ok (.iconst 1, 1) := by decide +kernel
theorem dX2_beginStage_51 : decode cX2_beginStage 51 = .ok (.iload_n 3, 1) := by decide +kernel
theorem dX2_beginStage_52 : decode cX2_beginStage 52 = .ok (.ishl, 1) := by decide +kernel
theorem dX2_beginStage_53 : decode cX2_beginStage 53 = .ok (.iand, 1) := by decide +kernel
theorem dX2_beginStage_54 : decode cX2_beginStage 54 = .ok (.ifCond .eq 13, 3) := by decide +kernel
theorem dX2_beginStage_57 : decode cX2_beginStage 57 = .ok (.aload_n 0, 1) := by decide +kernel
theorem dX2_beginStage_58 : decode cX2_beginStage 58 = .ok (.aload_n 0, 1) := by decide +kernel
theorem dX2_beginStage_59 : decode cX2_beginStage 59 = .ok (.getfield 11, 3) := by decide +kernel
theorem dX2_beginStage_62 : decode cX2_beginStage 62 = .ok (.iload_n 3, 1) := by decide +kernel
theorem dX2_beginStage_63 : decode cX2_beginStage 63 = .ok (.aaload, 1) := by decide +kernel
theorem dX2_beginStage_64 : decode cX2_beginStage 64 = .ok (.invokevirtual 108, 3) := by decide +kernel
theorem dX2_beginStage_67 : decode cX2_beginStage 67 = .ok (.iinc 3 1, 3) := by decide +kernel
theorem dX2_beginStage_70 : decode cX2_beginStage 70 = .ok (.goto (-29), 3) := by decide +kernel
theorem dX2_beginStage_73 : decode cX2_beginStage 73 = .ok (.iload_n 2, 1) := by decide +kernel
theorem dX2_beginStage_74 : decode cX2_beginStage 74 = .ok (.ireturn, 1) := by decide +kernel
theorem dX2_finishStage_0 : decode cX2_finishStage 0 = .ok (.iload_n 1, 1) := by decide +kernel
theorem dX2_finishStage_1 : decode cX2_finishStage 1 = .ok (.iconst 0, 1) := by decide +kernel
theorem dX2_finishStage_2 : decode cX2_finishStage 2 = .ok (.iconst 4, 1) := by decide +kernel
theorem dX2_finishStage_3 : decode cX2_finishStage 3 = .ok (.invokestatic 88, 3) := by decide +kernel
theorem dX2_finishStage_6 : decode cX2_finishStage 6 = .ok (.ifCond .ne 6, 3) := by decide +kernel
theorem dX2_finishStage_9 : decode cX2_finishStage 9 = .ok (.ldc 95, 2) := by decide +kernel
theorem dX2_finishStage_11 : decode cX2_finishStage 11 = .ok (.ireturn, 1) := by decide +kernel
theorem dX2_finishStage_12 : decode cX2_finishStage 12 = .ok (.aload_n 0, 1) := by decide +kernel
theorem dX2_finishStage_13 : decode cX2_finishStage 13 = .ok (.iload_n 1, 1) := by decide +kernel
theorem dX2_finishStage_14 : decode cX2_finishStage 14 = .ok (.invokevirtual 48, 3) := by decide +kernel
theorem dX2_finishStage_17 : decode cX2_finishStage 17 = .ok (.ifCond .eq 11, 3) := by decide +kernel
theorem dX2_finishStage_20 : decode cX2_finishStage 20 = .ok (.aload_n 0, 1) := by decide +kernel
theorem dX2_finishStage_21 : decode cX2_finishStage 21 = .ok (.iload_n 1, 1) := by decide +kernel
theorem dX2_finishStage_22 : decode cX2_finishStage 22 = .ok (.invokevirtual 52, 3) := by decide +kernel
theorem dX2_finishStage_25 : decode cX2_finishStage 25 = .ok (.ifCond .eq 6, 3) := by decide +kernel
theorem dX2_finishStage_28 : decode cX2_finishStage 28 = .ok (.ldc 96, 2) := by decide +kernel
theorem dX2_finishStage_30 : decode cX2_finishStage 30 = .ok (.ireturn, 1) := by decide +kernel
theorem dX2_finishStage_31 : decode cX2_finishStage 31 = .ok (.aload_n 0, 1) := by decide +kernel
theorem dX2_finishStage_32 : decode cX2_finishStage 32 = .ok (.getfield 21, 3) := by decide +kernel
theorem dX2_finishStage_35 : decode cX2_finishStage 35 = .ok (.iload_n 1, 1) := by decide +kernel
theorem dX2_finishStage_36 : decode cX2_finishStage 36 = .ok (.aload_n 0, 1) := by decide +kernel
theorem dX2_finishStage_37 : decode cX2_finishStage 37 = .ok (.getfield 28, 3) := by decide +kernel
theorem dX2_finishStage_40 : decode cX2_finishStage 40 = .ok (.iastore, 1) := by decide +kernel
theorem dX2_finishStage_41 : decode cX2_finishStage 41 = .ok (.aload_n 0, 1) := by decide +kernel
theorem dX2_finishStage_42 : decode cX2_finishStage 42 = .ok (.getfield 28, 3) := by decide +kernel
theorem dX2_finishStage_45 : decode cX2_finishStage 45 = .ok (.aload_n 0, 1) := by decide +kernel
end
section
-- decode rows out of the printed list of the task
theorem dX2_finishStage_46 : decode cX2_finishStage 46 = .ok (.getfield 17, 3) := by decide +kernel
theorem dX2_finishStage_49 : decode cX2_finishStage 49 = .ok (.iload_n 1, 1) := by decide +kernel
theorem dX2_finishStage_50 : decode cX2_finishStage 50 = .ok (.iaload, 1) := by decide +kernel
theorem dX2_finishStage_51 : decode cX2_finishStage 51 = .ok (.isub, 1) := by decide +kernel
theorem dX2_finishStage_52 : decode cX2_finishStage 52 = .ok (.ireturn, 1) := by decide +kernel
theorem dX2_applyFor_0 : decode cX2_applyFor 0 = .ok (.aload_n 0, 1) := by decide +kernel
theorem dX2_applyFor_1 : decode cX2_applyFor 1 = .ok (.iload_n 1, 1) := by decide +kernel
theorem dX2_applyFor_2 : decode cX2_applyFor 2 = .ok (.invokevirtual 111, 3) := by decide +kernel
theorem dX2_applyFor_5 : decode cX2_applyFor 5 = .ok (.ifCond .ne 6, 3) := by decide +kernel
theorem dX2_applyFor_8 : decode cX2_applyFor 8 = .ok (.ldc 95, 2) := by decide +kernel
theorem dX2_applyFor_10 : decode cX2_applyFor 10 = .ok (.ireturn, 1) := by decide +kernel
theorem dX2_applyFor_11 : decode cX2_applyFor 11 = .ok (.aload_n 0, 1) := by decide +kernel
theorem dX2_applyFor_12 : decode cX2_applyFor 12 = .ok (.getfield 11, 3) := by decide +kernel
theorem dX2_applyFor_15 : decode cX2_applyFor 15 = .ok (.iload_n 1, 1) := by decide +kernel
theorem dX2_applyFor_16 : decode cX2_applyFor 16 = .ok (.aaload, 1) := by decide +kernel
theorem dX2_applyFor_17 : decode cX2_applyFor 17 = .ok (.astore_n 3, 1) := by decide +kernel
theorem dX2_applyFor_18 : decode cX2_applyFor 18 = .ok (.iload_n 2, 1) := by decide +kernel
theorem dX2_applyFor_19 : decode cX2_applyFor 19 = .ok (.ifCond .eq 11, 3) := by decide +kernel
theorem dX2_applyFor_22 : decode cX2_applyFor 22 = .ok (.aload_n 3, 1) := by decide +kernel
theorem dX2_applyFor_23 : decode cX2_applyFor 23 = .ok (.iload_n 2, 1) := by decide +kernel
theorem dX2_applyFor_24 : decode cX2_applyFor 24 = .ok (.invokevirtual 114, 3) := by decide +kernel
theorem dX2_applyFor_27 : decode cX2_applyFor 27 = .ok (.ifCond .ne 6, 3) := by decide +kernel
theorem dX2_applyFor_30 : decode cX2_applyFor 30 = .ok (.ldc 95, 2) := by decide +kernel
theorem dX2_applyFor_32 : decode cX2_applyFor 32 = .ok (.ireturn, 1) := by decide +kernel
theorem dX2_applyFor_33 : decode cX2_applyFor 33 = .ok (.aload_n 3, 1) := by decide +kernel
theorem dX2_applyFor_34 : decode cX2_applyFor 34 = .ok (.getfield 66, 3) := by decide +kernel
theorem dX2_applyFor_37 : decode cX2_applyFor 37 = .ok (.iconst 2, 1) := by decide +kernel
theorem dX2_applyFor_38 : decode cX2_applyFor 38 = .ok (.if_icmp .eq 19, 3) := by decide +kernel
theorem dX2_applyFor_41 : decode cX2_applyFor 41 = .ok (.aload_n 3, 1) := by decide +kernel
theorem dX2_applyFor_42 : decode cX2_applyFor 42 = .ok (.getfield 117, 3) := by decide +kernel
theorem dX2_applyFor_45 : decode cX2_applyFor 45 = .ok (.ifCond .ne 12, 3) := by decide +kernel
theorem dX2_applyFor_48 : decode cX2_applyFor 48 = .ok (.aload_n 3, 1) := by decide +kernel
theorem dX2_applyFor_49 : decode cX2_applyFor 49 = .ok (.getfield 79, 3) := by decide +kernel
theorem dX2_applyFor_52 : decode cX2_applyFor 52 = .ok (.iload_n 2, 1) := by decide +kernel
theorem dX2_applyFor_53 : decode cX2_applyFor 53 = .ok (.iand, 1) := by decide +kernel
theorem dX2_applyFor_54 : decode cX2_applyFor 54 = .ok (.ifCond .eq 6, 3) := by decide +kernel
theorem dX2_applyFor_57 : decode cX2_applyFor 57 = .ok (.ldc 96, 2) := by decide +kernel
theorem dX2_applyFor_59 : decode cX2_applyFor 59 = .ok (.ireturn, 1) := by decide +kernel
theorem dX2_applyFor_60 : decode cX2_applyFor 60 = .ok (.aload_n 3, 1) := by decide +kernel
theorem dX2_applyFor_61 : decode cX2_applyFor 61 = .ok (.iload_n 2, 1) := by decide +kernel
theorem dX2_applyFor_62 : decode cX2_applyFor 62 = .ok (.putfield 117, 3) := by decide +kernel
theorem dX2_applyFor_65 : decode cX2_applyFor 65 = .ok (.aload_n 3, 1) := by decide +kernel
theorem dX2_applyFor_66 : decode cX2_applyFor 66 = .ok (.iconst 0, 1) := by decide +kernel
theorem dX2_applyFor_67 : decode cX2_applyFor 67 = .ok (.putfield 120, 3) := by decide +kernel
theorem dX2_applyFor_70 : decode cX2_applyFor 70 = .ok (.aload_n 0, 1) := by decide +kernel
theorem dX2_applyFor_71 : decode cX2_applyFor 71 = .ok (.getfield 37, 3) := by decide +kernel
theorem dX2_applyFor_74 : decode cX2_applyFor 74 = .ok (.ireturn, 1) := by decide +kernel
theorem dX2_decideOn_0 : decode cX2_decideOn 0 = .ok (.aload_n 0, 1) := by decide +kernel
theorem dX2_decideOn_1 : decode cX2_decideOn 1 = .ok (.iload_n 1, 1) := by decide +kernel
theorem dX2_decideOn_2 : decode cX2_decideOn 2 = .ok (.invokevirtual 111, 3) := by decide +kernel
theorem dX2_decideOn_5 : decode cX2_decideOn 5 = .ok (.ifCond .ne 6, 3) := by decide +kernel
theorem dX2_decideOn_8 : decode cX2_decideOn 8 = .ok (.ldc 95, 2) := by decide +kernel
theorem dX2_decideOn_10 : decode cX2_decideOn 10 = .ok (.ireturn, 1) := by decide +kernel
theorem dX2_decideOn_11 : decode cX2_decideOn 11 = .ok (.aload_n 0, 1) := by decide +kernel
theorem dX2_decideOn_12 : decode cX2_decideOn 12 = .ok (.getfield 11, 3) := by decide +kernel
theorem dX2_decideOn_15 : decode cX2_decideOn 15 = .ok (.iload_n 1, 1) := by decide +kernel
theorem dX2_decideOn_16 : decode cX2_decideOn 16 = .ok (.aaload, 1) := by decide +kernel
theorem dX2_decideOn_17 : decode cX2_decideOn 17 = .ok (.astore_n 3, 1) := by decide +kernel
theorem dX2_decideOn_18 : decode cX2_decideOn 18 = .ok (.aload_n 3, 1) := by decide +kernel
theorem dX2_decideOn_19 : decode cX2_decideOn 19 = .ok (.iload_n 2, 1) := by decide +kernel
theorem dX2_decideOn_20 : decode cX2_decideOn 20 = .ok (.invokevirtual 114, 3) := by decide +kernel
theorem dX2_decideOn_23 : decode cX2_decideOn 23 = .ok (.ifCond .ne 6, 3) := by decide +kernel
theorem dX2_decideOn_26 : decode cX2_decideOn 26 = .ok (.ldc 95, 2) := by decide +kernel
theorem dX2_decideOn_28 : decode cX2_decideOn 28 = .ok (.ireturn, 1) := by decide +kernel
theorem dX2_decideOn_29 : decode cX2_decideOn 29 = .ok (.aload_n 3, 1) := by decide +kernel
theorem dX2_decideOn_30 : decode cX2_decideOn 30 = .ok (.getfield 117, 3) := by decide +kernel
theorem dX2_decideOn_33 : decode cX2_decideOn 33 = .ok (.ifCond .eq 14, 3) := by decide +kernel
theorem dX2_decideOn_36 : decode cX2_decideOn 36 = .ok (.iload_n 2, 1) := by decide +kernel
theorem dX2_decideOn_37 : decode cX2_decideOn 37 = .ok (.aload_n 3, 1) := by decide +kernel
theorem dX2_decideOn_38 : decode cX2_decideOn 38 = .ok (.getfield 117, 3) := by decide +kernel
theorem dX2_decideOn_41 : decode cX2_decideOn 41 = .ok (.iconst (-1), 1) := by decide +kernel
theorem dX2_decideOn_42 : decode cX2_decideOn 42 = .ok (.ixor, 1) := by decide +kernel
theorem dX2_decideOn_43 : decode cX2_decideOn 43 = .ok (.iand, 1) := by decide +kernel
theorem dX2_decideOn_44 : decode cX2_decideOn 44 = .ok (.ifCond .eq 6, 3) := by decide +kernel
theorem dX2_decideOn_47 : decode cX2_decideOn 47 = .ok (.ldc 96, 2) := by decide +kernel
theorem dX2_decideOn_49 : decode cX2_decideOn 49 = .ok (.ireturn, 1) := by decide +kernel
theorem dX2_decideOn_50 : decode cX2_decideOn 50 = .ok (.aload_n 3, 1) := by decide +kernel
theorem dX2_decideOn_51 : decode cX2_decideOn 51 = .ok (.iload_n 2, 1) := by decide +kernel
theorem dX2_decideOn_52 : decode cX2_decideOn 52 = .ok (.invokevirtual 123, 3) := by decide +kernel
theorem dX2_decideOn_55 : decode cX2_decideOn 55 = .ok (.aload_n 3, 1) := by decide +kernel
theorem dX2_decideOn_56 : decode cX2_decideOn 56 = .ok (.getfield 76, 3) := by decide +kernel
theorem dX2_decideOn_59 : decode cX2_decideOn 59 = .ok (.aload_n 3, 1) := by decide +kernel
theorem dX2_decideOn_60 : decode cX2_decideOn 60 = .ok (.getfield 79, 3) := by decide +kernel
theorem dX2_decideOn_63 : decode cX2_decideOn 63 = .ok (.invokestatic 82, 3) := by decide +kernel
theorem dX2_decideOn_66 : decode cX2_decideOn 66 = .ok (.isub, 1) := by decide +kernel
theorem dX2_decideOn_67 : decode cX2_decideOn 67 = .ok (.ireturn, 1) := by decide +kernel
theorem dX2_lapseOf_0 : decode cX2_lapseOf 0 = .ok (.aload_n 0, 1) := by decide +kernel
theorem dX2_lapseOf_1 : decode cX2_lapseOf 1 = .ok (.iload_n 1, 1) := by decide +kernel
theorem dX2_lapseOf_2 : decode cX2_lapseOf 2 = .ok (.invokevirtual 111, 3) := by decide +kernel
theorem dX2_lapseOf_5 : decode cX2_lapseOf 5 = .ok (.ifCond .ne 6, 3) := by decide +kernel
theorem dX2_lapseOf_8 : decode cX2_lapseOf 8 = .ok (.ldc 95, 2) := by decide +kernel
theorem dX2_lapseOf_10 : decode cX2_lapseOf 10 = .ok (.ireturn, 1) := by decide +kernel
theorem dX2_lapseOf_11 : decode cX2_lapseOf 11 = .ok (.aload_n 0, 1) := by decide +kernel
theorem dX2_lapseOf_12 : decode cX2_lapseOf 12 = .ok (.getfield 11, 3) := by decide +kernel
theorem dX2_lapseOf_15 : decode cX2_lapseOf 15 = .ok (.iload_n 1, 1) := by decide +kernel
theorem dX2_lapseOf_16 : decode cX2_lapseOf 16 = .ok (.aaload, 1) := by decide +kernel
theorem dX2_lapseOf_17 : decode cX2_lapseOf 17 = .ok (.astore_n 2, 1) := by decide +kernel
theorem dX2_lapseOf_18 : decode cX2_lapseOf 18 = .ok (.aload_n 2, 1) := by decide +kernel
theorem dX2_lapseOf_19 : decode cX2_lapseOf 19 = .ok (.getfield 66, 3) := by decide +kernel
theorem dX2_lapseOf_22 : decode cX2_lapseOf 22 = .ok (.iconst 2, 1) := by decide +kernel
theorem dX2_lapseOf_23 : decode cX2_lapseOf 23 = .ok (.if_icmp .ne 12, 3) := by decide +kernel
theorem dX2_lapseOf_26 : decode cX2_lapseOf 26 = .ok (.aload_n 0, 1) := by decide +kernel
theorem dX2_lapseOf_27 : decode cX2_lapseOf 27 = .ok (.aload_n 2, 1) := by decide +kernel
theorem dX2_lapseOf_28 : decode cX2_lapseOf 28 = .ok (.invokevirtual 72, 3) := by decide +kernel
theorem dX2_lapseOf_31 : decode cX2_lapseOf 31 = .ok (.iconst 1, 1) := by decide +kernel
theorem dX2_lapseOf_32 : decode cX2_lapseOf 32 = .ok (.if_icmp .eq 6, 3) := by decide +kernel
theorem dX2_lapseOf_35 : decode cX2_lapseOf 35 = .ok (.ldc 96, 2) := by decide +kernel
theorem dX2_lapseOf_37 : decode cX2_lapseOf 37 = .ok (.ireturn, 1) := by decide +kernel
theorem dX2_lapseOf_38 : decode cX2_lapseOf 38 = .ok (.aload_n 0, 1) := by decide +kernel
theorem dX2_lapseOf_39 : decode cX2_lapseOf 39 = .ok (.aload_n 2, 1) := by decide +kernel
theorem dX2_lapseOf_40 : decode cX2_lapseOf 40 = .ok (.invokevirtual 108, 3) := by decide +kernel
theorem dX2_lapseOf_43 : decode cX2_lapseOf 43 = .ok (.aload_n 2, 1) := by decide +kernel
theorem dX2_lapseOf_44 : decode cX2_lapseOf 44 = .ok (.getfield 127, 3) := by decide +kernel
theorem dX2_lapseOf_47 : decode cX2_lapseOf 47 = .ok (.ireturn, 1) := by decide +kernel
theorem dX2_cureOf_0 : decode cX2_cureOf 0 = .ok (.aload_n 0, 1) := by decide +kernel
theorem dX2_cureOf_1 : decode cX2_cureOf 1 = .ok (.iload_n 1, 1) := by decide +kernel
theorem dX2_cureOf_2 : decode cX2_cureOf 2 = .ok (.invokevirtual 111, 3) := by decide +kernel
theorem dX2_cureOf_5 : decode cX2_cureOf 5 = .ok (.ifCond .ne 6, 3) := by decide +kernel
theorem dX2_cureOf_8 : decode cX2_cureOf 8 = .ok (.ldc 95, 2) := by decide +kernel
theorem dX2_cureOf_10 : decode cX2_cureOf 10 = .ok (.ireturn, 1) := by decide +kernel
theorem dX2_cureOf_11 : decode cX2_cureOf 11 = .ok (.aload_n 0, 1) := by decide +kernel
theorem dX2_cureOf_12 : decode cX2_cureOf 12 = .ok (.getfield 11, 3) := by decide +kernel
theorem dX2_cureOf_15 : decode cX2_cureOf 15 = .ok (.iload_n 1, 1) := by decide +kernel
theorem dX2_cureOf_16 : decode cX2_cureOf 16 = .ok (.aaload, 1) := by decide +kernel
theorem dX2_cureOf_17 : decode cX2_cureOf 17 = .ok (.astore_n 2, 1) := by decide +kernel
theorem dX2_cureOf_18 : decode cX2_cureOf 18 = .ok (.aload_n 2, 1) := by decide +kernel
theorem dX2_cureOf_19 : decode cX2_cureOf 19 = .ok (.getfield 66, 3) := by decide +kernel
theorem dX2_cureOf_22 : decode cX2_cureOf 22 = .ok (.iconst 2, 1) := by decide +kernel
theorem dX2_cureOf_23 : decode cX2_cureOf 23 = .ok (.if_icmp .ne 12, 3) := by decide +kernel
theorem dX2_cureOf_26 : decode cX2_cureOf 26 = .ok (.aload_n 0, 1) := by decide +kernel
theorem dX2_cureOf_27 : decode cX2_cureOf 27 = .ok (.aload_n 2, 1) := by decide +kernel
theorem dX2_cureOf_28 : decode cX2_cureOf 28 = .ok (.invokevirtual 72, 3) := by decide +kernel
theorem dX2_cureOf_31 : decode cX2_cureOf 31 = .ok (.iconst 3, 1) := by decide +kernel
theorem dX2_cureOf_32 : decode cX2_cureOf 32 = .ok (.if_icmp .eq 6, 3) := by decide +kernel
theorem dX2_cureOf_35 : decode cX2_cureOf 35 = .ok (.ldc 96, 2) := by decide +kernel
theorem dX2_cureOf_37 : decode cX2_cureOf 37 = .ok (.ireturn, 1) := by decide +kernel
theorem dX2_cureOf_38 : decode cX2_cureOf 38 = .ok (.aload_n 2, 1) := by decide +kernel
theorem dX2_cureOf_39 : decode cX2_cureOf 39 = .ok (.getfield 130, 3) := by decide +kernel
theorem dX2_cureOf_42 : decode cX2_cureOf 42 = .ok (.istore_n 3, 1) := by decide +kernel
theorem dX2_cureOf_43 : decode cX2_cureOf 43 = .ok (.aload_n 2, 1) := by decide +kernel
theorem dX2_cureOf_44 : decode cX2_cureOf 44 = .ok (.invokevirtual 133, 3) := by decide +kernel
theorem dX2_cureOf_47 : decode cX2_cureOf 47 = .ok (.iload_n 3, 1) := by decide +kernel
theorem dX2_cureOf_48 : decode cX2_cureOf 48 = .ok (.ireturn, 1) := by decide +kernel
theorem dX2_serveOn_0 : decode cX2_serveOn 0 = .ok (.aload_n 0, 1) := by decide +kernel
theorem dX2_serveOn_1 : decode cX2_serveOn 1 = .ok (.iload_n 1, 1) := by decide +kernel
theorem dX2_serveOn_2 : decode cX2_serveOn 2 = .ok (.invokevirtual 111, 3) := by decide +kernel
theorem dX2_serveOn_5 : decode cX2_serveOn 5 = .ok (.ifCond .eq 13, 3) := by decide +kernel
theorem dX2_serveOn_8 : decode cX2_serveOn 8 = .ok (.iload_n 2, 1) := by decide +kernel
theorem dX2_serveOn_9 : decode cX2_serveOn 9 = .ok (.iconst 1, 1) := by decide +kernel
theorem dX2_serveOn_10 : decode cX2_serveOn 10 = .ok (.bipush 99, 2) := by decide +kernel
theorem dX2_serveOn_12 : decode cX2_serveOn 12 = .ok (.invokestatic 88, 3) := by decide +kernel
theorem dX2_serveOn_15 : decode cX2_serveOn 15 = .ok (.ifCond .ne 6, 3) := by decide +kernel
theorem dX2_serveOn_18 : decode cX2_serveOn 18 = .ok (.ldc 95, 2) := by decide +kernel
theorem dX2_serveOn_20 : decode cX2_serveOn 20 = .ok (.ireturn, 1) := by decide +kernel
theorem dX2_serveOn_21 : decode cX2_serveOn 21 = .ok (.aload_n 0, 1) := by decide +kernel
theorem dX2_serveOn_22 : decode cX2_serveOn 22 = .ok (.getfield 11, 3) := by decide +kernel
theorem dX2_serveOn_25 : decode cX2_serveOn 25 = .ok (.iload_n 1, 1) := by decide +kernel
theorem dX2_serveOn_26 : decode cX2_serveOn 26 = .ok (.aaload, 1) := by decide +kernel
theorem dX2_serveOn_27 : decode cX2_serveOn 27 = .ok (.astore_n 3, 1) := by decide +kernel
theorem dX2_serveOn_28 : decode cX2_serveOn 28 = .ok (.aload_n 0, 1) := by decide +kernel
theorem dX2_serveOn_29 : decode cX2_serveOn 29 = .ok (.aload_n 3, 1) := by decide +kernel
theorem dX2_serveOn_30 : decode cX2_serveOn 30 = .ok (.invokevirtual 72, 3) := by decide +kernel
theorem dX2_serveOn_33 : decode cX2_serveOn 33 = .ok (.iconst 3, 1) := by decide +kernel
theorem dX2_serveOn_34 : decode cX2_serveOn 34 = .ok (.if_icmp .eq 6, 3) := by decide +kernel
theorem dX2_serveOn_37 : decode cX2_serveOn 37 = .ok (.ldc 96, 2) := by decide +kernel
theorem dX2_serveOn_39 : decode cX2_serveOn 39 = .ok (.ireturn, 1) := by decide +kernel
theorem dX2_serveOn_40 : decode cX2_serveOn 40 = .ok (.aload_n 3, 1) := by decide +kernel
theorem dX2_serveOn_41 : decode cX2_serveOn 41 = .ok (.iconst 1, 1) := by decide +kernel
theorem dX2_serveOn_42 : decode cX2_serveOn 42 = .ok (.putfield 136, 3) := by decide +kernel
theorem dX2_serveOn_45 : decode cX2_serveOn 45 = .ok (.aload_n 3, 1) := by decide +kernel
theorem dX2_serveOn_46 : decode cX2_serveOn 46 = .ok (.iload_n 2, 1) := by decide +kernel
theorem dX2_serveOn_47 : decode cX2_serveOn 47 = .ok (.putfield 139, 3) := by decide +kernel
theorem dX2_serveOn_50 : decode cX2_serveOn 50 = .ok (.aload_n 3, 1) := by decide +kernel
theorem dX2_serveOn_51 : decode cX2_serveOn 51 = .ok (.getfield 130, 3) := by decide +kernel
theorem dX2_serveOn_54 : decode cX2_serveOn 54 = .ok (.ireturn, 1) := by decide +kernel
theorem dX2_varyTo_0 : decode cX2_varyTo 0 = .ok (.aload_n 0, 1) := by decide +kernel
theorem dX2_varyTo_1 : decode cX2_varyTo 1 = .ok (.iload_n 1, 1) := by decide +kernel
theorem dX2_varyTo_2 : decode cX2_varyTo 2 = .ok (.invokevirtual 111, 3) := by decide +kernel
theorem dX2_varyTo_5 : decode cX2_varyTo 5 = .ok (.ifCond .ne 6, 3) := by decide +kernel
theorem dX2_varyTo_8 : decode cX2_varyTo 8 = .ok (.ldc 95, 2) := by decide +kernel
theorem dX2_varyTo_10 : decode cX2_varyTo 10 = .ok (.ireturn, 1) := by decide +kernel
theorem dX2_varyTo_11 : decode cX2_varyTo 11 = .ok (.aload_n 0, 1) := by decide +kernel
theorem dX2_varyTo_12 : decode cX2_varyTo 12 = .ok (.getfield 11, 3) := by decide +kernel
theorem dX2_varyTo_15 : decode cX2_varyTo 15 = .ok (.iload_n 1, 1) := by decide +kernel
theorem dX2_varyTo_16 : decode cX2_varyTo 16 = .ok (.aaload, 1) := by decide +kernel
theorem dX2_varyTo_17 : decode cX2_varyTo 17 = .ok (.astore 4, 2) := by decide +kernel
theorem dX2_varyTo_19 : decode cX2_varyTo 19 = .ok (.aload 4, 2) := by decide +kernel
theorem dX2_varyTo_21 : decode cX2_varyTo 21 = .ok (.getfield 66, 3) := by decide +kernel
theorem dX2_varyTo_24 : decode cX2_varyTo 24 = .ok (.iload_n 2, 1) := by decide +kernel
theorem dX2_varyTo_25 : decode cX2_varyTo 25 = .ok (.iload_n 3, 1) := by decide +kernel
theorem dX2_varyTo_26 : decode cX2_varyTo 26 = .ok (.invokestatic 142, 3) := by decide +kernel
theorem dX2_varyTo_29 : decode cX2_varyTo 29 = .ok (.ifCond .ne 6, 3) := by decide +kernel
theorem dX2_varyTo_32 : decode cX2_varyTo 32 = .ok (.ldc 95, 2) := by decide +kernel
theorem dX2_varyTo_34 : decode cX2_varyTo 34 = .ok (.ireturn, 1) := by decide +kernel
theorem dX2_varyTo_35 : decode cX2_varyTo 35 = .ok (.aload_n 0, 1) := by decide +kernel
theorem dX2_varyTo_36 : decode cX2_varyTo 36 = .ok (.aload 4, 2) := by decide +kernel
theorem dX2_varyTo_38 : decode cX2_varyTo 38 = .ok (.iload_n 2, 1) := by decide +kernel
theorem dX2_varyTo_39 : decode cX2_varyTo 39 = .ok (.iload_n 3, 1) := by decide +kernel
theorem dX2_varyTo_40 : decode cX2_varyTo 40 = .ok (.invokevirtual 145, 3) := by decide +kernel
theorem dX2_varyTo_43 : decode cX2_varyTo 43 = .ok (.ifCond .ne 6, 3) := by decide +kernel
theorem dX2_varyTo_46 : decode cX2_varyTo 46 = .ok (.ldc 96, 2) := by decide +kernel
theorem dX2_varyTo_48 : decode cX2_varyTo 48 = .ok (.ireturn, 1) := by decide +kernel
theorem dX2_varyTo_49 : decode cX2_varyTo 49 = .ok (.iload_n 2, 1) := by decide +kernel
theorem dX2_varyTo_50 : decode cX2_varyTo 50 = .ok (.lookupswitch 58 #[(0, 26), (1, 42)], 26) := by decide +kernel
theorem dX2_varyTo_76 : decode cX2_varyTo 76 = .ok (.aload 4, 2) := by decide +kernel
theorem dX2_varyTo_78 : decode cX2_varyTo 78 = .ok (.getfield 149, 3) := by decide +kernel
theorem dX2_varyTo_81 : decode cX2_varyTo 81 = .ok (.istore 5, 2) := by decide +kernel
theorem dX2_varyTo_83 : decode cX2_varyTo 83 = .ok (.aload 4, 2) := by decide +kernel
theorem dX2_varyTo_85 : decode cX2_varyTo 85 = .ok (.iload_n 3, 1) := by decide +kernel
theorem dX2_varyTo_86 : decode cX2_varyTo 86 = .ok (.putfield 149, 3) := by decide +kernel
theorem dX2_varyTo_89 : decode cX2_varyTo 89 = .ok (.iload 5, 2) := by decide +kernel
theorem dX2_varyTo_91 : decode cX2_varyTo 91 = .ok (.ireturn, 1) := by decide +kernel
theorem dX2_varyTo_92 : decode cX2_varyTo 92 = .ok (.aload 4, 2) := by decide +kernel
theorem dX2_varyTo_94 : decode cX2_varyTo 94 = .ok (.getfield 76, 3) := by decide +kernel
theorem dX2_varyTo_97 : decode cX2_varyTo 97 = .ok (.istore 5, 2) := by decide +kernel
theorem dX2_varyTo_99 : decode cX2_varyTo 99 = .ok (.aload 4, 2) := by decide +kernel
theorem dX2_varyTo_101 : decode cX2_varyTo 101 = .ok (.iload_n 3, 1) := by decide +kernel
theorem dX2_varyTo_102 : decode cX2_varyTo 102 = .ok (.putfield 76, 3) := by decide +kernel
theorem dX2_varyTo_105 : decode cX2_varyTo 105 = .ok (.iload 5, 2) := by decide +kernel
theorem dX2_varyTo_107 : decode cX2_varyTo 107 = .ok (.ireturn, 1) := by decide +kernel
theorem dX2_varyTo_108 : decode cX2_varyTo 108 = .ok (.aload 4, 2) := by decide +kernel
theorem dX2_varyTo_110 : decode cX2_varyTo 110 = .ok (.getfield 69, 3) := by decide +kernel
theorem dX2_varyTo_113 : decode cX2_varyTo 113 = .ok (.istore 5, 2) := by decide +kernel
theorem dX2_varyTo_115 : decode cX2_varyTo 115 = .ok (.aload 4, 2) := by decide +kernel
theorem dX2_varyTo_117 : decode cX2_varyTo 117 = .ok (.iload_n 3, 1) := by decide +kernel
theorem dX2_varyTo_118 : decode cX2_varyTo 118 = .ok (.putfield 69, 3) := by decide +kernel
theorem dX2_varyTo_121 : decode cX2_varyTo 121 = .ok (.aload 4, 2) := by decide +kernel
theorem dX2_varyTo_123 : decode cX2_varyTo 123 = .ok (.iconst 0, 1) := by decide +kernel
theorem dX2_varyTo_124 : decode cX2_varyTo 124 = .ok (.putfield 127, 3) := by decide +kernel
theorem dX2_varyTo_127 : decode cX2_varyTo 127 = .ok (.iload 5, 2) := by decide +kernel
theorem dX2_varyTo_129 : decode cX2_varyTo 129 = .ok (.ireturn, 1) := by decide +kernel
theorem dX2_isVariation_0 : decode cX2_isVariation 0 = .ok (.iload_n 1, 1) := by decide +kernel
theorem dX2_isVariation_1 : decode cX2_isVariation 1 = .ok (.tableswitch 54 0 2 #[27, 39, 47], 27) := by decide +kernel
theorem dX2_isVariation_28 : decode cX2_isVariation 28 = .ok (.iload_n 2, 1) := by decide +kernel
theorem dX2_isVariation_29 : decode cX2_isVariation 29 = .ok (.iload_n 0, 1) := by decide +kernel
theorem dX2_isVariation_30 : decode cX2_isVariation 30 = .ok (.invokestatic 92, 3) := by decide +kernel
theorem dX2_isVariation_33 : decode cX2_isVariation 33 = .ok (.sipush 365, 3) := by decide +kernel
theorem dX2_isVariation_36 : decode cX2_isVariation 36 = .ok (.invokestatic 88, 3) := by decide +kernel
theorem dX2_isVariation_39 : decode cX2_isVariation 39 = .ok (.ireturn, 1) := by decide +kernel
theorem dX2_isVariation_40 : decode cX2_isVariation 40 = .ok (.iload_n 2, 1) := by decide +kernel
theorem dX2_isVariation_41 : decode cX2_isVariation 41 = .ok (.iconst 1, 1) := by decide +kernel
theorem dX2_isVariation_42 : decode cX2_isVariation 42 = .ok (.bipush 6, 2) := by decide +kernel
theorem dX2_isVariation_44 : decode cX2_isVariation 44 = .ok (.invokestatic 88, 3) := by decide +kernel
theorem dX2_isVariation_47 : decode cX2_isVariation 47 = .ok (.ireturn, 1) := by decide +kernel
theorem dX2_isVariation_48 : decode cX2_isVariation 48 = .ok (.iload_n 2, 1) := by decide +kernel
theorem dX2_isVariation_49 : decode cX2_isVariation 49 = .ok (.iconst 0, 1) := by decide +kernel
theorem dX2_isVariation_50 : decode cX2_isVariation 50 = .ok (.iconst 4, 1) := by decide +kernel
theorem dX2_isVariation_51 : decode cX2_isVariation 51 = .ok (.invokestatic 88, 3) := by decide +kernel
theorem dX2_isVariation_54 : decode cX2_isVariation 54 = .ok (.ireturn, 1) := by decide +kernel
theorem dX2_isVariation_55 : decode cX2_isVariation 55 = .ok (.iconst 0, 1) := by decide +kernel
theorem dX2_isVariation_56 : decode cX2_isVariation 56 = .ok (.ireturn, 1) := by decide +kernel
theorem dX2_canVary_0 : decode cX2_canVary 0 = .ok (.aload_n 0, 1) := by decide +kernel
theorem dX2_canVary_1 : decode cX2_canVary 1 = .ok (.aload_n 1, 1) := by decide +kernel
theorem dX2_canVary_2 : decode cX2_canVary 2 = .ok (.invokevirtual 72, 3) := by decide +kernel
theorem dX2_canVary_5 : decode cX2_canVary 5 = .ok (.istore 4, 2) := by decide +kernel
theorem dX2_canVary_7 : decode cX2_canVary 7 = .ok (.iload 4, 2) := by decide +kernel
theorem dX2_canVary_9 : decode cX2_canVary 9 = .ok (.ifCond .eq 9, 3) := by decide +kernel
theorem dX2_canVary_12 : decode cX2_canVary 12 = .ok (.iload 4, 2) := by decide +kernel
theorem dX2_canVary_14 : decode cX2_canVary 14 = .ok (.iconst 1, 1) := by decide +kernel
theorem dX2_canVary_15 : decode cX2_canVary 15 = .ok (.if_icmp .ne 10, 3) := by decide +kernel
theorem dX2_canVary_18 : decode cX2_canVary 18 = .ok (.aload_n 1, 1) := by decide +kernel
theorem dX2_canVary_19 : decode cX2_canVary 19 = .ok (.getfield 117, 3) := by decide +kernel
theorem dX2_canVary_22 : decode cX2_canVary 22 = .ok (.ifCond .eq 5, 3) := by decide +kernel
theorem dX2_canVary_25 : decode cX2_canVary 25 = .ok (.iconst 0, 1) := by decide +kernel
theorem dX2_canVary_26 : decode cX2_canVary 26 = .ok (.ireturn, 1) := by decide +kernel
theorem dX2_canVary_27 : decode cX2_canVary 27 = .ok (.iload_n 2, 1) := by decide +kernel
theorem dX2_canVary_28 : decode cX2_canVary 28 = .ok (.lookupswitch 80 #[(0, 28), (1, 66)], 28) := by decide +kernel
theorem dX2_canVary_56 : decode cX2_canVary 56 = .ok (.aload_n 1, 1) := by decide +kernel
theorem dX2_canVary_57 : decode cX2_canVary 57 = .ok (.getfield 66, 3) := by decide +kernel
theorem dX2_canVary_60 : decode cX2_canVary 60 = .ok (.iconst 2, 1) := by decide +kernel
theorem dX2_canVary_61 : decode cX2_canVary 61 = .ok (.if_icmp .ne 19, 3) := by decide +kernel
theorem dX2_canVary_64 : decode cX2_canVary 64 = .ok (.aload_n 1, 1) := by decide +kernel
theorem dX2_canVary_65 : decode cX2_canVary 65 = .ok (.getfield 127, 3) := by decide +kernel
theorem dX2_canVary_68 : decode cX2_canVary 68 = .ok (.iload_n 3, 1) := by decide +kernel
theorem dX2_canVary_69 : decode cX2_canVary 69 = .ok (.if_icmp .ge 7, 3) := by decide +kernel
theorem dX2_canVary_72 : decode cX2_canVary 72 = .ok (.iconst 1, 1) := by decide +kernel
theorem dX2_canVary_73 : decode cX2_canVary 73 = .ok (.goto 20, 3) := by decide +kernel
theorem dX2_canVary_76 : decode cX2_canVary 76 = .ok (.iconst 0, 1) := by decide +kernel
theorem dX2_canVary_77 : decode cX2_canVary 77 = .ok (.goto 16, 3) := by decide +kernel
theorem dX2_canVary_80 : decode cX2_canVary 80 = .ok (.aload_n 1, 1) := by decide +kernel
theorem dX2_canVary_81 : decode cX2_canVary 81 = .ok (.getfield 127, 3) := by decide +kernel
theorem dX2_canVary_84 : decode cX2_canVary 84 = .ok (.iload_n 3, 1) := by decide +kernel
theorem dX2_canVary_85 : decode cX2_canVary 85 = .ok (.if_icmp .gt 7, 3) := by decide +kernel
theorem dX2_canVary_88 : decode cX2_canVary 88 = .ok (.iconst 1, 1) := by decide +kernel
theorem dX2_canVary_89 : decode cX2_canVary 89 = .ok (.goto 4, 3) := by decide +kernel
theorem dX2_canVary_92 : decode cX2_canVary 92 = .ok (.iconst 0, 1) := by decide +kernel
theorem dX2_canVary_93 : decode cX2_canVary 93 = .ok (.ireturn, 1) := by decide +kernel
theorem dX2_canVary_94 : decode cX2_canVary 94 = .ok (.iload_n 3, 1) := by decide +kernel
theorem dX2_canVary_95 : decode cX2_canVary 95 = .ok (.aload_n 1, 1) := by decide +kernel
theorem dX2_canVary_96 : decode cX2_canVary 96 = .ok (.getfield 76, 3) := by decide +kernel
theorem dX2_canVary_99 : decode cX2_canVary 99 = .ok (.if_icmp .le 7, 3) := by decide +kernel
theorem dX2_canVary_102 : decode cX2_canVary 102 = .ok (.iconst 1, 1) := by decide +kernel
theorem dX2_canVary_103 : decode cX2_canVary 103 = .ok (.goto 4, 3) := by decide +kernel
theorem dX2_canVary_106 : decode cX2_canVary 106 = .ok (.iconst 0, 1) := by decide +kernel
theorem dX2_canVary_107 : decode cX2_canVary 107 = .ok (.ireturn, 1) := by decide +kernel
theorem dX2_canVary_108 : decode cX2_canVary 108 = .ok (.aload_n 0, 1) := by decide +kernel
theorem dX2_canVary_109 : decode cX2_canVary 109 = .ok (.iload_n 3, 1) := by decide +kernel
theorem dX2_canVary_110 : decode cX2_canVary 110 = .ok (.invokevirtual 48, 3) := by decide +kernel
theorem dX2_canVary_113 : decode cX2_canVary 113 = .ok (.ifCond .ne 7, 3) := by decide +kernel
theorem dX2_canVary_116 : decode cX2_canVary 116 = .ok (.iconst 1, 1) := by decide +kernel
theorem dX2_canVary_117 : decode cX2_canVary 117 = .ok (.goto 4, 3) := by decide +kernel
theorem dX2_canVary_120 : decode cX2_canVary 120 = .ok (.iconst 0, 1) := by decide +kernel
theorem dX2_canVary_121 : decode cX2_canVary 121 = .ok (.ireturn, 1) := by decide +kernel
theorem dX2_putSetting_0 : decode cX2_putSetting 0 = .ok (.iload_n 1, 1) := by decide +kernel
theorem dX2_putSetting_1 : decode cX2_putSetting 1 = .ok (.ifCond .ne 25, 3) := by decide +kernel
theorem dX2_putSetting_4 : decode cX2_putSetting 4 = .ok (.iload_n 2, 1) := by decide +kernel
theorem dX2_putSetting_5 : decode cX2_putSetting 5 = .ok (.iconst 0, 1) := by decide +kernel
theorem dX2_putSetting_6 : decode cX2_putSetting 6 = .ok (.bipush 99, 2) := by decide +kernel
theorem dX2_putSetting_8 : decode cX2_putSetting 8 = .ok (.invokestatic 88, 3) := by decide +kernel
theorem dX2_putSetting_11 : decode cX2_putSetting 11 = .ok (.ifCond .eq 15, 3) := by decide +kernel
theorem dX2_putSetting_14 : decode cX2_putSetting 14 = .ok (.aload_n 0, 1) := by decide +kernel
theorem dX2_putSetting_15 : decode cX2_putSetting 15 = .ok (.getfield 37, 3) := by decide +kernel
theorem dX2_putSetting_18 : decode cX2_putSetting 18 = .ok (.istore_n 3, 1) := by decide +kernel
theorem dX2_putSetting_19 : decode cX2_putSetting 19 = .ok (.aload_n 0, 1) := by decide +kernel
theorem dX2_putSetting_20 : decode cX2_putSetting 20 = .ok (.iload_n 2, 1) := by decide +kernel
theorem dX2_putSetting_21 : decode cX2_putSetting 21 = .ok (.putfield 37, 3) := by decide +kernel
theorem dX2_putSetting_24 : decode cX2_putSetting 24 = .ok (.iload_n 3, 1) := by decide +kernel
theorem dX2_putSetting_25 : decode cX2_putSetting 25 = .ok (.ireturn, 1) := by decide +kernel
theorem dX2_putSetting_26 : decode cX2_putSetting 26 = .ok (.iload_n 1, 1) := by decide +kernel
theorem dX2_putSetting_27 : decode cX2_putSetting 27 = .ok (.iconst 1, 1) := by decide +kernel
theorem dX2_putSetting_28 : decode cX2_putSetting 28 = .ok (.if_icmp .ne 26, 3) := by decide +kernel
theorem dX2_putSetting_31 : decode cX2_putSetting 31 = .ok (.iload_n 2, 1) := by decide +kernel
theorem dX2_putSetting_32 : decode cX2_putSetting 32 = .ok (.iconst 1, 1) := by decide +kernel
theorem dX2_putSetting_33 : decode cX2_putSetting 33 = .ok (.sipush 365, 3) := by decide +kernel
theorem dX2_putSetting_36 : decode cX2_putSetting 36 = .ok (.invokestatic 88, 3) := by decide +kernel
theorem dX2_putSetting_39 : decode cX2_putSetting 39 = .ok (.ifCond .eq 15, 3) := by decide +kernel
theorem dX2_putSetting_42 : decode cX2_putSetting 42 = .ok (.aload_n 0, 1) := by decide +kernel
theorem dX2_putSetting_43 : decode cX2_putSetting 43 = .ok (.getfield 40, 3) := by decide +kernel
theorem dX2_putSetting_46 : decode cX2_putSetting 46 = .ok (.istore_n 3, 1) := by decide +kernel
theorem dX2_putSetting_47 : decode cX2_putSetting 47 = .ok (.aload_n 0, 1) := by decide +kernel
theorem dX2_putSetting_48 : decode cX2_putSetting 48 = .ok (.iload_n 2, 1) := by decide +kernel
theorem dX2_putSetting_49 : decode cX2_putSetting 49 = .ok (.putfield 40, 3) := by decide +kernel
theorem dX2_putSetting_52 : decode cX2_putSetting 52 = .ok (.iload_n 3, 1) := by decide +kernel
theorem dX2_putSetting_53 : decode cX2_putSetting 53 = .ok (.ireturn, 1) := by decide +kernel
theorem dX2_putSetting_54 : decode cX2_putSetting 54 = .ok (.ldc 95, 2) := by decide +kernel
theorem dX2_putSetting_56 : decode cX2_putSetting 56 = .ok (.ireturn, 1) := by decide +kernel
theorem dX2_passDays_0 : decode cX2_passDays 0 = .ok (.iload_n 1, 1) := by decide +kernel
theorem dX2_passDays_1 : decode cX2_passDays 1 = .ok (.iconst 1, 1) := by decide +kernel
theorem dX2_passDays_2 : decode cX2_passDays 2 = .ok (.sipush 400, 3) := by decide +kernel
theorem dX2_passDays_5 : decode cX2_passDays 5 = .ok (.invokestatic 88, 3) := by decide +kernel
theorem dX2_passDays_8 : decode cX2_passDays 8 = .ok (.ifCond .ne 6, 3) := by decide +kernel
theorem dX2_passDays_11 : decode cX2_passDays 11 = .ok (.ldc 95, 2) := by decide +kernel
theorem dX2_passDays_13 : decode cX2_passDays 13 = .ok (.ireturn, 1) := by decide +kernel
theorem dX2_passDays_14 : decode cX2_passDays 14 = .ok (.aload_n 0, 1) := by decide +kernel
theorem dX2_passDays_15 : decode cX2_passDays 15 = .ok (.getfield 28, 3) := by decide +kernel
theorem dX2_passDays_18 : decode cX2_passDays 18 = .ok (.iload_n 1, 1) := by decide +kernel
theorem dX2_passDays_19 : decode cX2_passDays 19 = .ok (.iadd, 1) := by decide +kernel
theorem dX2_passDays_20 : decode cX2_passDays 20 = .ok (.sipush 9999, 3) := by decide +kernel
theorem dX2_passDays_23 : decode cX2_passDays 23 = .ok (.if_icmp .le 6, 3) := by decide +kernel
theorem dX2_passDays_26 : decode cX2_passDays 26 = .ok (.ldc 97, 2) := by decide +kernel
theorem dX2_passDays_28 : decode cX2_passDays 28 = .ok (.ireturn, 1) := by decide +kernel
theorem dX2_passDays_29 : decode cX2_passDays 29 = .ok (.iconst 0, 1) := by decide +kernel
theorem dX2_passDays_30 : decode cX2_passDays 30 = .ok (.istore_n 2, 1) := by decide +kernel
theorem dX2_passDays_31 : decode cX2_passDays 31 = .ok (.iload_n 2, 1) := by decide +kernel
theorem dX2_passDays_32 : decode cX2_passDays 32 = .ok (.iload_n 1, 1) := by decide +kernel
theorem dX2_passDays_33 : decode cX2_passDays 33 = .ok (.if_icmp .ge 45, 3) := by decide +kernel
theorem dX2_passDays_36 : decode cX2_passDays 36 = .ok (.aload_n 0, 1) := by decide +kernel
theorem dX2_passDays_37 : decode cX2_passDays 37 = .ok (.dup, 1) := by decide +kernel
theorem dX2_passDays_38 : decode cX2_passDays 38 = .ok (.getfield 28, 3) := by decide +kernel
theorem dX2_passDays_41 : decode cX2_passDays 41 = .ok (.iconst 1, 1) := by decide +kernel
theorem dX2_passDays_42 : decode cX2_passDays 42 = .ok (.iadd, 1) := by decide +kernel
theorem dX2_passDays_43 : decode cX2_passDays 43 = .ok (.putfield 28, 3) := by decide +kernel
theorem dX2_passDays_46 : decode cX2_passDays 46 = .ok (.iconst 0, 1) := by decide +kernel
theorem dX2_passDays_47 : decode cX2_passDays 47 = .ok (.istore_n 3, 1) := by decide +kernel
theorem dX2_passDays_48 : decode cX2_passDays 48 = .ok (.iload_n 3, 1) := by decide +kernel
theorem dX2_passDays_49 : decode cX2_passDays 49 = .ok (.aload_n 0, 1) := by decide +kernel
theorem dX2_passDays_50 : decode cX2_passDays 50 = .ok (.getfield 24, 3) := by decide +kernel
theorem dX2_passDays_53 : decode cX2_passDays 53 = .ok (.if_icmp .ge 19, 3) := by decide +kernel
theorem dX2_passDays_56 : decode cX2_passDays 56 = .ok (.aload_n 0, 1) := by decide +kernel
theorem dX2_passDays_57 : decode cX2_passDays 57 = .ok (.aload_n 0, 1) := by decide +kernel
theorem dX2_passDays_58 : decode cX2_passDays 58 = .ok (.getfield 11, 3) := by decide +kernel
theorem dX2_passDays_61 : decode cX2_passDays 61 = .ok (.iload_n 3, 1) := by decide +kernel
theorem dX2_passDays_62 : decode cX2_passDays 62 = .ok (.aaload, 1) := by decide +kernel
theorem dX2_passDays_63 : decode cX2_passDays 63 = .ok (.invokevirtual 152, 3) := by decide +kernel
theorem dX2_passDays_66 : decode cX2_passDays 66 = .ok (.iinc 3 1, 3) := by decide +kernel
theorem dX2_passDays_69 : decode cX2_passDays 69 = .ok (.goto (-21), 3) := by decide +kernel
theorem dX2_passDays_72 : decode cX2_passDays 72 = .ok (.iinc 2 1, 3) := by decide +kernel
theorem dX2_passDays_75 : decode cX2_passDays 75 = .ok (.goto (-44), 3) := by decide +kernel
theorem dX2_passDays_78 : decode cX2_passDays 78 = .ok (.aload_n 0, 1) := by decide +kernel
theorem dX2_passDays_79 : decode cX2_passDays 79 = .ok (.getfield 28, 3) := by decide +kernel
theorem dX2_passDays_82 : decode cX2_passDays 82 = .ok (.ireturn, 1) := by decide +kernel
theorem dX2_passDayOf_0 : decode cX2_passDayOf 0 = .ok (.aload_n 1, 1) := by decide +kernel
theorem dX2_passDayOf_1 : decode cX2_passDayOf 1 = .ok (.getfield 59, 3) := by decide +kernel
theorem dX2_passDayOf_4 : decode cX2_passDayOf 4 = .ok (.istore_n 2, 1) := by decide +kernel
theorem dX2_passDayOf_5 : decode cX2_passDayOf 5 = .ok (.aload_n 1, 1) := by decide +kernel
theorem dX2_passDayOf_6 : decode cX2_passDayOf 6 = .ok (.getfield 117, 3) := by decide +kernel
theorem dX2_passDayOf_9 : decode cX2_passDayOf 9 = .ok (.ifCond .eq 48, 3) := by decide +kernel
theorem dX2_passDayOf_12 : decode cX2_passDayOf 12 = .ok (.aload_n 1, 1) := by decide +kernel
theorem dX2_passDayOf_13 : decode cX2_passDayOf 13 = .ok (.dup, 1) := by decide +kernel
theorem dX2_passDayOf_14 : decode cX2_passDayOf 14 = .ok (.getfield 120, 3) := by decide +kernel
theorem dX2_passDayOf_17 : decode cX2_passDayOf 17 = .ok (.iconst 1, 1) := by decide +kernel
theorem dX2_passDayOf_18 : decode cX2_passDayOf 18 = .ok (.iadd, 1) := by decide +kernel
theorem dX2_passDayOf_19 : decode cX2_passDayOf 19 = .ok (.putfield 120, 3) := by decide +kernel
theorem dX2_passDayOf_22 : decode cX2_passDayOf 22 = .ok (.aload_n 1, 1) := by decide +kernel
theorem dX2_passDayOf_23 : decode cX2_passDayOf 23 = .ok (.getfield 120, 3) := by decide +kernel
theorem dX2_passDayOf_26 : decode cX2_passDayOf 26 = .ok (.aload_n 0, 1) := by decide +kernel
theorem dX2_passDayOf_27 : decode cX2_passDayOf 27 = .ok (.getfield 37, 3) := by decide +kernel
theorem dX2_passDayOf_30 : decode cX2_passDayOf 30 = .ok (.if_icmp .lt 27, 3) := by decide +kernel
theorem dX2_passDayOf_33 : decode cX2_passDayOf 33 = .ok (.aload_n 0, 1) := by decide +kernel
theorem dX2_passDayOf_34 : decode cX2_passDayOf 34 = .ok (.dup, 1) := by decide +kernel
theorem dX2_passDayOf_35 : decode cX2_passDayOf 35 = .ok (.getfield 34, 3) := by decide +kernel
theorem dX2_passDayOf_38 : decode cX2_passDayOf 38 = .ok (.aload_n 1, 1) := by decide +kernel
theorem dX2_passDayOf_39 : decode cX2_passDayOf 39 = .ok (.getfield 117, 3) := by decide +kernel
theorem dX2_passDayOf_42 : decode cX2_passDayOf 42 = .ok (.invokestatic 82, 3) := by decide +kernel
theorem dX2_passDayOf_45 : decode cX2_passDayOf 45 = .ok (.iadd, 1) := by decide +kernel
theorem dX2_passDayOf_46 : decode cX2_passDayOf 46 = .ok (.putfield 34, 3) := by decide +kernel
theorem dX2_passDayOf_49 : decode cX2_passDayOf 49 = .ok (.aload_n 1, 1) := by decide +kernel
theorem dX2_passDayOf_50 : decode cX2_passDayOf 50 = .ok (.aload_n 1, 1) := by decide +kernel
theorem dX2_passDayOf_51 : decode cX2_passDayOf 51 = .ok (.getfield 117, 3) := by decide +kernel
theorem dX2_passDayOf_54 : decode cX2_passDayOf 54 = .ok (.invokevirtual 123, 3) := by decide +kernel
theorem dX2_passDayOf_57 : decode cX2_passDayOf 57 = .ok (.aload_n 0, 1) := by decide +kernel
theorem dX2_passDayOf_58 : decode cX2_passDayOf 58 = .ok (.aload_n 1, 1) := by decide +kernel
theorem dX2_passDayOf_59 : decode cX2_passDayOf 59 = .ok (.invokevirtual 155, 3) := by decide +kernel
theorem dX2_passDayOf_62 : decode cX2_passDayOf 62 = .ok (.iload_n 2, 1) := by decide +kernel
theorem dX2_passDayOf_63 : decode cX2_passDayOf 63 = .ok (.ifCond .eq 18, 3) := by decide +kernel
theorem dX2_passDayOf_66 : decode cX2_passDayOf 66 = .ok (.aload_n 1, 1) := by decide +kernel
theorem dX2_passDayOf_67 : decode cX2_passDayOf 67 = .ok (.getfield 59, 3) := by decide +kernel
theorem dX2_passDayOf_70 : decode cX2_passDayOf 70 = .ok (.ifCond .eq 11, 3) := by decide +kernel
theorem dX2_passDayOf_73 : decode cX2_passDayOf 73 = .ok (.aload_n 1, 1) := by decide +kernel
theorem dX2_passDayOf_74 : decode cX2_passDayOf 74 = .ok (.aload_n 0, 1) := by decide +kernel
theorem dX2_passDayOf_75 : decode cX2_passDayOf 75 = .ok (.getfield 40, 3) := by decide +kernel
theorem dX2_passDayOf_78 : decode cX2_passDayOf 78 = .ok (.invokevirtual 158, 3) := by decide +kernel
theorem dX2_passDayOf_81 : decode cX2_passDayOf 81 = .ok (.return_, 1) := by decide +kernel
theorem dX2_passClock_0 : decode cX2_passClock 0 = .ok (.aload_n 1, 1) := by decide +kernel
theorem dX2_passClock_1 : decode cX2_passClock 1 = .ok (.getfield 55, 3) := by decide +kernel
theorem dX2_passClock_4 : decode cX2_passClock 4 = .ok (.ifCond .ne 17, 3) := by decide +kernel
theorem dX2_passClock_7 : decode cX2_passClock 7 = .ok (.aload_n 1, 1) := by decide +kernel
theorem dX2_passClock_8 : decode cX2_passClock 8 = .ok (.getfield 59, 3) := by decide +kernel
theorem dX2_passClock_11 : decode cX2_passClock 11 = .ok (.ifCond .ne 10, 3) := by decide +kernel
theorem dX2_passClock_14 : decode cX2_passClock 14 = .ok (.aload_n 1, 1) := by decide +kernel
theorem dX2_passClock_15 : decode cX2_passClock 15 = .ok (.invokevirtual 62, 3) := by decide +kernel
theorem dX2_passClock_18 : decode cX2_passClock 18 = .ok (.ifCond .eq 4, 3) := by decide +kernel
theorem dX2_passClock_21 : decode cX2_passClock 21 = .ok (.return_, 1) := by decide +kernel
theorem dX2_passClock_22 : decode cX2_passClock 22 = .ok (.aload_n 1, 1) := by decide +kernel
theorem dX2_passClock_23 : decode cX2_passClock 23 = .ok (.getfield 66, 3) := by decide +kernel
theorem dX2_passClock_26 : decode cX2_passClock 26 = .ok (.iconst 1, 1) := by decide +kernel
theorem dX2_passClock_27 : decode cX2_passClock 27 = .ok (.if_icmp .ne 47, 3) := by decide +kernel
theorem dX2_passClock_30 : decode cX2_passClock 30 = .ok (.aload_n 0, 1) := by decide +kernel
theorem dX2_passClock_31 : decode cX2_passClock 31 = .ok (.aload_n 1, 1) := by decide +kernel
theorem dX2_passClock_32 : decode cX2_passClock 32 = .ok (.getfield 69, 3) := by decide +kernel
theorem dX2_passClock_35 : decode cX2_passClock 35 = .ok (.invokevirtual 48, 3) := by decide +kernel
theorem dX2_passClock_38 : decode cX2_passClock 38 = .ok (.ifCond .eq 36, 3) := by decide +kernel
theorem dX2_passClock_41 : decode cX2_passClock 41 = .ok (.aload_n 1, 1) := by decide +kernel
theorem dX2_passClock_42 : decode cX2_passClock 42 = .ok (.getfield 117, 3) := by decide +kernel
theorem dX2_passClock_45 : decode cX2_passClock 45 = .ok (.ifCond .ne 29, 3) := by decide +kernel
theorem dX2_passClock_48 : decode cX2_passClock 48 = .ok (.aload_n 1, 1) := by decide +kernel
theorem dX2_passClock_49 : decode cX2_passClock 49 = .ok (.dup, 1) := by decide +kernel
theorem dX2_passClock_50 : decode cX2_passClock 50 = .ok (.getfield 127, 3) := by decide +kernel
theorem dX2_passClock_53 : decode cX2_passClock 53 = .ok (.iconst 1, 1) := by decide +kernel
theorem dX2_passClock_54 : decode cX2_passClock 54 = .ok (.iadd, 1) := by decide +kernel
theorem dX2_passClock_55 : decode cX2_passClock 55 = .ok (.putfield 127, 3) := by decide +kernel
theorem dX2_passClock_58 : decode cX2_passClock 58 = .ok (.aload_n 1, 1) := by decide +kernel
theorem dX2_passClock_59 : decode cX2_passClock 59 = .ok (.getfield 127, 3) := by decide +kernel
theorem dX2_passClock_62 : decode cX2_passClock 62 = .ok (.aload_n 1, 1) := by decide +kernel
theorem dX2_passClock_63 : decode cX2_passClock 63 = .ok (.getfield 149, 3) := by decide +kernel
theorem dX2_passClock_66 : decode cX2_passClock 66 = .ok (.if_icmp .le 8, 3) := by decide +kernel
theorem dX2_passClock_69 : decode cX2_passClock 69 = .ok (.aload_n 0, 1) := by decide +kernel
theorem dX2_passClock_70 : decode cX2_passClock 70 = .ok (.aload_n 1, 1) := by decide +kernel
theorem dX2_passClock_71 : decode cX2_passClock 71 = .ok (.invokevirtual 108, 3) := by decide +kernel
theorem dX2_passClock_74 : decode cX2_passClock 74 = .ok (.aload_n 1, 1) := by decide +kernel
theorem dX2_passClock_75 : decode cX2_passClock 75 = .ok (.getfield 66, 3) := by decide +kernel
theorem dX2_passClock_78 : decode cX2_passClock 78 = .ok (.iconst 2, 1) := by decide +kernel
theorem dX2_passClock_79 : decode cX2_passClock 79 = .ok (.if_icmp .ne 24, 3) := by decide +kernel
theorem dX2_passClock_82 : decode cX2_passClock 82 = .ok (.aload_n 0, 1) := by decide +kernel
theorem dX2_passClock_83 : decode cX2_passClock 83 = .ok (.aload_n 1, 1) := by decide +kernel
theorem dX2_passClock_84 : decode cX2_passClock 84 = .ok (.getfield 69, 3) := by decide +kernel
theorem dX2_passClock_87 : decode cX2_passClock 87 = .ok (.invokevirtual 52, 3) := by decide +kernel
theorem dX2_passClock_90 : decode cX2_passClock 90 = .ok (.ifCond .eq 13, 3) := by decide +kernel
theorem dX2_passClock_93 : decode cX2_passClock 93 = .ok (.aload_n 1, 1) := by decide +kernel
theorem dX2_passClock_94 : decode cX2_passClock 94 = .ok (.dup, 1) := by decide +kernel
theorem dX2_passClock_95 : decode cX2_passClock 95 = .ok (.getfield 127, 3) := by decide +kernel
theorem dX2_passClock_98 : decode cX2_passClock 98 = .ok (.iconst 1, 1) := by decide +kernel
theorem dX2_passClock_99 : decode cX2_passClock 99 = .ok (.iadd, 1) := by decide +kernel
theorem dX2_passClock_100 : decode cX2_passClock 100 = .ok (.putfield 127, 3) := by decide +kernel
theorem dX2_passClock_103 : decode cX2_passClock 103 = .ok (.return_, 1) := by decide +kernel
theorem dX2_startBreach_0 : decode cX2_startBreach 0 = .ok (.aload_n 1, 1) := by decide +kernel
theorem dX2_startBreach_1 : decode cX2_startBreach 1 = .ok (.iconst 1, 1) := by decide +kernel
theorem dX2_startBreach_2 : decode cX2_startBreach 2 = .ok (.putfield 59, 3) := by decide +kernel
theorem dX2_startBreach_5 : decode cX2_startBreach 5 = .ok (.aload_n 0, 1) := by decide +kernel
theorem dX2_startBreach_6 : decode cX2_startBreach 6 = .ok (.dup, 1) := by decide +kernel
theorem dX2_startBreach_7 : decode cX2_startBreach 7 = .ok (.getfield 31, 3) := by decide +kernel
theorem dX2_startBreach_10 : decode cX2_startBreach 10 = .ok (.iconst 1, 1) := by decide +kernel
theorem dX2_startBreach_11 : decode cX2_startBreach 11 = .ok (.iadd, 1) := by decide +kernel
theorem dX2_startBreach_12 : decode cX2_startBreach 12 = .ok (.putfield 31, 3) := by decide +kernel
theorem dX2_startBreach_15 : decode cX2_startBreach 15 = .ok (.return_, 1) := by decide +kernel
theorem dX2_daysUntil_0 : decode cX2_daysUntil 0 = .ok (.aload_n 0, 1) := by decide +kernel
theorem dX2_daysUntil_1 : decode cX2_daysUntil 1 = .ok (.iload_n 1, 1) := by decide +kernel
theorem dX2_daysUntil_2 : decode cX2_daysUntil 2 = .ok (.invokevirtual 111, 3) := by decide +kernel
theorem dX2_daysUntil_5 : decode cX2_daysUntil 5 = .ok (.ifCond .ne 6, 3) := by decide +kernel
theorem dX2_daysUntil_8 : decode cX2_daysUntil 8 = .ok (.ldc 161, 2) := by decide +kernel
theorem dX2_daysUntil_10 : decode cX2_daysUntil 10 = .ok (.ireturn, 1) := by decide +kernel
theorem dX2_daysUntil_11 : decode cX2_daysUntil 11 = .ok (.aload_n 0, 1) := by decide +kernel
theorem dX2_daysUntil_12 : decode cX2_daysUntil 12 = .ok (.getfield 11, 3) := by decide +kernel
theorem dX2_daysUntil_15 : decode cX2_daysUntil 15 = .ok (.iload_n 1, 1) := by decide +kernel
theorem dX2_daysUntil_16 : decode cX2_daysUntil 16 = .ok (.aaload, 1) := by decide +kernel
theorem dX2_daysUntil_17 : decode cX2_daysUntil 17 = .ok (.astore_n 3, 1) := by decide +kernel
theorem dX2_daysUntil_18 : decode cX2_daysUntil 18 = .ok (.iconst 0, 1) := by decide +kernel
theorem dX2_daysUntil_19 : decode cX2_daysUntil 19 = .ok (.istore 4, 2) := by decide +kernel
theorem dX2_daysUntil_21 : decode cX2_daysUntil 21 = .ok (.iload 4, 2) := by decide +kernel
theorem dX2_daysUntil_23 : decode cX2_daysUntil 23 = .ok (.sipush 400, 3) := by decide +kernel
theorem dX2_daysUntil_26 : decode cX2_daysUntil 26 = .ok (.if_icmp .gt 26, 3) := by decide +kernel
theorem dX2_daysUntil_29 : decode cX2_daysUntil 29 = .ok (.aload_n 0, 1) := by decide +kernel
theorem dX2_daysUntil_30 : decode cX2_daysUntil 30 = .ok (.aload_n 3, 1) := by decide +kernel
theorem dX2_daysUntil_31 : decode cX2_daysUntil 31 = .ok (.invokevirtual 72, 3) := by decide +kernel
theorem dX2_daysUntil_34 : decode cX2_daysUntil 34 = .ok (.iload_n 2, 1) := by decide +kernel
theorem dX2_daysUntil_35 : decode cX2_daysUntil 35 = .ok (.if_icmp .ne 6, 3) := by decide +kernel
theorem dX2_daysUntil_38 : decode cX2_daysUntil 38 = .ok (.iload 4, 2) := by decide +kernel
theorem dX2_daysUntil_40 : decode cX2_daysUntil 40 = .ok (.ireturn, 1) := by decide +kernel
theorem dX2_daysUntil_41 : decode cX2_daysUntil 41 = .ok (.aload_n 0, 1) := by decide +kernel
theorem dX2_daysUntil_42 : decode cX2_daysUntil 42 = .ok (.aload_n 3, 1) := by decide +kernel
theorem dX2_daysUntil_43 : decode cX2_daysUntil 43 = .ok (.invokevirtual 152, 3) := by decide +kernel
theorem dX2_daysUntil_46 : decode cX2_daysUntil 46 = .ok (.iinc 4 1, 3) := by decide +kernel
theorem dX2_daysUntil_49 : decode cX2_daysUntil 49 = .ok (.goto (-28), 3) := by decide +kernel
theorem dX2_daysUntil_52 : decode cX2_daysUntil 52 = .ok (.ldc 161, 2) := by decide +kernel
theorem dX2_daysUntil_54 : decode cX2_daysUntil 54 = .ok (.ireturn, 1) := by decide +kernel
theorem dX2_daysUntilLawful_0 : decode cX2_daysUntilLawful 0 = .ok (.aload_n 0, 1) := by decide +kernel
theorem dX2_daysUntilLawful_1 : decode cX2_daysUntilLawful 1 = .ok (.iload_n 1, 1) := by decide +kernel
theorem dX2_daysUntilLawful_2 : decode cX2_daysUntilLawful 2 = .ok (.invokevirtual 105, 3) := by decide +kernel
theorem dX2_daysUntilLawful_5 : decode cX2_daysUntilLawful 5 = .ok (.istore_n 2, 1) := by decide +kernel
theorem dX2_daysUntilLawful_6 : decode cX2_daysUntilLawful 6 = .ok (.iconst 0, 1) := by decide +kernel
theorem dX2_daysUntilLawful_7 : decode cX2_daysUntilLawful 7 = .ok (.istore_n 3, 1) := by decide +kernel
theorem dX2_daysUntilLawful_8 : decode cX2_daysUntilLawful 8 = .ok (.iconst 0, 1) := by decide +kernel
theorem dX2_daysUntilLawful_9 : decode cX2_daysUntilLawful 9 = .ok (.istore 4, 2) := by decide +kernel
theorem dX2_daysUntilLawful_11 : decode cX2_daysUntilLawful 11 = .ok (.iload 4, 2) := by decide +kernel
theorem dX2_daysUntilLawful_13 : decode cX2_daysUntilLawful 13 = .ok (.aload_n 0, 1) := by decide +kernel
theorem dX2_daysUntilLawful_14 : decode cX2_daysUntilLawful 14 = .ok (.getfield 24, 3) := by decide +kernel
theorem dX2_daysUntilLawful_17 : decode cX2_daysUntilLawful 17 = .ok (.if_icmp .ge 44, 3) := by decide +kernel
theorem dX2_daysUntilLawful_20 : decode cX2_daysUntilLawful 20 = .ok (.iload_n 2, 1) := by decide +kernel
theorem dX2_daysUntilLawful_21 : decode cX2_daysUntilLawful 21 = .ok (.iconst 1, 1) := by decide +kernel
theorem dX2_daysUntilLawful_22 : decode cX2_daysUntilLawful 22 = .ok (.iload 4, 2) := by decide +kernel
theorem dX2_daysUntilLawful_24 : decode cX2_daysUntilLawful 24 = .ok (.ishl, 1) := by decide +kernel
theorem dX2_daysUntilLawful_25 : decode cX2_daysUntilLawful 25 = .ok (.iand, 1) := by decide +kernel
theorem dX2_daysUntilLawful_26 : decode cX2_daysUntilLawful 26 = .ok (.ifCond .eq 29, 3) := by decide +kernel
theorem dX2_daysUntilLawful_29 : decode cX2_daysUntilLawful 29 = .ok (.aload_n 0, 1) := by decide +kernel
theorem dX2_daysUntilLawful_30 : decode cX2_daysUntilLawful 30 = .ok (.iload 4, 2) := by decide +kernel
theorem dX2_daysUntilLawful_32 : decode cX2_daysUntilLawful 32 = .ok (.iconst 2, 1) := by decide +kernel
theorem dX2_daysUntilLawful_33 : decode cX2_daysUntilLawful 33 = .ok (.invokevirtual 162, 3) := by decide +kernel
theorem dX2_daysUntilLawful_36 : decode cX2_daysUntilLawful 36 = .ok (.istore 5, 2) := by decide +kernel
theorem dX2_daysUntilLawful_38 : decode cX2_daysUntilLawful 38 = .ok (.iload 5, 2) := by decide +kernel
theorem dX2_daysUntilLawful_40 : decode cX2_daysUntilLawful 40 = .ok (.ldc 161, 2) := by decide +kernel
theorem dX2_daysUntilLawful_42 : decode cX2_daysUntilLawful 42 = .ok (.if_icmp .ne 6, 3) := by decide +kernel
theorem dX2_daysUntilLawful_45 : decode cX2_daysUntilLawful 45 = .ok (.ldc 161, 2) := by decide +kernel
theorem dX2_daysUntilLawful_47 : decode cX2_daysUntilLawful 47 = .ok (.ireturn, 1) := by decide +kernel
theorem dX2_daysUntilLawful_48 : decode cX2_daysUntilLawful 48 = .ok (.iload_n 3, 1) := by decide +kernel
theorem dX2_daysUntilLawful_49 : decode cX2_daysUntilLawful 49 = .ok (.iload 5, 2) := by decide +kernel
theorem dX2_daysUntilLawful_51 : decode cX2_daysUntilLawful 51 = .ok (.invokestatic 166, 3) := by decide +kernel
theorem dX2_daysUntilLawful_54 : decode cX2_daysUntilLawful 54 = .ok (.istore_n 3, 1) := by decide +kernel
theorem dX2_daysUntilLawful_55 : decode cX2_daysUntilLawful 55 = .ok (.iinc 4 1, 3) := by decide +kernel
theorem dX2_daysUntilLawful_58 : decode cX2_daysUntilLawful 58 = .ok (.goto (-47), 3) := by decide +kernel
theorem dX2_daysUntilLawful_61 : decode cX2_daysUntilLawful 61 = .ok (.iload_n 3, 1) := by decide +kernel
theorem dX2_daysUntilLawful_62 : decode cX2_daysUntilLawful 62 = .ok (.ireturn, 1) := by decide +kernel
theorem dX3_init_0 : decode cX3_init 0 = .ok (.aload_n 0, 1) := by decide +kernel
theorem dX3_init_1 : decode cX3_init 1 = .ok (.invokespecial 1, 3) := by decide +kernel
theorem dX3_init_4 : decode cX3_init 4 = .ok (.aload_n 0, 1) := by decide +kernel
theorem dX3_init_5 : decode cX3_init 5 = .ok (.new 7, 3) := by decide +kernel
theorem dX3_init_8 : decode cX3_init 8 = .ok (.dup, 1) := by decide +kernel
theorem dX3_init_9 : decode cX3_init 9 = .ok (.invokespecial 9, 3) := by decide +kernel
theorem dX3_init_12 : decode cX3_init 12 = .ok (.putfield 10, 3) := by decide +kernel
theorem dX3_init_15 : decode cX3_init 15 = .ok (.aload_n 0, 1) := by decide +kernel
theorem dX3_init_16 : decode cX3_init 16 = .ok (.new 7, 3) := by decide +kernel
theorem dX3_init_19 : decode cX3_init 19 = .ok (.dup, 1) := by decide +kernel
theorem dX3_init_20 : decode cX3_init 20 = .ok (.invokespecial 9, 3) := by decide +kernel
theorem dX3_init_23 : decode cX3_init 23 = .ok (.putfield 16, 3) := by decide +kernel
theorem dX3_init_26 : decode cX3_init 26 = .ok (.aload_n 0, 1) := by decide +kernel
theorem dX3_init_27 : decode cX3_init 27 = .ok (.iconst 4, 1) := by decide +kernel
theorem dX3_init_28 : decode cX3_init 28 = .ok (.anewarray 7, 3) := by decide +kernel
theorem dX3_init_31 : decode cX3_init 31 = .ok (.putfield 19, 3) := by decide +kernel
theorem dX3_init_34 : decode cX3_init 34 = .ok (.aload_n 0, 1) := by decide +kernel
theorem dX3_init_35 : decode cX3_init 35 = .ok (.new 23, 3) := by decide +kernel
theorem dX3_init_38 : decode cX3_init 38 = .ok (.dup, 1) := by decide +kernel
theorem dX3_init_39 : decode cX3_init 39 = .ok (.invokespecial 25, 3) := by decide +kernel
theorem dX3_init_42 : decode cX3_init 42 = .ok (.putfield 26, 3) := by decide +kernel
theorem dX3_init_45 : decode cX3_init 45 = .ok (.aload_n 0, 1) := by decide +kernel
theorem dX3_init_46 : decode cX3_init 46 = .ok (.new 7, 3) := by decide +kernel
theorem dX3_init_49 : decode cX3_init 49 = .ok (.dup, 1) := by decide +kernel
theorem dX3_init_50 : decode cX3_init 50 = .ok (.invokespecial 9, 3) := by decide +kernel
theorem dX3_init_53 : decode cX3_init 53 = .ok (.putfield 30, 3) := by decide +kernel
theorem dX3_init_56 : decode cX3_init 56 = .ok (.aload_n 0, 1) := by decide +kernel
theorem dX3_init_57 : decode cX3_init 57 = .ok (.iconst 0, 1) := by decide +kernel
theorem dX3_init_58 : decode cX3_init 58 = .ok (.putfield 33, 3) := by decide +kernel
theorem dX3_init_61 : decode cX3_init 61 = .ok (.iconst 0, 1) := by decide +kernel
theorem dX3_init_62 : decode cX3_init 62 = .ok (.istore_n 1, 1) := by decide +kernel
theorem dX3_init_63 : decode cX3_init 63 = .ok (.iload_n 1, 1) := by decide +kernel
theorem dX3_init_64 : decode cX3_init 64 = .ok (.iconst 4, 1) := by decide +kernel
theorem dX3_init_65 : decode cX3_init 65 = .ok (.if_icmp .ge 22, 3) := by decide +kernel
theorem dX3_init_68 : decode cX3_init 68 = .ok (.aload_n 0, 1) := by decide +kernel
theorem dX3_init_69 : decode cX3_init 69 = .ok (.getfield 19, 3) := by decide +kernel
theorem dX3_init_72 : decode cX3_init 72 = .ok (.iload_n 1, 1) := by decide +kernel
theorem dX3_init_73 : decode cX3_init 73 = .ok (.new 7, 3) := by decide +kernel
theorem dX3_init_76 : decode cX3_init 76 = .ok (.dup, 1) := by decide +kernel
theorem dX3_init_77 : decode cX3_init 77 = .ok (.invokespecial 9, 3) := by decide +kernel
theorem dX3_init_80 : decode cX3_init 80 = .ok (.aastore, 1) := by decide +kernel
theorem dX3_init_81 : decode cX3_init 81 = .ok (.iinc 1 1, 3) := by decide +kernel
theorem dX3_init_84 : decode cX3_init 84 = .ok (.goto (-21), 3) := by decide +kernel
theorem dX3_init_87 : decode cX3_init 87 = .ok (.return_, 1) := by decide +kernel
theorem dX3_condition_0 : decode cX3_condition 0 = .ok (.aload_n 0, 1) := by decide +kernel
theorem dX3_condition_1 : decode cX3_condition 1 = .ok (.getfield 30, 3) := by decide +kernel
theorem dX3_condition_4 : decode cX3_condition 4 = .ok (.aload_n 0, 1) := by decide +kernel
theorem dX3_condition_5 : decode cX3_condition 5 = .ok (.getfield 10, 3) := by decide +kernel
theorem dX3_condition_8 : decode cX3_condition 8 = .ok (.invokevirtual 37, 3) := by decide +kernel
theorem dX3_condition_11 : decode cX3_condition 11 = .ok (.aload_n 0, 1) := by decide +kernel
theorem dX3_condition_12 : decode cX3_condition 12 = .ok (.aload_n 0, 1) := by decide +kernel
theorem dX3_condition_13 : decode cX3_condition 13 = .ok (.getfield 10, 3) := by decide +kernel
theorem dX3_condition_16 : decode cX3_condition 16 = .ok (.iload_n 1, 1) := by decide +kernel
theorem dX3_condition_17 : decode cX3_condition 17 = .ok (.iload_n 2, 1) := by decide +kernel
theorem dX3_condition_18 : decode cX3_condition 18 = .ok (.iload_n 3, 1) := by decide +kernel
theorem dX3_condition_19 : decode cX3_condition 19 = .ok (.iload 4, 2) := by decide +kernel
theorem dX3_condition_21 : decode cX3_condition 21 = .ok (.invokevirtual 41, 3) := by decide +kernel
theorem dX3_condition_24 : decode cX3_condition 24 = .ok (.invokevirtual 45, 3) := by decide +kernel
theorem dX3_condition_27 : decode cX3_condition 27 = .ok (.ireturn, 1) := by decide +kernel
theorem dX3_begin_0 : decode cX3_begin 0 = .ok (.aload_n 0, 1) := by decide +kernel
theorem dX3_begin_1 : decode cX3_begin 1 = .ok (.getfield 30, 3) := by decide +kernel
theorem dX3_begin_4 : decode cX3_begin 4 = .ok (.aload_n 0, 1) := by decide +kernel
theorem dX3_begin_5 : decode cX3_begin 5 = .ok (.getfield 10, 3) := by decide +kernel
theorem dX3_begin_8 : decode cX3_begin 8 = .ok (.invokevirtual 37, 3) := by decide +kernel
theorem dX3_begin_11 : decode cX3_begin 11 = .ok (.aload_n 0, 1) := by decide +kernel
theorem dX3_begin_12 : decode cX3_begin 12 = .ok (.aload_n 0, 1) := by decide +kernel
theorem dX3_begin_13 : decode cX3_begin 13 = .ok (.getfield 10, 3) := by decide +kernel
theorem dX3_begin_16 : decode cX3_begin 16 = .ok (.iload_n 1, 1) := by decide +kernel
theorem dX3_begin_17 : decode cX3_begin 17 = .ok (.invokevirtual 49, 3) := by decide +kernel
theorem dX3_begin_20 : decode cX3_begin 20 = .ok (.invokevirtual 45, 3) := by decide +kernel
theorem dX3_begin_23 : decode cX3_begin 23 = .ok (.ireturn, 1) := by decide +kernel
theorem dX3_finish_0 : decode cX3_finish 0 = .ok (.aload_n 0, 1) := by decide +kernel
theorem dX3_finish_1 : decode cX3_finish 1 = .ok (.getfield 30, 3) := by decide +kernel
theorem dX3_finish_4 : decode cX3_finish 4 = .ok (.aload_n 0, 1) := by decide +kernel
theorem dX3_finish_5 : decode cX3_finish 5 = .ok (.getfield 10, 3) := by decide +kernel
theorem dX3_finish_8 : decode cX3_finish 8 = .ok (.invokevirtual 37, 3) := by decide +kernel
theorem dX3_finish_11 : decode cX3_finish 11 = .ok (.aload_n 0, 1) := by decide +kernel
theorem dX3_finish_12 : decode cX3_finish 12 = .ok (.aload_n 0, 1) := by decide +kernel
theorem dX3_finish_13 : decode cX3_finish 13 = .ok (.getfield 10, 3) := by decide +kernel
theorem dX3_finish_16 : decode cX3_finish 16 = .ok (.iload_n 1, 1) := by decide +kernel
theorem dX3_finish_17 : decode cX3_finish 17 = .ok (.invokevirtual 52, 3) := by decide +kernel
theorem dX3_finish_20 : decode cX3_finish 20 = .ok (.invokevirtual 45, 3) := by decide +kernel
theorem dX3_finish_23 : decode cX3_finish 23 = .ok (.ireturn, 1) := by decide +kernel
theorem dX3_apply_0 : decode cX3_apply 0 = .ok (.aload_n 0, 1) := by decide +kernel
theorem dX3_apply_1 : decode cX3_apply 1 = .ok (.getfield 30, 3) := by decide +kernel
theorem dX3_apply_4 : decode cX3_apply 4 = .ok (.aload_n 0, 1) := by decide +kernel
theorem dX3_apply_5 : decode cX3_apply 5 = .ok (.getfield 10, 3) := by decide +kernel
theorem dX3_apply_8 : decode cX3_apply 8 = .ok (.invokevirtual 37, 3) := by decide +kernel
theorem dX3_apply_11 : decode cX3_apply 11 = .ok (.aload_n 0, 1) := by decide +kernel
theorem dX3_apply_12 : decode cX3_apply 12 = .ok (.aload_n 0, 1) := by decide +kernel
theorem dX3_apply_13 : decode cX3_apply 13 = .ok (.getfield 10, 3) := by decide +kernel
theorem dX3_apply_16 : decode cX3_apply 16 = .ok (.iload_n 1, 1) := by decide +kernel
theorem dX3_apply_17 : decode cX3_apply 17 = .ok (.iload_n 2, 1) := by decide +kernel
theorem dX3_apply_18 : decode cX3_apply 18 = .ok (.invokevirtual 55, 3) := by decide +kernel
theorem dX3_apply_21 : decode cX3_apply 21 = .ok (.invokevirtual 45, 3) := by decide +kernel
theorem dX3_apply_24 : decode cX3_apply 24 = .ok (.ireturn, 1) := by decide +kernel
theorem dX3_decide_0 : decode cX3_decide 0 = .ok (.aload_n 0, 1) := by decide +kernel
theorem dX3_decide_1 : decode cX3_decide 1 = .ok (.getfield 30, 3) := by decide +kernel
theorem dX3_decide_4 : decode cX3_decide 4 = .ok (.aload_n 0, 1) := by decide +kernel
theorem dX3_decide_5 : decode cX3_decide 5 = .ok (.getfield 10, 3) := by decide +kernel
theorem dX3_decide_8 : decode cX3_decide 8 = .ok (.invokevirtual 37, 3) := by decide +kernel
theorem dX3_decide_11 : decode cX3_decide 11 = .ok (.aload_n 0, 1) := by decide +kernel
theorem dX3_decide_12 : decode cX3_decide 12 = .ok (.aload_n 0, 1) := by decide +kernel
theorem dX3_decide_13 : decode cX3_decide 13 = .ok (.getfield 10, 3) := by decide +kernel
theorem dX3_decide_16 : decode cX3_decide 16 = .ok (.iload_n 1, 1) := by decide +kernel
theorem dX3_decide_17 : decode cX3_decide 17 = .ok (.iload_n 2, 1) := by decide +kernel
theorem dX3_decide_18 : decode cX3_decide 18 = .ok (.invokevirtual 59, 3) := by decide +kernel
theorem dX3_decide_21 : decode cX3_decide 21 = .ok (.invokevirtual 45, 3) := by decide +kernel
theorem dX3_decide_24 : decode cX3_decide 24 = .ok (.ireturn, 1) := by decide +kernel
theorem dX3_lapse_0 : decode cX3_lapse 0 = .ok (.aload_n 0, 1) := by decide +kernel
theorem dX3_lapse_1 : decode cX3_lapse 1 = .ok (.getfield 30, 3) := by decide +kernel
theorem dX3_lapse_4 : decode cX3_lapse 4 = .ok (.aload_n 0, 1) := by decide +kernel
theorem dX3_lapse_5 : decode cX3_lapse 5 = .ok (.getfield 10, 3) := by decide +kernel
theorem dX3_lapse_8 : decode cX3_lapse 8 = .ok (.invokevirtual 37, 3) := by decide +kernel
theorem dX3_lapse_11 : decode cX3_lapse 11 = .ok (.aload_n 0, 1) := by decide +kernel
theorem dX3_lapse_12 : decode cX3_lapse 12 = .ok (.aload_n 0, 1) := by decide +kernel
theorem dX3_lapse_13 : decode cX3_lapse 13 = .ok (.getfield 10, 3) := by decide +kernel
theorem dX3_lapse_16 : decode cX3_lapse 16 = .ok (.iload_n 1, 1) := by decide +kernel
theorem dX3_lapse_17 : decode cX3_lapse 17 = .ok (.invokevirtual 62, 3) := by decide +kernel
theorem dX3_lapse_20 : decode cX3_lapse 20 = .ok (.invokevirtual 45, 3) := by decide +kernel
theorem dX3_lapse_23 : decode cX3_lapse 23 = .ok (.ireturn, 1) := by decide +kernel
theorem dX3_cure_0 : decode cX3_cure 0 = .ok (.aload_n 0, 1) := by decide +kernel
theorem dX3_cure_1 : decode cX3_cure 1 = .ok (.getfield 30, 3) := by decide +kernel
theorem dX3_cure_4 : decode cX3_cure 4 = .ok (.aload_n 0, 1) := by decide +kernel
theorem dX3_cure_5 : decode cX3_cure 5 = .ok (.getfield 10, 3) := by decide +kernel
theorem dX3_cure_8 : decode cX3_cure 8 = .ok (.invokevirtual 37, 3) := by decide +kernel
theorem dX3_cure_11 : decode cX3_cure 11 = .ok (.aload_n 0, 1) := by decide +kernel
theorem dX3_cure_12 : decode cX3_cure 12 = .ok (.aload_n 0, 1) := by decide +kernel
theorem dX3_cure_13 : decode cX3_cure 13 = .ok (.getfield 10, 3) := by decide +kernel
theorem dX3_cure_16 : decode cX3_cure 16 = .ok (.iload_n 1, 1) := by decide +kernel
theorem dX3_cure_17 : decode cX3_cure 17 = .ok (.invokevirtual 65, 3) := by decide +kernel
theorem dX3_cure_20 : decode cX3_cure 20 = .ok (.invokevirtual 45, 3) := by decide +kernel
theorem dX3_cure_23 : decode cX3_cure 23 = .ok (.ireturn, 1) := by decide +kernel
theorem dX3_serve_0 : decode cX3_serve 0 = .ok (.aload_n 0, 1) := by decide +kernel
theorem dX3_serve_1 : decode cX3_serve 1 = .ok (.getfield 30, 3) := by decide +kernel
theorem dX3_serve_4 : decode cX3_serve 4 = .ok (.aload_n 0, 1) := by decide +kernel
theorem dX3_serve_5 : decode cX3_serve 5 = .ok (.getfield 10, 3) := by decide +kernel
theorem dX3_serve_8 : decode cX3_serve 8 = .ok (.invokevirtual 37, 3) := by decide +kernel
theorem dX3_serve_11 : decode cX3_serve 11 = .ok (.aload_n 0, 1) := by decide +kernel
theorem dX3_serve_12 : decode cX3_serve 12 = .ok (.aload_n 0, 1) := by decide +kernel
theorem dX3_serve_13 : decode cX3_serve 13 = .ok (.getfield 10, 3) := by decide +kernel
theorem dX3_serve_16 : decode cX3_serve 16 = .ok (.iload_n 1, 1) := by decide +kernel
theorem dX3_serve_17 : decode cX3_serve 17 = .ok (.iload_n 2, 1) := by decide +kernel
theorem dX3_serve_18 : decode cX3_serve 18 = .ok (.invokevirtual 68, 3) := by decide +kernel
theorem dX3_serve_21 : decode cX3_serve 21 = .ok (.invokevirtual 45, 3) := by decide +kernel
theorem dX3_serve_24 : decode cX3_serve 24 = .ok (.ireturn, 1) := by decide +kernel
theorem dX3_vary_0 : decode cX3_vary 0 = .ok (.aload_n 0, 1) := by decide +kernel
theorem dX3_vary_1 : decode cX3_vary 1 = .ok (.getfield 30, 3) := by decide +kernel
theorem dX3_vary_4 : decode cX3_vary 4 = .ok (.aload_n 0, 1) := by decide +kernel
theorem dX3_vary_5 : decode cX3_vary 5 = .ok (.getfield 10, 3) := by decide +kernel
theorem dX3_vary_8 : decode cX3_vary 8 = .ok (.invokevirtual 37, 3) := by decide +kernel
theorem dX3_vary_11 : decode cX3_vary 11 = .ok (.aload_n 0, 1) := by decide +kernel
theorem dX3_vary_12 : decode cX3_vary 12 = .ok (.aload_n 0, 1) := by decide +kernel
theorem dX3_vary_13 : decode cX3_vary 13 = .ok (.getfield 10, 3) := by decide +kernel
theorem dX3_vary_16 : decode cX3_vary 16 = .ok (.iload_n 1, 1) := by decide +kernel
theorem dX3_vary_17 : decode cX3_vary 17 = .ok (.iload_n 2, 1) := by decide +kernel
theorem dX3_vary_18 : decode cX3_vary 18 = .ok (.iload_n 3, 1) := by decide +kernel
theorem dX3_vary_19 : decode cX3_vary 19 = .ok (.invokevirtual 71, 3) := by decide +kernel
theorem dX3_vary_22 : decode cX3_vary 22 = .ok (.invokevirtual 45, 3) := by decide +kernel
theorem dX3_vary_25 : decode cX3_vary 25 = .ok (.ireturn, 1) := by decide +kernel
theorem dX3_pass_0 : decode cX3_pass 0 = .ok (.aload_n 0, 1) := by decide +kernel
theorem dX3_pass_1 : decode cX3_pass 1 = .ok (.getfield 30, 3) := by decide +kernel
theorem dX3_pass_4 : decode cX3_pass 4 = .ok (.aload_n 0, 1) := by decide +kernel
theorem dX3_pass_5 : decode cX3_pass 5 = .ok (.getfield 10, 3) := by decide +kernel
theorem dX3_pass_8 : decode cX3_pass 8 = .ok (.invokevirtual 37, 3) := by decide +kernel
theorem dX3_pass_11 : decode cX3_pass 11 = .ok (.aload_n 0, 1) := by decide +kernel
theorem dX3_pass_12 : decode cX3_pass 12 = .ok (.aload_n 0, 1) := by decide +kernel
theorem dX3_pass_13 : decode cX3_pass 13 = .ok (.getfield 10, 3) := by decide +kernel
theorem dX3_pass_16 : decode cX3_pass 16 = .ok (.iload_n 1, 1) := by decide +kernel
theorem dX3_pass_17 : decode cX3_pass 17 = .ok (.invokevirtual 75, 3) := by decide +kernel
theorem dX3_pass_20 : decode cX3_pass 20 = .ok (.invokevirtual 45, 3) := by decide +kernel
theorem dX3_pass_23 : decode cX3_pass 23 = .ok (.ireturn, 1) := by decide +kernel
theorem dX3_set_0 : decode cX3_set 0 = .ok (.aload_n 0, 1) := by decide +kernel
theorem dX3_set_1 : decode cX3_set 1 = .ok (.getfield 30, 3) := by decide +kernel
theorem dX3_set_4 : decode cX3_set 4 = .ok (.aload_n 0, 1) := by decide +kernel
theorem dX3_set_5 : decode cX3_set 5 = .ok (.getfield 10, 3) := by decide +kernel
theorem dX3_set_8 : decode cX3_set 8 = .ok (.invokevirtual 37, 3) := by decide +kernel
theorem dX3_set_11 : decode cX3_set 11 = .ok (.aload_n 0, 1) := by decide +kernel
theorem dX3_set_12 : decode cX3_set 12 = .ok (.aload_n 0, 1) := by decide +kernel
theorem dX3_set_13 : decode cX3_set 13 = .ok (.getfield 10, 3) := by decide +kernel
theorem dX3_set_16 : decode cX3_set 16 = .ok (.iload_n 1, 1) := by decide +kernel
theorem dX3_set_17 : decode cX3_set 17 = .ok (.iload_n 2, 1) := by decide +kernel
theorem dX3_set_18 : decode cX3_set 18 = .ok (.invokevirtual 78, 3) := by decide +kernel
theorem dX3_set_21 : decode cX3_set 21 = .ok (.invokevirtual 45, 3) := by decide +kernel
theorem dX3_set_24 : decode cX3_set 24 = .ok (.ireturn, 1) := by decide +kernel
theorem dX3_conditionOf_0 : decode cX3_conditionOf 0 = .ok (.aload_n 0, 1) := by decide +kernel
theorem dX3_conditionOf_1 : decode cX3_conditionOf 1 = .ok (.getfield 10, 3) := by decide +kernel
theorem dX3_conditionOf_4 : decode cX3_conditionOf 4 = .ok (.iload_n 1, 1) := by decide +kernel
theorem dX3_conditionOf_5 : decode cX3_conditionOf 5 = .ok (.invokevirtual 81, 3) := by decide +kernel
theorem dX3_conditionOf_8 : decode cX3_conditionOf 8 = .ok (.ifCond .ne 6, 3) := by decide +kernel
theorem dX3_conditionOf_11 : decode cX3_conditionOf 11 = .ok (.ldc 85, 2) := by decide +kernel
theorem dX3_conditionOf_13 : decode cX3_conditionOf 13 = .ok (.ireturn, 1) := by decide +kernel
theorem dX3_conditionOf_14 : decode cX3_conditionOf 14 = .ok (.aload_n 0, 1) := by decide +kernel
theorem dX3_conditionOf_15 : decode cX3_conditionOf 15 = .ok (.getfield 10, 3) := by decide +kernel
theorem dX3_conditionOf_18 : decode cX3_conditionOf 18 = .ok (.getfield 86, 3) := by decide +kernel
theorem dX3_conditionOf_21 : decode cX3_conditionOf 21 = .ok (.iload_n 1, 1) := by decide +kernel
theorem dX3_conditionOf_22 : decode cX3_conditionOf 22 = .ok (.aaload, 1) := by decide +kernel
theorem dX3_conditionOf_23 : decode cX3_conditionOf 23 = .ok (.astore_n 3, 1) := by decide +kernel
theorem dX3_conditionOf_24 : decode cX3_conditionOf 24 = .ok (.iload_n 2, 1) := by decide +kernel
theorem dX3_conditionOf_25 : decode cX3_conditionOf 25 = .ok (.tableswitch 163 0 11 #[63, 68, 73, 78, 83, 92, 97, 102, 119, 124, 141, 158], 63) := by decide +kernel
theorem dX3_conditionOf_88 : decode cX3_conditionOf 88 = .ok (.aload_n 3, 1) := by decide +kernel
theorem dX3_conditionOf_89 : decode cX3_conditionOf 89 = .ok (.getfield 90, 3) := by decide +kernel
theorem dX3_conditionOf_92 : decode cX3_conditionOf 92 = .ok (.ireturn, 1) := by decide +kernel
theorem dX3_conditionOf_93 : decode cX3_conditionOf 93 = .ok (.aload_n 3, 1) := by decide +kernel
theorem dX3_conditionOf_94 : decode cX3_conditionOf 94 = .ok (.getfield 95, 3) := by decide +kernel
theorem dX3_conditionOf_97 : decode cX3_conditionOf 97 = .ok (.ireturn, 1) := by decide +kernel
theorem dX3_conditionOf_98 : decode cX3_conditionOf 98 = .ok (.aload_n 3, 1) := by decide +kernel
theorem dX3_conditionOf_99 : decode cX3_conditionOf 99 = .ok (.getfield 98, 3) := by decide +kernel
theorem dX3_conditionOf_102 : decode cX3_conditionOf 102 = .ok (.ireturn, 1) := by decide +kernel
theorem dX3_conditionOf_103 : decode cX3_conditionOf 103 = .ok (.aload_n 3, 1) := by decide +kernel
theorem dX3_conditionOf_104 : decode cX3_conditionOf 104 = .ok (.getfield 101, 3) := by decide +kernel
theorem dX3_conditionOf_107 : decode cX3_conditionOf 107 = .ok (.ireturn, 1) := by decide +kernel
theorem dX3_conditionOf_108 : decode cX3_conditionOf 108 = .ok (.aload_n 0, 1) := by decide +kernel
theorem dX3_conditionOf_109 : decode cX3_conditionOf 109 = .ok (.getfield 10, 3) := by decide +kernel
theorem dX3_conditionOf_112 : decode cX3_conditionOf 112 = .ok (.aload_n 3, 1) := by decide +kernel
theorem dX3_conditionOf_113 : decode cX3_conditionOf 113 = .ok (.invokevirtual 104, 3) := by decide +kernel
theorem dX3_conditionOf_116 : decode cX3_conditionOf 116 = .ok (.ireturn, 1) := by decide +kernel
theorem dX3_conditionOf_117 : decode cX3_conditionOf 117 = .ok (.aload_n 3, 1) := by decide +kernel
theorem dX3_conditionOf_118 : decode cX3_conditionOf 118 = .ok (.getfield 108, 3) := by decide +kernel
theorem dX3_conditionOf_121 : decode cX3_conditionOf 121 = .ok (.ireturn, 1) := by decide +kernel
theorem dX3_conditionOf_122 : decode cX3_conditionOf 122 = .ok (.aload_n 3, 1) := by decide +kernel
theorem dX3_conditionOf_123 : decode cX3_conditionOf 123 = .ok (.getfield 111, 3) := by decide +kernel
theorem dX3_conditionOf_126 : decode cX3_conditionOf 126 = .ok (.ireturn, 1) := by decide +kernel
theorem dX3_conditionOf_127 : decode cX3_conditionOf 127 = .ok (.aload_n 3, 1) := by decide +kernel
theorem dX3_conditionOf_128 : decode cX3_conditionOf 128 = .ok (.getfield 111, 3) := by decide +kernel
theorem dX3_conditionOf_131 : decode cX3_conditionOf 131 = .ok (.ifCond .eq 10, 3) := by decide +kernel
theorem dX3_conditionOf_134 : decode cX3_conditionOf 134 = .ok (.aload_n 3, 1) := by decide +kernel
theorem dX3_conditionOf_135 : decode cX3_conditionOf 135 = .ok (.getfield 114, 3) := by decide +kernel
theorem dX3_conditionOf_138 : decode cX3_conditionOf 138 = .ok (.goto 5, 3) := by decide +kernel
theorem dX3_conditionOf_141 : decode cX3_conditionOf 141 = .ok (.ldc 117, 2) := by decide +kernel
theorem dX3_conditionOf_143 : decode cX3_conditionOf 143 = .ok (.ireturn, 1) := by decide +kernel
theorem dX3_conditionOf_144 : decode cX3_conditionOf 144 = .ok (.aload_n 3, 1) := by decide +kernel
theorem dX3_conditionOf_145 : decode cX3_conditionOf 145 = .ok (.getfield 118, 3) := by decide +kernel
theorem dX3_conditionOf_148 : decode cX3_conditionOf 148 = .ok (.ireturn, 1) := by decide +kernel
theorem dX3_conditionOf_149 : decode cX3_conditionOf 149 = .ok (.aload_n 3, 1) := by decide +kernel
theorem dX3_conditionOf_150 : decode cX3_conditionOf 150 = .ok (.getfield 121, 3) := by decide +kernel
theorem dX3_conditionOf_153 : decode cX3_conditionOf 153 = .ok (.ifCond .eq 10, 3) := by decide +kernel
theorem dX3_conditionOf_156 : decode cX3_conditionOf 156 = .ok (.aload_n 3, 1) := by decide +kernel
theorem dX3_conditionOf_157 : decode cX3_conditionOf 157 = .ok (.getfield 125, 3) := by decide +kernel
theorem dX3_conditionOf_160 : decode cX3_conditionOf 160 = .ok (.goto 5, 3) := by decide +kernel
theorem dX3_conditionOf_163 : decode cX3_conditionOf 163 = .ok (.ldc 117, 2) := by decide +kernel
theorem dX3_conditionOf_165 : decode cX3_conditionOf 165 = .ok (.ireturn, 1) := by decide +kernel
theorem dX3_conditionOf_166 : decode cX3_conditionOf 166 = .ok (.aload_n 3, 1) := by decide +kernel
theorem dX3_conditionOf_167 : decode cX3_conditionOf 167 = .ok (.getfield 128, 3) := by decide +kernel
theorem dX3_conditionOf_170 : decode cX3_conditionOf 170 = .ok (.ifCond .eq 10, 3) := by decide +kernel
theorem dX3_conditionOf_173 : decode cX3_conditionOf 173 = .ok (.aload_n 3, 1) := by decide +kernel
theorem dX3_conditionOf_174 : decode cX3_conditionOf 174 = .ok (.getfield 131, 3) := by decide +kernel
theorem dX3_conditionOf_177 : decode cX3_conditionOf 177 = .ok (.goto 5, 3) := by decide +kernel
theorem dX3_conditionOf_180 : decode cX3_conditionOf 180 = .ok (.ldc 117, 2) := by decide +kernel
theorem dX3_conditionOf_182 : decode cX3_conditionOf 182 = .ok (.ireturn, 1) := by decide +kernel
theorem dX3_conditionOf_183 : decode cX3_conditionOf 183 = .ok (.aload_n 3, 1) := by decide +kernel
theorem dX3_conditionOf_184 : decode cX3_conditionOf 184 = .ok (.getfield 134, 3) := by decide +kernel
theorem dX3_conditionOf_187 : decode cX3_conditionOf 187 = .ok (.ireturn, 1) := by decide +kernel
theorem dX3_conditionOf_188 : decode cX3_conditionOf 188 = .ok (.ldc 85, 2) := by decide +kernel
theorem dX3_conditionOf_190 : decode cX3_conditionOf 190 = .ok (.ireturn, 1) := by decide +kernel
theorem dX3_stageOf_0 : decode cX3_stageOf 0 = .ok (.iload_n 1, 1) := by decide +kernel
theorem dX3_stageOf_1 : decode cX3_stageOf 1 = .ok (.iconst 0, 1) := by decide +kernel
theorem dX3_stageOf_2 : decode cX3_stageOf 2 = .ok (.iconst 4, 1) := by decide +kernel
theorem dX3_stageOf_3 : decode cX3_stageOf 3 = .ok (.invokestatic 137, 3) := by decide +kernel
theorem dX3_stageOf_6 : decode cX3_stageOf 6 = .ok (.ifCond .ne 6, 3) := by decide +kernel
theorem dX3_stageOf_9 : decode cX3_stageOf 9 = .ok (.ldc 85, 2) := by decide +kernel
theorem dX3_stageOf_11 : decode cX3_stageOf 11 = .ok (.ireturn, 1) := by decide +kernel
theorem dX3_stageOf_12 : decode cX3_stageOf 12 = .ok (.iload_n 2, 1) := by decide +kernel
theorem dX3_stageOf_13 : decode cX3_stageOf 13 = .ok (.tableswitch 101 0 3 #[31, 40, 66, 92], 31) := by decide +kernel
theorem dX3_stageOf_44 : decode cX3_stageOf 44 = .ok (.aload_n 0, 1) := by decide +kernel
theorem dX3_stageOf_45 : decode cX3_stageOf 45 = .ok (.getfield 10, 3) := by decide +kernel
theorem dX3_stageOf_48 : decode cX3_stageOf 48 = .ok (.iload_n 1, 1) := by decide +kernel
theorem dX3_stageOf_49 : decode cX3_stageOf 49 = .ok (.invokevirtual 141, 3) := by decide +kernel
theorem dX3_stageOf_52 : decode cX3_stageOf 52 = .ok (.ireturn, 1) := by decide +kernel
theorem dX3_stageOf_53 : decode cX3_stageOf 53 = .ok (.aload_n 0, 1) := by decide +kernel
theorem dX3_stageOf_54 : decode cX3_stageOf 54 = .ok (.getfield 10, 3) := by decide +kernel
theorem dX3_stageOf_57 : decode cX3_stageOf 57 = .ok (.iload_n 1, 1) := by decide +kernel
theorem dX3_stageOf_58 : decode cX3_stageOf 58 = .ok (.invokevirtual 144, 3) := by decide +kernel
theorem dX3_stageOf_61 : decode cX3_stageOf 61 = .ok (.ifCond .eq 15, 3) := by decide +kernel
theorem dX3_stageOf_64 : decode cX3_stageOf 64 = .ok (.aload_n 0, 1) := by decide +kernel
theorem dX3_stageOf_65 : decode cX3_stageOf 65 = .ok (.getfield 10, 3) := by decide +kernel
theorem dX3_stageOf_68 : decode cX3_stageOf 68 = .ok (.getfield 147, 3) := by decide +kernel
theorem dX3_stageOf_71 : decode cX3_stageOf 71 = .ok (.iload_n 1, 1) := by decide +kernel
theorem dX3_stageOf_72 : decode cX3_stageOf 72 = .ok (.iaload, 1) := by decide +kernel
theorem dX3_stageOf_73 : decode cX3_stageOf 73 = .ok (.goto 5, 3) := by decide +kernel
theorem dX3_stageOf_76 : decode cX3_stageOf 76 = .ok (.ldc 117, 2) := by decide +kernel
theorem dX3_stageOf_78 : decode cX3_stageOf 78 = .ok (.ireturn, 1) := by decide +kernel
theorem dX3_stageOf_79 : decode cX3_stageOf 79 = .ok (.aload_n 0, 1) := by decide +kernel
theorem dX3_stageOf_80 : decode cX3_stageOf 80 = .ok (.getfield 10, 3) := by decide +kernel
theorem dX3_stageOf_83 : decode cX3_stageOf 83 = .ok (.iload_n 1, 1) := by decide +kernel
theorem dX3_stageOf_84 : decode cX3_stageOf 84 = .ok (.invokevirtual 151, 3) := by decide +kernel
theorem dX3_stageOf_87 : decode cX3_stageOf 87 = .ok (.ifCond .eq 15, 3) := by decide +kernel
theorem dX3_stageOf_90 : decode cX3_stageOf 90 = .ok (.aload_n 0, 1) := by decide +kernel
theorem dX3_stageOf_91 : decode cX3_stageOf 91 = .ok (.getfield 10, 3) := by decide +kernel
theorem dX3_stageOf_94 : decode cX3_stageOf 94 = .ok (.getfield 154, 3) := by decide +kernel
theorem dX3_stageOf_97 : decode cX3_stageOf 97 = .ok (.iload_n 1, 1) := by decide +kernel
theorem dX3_stageOf_98 : decode cX3_stageOf 98 = .ok (.iaload, 1) := by decide +kernel
theorem dX3_stageOf_99 : decode cX3_stageOf 99 = .ok (.goto 5, 3) := by decide +kernel
theorem dX3_stageOf_102 : decode cX3_stageOf 102 = .ok (.ldc 117, 2) := by decide +kernel
theorem dX3_stageOf_104 : decode cX3_stageOf 104 = .ok (.ireturn, 1) := by decide +kernel
theorem dX3_stageOf_105 : decode cX3_stageOf 105 = .ok (.aload_n 0, 1) := by decide +kernel
theorem dX3_stageOf_106 : decode cX3_stageOf 106 = .ok (.getfield 10, 3) := by decide +kernel
theorem dX3_stageOf_109 : decode cX3_stageOf 109 = .ok (.iload_n 1, 1) := by decide +kernel
theorem dX3_stageOf_110 : decode cX3_stageOf 110 = .ok (.invokevirtual 157, 3) := by decide +kernel
theorem dX3_stageOf_113 : decode cX3_stageOf 113 = .ok (.ireturn, 1) := by decide +kernel
theorem dX3_stageOf_114 : decode cX3_stageOf 114 = .ok (.ldc 85, 2) := by decide +kernel
theorem dX3_stageOf_116 : decode cX3_stageOf 116 = .ok (.ireturn, 1) := by decide +kernel
theorem dX3_which_0 : decode cX3_which 0 = .ok (.iload_n 1, 1) := by decide +kernel
theorem dX3_which_1 : decode cX3_which 1 = .ok (.iconst 0, 1) := by decide +kernel
theorem dX3_which_2 : decode cX3_which 2 = .ok (.iconst 4, 1) := by decide +kernel
theorem dX3_which_3 : decode cX3_which 3 = .ok (.invokestatic 137, 3) := by decide +kernel
theorem dX3_which_6 : decode cX3_which 6 = .ok (.ifCond .ne 6, 3) := by decide +kernel
theorem dX3_which_9 : decode cX3_which 9 = .ok (.ldc 85, 2) := by decide +kernel
theorem dX3_which_11 : decode cX3_which 11 = .ok (.ireturn, 1) := by decide +kernel
theorem dX3_which_12 : decode cX3_which 12 = .ok (.aload_n 0, 1) := by decide +kernel
theorem dX3_which_13 : decode cX3_which 13 = .ok (.getfield 10, 3) := by decide +kernel
theorem dX3_which_16 : decode cX3_which 16 = .ok (.iload_n 1, 1) := by decide +kernel
theorem dX3_which_17 : decode cX3_which 17 = .ok (.invokevirtual 160, 3) := by decide +kernel
theorem dX3_which_20 : decode cX3_which 20 = .ok (.ireturn, 1) := by decide +kernel
theorem dX3_when_0 : decode cX3_when 0 = .ok (.aload_n 0, 1) := by decide +kernel
theorem dX3_when_1 : decode cX3_when 1 = .ok (.getfield 10, 3) := by decide +kernel
theorem dX3_when_4 : decode cX3_when 4 = .ok (.iload_n 1, 1) := by decide +kernel
theorem dX3_when_5 : decode cX3_when 5 = .ok (.invokevirtual 81, 3) := by decide +kernel
theorem dX3_when_8 : decode cX3_when 8 = .ok (.ifCond .eq 12, 3) := by decide +kernel
theorem dX3_when_11 : decode cX3_when 11 = .ok (.iload_n 2, 1) := by decide +kernel
theorem dX3_when_12 : decode cX3_when 12 = .ok (.iconst 0, 1) := by decide +kernel
theorem dX3_when_13 : decode cX3_when 13 = .ok (.iconst 4, 1) := by decide +kernel
theorem dX3_when_14 : decode cX3_when 14 = .ok (.invokestatic 137, 3) := by decide +kernel
theorem dX3_when_17 : decode cX3_when 17 = .ok (.ifCond .ne 6, 3) := by decide +kernel
theorem dX3_when_20 : decode cX3_when 20 = .ok (.ldc 85, 2) := by decide +kernel
theorem dX3_when_22 : decode cX3_when 22 = .ok (.ireturn, 1) := by decide +kernel
theorem dX3_when_23 : decode cX3_when 23 = .ok (.aload_n 0, 1) := by decide +kernel
theorem dX3_when_24 : decode cX3_when 24 = .ok (.getfield 16, 3) := by decide +kernel
theorem dX3_when_27 : decode cX3_when 27 = .ok (.aload_n 0, 1) := by decide +kernel
theorem dX3_when_28 : decode cX3_when 28 = .ok (.getfield 10, 3) := by decide +kernel
theorem dX3_when_31 : decode cX3_when 31 = .ok (.invokevirtual 37, 3) := by decide +kernel
theorem dX3_when_34 : decode cX3_when 34 = .ok (.aload_n 0, 1) := by decide +kernel
theorem dX3_when_35 : decode cX3_when 35 = .ok (.getfield 16, 3) := by decide +kernel
theorem dX3_when_38 : decode cX3_when 38 = .ok (.iload_n 1, 1) := by decide +kernel
theorem dX3_when_39 : decode cX3_when 39 = .ok (.iload_n 2, 1) := by decide +kernel
theorem dX3_when_40 : decode cX3_when 40 = .ok (.invokevirtual 163, 3) := by decide +kernel
theorem dX3_when_43 : decode cX3_when 43 = .ok (.ireturn, 1) := by decide +kernel
theorem dX3_lawful_0 : decode cX3_lawful 0 = .ok (.iload_n 1, 1) := by decide +kernel
theorem dX3_lawful_1 : decode cX3_lawful 1 = .ok (.iconst 0, 1) := by decide +kernel
theorem dX3_lawful_2 : decode cX3_lawful 2 = .ok (.iconst 4, 1) := by decide +kernel
theorem dX3_lawful_3 : decode cX3_lawful 3 = .ok (.invokestatic 137, 3) := by decide +kernel
theorem dX3_lawful_6 : decode cX3_lawful 6 = .ok (.ifCond .ne 6, 3) := by decide +kernel
theorem dX3_lawful_9 : decode cX3_lawful 9 = .ok (.ldc 85, 2) := by decide +kernel
theorem dX3_lawful_11 : decode cX3_lawful 11 = .ok (.ireturn, 1) := by decide +kernel
theorem dX3_lawful_12 : decode cX3_lawful 12 = .ok (.aload_n 0, 1) := by decide +kernel
theorem dX3_lawful_13 : decode cX3_lawful 13 = .ok (.getfield 10, 3) := by decide +kernel
theorem dX3_lawful_16 : decode cX3_lawful 16 = .ok (.iload_n 1, 1) := by decide +kernel
theorem dX3_lawful_17 : decode cX3_lawful 17 = .ok (.invokevirtual 166, 3) := by decide +kernel
theorem dX3_lawful_20 : decode cX3_lawful 20 = .ok (.ifCond .ne 6, 3) := by decide +kernel
theorem dX3_lawful_23 : decode cX3_lawful 23 = .ok (.ldc 169, 2) := by decide +kernel
theorem dX3_lawful_25 : decode cX3_lawful 25 = .ok (.ireturn, 1) := by decide +kernel
theorem dX3_lawful_26 : decode cX3_lawful 26 = .ok (.aload_n 0, 1) := by decide +kernel
theorem dX3_lawful_27 : decode cX3_lawful 27 = .ok (.getfield 16, 3) := by decide +kernel
theorem dX3_lawful_30 : decode cX3_lawful 30 = .ok (.aload_n 0, 1) := by decide +kernel
theorem dX3_lawful_31 : decode cX3_lawful 31 = .ok (.getfield 10, 3) := by decide +kernel
theorem dX3_lawful_34 : decode cX3_lawful 34 = .ok (.invokevirtual 37, 3) := by decide +kernel
theorem dX3_lawful_37 : decode cX3_lawful 37 = .ok (.aload_n 0, 1) := by decide +kernel
theorem dX3_lawful_38 : decode cX3_lawful 38 = .ok (.getfield 16, 3) := by decide +kernel
theorem dX3_lawful_41 : decode cX3_lawful 41 = .ok (.iload_n 1, 1) := by decide +kernel
theorem dX3_lawful_42 : decode cX3_lawful 42 = .ok (.invokevirtual 170, 3) := by decide +kernel
theorem dX3_lawful_45 : decode cX3_lawful 45 = .ok (.ireturn, 1) := by decide +kernel
theorem dX3_fine_0 : decode cX3_fine 0 = .ok (.aload_n 0, 1) := by decide +kernel
theorem dX3_fine_1 : decode cX3_fine 1 = .ok (.getfield 10, 3) := by decide +kernel
theorem dX3_fine_4 : decode cX3_fine 4 = .ok (.iload_n 1, 1) := by decide +kernel
theorem dX3_fine_5 : decode cX3_fine 5 = .ok (.invokevirtual 81, 3) := by decide +kernel
theorem dX3_fine_8 : decode cX3_fine 8 = .ok (.ifCond .eq 17, 3) := by decide +kernel
theorem dX3_fine_11 : decode cX3_fine 11 = .ok (.lload_n 2, 1) := by decide +kernel
theorem dX3_fine_12 : decode cX3_fine 12 = .ok (.lconst 1, 1) := by decide +kernel
theorem dX3_fine_13 : decode cX3_fine 13 = .ok (.lcmp, 1) := by decide +kernel
theorem dX3_fine_14 : decode cX3_fine 14 = .ok (.ifCond .lt 11, 3) := by decide +kernel
theorem dX3_fine_17 : decode cX3_fine 17 = .ok (.lload_n 2, 1) := by decide +kernel
theorem dX3_fine_18 : decode cX3_fine 18 = .ok (.ldc2_w 173, 3) := by decide +kernel
theorem dX3_fine_21 : decode cX3_fine 21 = .ok (.lcmp, 1) := by decide +kernel
theorem dX3_fine_22 : decode cX3_fine 22 = .ok (.ifCond .le 7, 3) := by decide +kernel
theorem dX3_fine_25 : decode cX3_fine 25 = .ok (.ldc2_w 175, 3) := by decide +kernel
theorem dX3_fine_28 : decode cX3_fine 28 = .ok (.lreturn, 1) := by decide +kernel
theorem dX3_fine_29 : decode cX3_fine 29 = .ok (.aload_n 0, 1) := by decide +kernel
theorem dX3_fine_30 : decode cX3_fine 30 = .ok (.getfield 10, 3) := by decide +kernel
theorem dX3_fine_33 : decode cX3_fine 33 = .ok (.getfield 86, 3) := by decide +kernel
theorem dX3_fine_36 : decode cX3_fine 36 = .ok (.iload_n 1, 1) := by decide +kernel
theorem dX3_fine_37 : decode cX3_fine 37 = .ok (.aaload, 1) := by decide +kernel
theorem dX3_fine_38 : decode cX3_fine 38 = .ok (.getfield 134, 3) := by decide +kernel
theorem dX3_fine_41 : decode cX3_fine 41 = .ok (.i2l, 1) := by decide +kernel
theorem dX3_fine_42 : decode cX3_fine 42 = .ok (.lstore 4, 2) := by decide +kernel
theorem dX3_fine_44 : decode cX3_fine 44 = .ok (.lload 4, 2) := by decide +kernel
theorem dX3_fine_46 : decode cX3_fine 46 = .ok (.lload 4, 2) := by decide +kernel
theorem dX3_fine_48 : decode cX3_fine 48 = .ok (.lmul, 1) := by decide +kernel
theorem dX3_fine_49 : decode cX3_fine 49 = .ok (.lstore 6, 2) := by decide +kernel
theorem dX3_fine_51 : decode cX3_fine 51 = .ok (.lload 6, 2) := by decide +kernel
theorem dX3_fine_53 : decode cX3_fine 53 = .ok (.lconst 0, 1) := by decide +kernel
theorem dX3_fine_54 : decode cX3_fine 54 = .ok (.lcmp, 1) := by decide +kernel
theorem dX3_fine_55 : decode cX3_fine 55 = .ok (.ifCond .le 18, 3) := by decide +kernel
theorem dX3_fine_58 : decode cX3_fine 58 = .ok (.lload_n 2, 1) := by decide +kernel
theorem dX3_fine_59 : decode cX3_fine 59 = .ok (.ldc2_w 177, 3) := by decide +kernel
theorem dX3_fine_62 : decode cX3_fine 62 = .ok (.lload 6, 2) := by decide +kernel
theorem dX3_fine_64 : decode cX3_fine 64 = .ok (.ldiv, 1) := by decide +kernel
theorem dX3_fine_65 : decode cX3_fine 65 = .ok (.lcmp, 1) := by decide +kernel
theorem dX3_fine_66 : decode cX3_fine 66 = .ok (.ifCond .le 7, 3) := by decide +kernel
theorem dX3_fine_69 : decode cX3_fine 69 = .ok (.ldc2_w 179, 3) := by decide +kernel
theorem dX3_fine_72 : decode cX3_fine 72 = .ok (.lreturn, 1) := by decide +kernel
theorem dX3_fine_73 : decode cX3_fine 73 = .ok (.lload_n 2, 1) := by decide +kernel
theorem dX3_fine_74 : decode cX3_fine 74 = .ok (.lload 6, 2) := by decide +kernel
theorem dX3_fine_76 : decode cX3_fine 76 = .ok (.lmul, 1) := by decide +kernel
theorem dX3_fine_77 : decode cX3_fine 77 = .ok (.lreturn, 1) := by decide +kernel
theorem dX3_share_0 : decode cX3_share 0 = .ok (.aload_n 0, 1) := by decide +kernel
theorem dX3_share_1 : decode cX3_share 1 = .ok (.getfield 10, 3) := by decide +kernel
theorem dX3_share_4 : decode cX3_share 4 = .ok (.getfield 181, 3) := by decide +kernel
theorem dX3_share_7 : decode cX3_share 7 = .ok (.istore_n 1, 1) := by decide +kernel
theorem dX3_share_8 : decode cX3_share 8 = .ok (.iload_n 1, 1) := by decide +kernel
theorem dX3_share_9 : decode cX3_share 9 = .ok (.ifCond .gt 6, 3) := by decide +kernel
theorem dX3_share_12 : decode cX3_share 12 = .ok (.ldc 117, 2) := by decide +kernel
theorem dX3_share_14 : decode cX3_share 14 = .ok (.ireturn, 1) := by decide +kernel
theorem dX3_share_15 : decode cX3_share 15 = .ok (.aload_n 0, 1) := by decide +kernel
theorem dX3_share_16 : decode cX3_share 16 = .ok (.getfield 10, 3) := by decide +kernel
theorem dX3_share_19 : decode cX3_share 19 = .ok (.iconst 2, 1) := by decide +kernel
theorem dX3_share_20 : decode cX3_share 20 = .ok (.invokevirtual 160, 3) := by decide +kernel
theorem dX3_share_23 : decode cX3_share 23 = .ok (.invokestatic 184, 3) := by decide +kernel
theorem dX3_share_26 : decode cX3_share 26 = .ok (.istore_n 2, 1) := by decide +kernel
theorem dX3_share_27 : decode cX3_share 27 = .ok (.iload_n 2, 1) := by decide +kernel
theorem dX3_share_28 : decode cX3_share 28 = .ok (.i2f, 1) := by decide +kernel
theorem dX3_share_29 : decode cX3_share 29 = .ok (.iload_n 1, 1) := by decide +kernel
theorem dX3_share_30 : decode cX3_share 30 = .ok (.i2f, 1) := by decide +kernel
theorem dX3_share_31 : decode cX3_share 31 = .ok (.fdiv, 1) := by decide +kernel
theorem dX3_share_32 : decode cX3_share 32 = .ok (.invokestatic 189, 3) := by decide +kernel
theorem dX3_share_35 : decode cX3_share 35 = .ok (.ireturn, 1) := by decide +kernel
theorem dX3_count_0 : decode cX3_count 0 = .ok (.iload_n 1, 1) := by decide +kernel
theorem dX3_count_1 : decode cX3_count 1 = .ok (.tableswitch 180 0 21 #[103, 111, 119, 127, 135, 143, 151, 156, 180, 180, 180, 180, 180, 180, 180, 180, 180, 180, 180, 180, 164, 172], 103) := by decide +kernel
theorem dX3_count_104 : decode cX3_count 104 = .ok (.aload_n 0, 1) := by decide +kernel
theorem dX3_count_105 : decode cX3_count 105 = .ok (.getfield 10, 3) := by decide +kernel
theorem dX3_count_108 : decode cX3_count 108 = .ok (.getfield 181, 3) := by decide +kernel
theorem dX3_count_111 : decode cX3_count 111 = .ok (.ireturn, 1) := by decide +kernel
theorem dX3_count_112 : decode cX3_count 112 = .ok (.aload_n 0, 1) := by decide +kernel
theorem dX3_count_113 : decode cX3_count 113 = .ok (.getfield 10, 3) := by decide +kernel
theorem dX3_count_116 : decode cX3_count 116 = .ok (.getfield 193, 3) := by decide +kernel
theorem dX3_count_119 : decode cX3_count 119 = .ok (.ireturn, 1) := by decide +kernel
theorem dX3_count_120 : decode cX3_count 120 = .ok (.aload_n 0, 1) := by decide +kernel
theorem dX3_count_121 : decode cX3_count 121 = .ok (.getfield 10, 3) := by decide +kernel
theorem dX3_count_124 : decode cX3_count 124 = .ok (.invokevirtual 196, 3) := by decide +kernel
theorem dX3_count_127 : decode cX3_count 127 = .ok (.ireturn, 1) := by decide +kernel
theorem dX3_count_128 : decode cX3_count 128 = .ok (.aload_n 0, 1) := by decide +kernel
theorem dX3_count_129 : decode cX3_count 129 = .ok (.getfield 10, 3) := by decide +kernel
theorem dX3_count_132 : decode cX3_count 132 = .ok (.invokevirtual 200, 3) := by decide +kernel
theorem dX3_count_135 : decode cX3_count 135 = .ok (.ireturn, 1) := by decide +kernel
theorem dX3_count_136 : decode cX3_count 136 = .ok (.aload_n 0, 1) := by decide +kernel
theorem dX3_count_137 : decode cX3_count 137 = .ok (.getfield 10, 3) := by decide +kernel
theorem dX3_count_140 : decode cX3_count 140 = .ok (.getfield 203, 3) := by decide +kernel
theorem dX3_count_143 : decode cX3_count 143 = .ok (.ireturn, 1) := by decide +kernel
theorem dX3_count_144 : decode cX3_count 144 = .ok (.aload_n 0, 1) := by decide +kernel
theorem dX3_count_145 : decode cX3_count 145 = .ok (.getfield 10, 3) := by decide +kernel
theorem dX3_count_148 : decode cX3_count 148 = .ok (.getfield 206, 3) := by decide +kernel
theorem dX3_count_151 : decode cX3_count 151 = .ok (.ireturn, 1) := by decide +kernel
theorem dX3_count_152 : decode cX3_count 152 = .ok (.aload_n 0, 1) := by decide +kernel
theorem dX3_count_153 : decode cX3_count 153 = .ok (.getfield 33, 3) := by decide +kernel
theorem dX3_count_156 : decode cX3_count 156 = .ok (.ireturn, 1) := by decide +kernel
theorem dX3_count_157 : decode cX3_count 157 = .ok (.aload_n 0, 1) := by decide +kernel
theorem dX3_count_158 : decode cX3_count 158 = .ok (.getfield 26, 3) := by decide +kernel
theorem dX3_count_161 : decode cX3_count 161 = .ok (.getfield 209, 3) := by decide +kernel
theorem dX3_count_164 : decode cX3_count 164 = .ok (.ireturn, 1) := by decide +kernel
theorem dX3_count_165 : decode cX3_count 165 = .ok (.aload_n 0, 1) := by decide +kernel
theorem dX3_count_166 : decode cX3_count 166 = .ok (.getfield 10, 3) := by decide +kernel
theorem dX3_count_169 : decode cX3_count 169 = .ok (.getfield 212, 3) := by decide +kernel
theorem dX3_count_172 : decode cX3_count 172 = .ok (.ireturn, 1) := by decide +kernel
theorem dX3_count_173 : decode cX3_count 173 = .ok (.aload_n 0, 1) := by decide +kernel
theorem dX3_count_174 : decode cX3_count 174 = .ok (.getfield 10, 3) := by decide +kernel
theorem dX3_count_177 : decode cX3_count 177 = .ok (.getfield 215, 3) := by decide +kernel
theorem dX3_count_180 : decode cX3_count 180 = .ok (.ireturn, 1) := by decide +kernel
theorem dX3_count_181 : decode cX3_count 181 = .ok (.ldc 85, 2) := by decide +kernel
theorem dX3_count_183 : decode cX3_count 183 = .ok (.ireturn, 1) := by decide +kernel
theorem dX3_undo_0 : decode cX3_undo 0 = .ok (.aload_n 0, 1) := by decide +kernel
theorem dX3_undo_1 : decode cX3_undo 1 = .ok (.getfield 33, 3) := by decide +kernel
theorem dX3_undo_4 : decode cX3_undo 4 = .ok (.ifCond .gt 6, 3) := by decide +kernel
theorem dX3_undo_7 : decode cX3_undo 7 = .ok (.ldc 169, 2) := by decide +kernel
theorem dX3_undo_9 : decode cX3_undo 9 = .ok (.ireturn, 1) := by decide +kernel
theorem dX3_undo_10 : decode cX3_undo 10 = .ok (.aload_n 0, 1) := by decide +kernel
theorem dX3_undo_11 : decode cX3_undo 11 = .ok (.dup, 1) := by decide +kernel
theorem dX3_undo_12 : decode cX3_undo 12 = .ok (.getfield 33, 3) := by decide +kernel
theorem dX3_undo_15 : decode cX3_undo 15 = .ok (.iconst 1, 1) := by decide +kernel
theorem dX3_undo_16 : decode cX3_undo 16 = .ok (.isub, 1) := by decide +kernel
theorem dX3_undo_17 : decode cX3_undo 17 = .ok (.putfield 33, 3) := by decide +kernel
end
section
-- decode rows out of the printed list of the task
theorem dX3_undo_20 : decode cX3_undo 20 = .ok (.aload_n 0, 1) := by decide +kernel
theorem dX3_undo_21 : decode cX3_undo 21 = .ok (.getfield 10, 3) := by decide +kernel
theorem dX3_undo_24 : decode cX3_undo 24 = .ok (.aload_n 0, 1) := by decide +kernel
theorem dX3_undo_25 : decode cX3_undo 25 = .ok (.getfield 19, 3) := by decide +kernel
theorem dX3_undo_28 : decode cX3_undo 28 = .ok (.aload_n 0, 1) := by decide +kernel
theorem dX3_undo_29 : decode cX3_undo 29 = .ok (.getfield 33, 3) := by decide +kernel
theorem dX3_undo_32 : decode cX3_undo 32 = .ok (.aaload, 1) := by decide +kernel
theorem dX3_undo_33 : decode cX3_undo 33 = .ok (.invokevirtual 37, 3) := by decide +kernel
theorem dX3_undo_36 : decode cX3_undo 36 = .ok (.aload_n 0, 1) := by decide +kernel
theorem dX3_undo_37 : decode cX3_undo 37 = .ok (.getfield 33, 3) := by decide +kernel
theorem dX3_undo_40 : decode cX3_undo 40 = .ok (.ireturn, 1) := by decide +kernel
theorem dX3_type_0 : decode cX3_type 0 = .ok (.iload_n 1, 1) := by decide +kernel
theorem dX3_type_1 : decode cX3_type 1 = .ok (.bipush 32, 2) := by decide +kernel
theorem dX3_type_3 : decode cX3_type 3 = .ok (.bipush 126, 2) := by decide +kernel
theorem dX3_type_5 : decode cX3_type 5 = .ok (.invokestatic 137, 3) := by decide +kernel
theorem dX3_type_8 : decode cX3_type 8 = .ok (.ifCond .ne 6, 3) := by decide +kernel
theorem dX3_type_11 : decode cX3_type 11 = .ok (.ldc 85, 2) := by decide +kernel
theorem dX3_type_13 : decode cX3_type 13 = .ok (.ireturn, 1) := by decide +kernel
theorem dX3_type_14 : decode cX3_type 14 = .ok (.aload_n 0, 1) := by decide +kernel
theorem dX3_type_15 : decode cX3_type 15 = .ok (.getfield 26, 3) := by decide +kernel
theorem dX3_type_18 : decode cX3_type 18 = .ok (.iload_n 1, 1) := by decide +kernel
theorem dX3_type_19 : decode cX3_type 19 = .ok (.i2c, 1) := by decide +kernel
theorem dX3_type_20 : decode cX3_type 20 = .ok (.invokevirtual 218, 3) := by decide +kernel
theorem dX3_type_23 : decode cX3_type 23 = .ok (.ireturn, 1) := by decide +kernel
theorem dX3_clearText_0 : decode cX3_clearText 0 = .ok (.aload_n 0, 1) := by decide +kernel
theorem dX3_clearText_1 : decode cX3_clearText 1 = .ok (.getfield 26, 3) := by decide +kernel
theorem dX3_clearText_4 : decode cX3_clearText 4 = .ok (.invokevirtual 222, 3) := by decide +kernel
theorem dX3_clearText_7 : decode cX3_clearText 7 = .ok (.ireturn, 1) := by decide +kernel
theorem dX3_fault_0 : decode cX3_fault 0 = .ok (.iload_n 1, 1) := by decide +kernel
theorem dX3_fault_1 : decode cX3_fault 1 = .ok (.iconst 0, 1) := by decide +kernel
theorem dX3_fault_2 : decode cX3_fault 2 = .ok (.iconst 2, 1) := by decide +kernel
theorem dX3_fault_3 : decode cX3_fault 3 = .ok (.invokestatic 137, 3) := by decide +kernel
theorem dX3_fault_6 : decode cX3_fault 6 = .ok (.ifCond .ne 6, 3) := by decide +kernel
theorem dX3_fault_9 : decode cX3_fault 9 = .ok (.ldc 85, 2) := by decide +kernel
theorem dX3_fault_11 : decode cX3_fault 11 = .ok (.ireturn, 1) := by decide +kernel
theorem dX3_fault_12 : decode cX3_fault 12 = .ok (.aload_n 0, 1) := by decide +kernel
theorem dX3_fault_13 : decode cX3_fault 13 = .ok (.getfield 16, 3) := by decide +kernel
theorem dX3_fault_16 : decode cX3_fault 16 = .ok (.aload_n 0, 1) := by decide +kernel
theorem dX3_fault_17 : decode cX3_fault 17 = .ok (.getfield 10, 3) := by decide +kernel
theorem dX3_fault_20 : decode cX3_fault 20 = .ok (.invokevirtual 37, 3) := by decide +kernel
theorem dX3_fault_23 : decode cX3_fault 23 = .ok (.aload_n 0, 1) := by decide +kernel
theorem dX3_fault_24 : decode cX3_fault 24 = .ok (.getfield 26, 3) := by decide +kernel
theorem dX3_fault_27 : decode cX3_fault 27 = .ok (.aload_n 0, 1) := by decide +kernel
theorem dX3_fault_28 : decode cX3_fault 28 = .ok (.getfield 16, 3) := by decide +kernel
theorem dX3_fault_31 : decode cX3_fault 31 = .ok (.invokevirtual 225, 3) := by decide +kernel
theorem dX3_fault_34 : decode cX3_fault 34 = .ok (.pop, 1) := by decide +kernel
theorem dX3_fault_35 : decode cX3_fault 35 = .ok (.aload_n 0, 1) := by decide +kernel
theorem dX3_fault_36 : decode cX3_fault 36 = .ok (.getfield 26, 3) := by decide +kernel
theorem dX3_fault_39 : decode cX3_fault 39 = .ok (.getfield 229, 3) := by decide +kernel
theorem dX3_fault_42 : decode cX3_fault 42 = .ok (.ifCond .ne 6, 3) := by decide +kernel
theorem dX3_fault_45 : decode cX3_fault 45 = .ok (.ldc 117, 2) := by decide +kernel
theorem dX3_fault_47 : decode cX3_fault 47 = .ok (.ireturn, 1) := by decide +kernel
theorem dX3_fault_48 : decode cX3_fault 48 = .ok (.iload_n 1, 1) := by decide +kernel
theorem dX3_fault_49 : decode cX3_fault 49 = .ok (.lookupswitch 43 #[(0, 27), (1, 35)], 27) := by decide +kernel
theorem dX3_fault_76 : decode cX3_fault 76 = .ok (.aload_n 0, 1) := by decide +kernel
theorem dX3_fault_77 : decode cX3_fault 77 = .ok (.getfield 26, 3) := by decide +kernel
theorem dX3_fault_80 : decode cX3_fault 80 = .ok (.getfield 232, 3) := by decide +kernel
theorem dX3_fault_83 : decode cX3_fault 83 = .ok (.ireturn, 1) := by decide +kernel
theorem dX3_fault_84 : decode cX3_fault 84 = .ok (.aload_n 0, 1) := by decide +kernel
theorem dX3_fault_85 : decode cX3_fault 85 = .ok (.getfield 26, 3) := by decide +kernel
theorem dX3_fault_88 : decode cX3_fault 88 = .ok (.getfield 229, 3) := by decide +kernel
theorem dX3_fault_91 : decode cX3_fault 91 = .ok (.ireturn, 1) := by decide +kernel
theorem dX3_fault_92 : decode cX3_fault 92 = .ok (.aload_n 0, 1) := by decide +kernel
theorem dX3_fault_93 : decode cX3_fault 93 = .ok (.getfield 26, 3) := by decide +kernel
theorem dX3_fault_96 : decode cX3_fault 96 = .ok (.getfield 235, 3) := by decide +kernel
theorem dX3_fault_99 : decode cX3_fault 99 = .ok (.ireturn, 1) := by decide +kernel
theorem dX3_play_0 : decode cX3_play 0 = .ok (.aload_n 0, 1) := by decide +kernel
theorem dX3_play_1 : decode cX3_play 1 = .ok (.getfield 16, 3) := by decide +kernel
theorem dX3_play_4 : decode cX3_play 4 = .ok (.aload_n 0, 1) := by decide +kernel
theorem dX3_play_5 : decode cX3_play 5 = .ok (.getfield 10, 3) := by decide +kernel
theorem dX3_play_8 : decode cX3_play 8 = .ok (.invokevirtual 37, 3) := by decide +kernel
theorem dX3_play_11 : decode cX3_play 11 = .ok (.aload_n 0, 1) := by decide +kernel
theorem dX3_play_12 : decode cX3_play 12 = .ok (.getfield 26, 3) := by decide +kernel
theorem dX3_play_15 : decode cX3_play 15 = .ok (.aload_n 0, 1) := by decide +kernel
theorem dX3_play_16 : decode cX3_play 16 = .ok (.getfield 16, 3) := by decide +kernel
theorem dX3_play_19 : decode cX3_play 19 = .ok (.invokevirtual 225, 3) := by decide +kernel
theorem dX3_play_22 : decode cX3_play 22 = .ok (.istore_n 1, 1) := by decide +kernel
theorem dX3_play_23 : decode cX3_play 23 = .ok (.aload_n 0, 1) := by decide +kernel
theorem dX3_play_24 : decode cX3_play 24 = .ok (.getfield 26, 3) := by decide +kernel
theorem dX3_play_27 : decode cX3_play 27 = .ok (.getfield 229, 3) := by decide +kernel
theorem dX3_play_30 : decode cX3_play 30 = .ok (.ifCond .eq 6, 3) := by decide +kernel
theorem dX3_play_33 : decode cX3_play 33 = .ok (.ldc 169, 2) := by decide +kernel
theorem dX3_play_35 : decode cX3_play 35 = .ok (.ireturn, 1) := by decide +kernel
theorem dX3_play_36 : decode cX3_play 36 = .ok (.aload_n 0, 1) := by decide +kernel
theorem dX3_play_37 : decode cX3_play 37 = .ok (.getfield 30, 3) := by decide +kernel
theorem dX3_play_40 : decode cX3_play 40 = .ok (.aload_n 0, 1) := by decide +kernel
theorem dX3_play_41 : decode cX3_play 41 = .ok (.getfield 10, 3) := by decide +kernel
theorem dX3_play_44 : decode cX3_play 44 = .ok (.invokevirtual 37, 3) := by decide +kernel
theorem dX3_play_47 : decode cX3_play 47 = .ok (.aload_n 0, 1) := by decide +kernel
theorem dX3_play_48 : decode cX3_play 48 = .ok (.getfield 10, 3) := by decide +kernel
theorem dX3_play_51 : decode cX3_play 51 = .ok (.aload_n 0, 1) := by decide +kernel
theorem dX3_play_52 : decode cX3_play 52 = .ok (.getfield 16, 3) := by decide +kernel
theorem dX3_play_55 : decode cX3_play 55 = .ok (.invokevirtual 37, 3) := by decide +kernel
theorem dX3_play_58 : decode cX3_play 58 = .ok (.aload_n 0, 1) := by decide +kernel
theorem dX3_play_59 : decode cX3_play 59 = .ok (.iload_n 1, 1) := by decide +kernel
theorem dX3_play_60 : decode cX3_play 60 = .ok (.invokevirtual 45, 3) := by decide +kernel
theorem dX3_play_63 : decode cX3_play 63 = .ok (.ireturn, 1) := by decide +kernel
theorem dX3_recorded_0 : decode cX3_recorded 0 = .ok (.iload_n 1, 1) := by decide +kernel
theorem dX3_recorded_1 : decode cX3_recorded 1 = .ok (.ifCond .ge 5, 3) := by decide +kernel
theorem dX3_recorded_4 : decode cX3_recorded 4 = .ok (.iload_n 1, 1) := by decide +kernel
theorem dX3_recorded_5 : decode cX3_recorded 5 = .ok (.ireturn, 1) := by decide +kernel
theorem dX3_recorded_6 : decode cX3_recorded 6 = .ok (.aload_n 0, 1) := by decide +kernel
theorem dX3_recorded_7 : decode cX3_recorded 7 = .ok (.getfield 33, 3) := by decide +kernel
theorem dX3_recorded_10 : decode cX3_recorded 10 = .ok (.iconst 4, 1) := by decide +kernel
theorem dX3_recorded_11 : decode cX3_recorded 11 = .ok (.if_icmp .lt 12, 3) := by decide +kernel
theorem dX3_recorded_14 : decode cX3_recorded 14 = .ok (.aload_n 0, 1) := by decide +kernel
theorem dX3_recorded_15 : decode cX3_recorded 15 = .ok (.invokevirtual 238, 3) := by decide +kernel
theorem dX3_recorded_18 : decode cX3_recorded 18 = .ok (.aload_n 0, 1) := by decide +kernel
theorem dX3_recorded_19 : decode cX3_recorded 19 = .ok (.iconst 3, 1) := by decide +kernel
theorem dX3_recorded_20 : decode cX3_recorded 20 = .ok (.putfield 33, 3) := by decide +kernel
theorem dX3_recorded_23 : decode cX3_recorded 23 = .ok (.aload_n 0, 1) := by decide +kernel
theorem dX3_recorded_24 : decode cX3_recorded 24 = .ok (.getfield 19, 3) := by decide +kernel
theorem dX3_recorded_27 : decode cX3_recorded 27 = .ok (.aload_n 0, 1) := by decide +kernel
theorem dX3_recorded_28 : decode cX3_recorded 28 = .ok (.getfield 33, 3) := by decide +kernel
theorem dX3_recorded_31 : decode cX3_recorded 31 = .ok (.aaload, 1) := by decide +kernel
theorem dX3_recorded_32 : decode cX3_recorded 32 = .ok (.astore_n 2, 1) := by decide +kernel
theorem dX3_recorded_33 : decode cX3_recorded 33 = .ok (.aload_n 0, 1) := by decide +kernel
theorem dX3_recorded_34 : decode cX3_recorded 34 = .ok (.getfield 19, 3) := by decide +kernel
theorem dX3_recorded_37 : decode cX3_recorded 37 = .ok (.aload_n 0, 1) := by decide +kernel
theorem dX3_recorded_38 : decode cX3_recorded 38 = .ok (.getfield 33, 3) := by decide +kernel
theorem dX3_recorded_41 : decode cX3_recorded 41 = .ok (.aload_n 0, 1) := by decide +kernel
theorem dX3_recorded_42 : decode cX3_recorded 42 = .ok (.getfield 30, 3) := by decide +kernel
theorem dX3_recorded_45 : decode cX3_recorded 45 = .ok (.aastore, 1) := by decide +kernel
theorem dX3_recorded_46 : decode cX3_recorded 46 = .ok (.aload_n 0, 1) := by decide +kernel
theorem dX3_recorded_47 : decode cX3_recorded 47 = .ok (.aload_n 2, 1) := by decide +kernel
theorem dX3_recorded_48 : decode cX3_recorded 48 = .ok (.putfield 30, 3) := by decide +kernel
theorem dX3_recorded_51 : decode cX3_recorded 51 = .ok (.aload_n 0, 1) := by decide +kernel
theorem dX3_recorded_52 : decode cX3_recorded 52 = .ok (.dup, 1) := by decide +kernel
theorem dX3_recorded_53 : decode cX3_recorded 53 = .ok (.getfield 33, 3) := by decide +kernel
theorem dX3_recorded_56 : decode cX3_recorded 56 = .ok (.iconst 1, 1) := by decide +kernel
theorem dX3_recorded_57 : decode cX3_recorded 57 = .ok (.iadd, 1) := by decide +kernel
theorem dX3_recorded_58 : decode cX3_recorded 58 = .ok (.putfield 33, 3) := by decide +kernel
theorem dX3_recorded_61 : decode cX3_recorded 61 = .ok (.iload_n 1, 1) := by decide +kernel
theorem dX3_recorded_62 : decode cX3_recorded 62 = .ok (.ireturn, 1) := by decide +kernel
theorem dX3_rotateHistory_0 : decode cX3_rotateHistory 0 = .ok (.aload_n 0, 1) := by decide +kernel
theorem dX3_rotateHistory_1 : decode cX3_rotateHistory 1 = .ok (.getfield 19, 3) := by decide +kernel
theorem dX3_rotateHistory_4 : decode cX3_rotateHistory 4 = .ok (.iconst 0, 1) := by decide +kernel
theorem dX3_rotateHistory_5 : decode cX3_rotateHistory 5 = .ok (.aaload, 1) := by decide +kernel
theorem dX3_rotateHistory_6 : decode cX3_rotateHistory 6 = .ok (.astore_n 1, 1) := by decide +kernel
theorem dX3_rotateHistory_7 : decode cX3_rotateHistory 7 = .ok (.iconst 1, 1) := by decide +kernel
theorem dX3_rotateHistory_8 : decode cX3_rotateHistory 8 = .ok (.istore_n 2, 1) := by decide +kernel
theorem dX3_rotateHistory_9 : decode cX3_rotateHistory 9 = .ok (.iload_n 2, 1) := by decide +kernel
theorem dX3_rotateHistory_10 : decode cX3_rotateHistory 10 = .ok (.iconst 4, 1) := by decide +kernel
theorem dX3_rotateHistory_11 : decode cX3_rotateHistory 11 = .ok (.if_icmp .ge 23, 3) := by decide +kernel
theorem dX3_rotateHistory_14 : decode cX3_rotateHistory 14 = .ok (.aload_n 0, 1) := by decide +kernel
theorem dX3_rotateHistory_15 : decode cX3_rotateHistory 15 = .ok (.getfield 19, 3) := by decide +kernel
theorem dX3_rotateHistory_18 : decode cX3_rotateHistory 18 = .ok (.iload_n 2, 1) := by decide +kernel
theorem dX3_rotateHistory_19 : decode cX3_rotateHistory 19 = .ok (.iconst 1, 1) := by decide +kernel
theorem dX3_rotateHistory_20 : decode cX3_rotateHistory 20 = .ok (.isub, 1) := by decide +kernel
theorem dX3_rotateHistory_21 : decode cX3_rotateHistory 21 = .ok (.aload_n 0, 1) := by decide +kernel
theorem dX3_rotateHistory_22 : decode cX3_rotateHistory 22 = .ok (.getfield 19, 3) := by decide +kernel
theorem dX3_rotateHistory_25 : decode cX3_rotateHistory 25 = .ok (.iload_n 2, 1) := by decide +kernel
theorem dX3_rotateHistory_26 : decode cX3_rotateHistory 26 = .ok (.aaload, 1) := by decide +kernel
theorem dX3_rotateHistory_27 : decode cX3_rotateHistory 27 = .ok (.aastore, 1) := by decide +kernel
theorem dX3_rotateHistory_28 : decode cX3_rotateHistory 28 = .ok (.iinc 2 1, 3) := by decide +kernel
theorem dX3_rotateHistory_31 : decode cX3_rotateHistory 31 = .ok (.goto (-22), 3) := by decide +kernel
theorem dX3_rotateHistory_34 : decode cX3_rotateHistory 34 = .ok (.aload_n 0, 1) := by decide +kernel
theorem dX3_rotateHistory_35 : decode cX3_rotateHistory 35 = .ok (.getfield 19, 3) := by decide +kernel
theorem dX3_rotateHistory_38 : decode cX3_rotateHistory 38 = .ok (.iconst 3, 1) := by decide +kernel
theorem dX3_rotateHistory_39 : decode cX3_rotateHistory 39 = .ok (.aload_n 1, 1) := by decide +kernel
theorem dX3_rotateHistory_40 : decode cX3_rotateHistory 40 = .ok (.aastore, 1) := by decide +kernel
theorem dX3_rotateHistory_41 : decode cX3_rotateHistory 41 = .ok (.return_, 1) := by decide +kernel
theorem dX3_isWithin_0 : decode cX3_isWithin 0 = .ok (.iload_n 0, 1) := by decide +kernel
theorem dX3_isWithin_1 : decode cX3_isWithin 1 = .ok (.iload_n 1, 1) := by decide +kernel
theorem dX3_isWithin_2 : decode cX3_isWithin 2 = .ok (.if_icmp .lt 12, 3) := by decide +kernel
theorem dX3_isWithin_5 : decode cX3_isWithin 5 = .ok (.iload_n 0, 1) := by decide +kernel
theorem dX3_isWithin_6 : decode cX3_isWithin 6 = .ok (.iload_n 2, 1) := by decide +kernel
theorem dX3_isWithin_7 : decode cX3_isWithin 7 = .ok (.if_icmp .gt 7, 3) := by decide +kernel
theorem dX3_isWithin_10 : decode cX3_isWithin 10 = .ok (.iconst 1, 1) := by decide +kernel
theorem dX3_isWithin_11 : decode cX3_isWithin 11 = .ok (.goto 4, 3) := by decide +kernel
theorem dX3_isWithin_14 : decode cX3_isWithin 14 = .ok (.iconst 0, 1) := by decide +kernel
theorem dX3_isWithin_15 : decode cX3_isWithin 15 = .ok (.ireturn, 1) := by decide +kernel
theorem dX3_bitsOf_0 : decode cX3_bitsOf 0 = .ok (.fload_n 0, 1) := by decide +kernel
theorem dX3_bitsOf_1 : decode cX3_bitsOf 1 = .ok (.fconst 0, 1) := by decide +kernel
theorem dX3_bitsOf_2 : decode cX3_bitsOf 2 = .ok (.fcmp .l, 1) := by decide +kernel
theorem dX3_bitsOf_3 : decode cX3_bitsOf 3 = .ok (.ifCond .gt 5, 3) := by decide +kernel
theorem dX3_bitsOf_6 : decode cX3_bitsOf 6 = .ok (.iconst 0, 1) := by decide +kernel
theorem dX3_bitsOf_7 : decode cX3_bitsOf 7 = .ok (.ireturn, 1) := by decide +kernel
theorem dX3_bitsOf_8 : decode cX3_bitsOf 8 = .ok (.fload_n 0, 1) := by decide +kernel
theorem dX3_bitsOf_9 : decode cX3_bitsOf 9 = .ok (.fstore_n 1, 1) := by decide +kernel
theorem dX3_bitsOf_10 : decode cX3_bitsOf 10 = .ok (.bipush 127, 2) := by decide +kernel
theorem dX3_bitsOf_12 : decode cX3_bitsOf 12 = .ok (.istore_n 2, 1) := by decide +kernel
theorem dX3_bitsOf_13 : decode cX3_bitsOf 13 = .ok (.fload_n 1, 1) := by decide +kernel
theorem dX3_bitsOf_14 : decode cX3_bitsOf 14 = .ok (.fconst 1, 1) := by decide +kernel
theorem dX3_bitsOf_15 : decode cX3_bitsOf 15 = .ok (.fcmp .g, 1) := by decide +kernel
theorem dX3_bitsOf_16 : decode cX3_bitsOf 16 = .ok (.ifCond .ge 18, 3) := by decide +kernel
theorem dX3_bitsOf_19 : decode cX3_bitsOf 19 = .ok (.iload_n 2, 1) := by decide +kernel
theorem dX3_bitsOf_20 : decode cX3_bitsOf 20 = .ok (.iconst 1, 1) := by decide +kernel
theorem dX3_bitsOf_21 : decode cX3_bitsOf 21 = .ok (.if_icmp .le 13, 3) := by decide +kernel
theorem dX3_bitsOf_24 : decode cX3_bitsOf 24 = .ok (.fload_n 1, 1) := by decide +kernel
theorem dX3_bitsOf_25 : decode cX3_bitsOf 25 = .ok (.fconst 2, 1) := by decide +kernel
theorem dX3_bitsOf_26 : decode cX3_bitsOf 26 = .ok (.fmul, 1) := by decide +kernel
theorem dX3_bitsOf_27 : decode cX3_bitsOf 27 = .ok (.fstore_n 1, 1) := by decide +kernel
theorem dX3_bitsOf_28 : decode cX3_bitsOf 28 = .ok (.iinc 2 (-1), 3) := by decide +kernel
theorem dX3_bitsOf_31 : decode cX3_bitsOf 31 = .ok (.goto (-18), 3) := by decide +kernel
theorem dX3_bitsOf_34 : decode cX3_bitsOf 34 = .ok (.iload_n 2, 1) := by decide +kernel
theorem dX3_bitsOf_35 : decode cX3_bitsOf 35 = .ok (.bipush 23, 2) := by decide +kernel
theorem dX3_bitsOf_37 : decode cX3_bitsOf 37 = .ok (.ishl, 1) := by decide +kernel
theorem dX3_bitsOf_38 : decode cX3_bitsOf 38 = .ok (.fload_n 1, 1) := by decide +kernel
theorem dX3_bitsOf_39 : decode cX3_bitsOf 39 = .ok (.fconst 1, 1) := by decide +kernel
theorem dX3_bitsOf_40 : decode cX3_bitsOf 40 = .ok (.fsub, 1) := by decide +kernel
theorem dX3_bitsOf_41 : decode cX3_bitsOf 41 = .ok (.ldc 241, 2) := by decide +kernel
theorem dX3_bitsOf_43 : decode cX3_bitsOf 43 = .ok (.fmul, 1) := by decide +kernel
theorem dX3_bitsOf_44 : decode cX3_bitsOf 44 = .ok (.f2i, 1) := by decide +kernel
theorem dX3_bitsOf_45 : decode cX3_bitsOf 45 = .ok (.ior, 1) := by decide +kernel
theorem dX3_bitsOf_46 : decode cX3_bitsOf 46 = .ok (.ireturn, 1) := by decide +kernel
theorem dX4_init_0 : decode cX4_init 0 = .ok (.aload_n 0, 1) := by decide +kernel
theorem dX4_init_1 : decode cX4_init 1 = .ok (.invokespecial 1, 3) := by decide +kernel
theorem dX4_init_4 : decode cX4_init 4 = .ok (.aload_n 0, 1) := by decide +kernel
theorem dX4_init_5 : decode cX4_init 5 = .ok (.sipush 146, 3) := by decide +kernel
theorem dX4_init_8 : decode cX4_init 8 = .ok (.newarray .int, 2) := by decide +kernel
theorem dX4_init_10 : decode cX4_init 10 = .ok (.putfield 7, 3) := by decide +kernel
theorem dX4_init_13 : decode cX4_init 13 = .ok (.aload_n 0, 1) := by decide +kernel
theorem dX4_init_14 : decode cX4_init 14 = .ok (.sipush 146, 3) := by decide +kernel
theorem dX4_init_17 : decode cX4_init 17 = .ok (.newarray .int, 2) := by decide +kernel
theorem dX4_init_19 : decode cX4_init 19 = .ok (.putfield 13, 3) := by decide +kernel
theorem dX4_init_22 : decode cX4_init 22 = .ok (.aload_n 0, 1) := by decide +kernel
theorem dX4_init_23 : decode cX4_init 23 = .ok (.sipush 146, 3) := by decide +kernel
theorem dX4_init_26 : decode cX4_init 26 = .ok (.newarray .int, 2) := by decide +kernel
theorem dX4_init_28 : decode cX4_init 28 = .ok (.putfield 16, 3) := by decide +kernel
theorem dX4_init_31 : decode cX4_init 31 = .ok (.aload_n 0, 1) := by decide +kernel
theorem dX4_init_32 : decode cX4_init 32 = .ok (.sipush 584, 3) := by decide +kernel
theorem dX4_init_35 : decode cX4_init 35 = .ok (.newarray .int, 2) := by decide +kernel
theorem dX4_init_37 : decode cX4_init 37 = .ok (.putfield 19, 3) := by decide +kernel
theorem dX4_init_40 : decode cX4_init 40 = .ok (.aload_n 0, 1) := by decide +kernel
theorem dX4_init_41 : decode cX4_init 41 = .ok (.bipush 80, 2) := by decide +kernel
theorem dX4_init_43 : decode cX4_init 43 = .ok (.newarray .int, 2) := by decide +kernel
theorem dX4_init_45 : decode cX4_init 45 = .ok (.putfield 22, 3) := by decide +kernel
theorem dX4_init_48 : decode cX4_init 48 = .ok (.aload_n 0, 1) := by decide +kernel
theorem dX4_init_49 : decode cX4_init 49 = .ok (.iconst 4, 1) := by decide +kernel
theorem dX4_init_50 : decode cX4_init 50 = .ok (.newarray .int, 2) := by decide +kernel
theorem dX4_init_52 : decode cX4_init 52 = .ok (.putfield 25, 3) := by decide +kernel
theorem dX4_init_55 : decode cX4_init 55 = .ok (.aload_n 0, 1) := by decide +kernel
theorem dX4_init_56 : decode cX4_init 56 = .ok (.getfield 7, 3) := by decide +kernel
theorem dX4_init_59 : decode cX4_init 59 = .ok (.iconst 2, 1) := by decide +kernel
theorem dX4_init_60 : decode cX4_init 60 = .ok (.bipush 56, 2) := by decide +kernel
theorem dX4_init_62 : decode cX4_init 62 = .ok (.iastore, 1) := by decide +kernel
theorem dX4_init_63 : decode cX4_init 63 = .ok (.aload_n 0, 1) := by decide +kernel
theorem dX4_init_64 : decode cX4_init 64 = .ok (.getfield 7, 3) := by decide +kernel
theorem dX4_init_67 : decode cX4_init 67 = .ok (.iconst 3, 1) := by decide +kernel
theorem dX4_init_68 : decode cX4_init 68 = .ok (.bipush 100, 2) := by decide +kernel
theorem dX4_init_70 : decode cX4_init 70 = .ok (.iastore, 1) := by decide +kernel
theorem dX4_init_71 : decode cX4_init 71 = .ok (.iconst 0, 1) := by decide +kernel
theorem dX4_init_72 : decode cX4_init 72 = .ok (.istore_n 1, 1) := by decide +kernel
theorem dX4_init_73 : decode cX4_init 73 = .ok (.iload_n 1, 1) := by decide +kernel
theorem dX4_init_74 : decode cX4_init 74 = .ok (.iconst 5, 1) := by decide +kernel
theorem dX4_init_75 : decode cX4_init 75 = .ok (.if_icmp .ge 29, 3) := by decide +kernel
theorem dX4_init_78 : decode cX4_init 78 = .ok (.aload_n 0, 1) := by decide +kernel
theorem dX4_init_79 : decode cX4_init 79 = .ok (.getfield 7, 3) := by decide +kernel
theorem dX4_init_82 : decode cX4_init 82 = .ok (.bipush 6, 2) := by decide +kernel
theorem dX4_init_84 : decode cX4_init 84 = .ok (.iload_n 1, 1) := by decide +kernel
theorem dX4_init_85 : decode cX4_init 85 = .ok (.iadd, 1) := by decide +kernel
theorem dX4_init_86 : decode cX4_init 86 = .ok (.iconst (-1), 1) := by decide +kernel
theorem dX4_init_87 : decode cX4_init 87 = .ok (.iastore, 1) := by decide +kernel
theorem dX4_init_88 : decode cX4_init 88 = .ok (.aload_n 0, 1) := by decide +kernel
theorem dX4_init_89 : decode cX4_init 89 = .ok (.getfield 7, 3) := by decide +kernel
theorem dX4_init_92 : decode cX4_init 92 = .ok (.bipush 11, 2) := by decide +kernel
theorem dX4_init_94 : decode cX4_init 94 = .ok (.iload_n 1, 1) := by decide +kernel
theorem dX4_init_95 : decode cX4_init 95 = .ok (.iadd, 1) := by decide +kernel
theorem dX4_init_96 : decode cX4_init 96 = .ok (.iconst (-1), 1) := by decide +kernel
theorem dX4_init_97 : decode cX4_init 97 = .ok (.iastore, 1) := by decide +kernel
theorem dX4_init_98 : decode cX4_init 98 = .ok (.iinc 1 1, 3) := by decide +kernel
theorem dX4_init_101 : decode cX4_init 101 = .ok (.goto (-28), 3) := by decide +kernel
theorem dX4_init_104 : decode cX4_init 104 = .ok (.return_, 1) := by decide +kernel
theorem dX4_in_0 : decode cX4_in 0 = .ok (.lload_n 0, 1) := by decide +kernel
theorem dX4_in_1 : decode cX4_in 1 = .ok (.lload_n 2, 1) := by decide +kernel
theorem dX4_in_2 : decode cX4_in 2 = .ok (.lcmp, 1) := by decide +kernel
theorem dX4_in_3 : decode cX4_in 3 = .ok (.ifCond .lt 14, 3) := by decide +kernel
theorem dX4_in_6 : decode cX4_in 6 = .ok (.lload_n 0, 1) := by decide +kernel
theorem dX4_in_7 : decode cX4_in 7 = .ok (.lload 4, 2) := by decide +kernel
theorem dX4_in_9 : decode cX4_in 9 = .ok (.lcmp, 1) := by decide +kernel
theorem dX4_in_10 : decode cX4_in 10 = .ok (.ifCond .gt 7, 3) := by decide +kernel
theorem dX4_in_13 : decode cX4_in 13 = .ok (.iconst 1, 1) := by decide +kernel
theorem dX4_in_14 : decode cX4_in 14 = .ok (.goto 4, 3) := by decide +kernel
theorem dX4_in_17 : decode cX4_in 17 = .ok (.iconst 0, 1) := by decide +kernel
theorem dX4_in_18 : decode cX4_in 18 = .ok (.ireturn, 1) := by decide +kernel
theorem dX4_copy_0 : decode cX4_copy 0 = .ok (.iconst 0, 1) := by decide +kernel
theorem dX4_copy_1 : decode cX4_copy 1 = .ok (.istore_n 2, 1) := by decide +kernel
theorem dX4_copy_2 : decode cX4_copy 2 = .ok (.iload_n 2, 1) := by decide +kernel
theorem dX4_copy_3 : decode cX4_copy 3 = .ok (.sipush 146, 3) := by decide +kernel
theorem dX4_copy_6 : decode cX4_copy 6 = .ok (.if_icmp .ge 15, 3) := by decide +kernel
theorem dX4_copy_9 : decode cX4_copy 9 = .ok (.aload_n 1, 1) := by decide +kernel
theorem dX4_copy_10 : decode cX4_copy 10 = .ok (.iload_n 2, 1) := by decide +kernel
theorem dX4_copy_11 : decode cX4_copy 11 = .ok (.aload_n 0, 1) := by decide +kernel
theorem dX4_copy_12 : decode cX4_copy 12 = .ok (.iload_n 2, 1) := by decide +kernel
theorem dX4_copy_13 : decode cX4_copy 13 = .ok (.iaload, 1) := by decide +kernel
theorem dX4_copy_14 : decode cX4_copy 14 = .ok (.iastore, 1) := by decide +kernel
theorem dX4_copy_15 : decode cX4_copy 15 = .ok (.iinc 2 1, 3) := by decide +kernel
theorem dX4_copy_18 : decode cX4_copy 18 = .ok (.goto (-16), 3) := by decide +kernel
theorem dX4_copy_21 : decode cX4_copy 21 = .ok (.return_, 1) := by decide +kernel
theorem dX4_isError_0 : decode cX4_isError 0 = .ok (.iload_n 0, 1) := by decide +kernel
theorem dX4_isError_1 : decode cX4_isError 1 = .ok (.ldc 28, 2) := by decide +kernel
theorem dX4_isError_3 : decode cX4_isError 3 = .ok (.if_icmp .ge 7, 3) := by decide +kernel
theorem dX4_isError_6 : decode cX4_isError 6 = .ok (.iconst 1, 1) := by decide +kernel
theorem dX4_isError_7 : decode cX4_isError 7 = .ok (.goto 4, 3) := by decide +kernel
theorem dX4_isError_10 : decode cX4_isError 10 = .ok (.iconst 0, 1) := by decide +kernel
theorem dX4_isError_11 : decode cX4_isError 11 = .ok (.ireturn, 1) := by decide +kernel
theorem dX4_record_0 : decode cX4_record 0 = .ok (.aload_n 0, 1) := by decide +kernel
theorem dX4_record_1 : decode cX4_record 1 = .ok (.getfield 29, 3) := by decide +kernel
theorem dX4_record_4 : decode cX4_record 4 = .ok (.iconst 4, 1) := by decide +kernel
theorem dX4_record_5 : decode cX4_record 5 = .ok (.if_icmp .ne 44, 3) := by decide +kernel
theorem dX4_record_8 : decode cX4_record 8 = .ok (.iconst 0, 1) := by decide +kernel
theorem dX4_record_9 : decode cX4_record 9 = .ok (.istore_n 1, 1) := by decide +kernel
theorem dX4_record_10 : decode cX4_record 10 = .ok (.iload_n 1, 1) := by decide +kernel
theorem dX4_record_11 : decode cX4_record 11 = .ok (.sipush 438, 3) := by decide +kernel
theorem dX4_record_14 : decode cX4_record 14 = .ok (.if_icmp .ge 25, 3) := by decide +kernel
theorem dX4_record_17 : decode cX4_record 17 = .ok (.aload_n 0, 1) := by decide +kernel
theorem dX4_record_18 : decode cX4_record 18 = .ok (.getfield 19, 3) := by decide +kernel
theorem dX4_record_21 : decode cX4_record 21 = .ok (.iload_n 1, 1) := by decide +kernel
theorem dX4_record_22 : decode cX4_record 22 = .ok (.aload_n 0, 1) := by decide +kernel
theorem dX4_record_23 : decode cX4_record 23 = .ok (.getfield 19, 3) := by decide +kernel
theorem dX4_record_26 : decode cX4_record 26 = .ok (.iload_n 1, 1) := by decide +kernel
theorem dX4_record_27 : decode cX4_record 27 = .ok (.sipush 146, 3) := by decide +kernel
theorem dX4_record_30 : decode cX4_record 30 = .ok (.iadd, 1) := by decide +kernel
theorem dX4_record_31 : decode cX4_record 31 = .ok (.iaload, 1) := by decide +kernel
theorem dX4_record_32 : decode cX4_record 32 = .ok (.iastore, 1) := by decide +kernel
theorem dX4_record_33 : decode cX4_record 33 = .ok (.iinc 1 1, 3) := by decide +kernel
theorem dX4_record_36 : decode cX4_record 36 = .ok (.goto (-26), 3) := by decide +kernel
theorem dX4_record_39 : decode cX4_record 39 = .ok (.aload_n 0, 1) := by decide +kernel
theorem dX4_record_40 : decode cX4_record 40 = .ok (.dup, 1) := by decide +kernel
theorem dX4_record_41 : decode cX4_record 41 = .ok (.getfield 29, 3) := by decide +kernel
theorem dX4_record_44 : decode cX4_record 44 = .ok (.iconst 1, 1) := by decide +kernel
theorem dX4_record_45 : decode cX4_record 45 = .ok (.isub, 1) := by decide +kernel
theorem dX4_record_46 : decode cX4_record 46 = .ok (.putfield 29, 3) := by decide +kernel
theorem dX4_record_49 : decode cX4_record 49 = .ok (.iconst 0, 1) := by decide +kernel
theorem dX4_record_50 : decode cX4_record 50 = .ok (.istore_n 1, 1) := by decide +kernel
theorem dX4_record_51 : decode cX4_record 51 = .ok (.iload_n 1, 1) := by decide +kernel
theorem dX4_record_52 : decode cX4_record 52 = .ok (.sipush 146, 3) := by decide +kernel
theorem dX4_record_55 : decode cX4_record 55 = .ok (.if_icmp .ge 30, 3) := by decide +kernel
theorem dX4_record_58 : decode cX4_record 58 = .ok (.aload_n 0, 1) := by decide +kernel
theorem dX4_record_59 : decode cX4_record 59 = .ok (.getfield 19, 3) := by decide +kernel
theorem dX4_record_62 : decode cX4_record 62 = .ok (.sipush 146, 3) := by decide +kernel
theorem dX4_record_65 : decode cX4_record 65 = .ok (.aload_n 0, 1) := by decide +kernel
theorem dX4_record_66 : decode cX4_record 66 = .ok (.getfield 29, 3) := by decide +kernel
theorem dX4_record_69 : decode cX4_record 69 = .ok (.imul, 1) := by decide +kernel
theorem dX4_record_70 : decode cX4_record 70 = .ok (.iload_n 1, 1) := by decide +kernel
theorem dX4_record_71 : decode cX4_record 71 = .ok (.iadd, 1) := by decide +kernel
theorem dX4_record_72 : decode cX4_record 72 = .ok (.aload_n 0, 1) := by decide +kernel
theorem dX4_record_73 : decode cX4_record 73 = .ok (.getfield 13, 3) := by decide +kernel
theorem dX4_record_76 : decode cX4_record 76 = .ok (.iload_n 1, 1) := by decide +kernel
theorem dX4_record_77 : decode cX4_record 77 = .ok (.iaload, 1) := by decide +kernel
theorem dX4_record_78 : decode cX4_record 78 = .ok (.iastore, 1) := by decide +kernel
theorem dX4_record_79 : decode cX4_record 79 = .ok (.iinc 1 1, 3) := by decide +kernel
theorem dX4_record_82 : decode cX4_record 82 = .ok (.goto (-31), 3) := by decide +kernel
theorem dX4_record_85 : decode cX4_record 85 = .ok (.aload_n 0, 1) := by decide +kernel
theorem dX4_record_86 : decode cX4_record 86 = .ok (.dup, 1) := by decide +kernel
theorem dX4_record_87 : decode cX4_record 87 = .ok (.getfield 29, 3) := by decide +kernel
theorem dX4_record_90 : decode cX4_record 90 = .ok (.iconst 1, 1) := by decide +kernel
theorem dX4_record_91 : decode cX4_record 91 = .ok (.iadd, 1) := by decide +kernel
theorem dX4_record_92 : decode cX4_record 92 = .ok (.putfield 29, 3) := by decide +kernel
theorem dX4_record_95 : decode cX4_record 95 = .ok (.return_, 1) := by decide +kernel
theorem dX4_changed_0 : decode cX4_changed 0 = .ok (.iload_n 1, 1) := by decide +kernel
theorem dX4_changed_1 : decode cX4_changed 1 = .ok (.invokestatic 33, 3) := by decide +kernel
theorem dX4_changed_4 : decode cX4_changed 4 = .ok (.ifCond .ne 7, 3) := by decide +kernel
theorem dX4_changed_7 : decode cX4_changed 7 = .ok (.aload_n 0, 1) := by decide +kernel
theorem dX4_changed_8 : decode cX4_changed 8 = .ok (.invokevirtual 37, 3) := by decide +kernel
theorem dX4_changed_11 : decode cX4_changed 11 = .ok (.iload_n 1, 1) := by decide +kernel
theorem dX4_changed_12 : decode cX4_changed 12 = .ok (.ireturn, 1) := by decide +kernel
theorem dX4_get_0 : decode cX4_get 0 = .ok (.aload_n 0, 1) := by decide +kernel
theorem dX4_get_1 : decode cX4_get 1 = .ok (.getfield 7, 3) := by decide +kernel
theorem dX4_get_4 : decode cX4_get 4 = .ok (.bipush 16, 2) := by decide +kernel
theorem dX4_get_6 : decode cX4_get 6 = .ok (.bipush 13, 2) := by decide +kernel
theorem dX4_get_8 : decode cX4_get 8 = .ok (.iload_n 1, 1) := by decide +kernel
theorem dX4_get_9 : decode cX4_get 9 = .ok (.imul, 1) := by decide +kernel
theorem dX4_get_10 : decode cX4_get 10 = .ok (.iadd, 1) := by decide +kernel
theorem dX4_get_11 : decode cX4_get 11 = .ok (.iload_n 2, 1) := by decide +kernel
theorem dX4_get_12 : decode cX4_get 12 = .ok (.iadd, 1) := by decide +kernel
theorem dX4_get_13 : decode cX4_get 13 = .ok (.iaload, 1) := by decide +kernel
theorem dX4_get_14 : decode cX4_get 14 = .ok (.ireturn, 1) := by decide +kernel
theorem dX4_put_0 : decode cX4_put 0 = .ok (.aload_n 0, 1) := by decide +kernel
theorem dX4_put_1 : decode cX4_put 1 = .ok (.getfield 7, 3) := by decide +kernel
theorem dX4_put_4 : decode cX4_put 4 = .ok (.bipush 16, 2) := by decide +kernel
theorem dX4_put_6 : decode cX4_put 6 = .ok (.bipush 13, 2) := by decide +kernel
theorem dX4_put_8 : decode cX4_put 8 = .ok (.iload_n 1, 1) := by decide +kernel
theorem dX4_put_9 : decode cX4_put 9 = .ok (.imul, 1) := by decide +kernel
theorem dX4_put_10 : decode cX4_put 10 = .ok (.iadd, 1) := by decide +kernel
theorem dX4_put_11 : decode cX4_put 11 = .ok (.iload_n 2, 1) := by decide +kernel
theorem dX4_put_12 : decode cX4_put 12 = .ok (.iadd, 1) := by decide +kernel
theorem dX4_put_13 : decode cX4_put 13 = .ok (.iload_n 3, 1) := by decide +kernel
theorem dX4_put_14 : decode cX4_put 14 = .ok (.iastore, 1) := by decide +kernel
theorem dX4_put_15 : decode cX4_put 15 = .ok (.return_, 1) := by decide +kernel
theorem dX4_bits_0 : decode cX4_bits 0 = .ok (.iconst 0, 1) := by decide +kernel
theorem dX4_bits_1 : decode cX4_bits 1 = .ok (.istore_n 1, 1) := by decide +kernel
theorem dX4_bits_2 : decode cX4_bits 2 = .ok (.iload_n 0, 1) := by decide +kernel
theorem dX4_bits_3 : decode cX4_bits 3 = .ok (.istore_n 2, 1) := by decide +kernel
theorem dX4_bits_4 : decode cX4_bits 4 = .ok (.iload_n 2, 1) := by decide +kernel
theorem dX4_bits_5 : decode cX4_bits 5 = .ok (.ifCond .le 16, 3) := by decide +kernel
theorem dX4_bits_8 : decode cX4_bits 8 = .ok (.iload_n 1, 1) := by decide +kernel
theorem dX4_bits_9 : decode cX4_bits 9 = .ok (.iload_n 2, 1) := by decide +kernel
theorem dX4_bits_10 : decode cX4_bits 10 = .ok (.iconst 1, 1) := by decide +kernel
theorem dX4_bits_11 : decode cX4_bits 11 = .ok (.iand, 1) := by decide +kernel
theorem dX4_bits_12 : decode cX4_bits 12 = .ok (.iadd, 1) := by decide +kernel
theorem dX4_bits_13 : decode cX4_bits 13 = .ok (.istore_n 1, 1) := by decide +kernel
theorem dX4_bits_14 : decode cX4_bits 14 = .ok (.iload_n 2, 1) := by decide +kernel
theorem dX4_bits_15 : decode cX4_bits 15 = .ok (.iconst 1, 1) := by decide +kernel
theorem dX4_bits_16 : decode cX4_bits 16 = .ok (.ishr, 1) := by decide +kernel
theorem dX4_bits_17 : decode cX4_bits 17 = .ok (.istore_n 2, 1) := by decide +kernel
theorem dX4_bits_18 : decode cX4_bits 18 = .ok (.goto (-14), 3) := by decide +kernel
theorem dX4_bits_21 : decode cX4_bits 21 = .ok (.iload_n 1, 1) := by decide +kernel
theorem dX4_bits_22 : decode cX4_bits 22 = .ok (.ireturn, 1) := by decide +kernel
theorem dX4_isCondition_0 : decode cX4_isCondition 0 = .ok (.iload_n 1, 1) := by decide +kernel
theorem dX4_isCondition_1 : decode cX4_isCondition 1 = .ok (.i2l, 1) := by decide +kernel
theorem dX4_isCondition_2 : decode cX4_isCondition 2 = .ok (.lconst 0, 1) := by decide +kernel
theorem dX4_isCondition_3 : decode cX4_isCondition 3 = .ok (.aload_n 0, 1) := by decide +kernel
theorem dX4_isCondition_4 : decode cX4_isCondition 4 = .ok (.getfield 7, 3) := by decide +kernel
theorem dX4_isCondition_7 : decode cX4_isCondition 7 = .ok (.iconst 1, 1) := by decide +kernel
theorem dX4_isCondition_8 : decode cX4_isCondition 8 = .ok (.iaload, 1) := by decide +kernel
theorem dX4_isCondition_9 : decode cX4_isCondition 9 = .ok (.i2l, 1) := by decide +kernel
theorem dX4_isCondition_10 : decode cX4_isCondition 10 = .ok (.lconst 1, 1) := by decide +kernel
theorem dX4_isCondition_11 : decode cX4_isCondition 11 = .ok (.lsub, 1) := by decide +kernel
theorem dX4_isCondition_12 : decode cX4_isCondition 12 = .ok (.invokestatic 40, 3) := by decide +kernel
theorem dX4_isCondition_15 : decode cX4_isCondition 15 = .ok (.ireturn, 1) := by decide +kernel
theorem dX4_isStage_0 : decode cX4_isStage 0 = .ok (.iload_n 0, 1) := by decide +kernel
theorem dX4_isStage_1 : decode cX4_isStage 1 = .ok (.i2l, 1) := by decide +kernel
theorem dX4_isStage_2 : decode cX4_isStage 2 = .ok (.lconst 0, 1) := by decide +kernel
theorem dX4_isStage_3 : decode cX4_isStage 3 = .ok (.ldc2_w 44, 3) := by decide +kernel
theorem dX4_isStage_6 : decode cX4_isStage 6 = .ok (.invokestatic 40, 3) := by decide +kernel
theorem dX4_isStage_9 : decode cX4_isStage 9 = .ok (.ireturn, 1) := by decide +kernel
theorem dX4_allParts_0 : decode cX4_allParts 0 = .ok (.iconst 1, 1) := by decide +kernel
theorem dX4_allParts_1 : decode cX4_allParts 1 = .ok (.aload_n 0, 1) := by decide +kernel
theorem dX4_allParts_2 : decode cX4_allParts 2 = .ok (.iload_n 1, 1) := by decide +kernel
theorem dX4_allParts_3 : decode cX4_allParts 3 = .ok (.iconst 3, 1) := by decide +kernel
theorem dX4_allParts_4 : decode cX4_allParts 4 = .ok (.invokevirtual 46, 3) := by decide +kernel
theorem dX4_allParts_7 : decode cX4_allParts 7 = .ok (.ishl, 1) := by decide +kernel
theorem dX4_allParts_8 : decode cX4_allParts 8 = .ok (.iconst 1, 1) := by decide +kernel
theorem dX4_allParts_9 : decode cX4_allParts 9 = .ok (.isub, 1) := by decide +kernel
theorem dX4_allParts_10 : decode cX4_allParts 10 = .ok (.ireturn, 1) := by decide +kernel
theorem dX4_hasBegun_0 : decode cX4_hasBegun 0 = .ok (.aload_n 0, 1) := by decide +kernel
theorem dX4_hasBegun_1 : decode cX4_hasBegun 1 = .ok (.getfield 7, 3) := by decide +kernel
theorem dX4_hasBegun_4 : decode cX4_hasBegun 4 = .ok (.bipush 6, 2) := by decide +kernel
theorem dX4_hasBegun_6 : decode cX4_hasBegun 6 = .ok (.iload_n 1, 1) := by decide +kernel
theorem dX4_hasBegun_7 : decode cX4_hasBegun 7 = .ok (.iadd, 1) := by decide +kernel
theorem dX4_hasBegun_8 : decode cX4_hasBegun 8 = .ok (.iaload, 1) := by decide +kernel
theorem dX4_hasBegun_9 : decode cX4_hasBegun 9 = .ok (.iconst (-1), 1) := by decide +kernel
theorem dX4_hasBegun_10 : decode cX4_hasBegun 10 = .ok (.if_icmp .eq 7, 3) := by decide +kernel
theorem dX4_hasBegun_13 : decode cX4_hasBegun 13 = .ok (.iconst 1, 1) := by decide +kernel
theorem dX4_hasBegun_14 : decode cX4_hasBegun 14 = .ok (.goto 4, 3) := by decide +kernel
theorem dX4_hasBegun_17 : decode cX4_hasBegun 17 = .ok (.iconst 0, 1) := by decide +kernel
theorem dX4_hasBegun_18 : decode cX4_hasBegun 18 = .ok (.ireturn, 1) := by decide +kernel
theorem dX4_isFinished_0 : decode cX4_isFinished 0 = .ok (.aload_n 0, 1) := by decide +kernel
theorem dX4_isFinished_1 : decode cX4_isFinished 1 = .ok (.getfield 7, 3) := by decide +kernel
theorem dX4_isFinished_4 : decode cX4_isFinished 4 = .ok (.bipush 11, 2) := by decide +kernel
theorem dX4_isFinished_6 : decode cX4_isFinished 6 = .ok (.iload_n 1, 1) := by decide +kernel
theorem dX4_isFinished_7 : decode cX4_isFinished 7 = .ok (.iadd, 1) := by decide +kernel
theorem dX4_isFinished_8 : decode cX4_isFinished 8 = .ok (.iaload, 1) := by decide +kernel
theorem dX4_isFinished_9 : decode cX4_isFinished 9 = .ok (.iconst (-1), 1) := by decide +kernel
theorem dX4_isFinished_10 : decode cX4_isFinished 10 = .ok (.if_icmp .eq 7, 3) := by decide +kernel
theorem dX4_isFinished_13 : decode cX4_isFinished 13 = .ok (.iconst 1, 1) := by decide +kernel
theorem dX4_isFinished_14 : decode cX4_isFinished 14 = .ok (.goto 4, 3) := by decide +kernel
theorem dX4_isFinished_17 : decode cX4_isFinished 17 = .ok (.iconst 0, 1) := by decide +kernel
theorem dX4_isFinished_18 : decode cX4_isFinished 18 = .ok (.ireturn, 1) := by decide +kernel
theorem dX4_isMet_0 : decode cX4_isMet 0 = .ok (.aload_n 0, 1) := by decide +kernel
theorem dX4_isMet_1 : decode cX4_isMet 1 = .ok (.iload_n 1, 1) := by decide +kernel
theorem dX4_isMet_2 : decode cX4_isMet 2 = .ok (.iconst 0, 1) := by decide +kernel
theorem dX4_isMet_3 : decode cX4_isMet 3 = .ok (.invokevirtual 46, 3) := by decide +kernel
theorem dX4_isMet_6 : decode cX4_isMet 6 = .ok (.iconst 2, 1) := by decide +kernel
theorem dX4_isMet_7 : decode cX4_isMet 7 = .ok (.if_icmp .ne 27, 3) := by decide +kernel
theorem dX4_isMet_10 : decode cX4_isMet 10 = .ok (.aload_n 0, 1) := by decide +kernel
theorem dX4_isMet_11 : decode cX4_isMet 11 = .ok (.iload_n 1, 1) := by decide +kernel
theorem dX4_isMet_12 : decode cX4_isMet 12 = .ok (.bipush 7, 2) := by decide +kernel
theorem dX4_isMet_14 : decode cX4_isMet 14 = .ok (.invokevirtual 46, 3) := by decide +kernel
theorem dX4_isMet_17 : decode cX4_isMet 17 = .ok (.aload_n 0, 1) := by decide +kernel
theorem dX4_isMet_18 : decode cX4_isMet 18 = .ok (.iload_n 1, 1) := by decide +kernel
theorem dX4_isMet_19 : decode cX4_isMet 19 = .ok (.iconst 2, 1) := by decide +kernel
theorem dX4_isMet_20 : decode cX4_isMet 20 = .ok (.invokevirtual 46, 3) := by decide +kernel
theorem dX4_isMet_23 : decode cX4_isMet 23 = .ok (.if_icmp .lt 7, 3) := by decide +kernel
theorem dX4_isMet_26 : decode cX4_isMet 26 = .ok (.iconst 1, 1) := by decide +kernel
theorem dX4_isMet_27 : decode cX4_isMet 27 = .ok (.goto 26, 3) := by decide +kernel
theorem dX4_isMet_30 : decode cX4_isMet 30 = .ok (.iconst 0, 1) := by decide +kernel
theorem dX4_isMet_31 : decode cX4_isMet 31 = .ok (.goto 22, 3) := by decide +kernel
theorem dX4_isMet_34 : decode cX4_isMet 34 = .ok (.aload_n 0, 1) := by decide +kernel
theorem dX4_isMet_35 : decode cX4_isMet 35 = .ok (.iload_n 1, 1) := by decide +kernel
theorem dX4_isMet_36 : decode cX4_isMet 36 = .ok (.iconst 4, 1) := by decide +kernel
theorem dX4_isMet_37 : decode cX4_isMet 37 = .ok (.invokevirtual 46, 3) := by decide +kernel
theorem dX4_isMet_40 : decode cX4_isMet 40 = .ok (.aload_n 0, 1) := by decide +kernel
theorem dX4_isMet_41 : decode cX4_isMet 41 = .ok (.iload_n 1, 1) := by decide +kernel
theorem dX4_isMet_42 : decode cX4_isMet 42 = .ok (.invokevirtual 50, 3) := by decide +kernel
theorem dX4_isMet_45 : decode cX4_isMet 45 = .ok (.if_icmp .ne 7, 3) := by decide +kernel
theorem dX4_isMet_48 : decode cX4_isMet 48 = .ok (.iconst 1, 1) := by decide +kernel
theorem dX4_isMet_49 : decode cX4_isMet 49 = .ok (.goto 4, 3) := by decide +kernel
theorem dX4_isMet_52 : decode cX4_isMet 52 = .ok (.iconst 0, 1) := by decide +kernel
theorem dX4_isMet_53 : decode cX4_isMet 53 = .ok (.ireturn, 1) := by decide +kernel
theorem dX4_isAsleep_0 : decode cX4_isAsleep 0 = .ok (.aload_n 0, 1) := by decide +kernel
theorem dX4_isAsleep_1 : decode cX4_isAsleep 1 = .ok (.iload_n 1, 1) := by decide +kernel
theorem dX4_isAsleep_2 : decode cX4_isAsleep 2 = .ok (.iconst 0, 1) := by decide +kernel
theorem dX4_isAsleep_3 : decode cX4_isAsleep 3 = .ok (.invokevirtual 46, 3) := by decide +kernel
theorem dX4_isAsleep_6 : decode cX4_isAsleep 6 = .ok (.istore_n 2, 1) := by decide +kernel
theorem dX4_isAsleep_7 : decode cX4_isAsleep 7 = .ok (.aload_n 0, 1) := by decide +kernel
theorem dX4_isAsleep_8 : decode cX4_isAsleep 8 = .ok (.iload_n 1, 1) := by decide +kernel
theorem dX4_isAsleep_9 : decode cX4_isAsleep 9 = .ok (.iconst 1, 1) := by decide +kernel
theorem dX4_isAsleep_10 : decode cX4_isAsleep 10 = .ok (.invokevirtual 46, 3) := by decide +kernel
theorem dX4_isAsleep_13 : decode cX4_isAsleep 13 = .ok (.istore_n 3, 1) := by decide +kernel
theorem dX4_isAsleep_14 : decode cX4_isAsleep 14 = .ok (.iload_n 2, 1) := by decide +kernel
theorem dX4_isAsleep_15 : decode cX4_isAsleep 15 = .ok (.iconst 1, 1) := by decide +kernel
theorem dX4_isAsleep_16 : decode cX4_isAsleep 16 = .ok (.if_icmp .ne 11, 3) := by decide +kernel
theorem dX4_isAsleep_19 : decode cX4_isAsleep 19 = .ok (.aload_n 0, 1) := by decide +kernel
theorem dX4_isAsleep_20 : decode cX4_isAsleep 20 = .ok (.iload_n 3, 1) := by decide +kernel
theorem dX4_isAsleep_21 : decode cX4_isAsleep 21 = .ok (.invokevirtual 54, 3) := by decide +kernel
theorem dX4_isAsleep_24 : decode cX4_isAsleep 24 = .ok (.ifCond .eq 16, 3) := by decide +kernel
theorem dX4_isAsleep_27 : decode cX4_isAsleep 27 = .ok (.iload_n 2, 1) := by decide +kernel
theorem dX4_isAsleep_28 : decode cX4_isAsleep 28 = .ok (.iconst 2, 1) := by decide +kernel
theorem dX4_isAsleep_29 : decode cX4_isAsleep 29 = .ok (.if_icmp .ne 15, 3) := by decide +kernel
theorem dX4_isAsleep_32 : decode cX4_isAsleep 32 = .ok (.aload_n 0, 1) := by decide +kernel
theorem dX4_isAsleep_33 : decode cX4_isAsleep 33 = .ok (.iload_n 3, 1) := by decide +kernel
theorem dX4_isAsleep_34 : decode cX4_isAsleep 34 = .ok (.invokevirtual 57, 3) := by decide +kernel
theorem dX4_isAsleep_37 : decode cX4_isAsleep 37 = .ok (.ifCond .ne 7, 3) := by decide +kernel
theorem dX4_isAsleep_40 : decode cX4_isAsleep 40 = .ok (.iconst 1, 1) := by decide +kernel
theorem dX4_isAsleep_41 : decode cX4_isAsleep 41 = .ok (.goto 4, 3) := by decide +kernel
theorem dX4_isAsleep_44 : decode cX4_isAsleep 44 = .ok (.iconst 0, 1) := by decide +kernel
theorem dX4_isAsleep_45 : decode cX4_isAsleep 45 = .ok (.ireturn, 1) := by decide +kernel
theorem dX4_stateOf_0 : decode cX4_stateOf 0 = .ok (.aload_n 0, 1) := by decide +kernel
theorem dX4_stateOf_1 : decode cX4_stateOf 1 = .ok (.iload_n 1, 1) := by decide +kernel
theorem dX4_stateOf_2 : decode cX4_stateOf 2 = .ok (.bipush 12, 2) := by decide +kernel
theorem dX4_stateOf_4 : decode cX4_stateOf 4 = .ok (.invokevirtual 46, 3) := by decide +kernel
theorem dX4_stateOf_7 : decode cX4_stateOf 7 = .ok (.iconst 1, 1) := by decide +kernel
theorem dX4_stateOf_8 : decode cX4_stateOf 8 = .ok (.if_icmp .ne 5, 3) := by decide +kernel
theorem dX4_stateOf_11 : decode cX4_stateOf 11 = .ok (.iconst 4, 1) := by decide +kernel
theorem dX4_stateOf_12 : decode cX4_stateOf 12 = .ok (.ireturn, 1) := by decide +kernel
theorem dX4_stateOf_13 : decode cX4_stateOf 13 = .ok (.aload_n 0, 1) := by decide +kernel
theorem dX4_stateOf_14 : decode cX4_stateOf 14 = .ok (.iload_n 1, 1) := by decide +kernel
theorem dX4_stateOf_15 : decode cX4_stateOf 15 = .ok (.bipush 8, 2) := by decide +kernel
theorem dX4_stateOf_17 : decode cX4_stateOf 17 = .ok (.invokevirtual 46, 3) := by decide +kernel
theorem dX4_stateOf_20 : decode cX4_stateOf 20 = .ok (.iconst 1, 1) := by decide +kernel
theorem dX4_stateOf_21 : decode cX4_stateOf 21 = .ok (.if_icmp .ne 5, 3) := by decide +kernel
theorem dX4_stateOf_24 : decode cX4_stateOf 24 = .ok (.iconst 3, 1) := by decide +kernel
theorem dX4_stateOf_25 : decode cX4_stateOf 25 = .ok (.ireturn, 1) := by decide +kernel
theorem dX4_stateOf_26 : decode cX4_stateOf 26 = .ok (.aload_n 0, 1) := by decide +kernel
theorem dX4_stateOf_27 : decode cX4_stateOf 27 = .ok (.iload_n 1, 1) := by decide +kernel
theorem dX4_stateOf_28 : decode cX4_stateOf 28 = .ok (.invokevirtual 60, 3) := by decide +kernel
theorem dX4_stateOf_31 : decode cX4_stateOf 31 = .ok (.ifCond .eq 7, 3) := by decide +kernel
theorem dX4_stateOf_34 : decode cX4_stateOf 34 = .ok (.iconst 2, 1) := by decide +kernel
theorem dX4_stateOf_35 : decode cX4_stateOf 35 = .ok (.goto 16, 3) := by decide +kernel
theorem dX4_stateOf_38 : decode cX4_stateOf 38 = .ok (.aload_n 0, 1) := by decide +kernel
theorem dX4_stateOf_39 : decode cX4_stateOf 39 = .ok (.iload_n 1, 1) := by decide +kernel
theorem dX4_stateOf_40 : decode cX4_stateOf 40 = .ok (.invokevirtual 63, 3) := by decide +kernel
theorem dX4_stateOf_43 : decode cX4_stateOf 43 = .ok (.ifCond .eq 7, 3) := by decide +kernel
theorem dX4_stateOf_46 : decode cX4_stateOf 46 = .ok (.iconst 0, 1) := by decide +kernel
theorem dX4_stateOf_47 : decode cX4_stateOf 47 = .ok (.goto 4, 3) := by decide +kernel
theorem dX4_stateOf_50 : decode cX4_stateOf 50 = .ok (.iconst 1, 1) := by decide +kernel
theorem dX4_stateOf_51 : decode cX4_stateOf 51 = .ok (.ireturn, 1) := by decide +kernel
theorem dX4_breaks_0 : decode cX4_breaks 0 = .ok (.aload_n 0, 1) := by decide +kernel
theorem dX4_breaks_1 : decode cX4_breaks 1 = .ok (.iload_n 1, 1) := by decide +kernel
theorem dX4_breaks_2 : decode cX4_breaks 2 = .ok (.bipush 8, 2) := by decide +kernel
theorem dX4_breaks_4 : decode cX4_breaks 4 = .ok (.iconst 1, 1) := by decide +kernel
theorem dX4_breaks_5 : decode cX4_breaks 5 = .ok (.invokevirtual 66, 3) := by decide +kernel
theorem dX4_breaks_8 : decode cX4_breaks 8 = .ok (.aload_n 0, 1) := by decide +kernel
theorem dX4_breaks_9 : decode cX4_breaks 9 = .ok (.iload_n 1, 1) := by decide +kernel
theorem dX4_breaks_10 : decode cX4_breaks 10 = .ok (.bipush 9, 2) := by decide +kernel
theorem dX4_breaks_12 : decode cX4_breaks 12 = .ok (.iconst 0, 1) := by decide +kernel
theorem dX4_breaks_13 : decode cX4_breaks 13 = .ok (.invokevirtual 66, 3) := by decide +kernel
theorem dX4_breaks_16 : decode cX4_breaks 16 = .ok (.aload_n 0, 1) := by decide +kernel
theorem dX4_breaks_17 : decode cX4_breaks 17 = .ok (.iload_n 1, 1) := by decide +kernel
theorem dX4_breaks_18 : decode cX4_breaks 18 = .ok (.bipush 10, 2) := by decide +kernel
theorem dX4_breaks_20 : decode cX4_breaks 20 = .ok (.iconst (-1), 1) := by decide +kernel
theorem dX4_breaks_21 : decode cX4_breaks 21 = .ok (.invokevirtual 66, 3) := by decide +kernel
theorem dX4_breaks_24 : decode cX4_breaks 24 = .ok (.aload_n 0, 1) := by decide +kernel
theorem dX4_breaks_25 : decode cX4_breaks 25 = .ok (.getfield 7, 3) := by decide +kernel
theorem dX4_breaks_28 : decode cX4_breaks 28 = .ok (.iconst 4, 1) := by decide +kernel
theorem dX4_breaks_29 : decode cX4_breaks 29 = .ok (.dup2, 1) := by decide +kernel
theorem dX4_breaks_30 : decode cX4_breaks 30 = .ok (.iaload, 1) := by decide +kernel
theorem dX4_breaks_31 : decode cX4_breaks 31 = .ok (.iconst 1, 1) := by decide +kernel
theorem dX4_breaks_32 : decode cX4_breaks 32 = .ok (.iadd, 1) := by decide +kernel
theorem dX4_breaks_33 : decode cX4_breaks 33 = .ok (.iastore, 1) := by decide +kernel
theorem dX4_breaks_34 : decode cX4_breaks 34 = .ok (.return_, 1) := by decide +kernel
theorem dX4_mends_0 : decode cX4_mends 0 = .ok (.aload_n 0, 1) := by decide +kernel
theorem dX4_mends_1 : decode cX4_mends 1 = .ok (.iload_n 1, 1) := by decide +kernel
theorem dX4_mends_2 : decode cX4_mends 2 = .ok (.bipush 8, 2) := by decide +kernel
theorem dX4_mends_4 : decode cX4_mends 4 = .ok (.iconst 0, 1) := by decide +kernel
theorem dX4_mends_5 : decode cX4_mends 5 = .ok (.invokevirtual 66, 3) := by decide +kernel
theorem dX4_mends_8 : decode cX4_mends 8 = .ok (.aload_n 0, 1) := by decide +kernel
theorem dX4_mends_9 : decode cX4_mends 9 = .ok (.iload_n 1, 1) := by decide +kernel
theorem dX4_mends_10 : decode cX4_mends 10 = .ok (.bipush 9, 2) := by decide +kernel
theorem dX4_mends_12 : decode cX4_mends 12 = .ok (.iconst 0, 1) := by decide +kernel
theorem dX4_mends_13 : decode cX4_mends 13 = .ok (.invokevirtual 66, 3) := by decide +kernel
theorem dX4_mends_16 : decode cX4_mends 16 = .ok (.aload_n 0, 1) := by decide +kernel
theorem dX4_mends_17 : decode cX4_mends 17 = .ok (.iload_n 1, 1) := by decide +kernel
theorem dX4_mends_18 : decode cX4_mends 18 = .ok (.bipush 10, 2) := by decide +kernel
theorem dX4_mends_20 : decode cX4_mends 20 = .ok (.iconst (-1), 1) := by decide +kernel
theorem dX4_mends_21 : decode cX4_mends 21 = .ok (.invokevirtual 66, 3) := by decide +kernel
theorem dX4_mends_24 : decode cX4_mends 24 = .ok (.return_, 1) := by decide +kernel
theorem dX4_approves_0 : decode cX4_approves 0 = .ok (.aload_n 0, 1) := by decide +kernel
theorem dX4_approves_1 : decode cX4_approves 1 = .ok (.iload_n 1, 1) := by decide +kernel
theorem dX4_approves_2 : decode cX4_approves 2 = .ok (.iconst 4, 1) := by decide +kernel
theorem dX4_approves_3 : decode cX4_approves 3 = .ok (.aload_n 0, 1) := by decide +kernel
theorem dX4_approves_4 : decode cX4_approves 4 = .ok (.iload_n 1, 1) := by decide +kernel
theorem dX4_approves_5 : decode cX4_approves 5 = .ok (.iconst 4, 1) := by decide +kernel
theorem dX4_approves_6 : decode cX4_approves 6 = .ok (.invokevirtual 46, 3) := by decide +kernel
theorem dX4_approves_9 : decode cX4_approves 9 = .ok (.iload_n 2, 1) := by decide +kernel
theorem dX4_approves_10 : decode cX4_approves 10 = .ok (.ior, 1) := by decide +kernel
theorem dX4_approves_11 : decode cX4_approves 11 = .ok (.invokevirtual 66, 3) := by decide +kernel
theorem dX4_approves_14 : decode cX4_approves 14 = .ok (.aload_n 0, 1) := by decide +kernel
theorem dX4_approves_15 : decode cX4_approves 15 = .ok (.iload_n 1, 1) := by decide +kernel
theorem dX4_approves_16 : decode cX4_approves 16 = .ok (.iconst 5, 1) := by decide +kernel
theorem dX4_approves_17 : decode cX4_approves 17 = .ok (.iconst 0, 1) := by decide +kernel
theorem dX4_approves_18 : decode cX4_approves 18 = .ok (.invokevirtual 66, 3) := by decide +kernel
theorem dX4_approves_21 : decode cX4_approves 21 = .ok (.aload_n 0, 1) := by decide +kernel
theorem dX4_approves_22 : decode cX4_approves 22 = .ok (.iload_n 1, 1) := by decide +kernel
theorem dX4_approves_23 : decode cX4_approves 23 = .ok (.bipush 6, 2) := by decide +kernel
theorem dX4_approves_25 : decode cX4_approves 25 = .ok (.iconst 0, 1) := by decide +kernel
theorem dX4_approves_26 : decode cX4_approves 26 = .ok (.invokevirtual 66, 3) := by decide +kernel
theorem dX4_approves_29 : decode cX4_approves 29 = .ok (.aload_n 0, 1) := by decide +kernel
theorem dX4_approves_30 : decode cX4_approves 30 = .ok (.iload_n 1, 1) := by decide +kernel
theorem dX4_approves_31 : decode cX4_approves 31 = .ok (.invokevirtual 60, 3) := by decide +kernel
theorem dX4_approves_34 : decode cX4_approves 34 = .ok (.ifCond .eq 19, 3) := by decide +kernel
theorem dX4_approves_37 : decode cX4_approves 37 = .ok (.aload_n 0, 1) := by decide +kernel
theorem dX4_approves_38 : decode cX4_approves 38 = .ok (.iload_n 1, 1) := by decide +kernel
theorem dX4_approves_39 : decode cX4_approves 39 = .ok (.bipush 8, 2) := by decide +kernel
theorem dX4_approves_41 : decode cX4_approves 41 = .ok (.invokevirtual 46, 3) := by decide +kernel
theorem dX4_approves_44 : decode cX4_approves 44 = .ok (.iconst 1, 1) := by decide +kernel
theorem dX4_approves_45 : decode cX4_approves 45 = .ok (.if_icmp .ne 8, 3) := by decide +kernel
theorem dX4_approves_48 : decode cX4_approves 48 = .ok (.aload_n 0, 1) := by decide +kernel
theorem dX4_approves_49 : decode cX4_approves 49 = .ok (.iload_n 1, 1) := by decide +kernel
theorem dX4_approves_50 : decode cX4_approves 50 = .ok (.invokevirtual 70, 3) := by decide +kernel
theorem dX4_approves_53 : decode cX4_approves 53 = .ok (.return_, 1) := by decide +kernel
theorem dX4_areDays_0 : decode cX4_areDays 0 = .ok (.iload_n 1, 1) := by decide +kernel
theorem dX4_areDays_1 : decode cX4_areDays 1 = .ok (.i2l, 1) := by decide +kernel
theorem dX4_areDays_2 : decode cX4_areDays 2 = .ok (.iload_n 0, 1) := by decide +kernel
theorem dX4_areDays_3 : decode cX4_areDays 3 = .ok (.iconst 2, 1) := by decide +kernel
theorem dX4_areDays_4 : decode cX4_areDays 4 = .ok (.if_icmp .ne 7, 3) := by decide +kernel
theorem dX4_areDays_7 : decode cX4_areDays 7 = .ok (.lconst 1, 1) := by decide +kernel
theorem dX4_areDays_8 : decode cX4_areDays 8 = .ok (.goto 4, 3) := by decide +kernel
theorem dX4_areDays_11 : decode cX4_areDays 11 = .ok (.lconst 0, 1) := by decide +kernel
theorem dX4_areDays_12 : decode cX4_areDays 12 = .ok (.ldc2_w 74, 3) := by decide +kernel
theorem dX4_areDays_15 : decode cX4_areDays 15 = .ok (.invokestatic 40, 3) := by decide +kernel
theorem dX4_areDays_18 : decode cX4_areDays 18 = .ok (.ireturn, 1) := by decide +kernel
theorem dX4_doCondition_0 : decode cX4_doCondition 0 = .ok (.iload_n 1, 1) := by decide +kernel
theorem dX4_doCondition_1 : decode cX4_doCondition 1 = .ok (.i2l, 1) := by decide +kernel
theorem dX4_doCondition_2 : decode cX4_doCondition 2 = .ok (.lconst 0, 1) := by decide +kernel
theorem dX4_doCondition_3 : decode cX4_doCondition 3 = .ok (.ldc2_w 76, 3) := by decide +kernel
theorem dX4_doCondition_6 : decode cX4_doCondition 6 = .ok (.invokestatic 40, 3) := by decide +kernel
theorem dX4_doCondition_9 : decode cX4_doCondition 9 = .ok (.ifCond .eq 31, 3) := by decide +kernel
theorem dX4_doCondition_12 : decode cX4_doCondition 12 = .ok (.iload_n 2, 1) := by decide +kernel
theorem dX4_doCondition_13 : decode cX4_doCondition 13 = .ok (.invokestatic 78, 3) := by decide +kernel
theorem dX4_doCondition_16 : decode cX4_doCondition 16 = .ok (.ifCond .eq 24, 3) := by decide +kernel
theorem dX4_doCondition_19 : decode cX4_doCondition 19 = .ok (.iload_n 1, 1) := by decide +kernel
theorem dX4_doCondition_20 : decode cX4_doCondition 20 = .ok (.iload_n 3, 1) := by decide +kernel
theorem dX4_doCondition_21 : decode cX4_doCondition 21 = .ok (.invokestatic 81, 3) := by decide +kernel
theorem dX4_doCondition_24 : decode cX4_doCondition 24 = .ok (.ifCond .eq 16, 3) := by decide +kernel
theorem dX4_doCondition_27 : decode cX4_doCondition 27 = .ok (.iload 4, 2) := by decide +kernel
theorem dX4_doCondition_29 : decode cX4_doCondition 29 = .ok (.i2l, 1) := by decide +kernel
theorem dX4_doCondition_30 : decode cX4_doCondition 30 = .ok (.lconst 1, 1) := by decide +kernel
theorem dX4_doCondition_31 : decode cX4_doCondition 31 = .ok (.ldc2_w 85, 3) := by decide +kernel
theorem dX4_doCondition_34 : decode cX4_doCondition 34 = .ok (.invokestatic 40, 3) := by decide +kernel
theorem dX4_doCondition_37 : decode cX4_doCondition 37 = .ok (.ifCond .ne 6, 3) := by decide +kernel
theorem dX4_doCondition_40 : decode cX4_doCondition 40 = .ok (.ldc 87, 2) := by decide +kernel
theorem dX4_doCondition_42 : decode cX4_doCondition 42 = .ok (.ireturn, 1) := by decide +kernel
theorem dX4_doCondition_43 : decode cX4_doCondition 43 = .ok (.aload_n 0, 1) := by decide +kernel
theorem dX4_doCondition_44 : decode cX4_doCondition 44 = .ok (.iload_n 2, 1) := by decide +kernel
theorem dX4_doCondition_45 : decode cX4_doCondition 45 = .ok (.invokevirtual 54, 3) := by decide +kernel
theorem dX4_doCondition_48 : decode cX4_doCondition 48 = .ok (.ifCond .eq 6, 3) := by decide +kernel
theorem dX4_doCondition_51 : decode cX4_doCondition 51 = .ok (.ldc 88, 2) := by decide +kernel
theorem dX4_doCondition_53 : decode cX4_doCondition 53 = .ok (.ireturn, 1) := by decide +kernel
theorem dX4_doCondition_54 : decode cX4_doCondition 54 = .ok (.aload_n 0, 1) := by decide +kernel
theorem dX4_doCondition_55 : decode cX4_doCondition 55 = .ok (.getfield 7, 3) := by decide +kernel
theorem dX4_doCondition_58 : decode cX4_doCondition 58 = .ok (.iconst 1, 1) := by decide +kernel
theorem dX4_doCondition_59 : decode cX4_doCondition 59 = .ok (.iaload, 1) := by decide +kernel
theorem dX4_doCondition_60 : decode cX4_doCondition 60 = .ok (.bipush 10, 2) := by decide +kernel
theorem dX4_doCondition_62 : decode cX4_doCondition 62 = .ok (.if_icmp .ne 6, 3) := by decide +kernel
theorem dX4_doCondition_65 : decode cX4_doCondition 65 = .ok (.ldc 89, 2) := by decide +kernel
theorem dX4_doCondition_67 : decode cX4_doCondition 67 = .ok (.ireturn, 1) := by decide +kernel
theorem dX4_doCondition_68 : decode cX4_doCondition 68 = .ok (.aload_n 0, 1) := by decide +kernel
theorem dX4_doCondition_69 : decode cX4_doCondition 69 = .ok (.getfield 7, 3) := by decide +kernel
theorem dX4_doCondition_72 : decode cX4_doCondition 72 = .ok (.iconst 1, 1) := by decide +kernel
theorem dX4_doCondition_73 : decode cX4_doCondition 73 = .ok (.iaload, 1) := by decide +kernel
theorem dX4_doCondition_74 : decode cX4_doCondition 74 = .ok (.istore 5, 2) := by decide +kernel
theorem dX4_doCondition_76 : decode cX4_doCondition 76 = .ok (.aload_n 0, 1) := by decide +kernel
theorem dX4_doCondition_77 : decode cX4_doCondition 77 = .ok (.getfield 7, 3) := by decide +kernel
theorem dX4_doCondition_80 : decode cX4_doCondition 80 = .ok (.iconst 1, 1) := by decide +kernel
theorem dX4_doCondition_81 : decode cX4_doCondition 81 = .ok (.dup2, 1) := by decide +kernel
theorem dX4_doCondition_82 : decode cX4_doCondition 82 = .ok (.iaload, 1) := by decide +kernel
theorem dX4_doCondition_83 : decode cX4_doCondition 83 = .ok (.iconst 1, 1) := by decide +kernel
theorem dX4_doCondition_84 : decode cX4_doCondition 84 = .ok (.iadd, 1) := by decide +kernel
theorem dX4_doCondition_85 : decode cX4_doCondition 85 = .ok (.iastore, 1) := by decide +kernel
theorem dX4_doCondition_86 : decode cX4_doCondition 86 = .ok (.iconst 0, 1) := by decide +kernel
theorem dX4_doCondition_87 : decode cX4_doCondition 87 = .ok (.istore 6, 2) := by decide +kernel
theorem dX4_doCondition_89 : decode cX4_doCondition 89 = .ok (.iload 6, 2) := by decide +kernel
theorem dX4_doCondition_91 : decode cX4_doCondition 91 = .ok (.bipush 13, 2) := by decide +kernel
theorem dX4_doCondition_93 : decode cX4_doCondition 93 = .ok (.if_icmp .ge 18, 3) := by decide +kernel
theorem dX4_doCondition_96 : decode cX4_doCondition 96 = .ok (.aload_n 0, 1) := by decide +kernel
theorem dX4_doCondition_97 : decode cX4_doCondition 97 = .ok (.iload 5, 2) := by decide +kernel
theorem dX4_doCondition_99 : decode cX4_doCondition 99 = .ok (.iload 6, 2) := by decide +kernel
theorem dX4_doCondition_101 : decode cX4_doCondition 101 = .ok (.iconst 0, 1) := by decide +kernel
theorem dX4_doCondition_102 : decode cX4_doCondition 102 = .ok (.invokevirtual 66, 3) := by decide +kernel
theorem dX4_doCondition_105 : decode cX4_doCondition 105 = .ok (.iinc 6 1, 3) := by decide +kernel
theorem dX4_doCondition_108 : decode cX4_doCondition 108 = .ok (.goto (-19), 3) := by decide +kernel
theorem dX4_doCondition_111 : decode cX4_doCondition 111 = .ok (.aload_n 0, 1) := by decide +kernel
theorem dX4_doCondition_112 : decode cX4_doCondition 112 = .ok (.iload 5, 2) := by decide +kernel
theorem dX4_doCondition_114 : decode cX4_doCondition 114 = .ok (.iconst 0, 1) := by decide +kernel
theorem dX4_doCondition_115 : decode cX4_doCondition 115 = .ok (.iload_n 1, 1) := by decide +kernel
theorem dX4_doCondition_116 : decode cX4_doCondition 116 = .ok (.invokevirtual 66, 3) := by decide +kernel
theorem dX4_doCondition_119 : decode cX4_doCondition 119 = .ok (.aload_n 0, 1) := by decide +kernel
theorem dX4_doCondition_120 : decode cX4_doCondition 120 = .ok (.iload 5, 2) := by decide +kernel
theorem dX4_doCondition_122 : decode cX4_doCondition 122 = .ok (.iconst 1, 1) := by decide +kernel
theorem dX4_doCondition_123 : decode cX4_doCondition 123 = .ok (.iload_n 2, 1) := by decide +kernel
theorem dX4_doCondition_124 : decode cX4_doCondition 124 = .ok (.invokevirtual 66, 3) := by decide +kernel
theorem dX4_doCondition_127 : decode cX4_doCondition 127 = .ok (.aload_n 0, 1) := by decide +kernel
theorem dX4_doCondition_128 : decode cX4_doCondition 128 = .ok (.iload 5, 2) := by decide +kernel
theorem dX4_doCondition_130 : decode cX4_doCondition 130 = .ok (.iconst 2, 1) := by decide +kernel
theorem dX4_doCondition_131 : decode cX4_doCondition 131 = .ok (.iload_n 3, 1) := by decide +kernel
theorem dX4_doCondition_132 : decode cX4_doCondition 132 = .ok (.invokevirtual 66, 3) := by decide +kernel
theorem dX4_doCondition_135 : decode cX4_doCondition 135 = .ok (.aload_n 0, 1) := by decide +kernel
theorem dX4_doCondition_136 : decode cX4_doCondition 136 = .ok (.iload 5, 2) := by decide +kernel
theorem dX4_doCondition_138 : decode cX4_doCondition 138 = .ok (.iconst 3, 1) := by decide +kernel
theorem dX4_doCondition_139 : decode cX4_doCondition 139 = .ok (.iload 4, 2) := by decide +kernel
theorem dX4_doCondition_141 : decode cX4_doCondition 141 = .ok (.invokevirtual 66, 3) := by decide +kernel
theorem dX4_doCondition_144 : decode cX4_doCondition 144 = .ok (.aload_n 0, 1) := by decide +kernel
theorem dX4_doCondition_145 : decode cX4_doCondition 145 = .ok (.iload 5, 2) := by decide +kernel
theorem dX4_doCondition_147 : decode cX4_doCondition 147 = .ok (.bipush 10, 2) := by decide +kernel
theorem dX4_doCondition_149 : decode cX4_doCondition 149 = .ok (.iconst (-1), 1) := by decide +kernel
theorem dX4_doCondition_150 : decode cX4_doCondition 150 = .ok (.invokevirtual 66, 3) := by decide +kernel
theorem dX4_doCondition_153 : decode cX4_doCondition 153 = .ok (.iload 5, 2) := by decide +kernel
theorem dX4_doCondition_155 : decode cX4_doCondition 155 = .ok (.ireturn, 1) := by decide +kernel
theorem dX4_mayBegin_0 : decode cX4_mayBegin 0 = .ok (.aload_n 0, 1) := by decide +kernel
theorem dX4_mayBegin_1 : decode cX4_mayBegin 1 = .ok (.iload_n 1, 1) := by decide +kernel
theorem dX4_mayBegin_2 : decode cX4_mayBegin 2 = .ok (.invokevirtual 54, 3) := by decide +kernel
theorem dX4_mayBegin_5 : decode cX4_mayBegin 5 = .ok (.ifCond .ne 21, 3) := by decide +kernel
theorem dX4_mayBegin_8 : decode cX4_mayBegin 8 = .ok (.iload_n 1, 1) := by decide +kernel
theorem dX4_mayBegin_9 : decode cX4_mayBegin 9 = .ok (.ifCond .eq 13, 3) := by decide +kernel
theorem dX4_mayBegin_12 : decode cX4_mayBegin 12 = .ok (.aload_n 0, 1) := by decide +kernel
theorem dX4_mayBegin_13 : decode cX4_mayBegin 13 = .ok (.iload_n 1, 1) := by decide +kernel
theorem dX4_mayBegin_14 : decode cX4_mayBegin 14 = .ok (.iconst 1, 1) := by decide +kernel
theorem dX4_mayBegin_15 : decode cX4_mayBegin 15 = .ok (.isub, 1) := by decide +kernel
theorem dX4_mayBegin_16 : decode cX4_mayBegin 16 = .ok (.invokevirtual 54, 3) := by decide +kernel
theorem dX4_mayBegin_19 : decode cX4_mayBegin 19 = .ok (.ifCond .eq 7, 3) := by decide +kernel
theorem dX4_mayBegin_22 : decode cX4_mayBegin 22 = .ok (.iconst 1, 1) := by decide +kernel
theorem dX4_mayBegin_23 : decode cX4_mayBegin 23 = .ok (.goto 4, 3) := by decide +kernel
theorem dX4_mayBegin_26 : decode cX4_mayBegin 26 = .ok (.iconst 0, 1) := by decide +kernel
theorem dX4_mayBegin_27 : decode cX4_mayBegin 27 = .ok (.ireturn, 1) := by decide +kernel
theorem dX4_unmetAhead_0 : decode cX4_unmetAhead 0 = .ok (.iconst 0, 1) := by decide +kernel
theorem dX4_unmetAhead_1 : decode cX4_unmetAhead 1 = .ok (.istore_n 2, 1) := by decide +kernel
theorem dX4_unmetAhead_2 : decode cX4_unmetAhead 2 = .ok (.iconst 0, 1) := by decide +kernel
theorem dX4_unmetAhead_3 : decode cX4_unmetAhead 3 = .ok (.istore_n 3, 1) := by decide +kernel
theorem dX4_unmetAhead_4 : decode cX4_unmetAhead 4 = .ok (.iload_n 3, 1) := by decide +kernel
theorem dX4_unmetAhead_5 : decode cX4_unmetAhead 5 = .ok (.aload_n 0, 1) := by decide +kernel
theorem dX4_unmetAhead_6 : decode cX4_unmetAhead 6 = .ok (.getfield 7, 3) := by decide +kernel
theorem dX4_unmetAhead_9 : decode cX4_unmetAhead 9 = .ok (.iconst 1, 1) := by decide +kernel
theorem dX4_unmetAhead_10 : decode cX4_unmetAhead 10 = .ok (.iaload, 1) := by decide +kernel
theorem dX4_unmetAhead_11 : decode cX4_unmetAhead 11 = .ok (.if_icmp .ge 46, 3) := by decide +kernel
theorem dX4_unmetAhead_14 : decode cX4_unmetAhead 14 = .ok (.iload_n 2, 1) := by decide +kernel
theorem dX4_unmetAhead_15 : decode cX4_unmetAhead 15 = .ok (.aload_n 0, 1) := by decide +kernel
theorem dX4_unmetAhead_16 : decode cX4_unmetAhead 16 = .ok (.iload_n 3, 1) := by decide +kernel
theorem dX4_unmetAhead_17 : decode cX4_unmetAhead 17 = .ok (.iconst 0, 1) := by decide +kernel
theorem dX4_unmetAhead_18 : decode cX4_unmetAhead 18 = .ok (.invokevirtual 46, 3) := by decide +kernel
theorem dX4_unmetAhead_21 : decode cX4_unmetAhead 21 = .ok (.ifCond .ne 27, 3) := by decide +kernel
theorem dX4_unmetAhead_24 : decode cX4_unmetAhead 24 = .ok (.aload_n 0, 1) := by decide +kernel
theorem dX4_unmetAhead_25 : decode cX4_unmetAhead 25 = .ok (.iload_n 3, 1) := by decide +kernel
theorem dX4_unmetAhead_26 : decode cX4_unmetAhead 26 = .ok (.iconst 1, 1) := by decide +kernel
theorem dX4_unmetAhead_27 : decode cX4_unmetAhead 27 = .ok (.invokevirtual 46, 3) := by decide +kernel
theorem dX4_unmetAhead_30 : decode cX4_unmetAhead 30 = .ok (.iload_n 1, 1) := by decide +kernel
theorem dX4_unmetAhead_31 : decode cX4_unmetAhead 31 = .ok (.if_icmp .ne 17, 3) := by decide +kernel
theorem dX4_unmetAhead_34 : decode cX4_unmetAhead 34 = .ok (.aload_n 0, 1) := by decide +kernel
theorem dX4_unmetAhead_35 : decode cX4_unmetAhead 35 = .ok (.iload_n 3, 1) := by decide +kernel
theorem dX4_unmetAhead_36 : decode cX4_unmetAhead 36 = .ok (.invokevirtual 60, 3) := by decide +kernel
theorem dX4_unmetAhead_39 : decode cX4_unmetAhead 39 = .ok (.ifCond .ne 9, 3) := by decide +kernel
theorem dX4_unmetAhead_42 : decode cX4_unmetAhead 42 = .ok (.iconst 1, 1) := by decide +kernel
theorem dX4_unmetAhead_43 : decode cX4_unmetAhead 43 = .ok (.iload_n 3, 1) := by decide +kernel
theorem dX4_unmetAhead_44 : decode cX4_unmetAhead 44 = .ok (.ishl, 1) := by decide +kernel
theorem dX4_unmetAhead_45 : decode cX4_unmetAhead 45 = .ok (.goto 4, 3) := by decide +kernel
theorem dX4_unmetAhead_48 : decode cX4_unmetAhead 48 = .ok (.iconst 0, 1) := by decide +kernel
theorem dX4_unmetAhead_49 : decode cX4_unmetAhead 49 = .ok (.ior, 1) := by decide +kernel
theorem dX4_unmetAhead_50 : decode cX4_unmetAhead 50 = .ok (.istore_n 2, 1) := by decide +kernel
theorem dX4_unmetAhead_51 : decode cX4_unmetAhead 51 = .ok (.iinc 3 1, 3) := by decide +kernel
theorem dX4_unmetAhead_54 : decode cX4_unmetAhead 54 = .ok (.goto (-50), 3) := by decide +kernel
theorem dX4_unmetAhead_57 : decode cX4_unmetAhead 57 = .ok (.iload_n 2, 1) := by decide +kernel
theorem dX4_unmetAhead_58 : decode cX4_unmetAhead 58 = .ok (.ireturn, 1) := by decide +kernel
theorem dX4_doBegin_0 : decode cX4_doBegin 0 = .ok (.iload_n 1, 1) := by decide +kernel
theorem dX4_doBegin_1 : decode cX4_doBegin 1 = .ok (.invokestatic 78, 3) := by decide +kernel
theorem dX4_doBegin_4 : decode cX4_doBegin 4 = .ok (.ifCond .ne 6, 3) := by decide +kernel
theorem dX4_doBegin_7 : decode cX4_doBegin 7 = .ok (.ldc 87, 2) := by decide +kernel
theorem dX4_doBegin_9 : decode cX4_doBegin 9 = .ok (.ireturn, 1) := by decide +kernel
theorem dX4_doBegin_10 : decode cX4_doBegin 10 = .ok (.aload_n 0, 1) := by decide +kernel
theorem dX4_doBegin_11 : decode cX4_doBegin 11 = .ok (.iload_n 1, 1) := by decide +kernel
theorem dX4_doBegin_12 : decode cX4_doBegin 12 = .ok (.invokevirtual 90, 3) := by decide +kernel
theorem dX4_doBegin_15 : decode cX4_doBegin 15 = .ok (.ifCond .ne 6, 3) := by decide +kernel
theorem dX4_doBegin_18 : decode cX4_doBegin 18 = .ok (.ldc 88, 2) := by decide +kernel
theorem dX4_doBegin_20 : decode cX4_doBegin 20 = .ok (.ireturn, 1) := by decide +kernel
theorem dX4_doBegin_21 : decode cX4_doBegin 21 = .ok (.aload_n 0, 1) := by decide +kernel
theorem dX4_doBegin_22 : decode cX4_doBegin 22 = .ok (.getfield 7, 3) := by decide +kernel
theorem dX4_doBegin_25 : decode cX4_doBegin 25 = .ok (.bipush 6, 2) := by decide +kernel
theorem dX4_doBegin_27 : decode cX4_doBegin 27 = .ok (.iload_n 1, 1) := by decide +kernel
theorem dX4_doBegin_28 : decode cX4_doBegin 28 = .ok (.iadd, 1) := by decide +kernel
theorem dX4_doBegin_29 : decode cX4_doBegin 29 = .ok (.aload_n 0, 1) := by decide +kernel
theorem dX4_doBegin_30 : decode cX4_doBegin 30 = .ok (.getfield 7, 3) := by decide +kernel
theorem dX4_doBegin_33 : decode cX4_doBegin 33 = .ok (.iconst 0, 1) := by decide +kernel
theorem dX4_doBegin_34 : decode cX4_doBegin 34 = .ok (.iaload, 1) := by decide +kernel
theorem dX4_doBegin_35 : decode cX4_doBegin 35 = .ok (.iastore, 1) := by decide +kernel
theorem dX4_doBegin_36 : decode cX4_doBegin 36 = .ok (.aload_n 0, 1) := by decide +kernel
theorem dX4_doBegin_37 : decode cX4_doBegin 37 = .ok (.iload_n 1, 1) := by decide +kernel
theorem dX4_doBegin_38 : decode cX4_doBegin 38 = .ok (.invokevirtual 93, 3) := by decide +kernel
theorem dX4_doBegin_41 : decode cX4_doBegin 41 = .ok (.istore_n 2, 1) := by decide +kernel
theorem dX4_doBegin_42 : decode cX4_doBegin 42 = .ok (.iconst 0, 1) := by decide +kernel
theorem dX4_doBegin_43 : decode cX4_doBegin 43 = .ok (.istore_n 3, 1) := by decide +kernel
theorem dX4_doBegin_44 : decode cX4_doBegin 44 = .ok (.iload_n 3, 1) := by decide +kernel
theorem dX4_doBegin_45 : decode cX4_doBegin 45 = .ok (.aload_n 0, 1) := by decide +kernel
theorem dX4_doBegin_46 : decode cX4_doBegin 46 = .ok (.getfield 7, 3) := by decide +kernel
theorem dX4_doBegin_49 : decode cX4_doBegin 49 = .ok (.iconst 1, 1) := by decide +kernel
theorem dX4_doBegin_50 : decode cX4_doBegin 50 = .ok (.iaload, 1) := by decide +kernel
theorem dX4_doBegin_51 : decode cX4_doBegin 51 = .ok (.if_icmp .ge 23, 3) := by decide +kernel
theorem dX4_doBegin_54 : decode cX4_doBegin 54 = .ok (.iload_n 2, 1) := by decide +kernel
theorem dX4_doBegin_55 : decode cX4_doBegin 55 = .ok (.iload_n 3, 1) := by decide +kernel
theorem dX4_doBegin_56 : decode cX4_doBegin 56 = .ok (.ishr, 1) := by decide +kernel
theorem dX4_doBegin_57 : decode cX4_doBegin 57 = .ok (.iconst 1, 1) := by decide +kernel
theorem dX4_doBegin_58 : decode cX4_doBegin 58 = .ok (.iand, 1) := by decide +kernel
theorem dX4_doBegin_59 : decode cX4_doBegin 59 = .ok (.iconst 1, 1) := by decide +kernel
theorem dX4_doBegin_60 : decode cX4_doBegin 60 = .ok (.if_icmp .ne 8, 3) := by decide +kernel
theorem dX4_doBegin_63 : decode cX4_doBegin 63 = .ok (.aload_n 0, 1) := by decide +kernel
theorem dX4_doBegin_64 : decode cX4_doBegin 64 = .ok (.iload_n 3, 1) := by decide +kernel
theorem dX4_doBegin_65 : decode cX4_doBegin 65 = .ok (.invokevirtual 96, 3) := by decide +kernel
theorem dX4_doBegin_68 : decode cX4_doBegin 68 = .ok (.iinc 3 1, 3) := by decide +kernel
theorem dX4_doBegin_71 : decode cX4_doBegin 71 = .ok (.goto (-27), 3) := by decide +kernel
theorem dX4_doBegin_74 : decode cX4_doBegin 74 = .ok (.iload_n 2, 1) := by decide +kernel
theorem dX4_doBegin_75 : decode cX4_doBegin 75 = .ok (.ireturn, 1) := by decide +kernel
theorem dX4_doFinish_0 : decode cX4_doFinish 0 = .ok (.iload_n 1, 1) := by decide +kernel
theorem dX4_doFinish_1 : decode cX4_doFinish 1 = .ok (.invokestatic 78, 3) := by decide +kernel
theorem dX4_doFinish_4 : decode cX4_doFinish 4 = .ok (.ifCond .ne 6, 3) := by decide +kernel
theorem dX4_doFinish_7 : decode cX4_doFinish 7 = .ok (.ldc 87, 2) := by decide +kernel
theorem dX4_doFinish_9 : decode cX4_doFinish 9 = .ok (.ireturn, 1) := by decide +kernel
theorem dX4_doFinish_10 : decode cX4_doFinish 10 = .ok (.aload_n 0, 1) := by decide +kernel
theorem dX4_doFinish_11 : decode cX4_doFinish 11 = .ok (.iload_n 1, 1) := by decide +kernel
theorem dX4_doFinish_12 : decode cX4_doFinish 12 = .ok (.invokevirtual 54, 3) := by decide +kernel
theorem dX4_doFinish_15 : decode cX4_doFinish 15 = .ok (.ifCond .eq 11, 3) := by decide +kernel
theorem dX4_doFinish_18 : decode cX4_doFinish 18 = .ok (.aload_n 0, 1) := by decide +kernel
theorem dX4_doFinish_19 : decode cX4_doFinish 19 = .ok (.iload_n 1, 1) := by decide +kernel
theorem dX4_doFinish_20 : decode cX4_doFinish 20 = .ok (.invokevirtual 57, 3) := by decide +kernel
theorem dX4_doFinish_23 : decode cX4_doFinish 23 = .ok (.ifCond .eq 6, 3) := by decide +kernel
theorem dX4_doFinish_26 : decode cX4_doFinish 26 = .ok (.ldc 88, 2) := by decide +kernel
theorem dX4_doFinish_28 : decode cX4_doFinish 28 = .ok (.ireturn, 1) := by decide +kernel
theorem dX4_doFinish_29 : decode cX4_doFinish 29 = .ok (.aload_n 0, 1) := by decide +kernel
theorem dX4_doFinish_30 : decode cX4_doFinish 30 = .ok (.getfield 7, 3) := by decide +kernel
theorem dX4_doFinish_33 : decode cX4_doFinish 33 = .ok (.bipush 11, 2) := by decide +kernel
theorem dX4_doFinish_35 : decode cX4_doFinish 35 = .ok (.iload_n 1, 1) := by decide +kernel
theorem dX4_doFinish_36 : decode cX4_doFinish 36 = .ok (.iadd, 1) := by decide +kernel
theorem dX4_doFinish_37 : decode cX4_doFinish 37 = .ok (.aload_n 0, 1) := by decide +kernel
theorem dX4_doFinish_38 : decode cX4_doFinish 38 = .ok (.getfield 7, 3) := by decide +kernel
theorem dX4_doFinish_41 : decode cX4_doFinish 41 = .ok (.iconst 0, 1) := by decide +kernel
theorem dX4_doFinish_42 : decode cX4_doFinish 42 = .ok (.iaload, 1) := by decide +kernel
theorem dX4_doFinish_43 : decode cX4_doFinish 43 = .ok (.iastore, 1) := by decide +kernel
theorem dX4_doFinish_44 : decode cX4_doFinish 44 = .ok (.aload_n 0, 1) := by decide +kernel
theorem dX4_doFinish_45 : decode cX4_doFinish 45 = .ok (.getfield 7, 3) := by decide +kernel
theorem dX4_doFinish_48 : decode cX4_doFinish 48 = .ok (.iconst 0, 1) := by decide +kernel
theorem dX4_doFinish_49 : decode cX4_doFinish 49 = .ok (.iaload, 1) := by decide +kernel
theorem dX4_doFinish_50 : decode cX4_doFinish 50 = .ok (.aload_n 0, 1) := by decide +kernel
theorem dX4_doFinish_51 : decode cX4_doFinish 51 = .ok (.getfield 7, 3) := by decide +kernel
theorem dX4_doFinish_54 : decode cX4_doFinish 54 = .ok (.bipush 6, 2) := by decide +kernel
theorem dX4_doFinish_56 : decode cX4_doFinish 56 = .ok (.iload_n 1, 1) := by decide +kernel
theorem dX4_doFinish_57 : decode cX4_doFinish 57 = .ok (.iadd, 1) := by decide +kernel
theorem dX4_doFinish_58 : decode cX4_doFinish 58 = .ok (.iaload, 1) := by decide +kernel
theorem dX4_doFinish_59 : decode cX4_doFinish 59 = .ok (.isub, 1) := by decide +kernel
theorem dX4_doFinish_60 : decode cX4_doFinish 60 = .ok (.ireturn, 1) := by decide +kernel
theorem dX4_doApply_0 : decode cX4_doApply 0 = .ok (.aload_n 0, 1) := by decide +kernel
theorem dX4_doApply_1 : decode cX4_doApply 1 = .ok (.iload_n 1, 1) := by decide +kernel
theorem dX4_doApply_2 : decode cX4_doApply 2 = .ok (.invokevirtual 99, 3) := by decide +kernel
theorem dX4_doApply_5 : decode cX4_doApply 5 = .ok (.ifCond .eq 18, 3) := by decide +kernel
theorem dX4_doApply_8 : decode cX4_doApply 8 = .ok (.iload_n 2, 1) := by decide +kernel
theorem dX4_doApply_9 : decode cX4_doApply 9 = .ok (.i2l, 1) := by decide +kernel
theorem dX4_doApply_10 : decode cX4_doApply 10 = .ok (.lconst 1, 1) := by decide +kernel
theorem dX4_doApply_11 : decode cX4_doApply 11 = .ok (.aload_n 0, 1) := by decide +kernel
theorem dX4_doApply_12 : decode cX4_doApply 12 = .ok (.iload_n 1, 1) := by decide +kernel
theorem dX4_doApply_13 : decode cX4_doApply 13 = .ok (.invokevirtual 50, 3) := by decide +kernel
theorem dX4_doApply_16 : decode cX4_doApply 16 = .ok (.i2l, 1) := by decide +kernel
theorem dX4_doApply_17 : decode cX4_doApply 17 = .ok (.invokestatic 40, 3) := by decide +kernel
theorem dX4_doApply_20 : decode cX4_doApply 20 = .ok (.ifCond .ne 6, 3) := by decide +kernel
theorem dX4_doApply_23 : decode cX4_doApply 23 = .ok (.ldc 87, 2) := by decide +kernel
theorem dX4_doApply_25 : decode cX4_doApply 25 = .ok (.ireturn, 1) := by decide +kernel
theorem dX4_doApply_26 : decode cX4_doApply 26 = .ok (.aload_n 0, 1) := by decide +kernel
theorem dX4_doApply_27 : decode cX4_doApply 27 = .ok (.iload_n 1, 1) := by decide +kernel
theorem dX4_doApply_28 : decode cX4_doApply 28 = .ok (.iconst 0, 1) := by decide +kernel
theorem dX4_doApply_29 : decode cX4_doApply 29 = .ok (.invokevirtual 46, 3) := by decide +kernel
theorem dX4_doApply_32 : decode cX4_doApply 32 = .ok (.iconst 2, 1) := by decide +kernel
theorem dX4_doApply_33 : decode cX4_doApply 33 = .ok (.if_icmp .eq 23, 3) := by decide +kernel
theorem dX4_doApply_36 : decode cX4_doApply 36 = .ok (.aload_n 0, 1) := by decide +kernel
theorem dX4_doApply_37 : decode cX4_doApply 37 = .ok (.iload_n 1, 1) := by decide +kernel
theorem dX4_doApply_38 : decode cX4_doApply 38 = .ok (.iconst 5, 1) := by decide +kernel
theorem dX4_doApply_39 : decode cX4_doApply 39 = .ok (.invokevirtual 46, 3) := by decide +kernel
theorem dX4_doApply_42 : decode cX4_doApply 42 = .ok (.ifCond .ne 14, 3) := by decide +kernel
theorem dX4_doApply_45 : decode cX4_doApply 45 = .ok (.aload_n 0, 1) := by decide +kernel
theorem dX4_doApply_46 : decode cX4_doApply 46 = .ok (.iload_n 1, 1) := by decide +kernel
theorem dX4_doApply_47 : decode cX4_doApply 47 = .ok (.iconst 4, 1) := by decide +kernel
theorem dX4_doApply_48 : decode cX4_doApply 48 = .ok (.invokevirtual 46, 3) := by decide +kernel
theorem dX4_doApply_51 : decode cX4_doApply 51 = .ok (.iload_n 2, 1) := by decide +kernel
theorem dX4_doApply_52 : decode cX4_doApply 52 = .ok (.iand, 1) := by decide +kernel
theorem dX4_doApply_53 : decode cX4_doApply 53 = .ok (.ifCond .eq 6, 3) := by decide +kernel
theorem dX4_doApply_56 : decode cX4_doApply 56 = .ok (.ldc 88, 2) := by decide +kernel
theorem dX4_doApply_58 : decode cX4_doApply 58 = .ok (.ireturn, 1) := by decide +kernel
theorem dX4_doApply_59 : decode cX4_doApply 59 = .ok (.aload_n 0, 1) := by decide +kernel
theorem dX4_doApply_60 : decode cX4_doApply 60 = .ok (.iload_n 1, 1) := by decide +kernel
theorem dX4_doApply_61 : decode cX4_doApply 61 = .ok (.iconst 5, 1) := by decide +kernel
theorem dX4_doApply_62 : decode cX4_doApply 62 = .ok (.iload_n 2, 1) := by decide +kernel
theorem dX4_doApply_63 : decode cX4_doApply 63 = .ok (.invokevirtual 66, 3) := by decide +kernel
theorem dX4_doApply_66 : decode cX4_doApply 66 = .ok (.aload_n 0, 1) := by decide +kernel
theorem dX4_doApply_67 : decode cX4_doApply 67 = .ok (.iload_n 1, 1) := by decide +kernel
theorem dX4_doApply_68 : decode cX4_doApply 68 = .ok (.bipush 6, 2) := by decide +kernel
theorem dX4_doApply_70 : decode cX4_doApply 70 = .ok (.iconst 0, 1) := by decide +kernel
theorem dX4_doApply_71 : decode cX4_doApply 71 = .ok (.invokevirtual 66, 3) := by decide +kernel
theorem dX4_doApply_74 : decode cX4_doApply 74 = .ok (.aload_n 0, 1) := by decide +kernel
theorem dX4_doApply_75 : decode cX4_doApply 75 = .ok (.getfield 7, 3) := by decide +kernel
theorem dX4_doApply_78 : decode cX4_doApply 78 = .ok (.iconst 2, 1) := by decide +kernel
theorem dX4_doApply_79 : decode cX4_doApply 79 = .ok (.iaload, 1) := by decide +kernel
theorem dX4_doApply_80 : decode cX4_doApply 80 = .ok (.ireturn, 1) := by decide +kernel
theorem dX4_doDecide_0 : decode cX4_doDecide 0 = .ok (.aload_n 0, 1) := by decide +kernel
theorem dX4_doDecide_1 : decode cX4_doDecide 1 = .ok (.iload_n 1, 1) := by decide +kernel
theorem dX4_doDecide_2 : decode cX4_doDecide 2 = .ok (.invokevirtual 99, 3) := by decide +kernel
theorem dX4_doDecide_5 : decode cX4_doDecide 5 = .ok (.ifCond .eq 18, 3) := by decide +kernel
theorem dX4_doDecide_8 : decode cX4_doDecide 8 = .ok (.iload_n 2, 1) := by decide +kernel
theorem dX4_doDecide_9 : decode cX4_doDecide 9 = .ok (.i2l, 1) := by decide +kernel
theorem dX4_doDecide_10 : decode cX4_doDecide 10 = .ok (.lconst 0, 1) := by decide +kernel
theorem dX4_doDecide_11 : decode cX4_doDecide 11 = .ok (.aload_n 0, 1) := by decide +kernel
theorem dX4_doDecide_12 : decode cX4_doDecide 12 = .ok (.iload_n 1, 1) := by decide +kernel
theorem dX4_doDecide_13 : decode cX4_doDecide 13 = .ok (.invokevirtual 50, 3) := by decide +kernel
theorem dX4_doDecide_16 : decode cX4_doDecide 16 = .ok (.i2l, 1) := by decide +kernel
theorem dX4_doDecide_17 : decode cX4_doDecide 17 = .ok (.invokestatic 40, 3) := by decide +kernel
theorem dX4_doDecide_20 : decode cX4_doDecide 20 = .ok (.ifCond .ne 6, 3) := by decide +kernel
theorem dX4_doDecide_23 : decode cX4_doDecide 23 = .ok (.ldc 87, 2) := by decide +kernel
theorem dX4_doDecide_25 : decode cX4_doDecide 25 = .ok (.ireturn, 1) := by decide +kernel
theorem dX4_doDecide_26 : decode cX4_doDecide 26 = .ok (.aload_n 0, 1) := by decide +kernel
theorem dX4_doDecide_27 : decode cX4_doDecide 27 = .ok (.iload_n 1, 1) := by decide +kernel
theorem dX4_doDecide_28 : decode cX4_doDecide 28 = .ok (.iconst 5, 1) := by decide +kernel
theorem dX4_doDecide_29 : decode cX4_doDecide 29 = .ok (.invokevirtual 46, 3) := by decide +kernel
theorem dX4_doDecide_32 : decode cX4_doDecide 32 = .ok (.ifCond .eq 16, 3) := by decide +kernel
theorem dX4_doDecide_35 : decode cX4_doDecide 35 = .ok (.iload_n 2, 1) := by decide +kernel
theorem dX4_doDecide_36 : decode cX4_doDecide 36 = .ok (.aload_n 0, 1) := by decide +kernel
theorem dX4_doDecide_37 : decode cX4_doDecide 37 = .ok (.iload_n 1, 1) := by decide +kernel
theorem dX4_doDecide_38 : decode cX4_doDecide 38 = .ok (.iconst 5, 1) := by decide +kernel
theorem dX4_doDecide_39 : decode cX4_doDecide 39 = .ok (.invokevirtual 46, 3) := by decide +kernel
theorem dX4_doDecide_42 : decode cX4_doDecide 42 = .ok (.iconst (-1), 1) := by decide +kernel
theorem dX4_doDecide_43 : decode cX4_doDecide 43 = .ok (.ixor, 1) := by decide +kernel
theorem dX4_doDecide_44 : decode cX4_doDecide 44 = .ok (.iand, 1) := by decide +kernel
theorem dX4_doDecide_45 : decode cX4_doDecide 45 = .ok (.ifCond .eq 6, 3) := by decide +kernel
theorem dX4_doDecide_48 : decode cX4_doDecide 48 = .ok (.ldc 88, 2) := by decide +kernel
theorem dX4_doDecide_50 : decode cX4_doDecide 50 = .ok (.ireturn, 1) := by decide +kernel
theorem dX4_doDecide_51 : decode cX4_doDecide 51 = .ok (.aload_n 0, 1) := by decide +kernel
theorem dX4_doDecide_52 : decode cX4_doDecide 52 = .ok (.iload_n 1, 1) := by decide +kernel
theorem dX4_doDecide_53 : decode cX4_doDecide 53 = .ok (.iload_n 2, 1) := by decide +kernel
theorem dX4_doDecide_54 : decode cX4_doDecide 54 = .ok (.invokevirtual 102, 3) := by decide +kernel
theorem dX4_doDecide_57 : decode cX4_doDecide 57 = .ok (.aload_n 0, 1) := by decide +kernel
theorem dX4_doDecide_58 : decode cX4_doDecide 58 = .ok (.iload_n 1, 1) := by decide +kernel
theorem dX4_doDecide_59 : decode cX4_doDecide 59 = .ok (.iconst 3, 1) := by decide +kernel
theorem dX4_doDecide_60 : decode cX4_doDecide 60 = .ok (.invokevirtual 46, 3) := by decide +kernel
theorem dX4_doDecide_63 : decode cX4_doDecide 63 = .ok (.aload_n 0, 1) := by decide +kernel
theorem dX4_doDecide_64 : decode cX4_doDecide 64 = .ok (.iload_n 1, 1) := by decide +kernel
theorem dX4_doDecide_65 : decode cX4_doDecide 65 = .ok (.iconst 4, 1) := by decide +kernel
theorem dX4_doDecide_66 : decode cX4_doDecide 66 = .ok (.invokevirtual 46, 3) := by decide +kernel
theorem dX4_doDecide_69 : decode cX4_doDecide 69 = .ok (.invokestatic 106, 3) := by decide +kernel
theorem dX4_doDecide_72 : decode cX4_doDecide 72 = .ok (.isub, 1) := by decide +kernel
theorem dX4_doDecide_73 : decode cX4_doDecide 73 = .ok (.ireturn, 1) := by decide +kernel
theorem dX4_doLapse_0 : decode cX4_doLapse 0 = .ok (.aload_n 0, 1) := by decide +kernel
theorem dX4_doLapse_1 : decode cX4_doLapse 1 = .ok (.iload_n 1, 1) := by decide +kernel
theorem dX4_doLapse_2 : decode cX4_doLapse 2 = .ok (.invokevirtual 99, 3) := by decide +kernel
theorem dX4_doLapse_5 : decode cX4_doLapse 5 = .ok (.ifCond .ne 6, 3) := by decide +kernel
theorem dX4_doLapse_8 : decode cX4_doLapse 8 = .ok (.ldc 87, 2) := by decide +kernel
theorem dX4_doLapse_10 : decode cX4_doLapse 10 = .ok (.ireturn, 1) := by decide +kernel
theorem dX4_doLapse_11 : decode cX4_doLapse 11 = .ok (.aload_n 0, 1) := by decide +kernel
theorem dX4_doLapse_12 : decode cX4_doLapse 12 = .ok (.iload_n 1, 1) := by decide +kernel
theorem dX4_doLapse_13 : decode cX4_doLapse 13 = .ok (.iconst 0, 1) := by decide +kernel
theorem dX4_doLapse_14 : decode cX4_doLapse 14 = .ok (.invokevirtual 46, 3) := by decide +kernel
theorem dX4_doLapse_17 : decode cX4_doLapse 17 = .ok (.iconst 2, 1) := by decide +kernel
theorem dX4_doLapse_18 : decode cX4_doLapse 18 = .ok (.if_icmp .ne 12, 3) := by decide +kernel
theorem dX4_doLapse_21 : decode cX4_doLapse 21 = .ok (.aload_n 0, 1) := by decide +kernel
theorem dX4_doLapse_22 : decode cX4_doLapse 22 = .ok (.iload_n 1, 1) := by decide +kernel
theorem dX4_doLapse_23 : decode cX4_doLapse 23 = .ok (.invokevirtual 109, 3) := by decide +kernel
theorem dX4_doLapse_26 : decode cX4_doLapse 26 = .ok (.iconst 1, 1) := by decide +kernel
theorem dX4_doLapse_27 : decode cX4_doLapse 27 = .ok (.if_icmp .eq 6, 3) := by decide +kernel
theorem dX4_doLapse_30 : decode cX4_doLapse 30 = .ok (.ldc 88, 2) := by decide +kernel
theorem dX4_doLapse_32 : decode cX4_doLapse 32 = .ok (.ireturn, 1) := by decide +kernel
theorem dX4_doLapse_33 : decode cX4_doLapse 33 = .ok (.aload_n 0, 1) := by decide +kernel
theorem dX4_doLapse_34 : decode cX4_doLapse 34 = .ok (.iload_n 1, 1) := by decide +kernel
theorem dX4_doLapse_35 : decode cX4_doLapse 35 = .ok (.invokevirtual 96, 3) := by decide +kernel
theorem dX4_doLapse_38 : decode cX4_doLapse 38 = .ok (.aload_n 0, 1) := by decide +kernel
theorem dX4_doLapse_39 : decode cX4_doLapse 39 = .ok (.iload_n 1, 1) := by decide +kernel
theorem dX4_doLapse_40 : decode cX4_doLapse 40 = .ok (.bipush 7, 2) := by decide +kernel
theorem dX4_doLapse_42 : decode cX4_doLapse 42 = .ok (.invokevirtual 46, 3) := by decide +kernel
theorem dX4_doLapse_45 : decode cX4_doLapse 45 = .ok (.ireturn, 1) := by decide +kernel
theorem dX4_doCure_0 : decode cX4_doCure 0 = .ok (.aload_n 0, 1) := by decide +kernel
theorem dX4_doCure_1 : decode cX4_doCure 1 = .ok (.iload_n 1, 1) := by decide +kernel
theorem dX4_doCure_2 : decode cX4_doCure 2 = .ok (.invokevirtual 99, 3) := by decide +kernel
theorem dX4_doCure_5 : decode cX4_doCure 5 = .ok (.ifCond .ne 6, 3) := by decide +kernel
theorem dX4_doCure_8 : decode cX4_doCure 8 = .ok (.ldc 87, 2) := by decide +kernel
theorem dX4_doCure_10 : decode cX4_doCure 10 = .ok (.ireturn, 1) := by decide +kernel
theorem dX4_doCure_11 : decode cX4_doCure 11 = .ok (.aload_n 0, 1) := by decide +kernel
theorem dX4_doCure_12 : decode cX4_doCure 12 = .ok (.iload_n 1, 1) := by decide +kernel
theorem dX4_doCure_13 : decode cX4_doCure 13 = .ok (.iconst 0, 1) := by decide +kernel
theorem dX4_doCure_14 : decode cX4_doCure 14 = .ok (.invokevirtual 46, 3) := by decide +kernel
theorem dX4_doCure_17 : decode cX4_doCure 17 = .ok (.iconst 2, 1) := by decide +kernel
theorem dX4_doCure_18 : decode cX4_doCure 18 = .ok (.if_icmp .ne 12, 3) := by decide +kernel
theorem dX4_doCure_21 : decode cX4_doCure 21 = .ok (.aload_n 0, 1) := by decide +kernel
theorem dX4_doCure_22 : decode cX4_doCure 22 = .ok (.iload_n 1, 1) := by decide +kernel
theorem dX4_doCure_23 : decode cX4_doCure 23 = .ok (.invokevirtual 109, 3) := by decide +kernel
theorem dX4_doCure_26 : decode cX4_doCure 26 = .ok (.iconst 3, 1) := by decide +kernel
theorem dX4_doCure_27 : decode cX4_doCure 27 = .ok (.if_icmp .eq 6, 3) := by decide +kernel
theorem dX4_doCure_30 : decode cX4_doCure 30 = .ok (.ldc 88, 2) := by decide +kernel
theorem dX4_doCure_32 : decode cX4_doCure 32 = .ok (.ireturn, 1) := by decide +kernel
theorem dX4_doCure_33 : decode cX4_doCure 33 = .ok (.aload_n 0, 1) := by decide +kernel
theorem dX4_doCure_34 : decode cX4_doCure 34 = .ok (.iload_n 1, 1) := by decide +kernel
theorem dX4_doCure_35 : decode cX4_doCure 35 = .ok (.bipush 9, 2) := by decide +kernel
theorem dX4_doCure_37 : decode cX4_doCure 37 = .ok (.invokevirtual 46, 3) := by decide +kernel
theorem dX4_doCure_40 : decode cX4_doCure 40 = .ok (.istore_n 2, 1) := by decide +kernel
theorem dX4_doCure_41 : decode cX4_doCure 41 = .ok (.aload_n 0, 1) := by decide +kernel
theorem dX4_doCure_42 : decode cX4_doCure 42 = .ok (.iload_n 1, 1) := by decide +kernel
theorem dX4_doCure_43 : decode cX4_doCure 43 = .ok (.invokevirtual 70, 3) := by decide +kernel
theorem dX4_doCure_46 : decode cX4_doCure 46 = .ok (.iload_n 2, 1) := by decide +kernel
theorem dX4_doCure_47 : decode cX4_doCure 47 = .ok (.ireturn, 1) := by decide +kernel
theorem dX4_doServe_0 : decode cX4_doServe 0 = .ok (.aload_n 0, 1) := by decide +kernel
theorem dX4_doServe_1 : decode cX4_doServe 1 = .ok (.iload_n 1, 1) := by decide +kernel
theorem dX4_doServe_2 : decode cX4_doServe 2 = .ok (.invokevirtual 99, 3) := by decide +kernel
theorem dX4_doServe_5 : decode cX4_doServe 5 = .ok (.ifCond .eq 15, 3) := by decide +kernel
theorem dX4_doServe_8 : decode cX4_doServe 8 = .ok (.iload_n 2, 1) := by decide +kernel
theorem dX4_doServe_9 : decode cX4_doServe 9 = .ok (.i2l, 1) := by decide +kernel
theorem dX4_doServe_10 : decode cX4_doServe 10 = .ok (.lconst 1, 1) := by decide +kernel
theorem dX4_doServe_11 : decode cX4_doServe 11 = .ok (.ldc2_w 112, 3) := by decide +kernel
theorem dX4_doServe_14 : decode cX4_doServe 14 = .ok (.invokestatic 40, 3) := by decide +kernel
theorem dX4_doServe_17 : decode cX4_doServe 17 = .ok (.ifCond .ne 6, 3) := by decide +kernel
theorem dX4_doServe_20 : decode cX4_doServe 20 = .ok (.ldc 87, 2) := by decide +kernel
theorem dX4_doServe_22 : decode cX4_doServe 22 = .ok (.ireturn, 1) := by decide +kernel
theorem dX4_doServe_23 : decode cX4_doServe 23 = .ok (.aload_n 0, 1) := by decide +kernel
theorem dX4_doServe_24 : decode cX4_doServe 24 = .ok (.iload_n 1, 1) := by decide +kernel
theorem dX4_doServe_25 : decode cX4_doServe 25 = .ok (.invokevirtual 109, 3) := by decide +kernel
theorem dX4_doServe_28 : decode cX4_doServe 28 = .ok (.iconst 3, 1) := by decide +kernel
theorem dX4_doServe_29 : decode cX4_doServe 29 = .ok (.if_icmp .eq 6, 3) := by decide +kernel
theorem dX4_doServe_32 : decode cX4_doServe 32 = .ok (.ldc 88, 2) := by decide +kernel
theorem dX4_doServe_34 : decode cX4_doServe 34 = .ok (.ireturn, 1) := by decide +kernel
theorem dX4_doServe_35 : decode cX4_doServe 35 = .ok (.aload_n 0, 1) := by decide +kernel
theorem dX4_doServe_36 : decode cX4_doServe 36 = .ok (.iload_n 1, 1) := by decide +kernel
theorem dX4_doServe_37 : decode cX4_doServe 37 = .ok (.bipush 10, 2) := by decide +kernel
theorem dX4_doServe_39 : decode cX4_doServe 39 = .ok (.iload_n 2, 1) := by decide +kernel
theorem dX4_doServe_40 : decode cX4_doServe 40 = .ok (.invokevirtual 66, 3) := by decide +kernel
theorem dX4_doServe_43 : decode cX4_doServe 43 = .ok (.aload_n 0, 1) := by decide +kernel
theorem dX4_doServe_44 : decode cX4_doServe 44 = .ok (.iload_n 1, 1) := by decide +kernel
theorem dX4_doServe_45 : decode cX4_doServe 45 = .ok (.bipush 9, 2) := by decide +kernel
theorem dX4_doServe_47 : decode cX4_doServe 47 = .ok (.invokevirtual 46, 3) := by decide +kernel
theorem dX4_doServe_50 : decode cX4_doServe 50 = .ok (.ireturn, 1) := by decide +kernel
end
section
-- decode rows out of the printed list of the task
theorem dX4_isValue_0 : decode cX4_isValue 0 = .ok (.iload_n 2, 1) := by decide +kernel
theorem dX4_isValue_1 : decode cX4_isValue 1 = .ok (.ifCond .ne 16, 3) := by decide +kernel
theorem dX4_isValue_4 : decode cX4_isValue 4 = .ok (.aload_n 0, 1) := by decide +kernel
theorem dX4_isValue_5 : decode cX4_isValue 5 = .ok (.iload_n 1, 1) := by decide +kernel
theorem dX4_isValue_6 : decode cX4_isValue 6 = .ok (.iconst 0, 1) := by decide +kernel
theorem dX4_isValue_7 : decode cX4_isValue 7 = .ok (.invokevirtual 46, 3) := by decide +kernel
theorem dX4_isValue_10 : decode cX4_isValue 10 = .ok (.iload_n 3, 1) := by decide +kernel
theorem dX4_isValue_11 : decode cX4_isValue 11 = .ok (.invokestatic 81, 3) := by decide +kernel
theorem dX4_isValue_14 : decode cX4_isValue 14 = .ok (.goto 37, 3) := by decide +kernel
theorem dX4_isValue_17 : decode cX4_isValue 17 = .ok (.iload_n 2, 1) := by decide +kernel
theorem dX4_isValue_18 : decode cX4_isValue 18 = .ok (.iconst 1, 1) := by decide +kernel
theorem dX4_isValue_19 : decode cX4_isValue 19 = .ok (.if_icmp .ne 15, 3) := by decide +kernel
theorem dX4_isValue_22 : decode cX4_isValue 22 = .ok (.iload_n 3, 1) := by decide +kernel
theorem dX4_isValue_23 : decode cX4_isValue 23 = .ok (.i2l, 1) := by decide +kernel
theorem dX4_isValue_24 : decode cX4_isValue 24 = .ok (.lconst 1, 1) := by decide +kernel
theorem dX4_isValue_25 : decode cX4_isValue 25 = .ok (.ldc2_w 85, 3) := by decide +kernel
theorem dX4_isValue_28 : decode cX4_isValue 28 = .ok (.invokestatic 40, 3) := by decide +kernel
theorem dX4_isValue_31 : decode cX4_isValue 31 = .ok (.goto 20, 3) := by decide +kernel
theorem dX4_isValue_34 : decode cX4_isValue 34 = .ok (.iload_n 2, 1) := by decide +kernel
theorem dX4_isValue_35 : decode cX4_isValue 35 = .ok (.iconst 2, 1) := by decide +kernel
theorem dX4_isValue_36 : decode cX4_isValue 36 = .ok (.if_icmp .ne 14, 3) := by decide +kernel
theorem dX4_isValue_39 : decode cX4_isValue 39 = .ok (.iload_n 3, 1) := by decide +kernel
theorem dX4_isValue_40 : decode cX4_isValue 40 = .ok (.invokestatic 78, 3) := by decide +kernel
theorem dX4_isValue_43 : decode cX4_isValue 43 = .ok (.ifCond .eq 7, 3) := by decide +kernel
theorem dX4_isValue_46 : decode cX4_isValue 46 = .ok (.iconst 1, 1) := by decide +kernel
theorem dX4_isValue_47 : decode cX4_isValue 47 = .ok (.goto 4, 3) := by decide +kernel
theorem dX4_isValue_50 : decode cX4_isValue 50 = .ok (.iconst 0, 1) := by decide +kernel
theorem dX4_isValue_51 : decode cX4_isValue 51 = .ok (.ireturn, 1) := by decide +kernel
theorem dX4_mayVary_0 : decode cX4_mayVary 0 = .ok (.iload_n 2, 1) := by decide +kernel
theorem dX4_mayVary_1 : decode cX4_mayVary 1 = .ok (.ifCond .ne 48, 3) := by decide +kernel
theorem dX4_mayVary_4 : decode cX4_mayVary 4 = .ok (.aload_n 0, 1) := by decide +kernel
theorem dX4_mayVary_5 : decode cX4_mayVary 5 = .ok (.iload_n 1, 1) := by decide +kernel
theorem dX4_mayVary_6 : decode cX4_mayVary 6 = .ok (.bipush 7, 2) := by decide +kernel
theorem dX4_mayVary_8 : decode cX4_mayVary 8 = .ok (.invokevirtual 46, 3) := by decide +kernel
theorem dX4_mayVary_11 : decode cX4_mayVary 11 = .ok (.istore 4, 2) := by decide +kernel
theorem dX4_mayVary_13 : decode cX4_mayVary 13 = .ok (.aload_n 0, 1) := by decide +kernel
theorem dX4_mayVary_14 : decode cX4_mayVary 14 = .ok (.iload_n 1, 1) := by decide +kernel
theorem dX4_mayVary_15 : decode cX4_mayVary 15 = .ok (.iconst 0, 1) := by decide +kernel
theorem dX4_mayVary_16 : decode cX4_mayVary 16 = .ok (.invokevirtual 46, 3) := by decide +kernel
theorem dX4_mayVary_19 : decode cX4_mayVary 19 = .ok (.iconst 2, 1) := by decide +kernel
theorem dX4_mayVary_20 : decode cX4_mayVary 20 = .ok (.if_icmp .ne 17, 3) := by decide +kernel
theorem dX4_mayVary_23 : decode cX4_mayVary 23 = .ok (.iload 4, 2) := by decide +kernel
theorem dX4_mayVary_25 : decode cX4_mayVary 25 = .ok (.iload_n 3, 1) := by decide +kernel
theorem dX4_mayVary_26 : decode cX4_mayVary 26 = .ok (.if_icmp .ge 7, 3) := by decide +kernel
theorem dX4_mayVary_29 : decode cX4_mayVary 29 = .ok (.iconst 1, 1) := by decide +kernel
theorem dX4_mayVary_30 : decode cX4_mayVary 30 = .ok (.goto 18, 3) := by decide +kernel
theorem dX4_mayVary_33 : decode cX4_mayVary 33 = .ok (.iconst 0, 1) := by decide +kernel
theorem dX4_mayVary_34 : decode cX4_mayVary 34 = .ok (.goto 14, 3) := by decide +kernel
theorem dX4_mayVary_37 : decode cX4_mayVary 37 = .ok (.iload 4, 2) := by decide +kernel
theorem dX4_mayVary_39 : decode cX4_mayVary 39 = .ok (.iload_n 3, 1) := by decide +kernel
theorem dX4_mayVary_40 : decode cX4_mayVary 40 = .ok (.if_icmp .gt 7, 3) := by decide +kernel
theorem dX4_mayVary_43 : decode cX4_mayVary 43 = .ok (.iconst 1, 1) := by decide +kernel
theorem dX4_mayVary_44 : decode cX4_mayVary 44 = .ok (.goto 4, 3) := by decide +kernel
theorem dX4_mayVary_47 : decode cX4_mayVary 47 = .ok (.iconst 0, 1) := by decide +kernel
theorem dX4_mayVary_48 : decode cX4_mayVary 48 = .ok (.ireturn, 1) := by decide +kernel
theorem dX4_mayVary_49 : decode cX4_mayVary 49 = .ok (.iload_n 2, 1) := by decide +kernel
theorem dX4_mayVary_50 : decode cX4_mayVary 50 = .ok (.iconst 1, 1) := by decide +kernel
theorem dX4_mayVary_51 : decode cX4_mayVary 51 = .ok (.if_icmp .ne 21, 3) := by decide +kernel
theorem dX4_mayVary_54 : decode cX4_mayVary 54 = .ok (.iload_n 3, 1) := by decide +kernel
theorem dX4_mayVary_55 : decode cX4_mayVary 55 = .ok (.aload_n 0, 1) := by decide +kernel
theorem dX4_mayVary_56 : decode cX4_mayVary 56 = .ok (.iload_n 1, 1) := by decide +kernel
theorem dX4_mayVary_57 : decode cX4_mayVary 57 = .ok (.iconst 3, 1) := by decide +kernel
theorem dX4_mayVary_58 : decode cX4_mayVary 58 = .ok (.invokevirtual 46, 3) := by decide +kernel
theorem dX4_mayVary_61 : decode cX4_mayVary 61 = .ok (.if_icmp .le 7, 3) := by decide +kernel
theorem dX4_mayVary_64 : decode cX4_mayVary 64 = .ok (.iconst 1, 1) := by decide +kernel
theorem dX4_mayVary_65 : decode cX4_mayVary 65 = .ok (.goto 20, 3) := by decide +kernel
theorem dX4_mayVary_68 : decode cX4_mayVary 68 = .ok (.iconst 0, 1) := by decide +kernel
theorem dX4_mayVary_69 : decode cX4_mayVary 69 = .ok (.goto 16, 3) := by decide +kernel
theorem dX4_mayVary_72 : decode cX4_mayVary 72 = .ok (.aload_n 0, 1) := by decide +kernel
theorem dX4_mayVary_73 : decode cX4_mayVary 73 = .ok (.iload_n 3, 1) := by decide +kernel
theorem dX4_mayVary_74 : decode cX4_mayVary 74 = .ok (.invokevirtual 54, 3) := by decide +kernel
theorem dX4_mayVary_77 : decode cX4_mayVary 77 = .ok (.ifCond .ne 7, 3) := by decide +kernel
theorem dX4_mayVary_80 : decode cX4_mayVary 80 = .ok (.iconst 1, 1) := by decide +kernel
theorem dX4_mayVary_81 : decode cX4_mayVary 81 = .ok (.goto 4, 3) := by decide +kernel
theorem dX4_mayVary_84 : decode cX4_mayVary 84 = .ok (.iconst 0, 1) := by decide +kernel
theorem dX4_mayVary_85 : decode cX4_mayVary 85 = .ok (.ireturn, 1) := by decide +kernel
theorem dX4_doVary_0 : decode cX4_doVary 0 = .ok (.aload_n 0, 1) := by decide +kernel
theorem dX4_doVary_1 : decode cX4_doVary 1 = .ok (.iload_n 1, 1) := by decide +kernel
theorem dX4_doVary_2 : decode cX4_doVary 2 = .ok (.invokevirtual 99, 3) := by decide +kernel
theorem dX4_doVary_5 : decode cX4_doVary 5 = .ok (.ifCond .eq 13, 3) := by decide +kernel
theorem dX4_doVary_8 : decode cX4_doVary 8 = .ok (.aload_n 0, 1) := by decide +kernel
theorem dX4_doVary_9 : decode cX4_doVary 9 = .ok (.iload_n 1, 1) := by decide +kernel
theorem dX4_doVary_10 : decode cX4_doVary 10 = .ok (.iload_n 2, 1) := by decide +kernel
theorem dX4_doVary_11 : decode cX4_doVary 11 = .ok (.iload_n 3, 1) := by decide +kernel
theorem dX4_doVary_12 : decode cX4_doVary 12 = .ok (.invokevirtual 114, 3) := by decide +kernel
theorem dX4_doVary_15 : decode cX4_doVary 15 = .ok (.ifCond .ne 6, 3) := by decide +kernel
theorem dX4_doVary_18 : decode cX4_doVary 18 = .ok (.ldc 87, 2) := by decide +kernel
theorem dX4_doVary_20 : decode cX4_doVary 20 = .ok (.ireturn, 1) := by decide +kernel
theorem dX4_doVary_21 : decode cX4_doVary 21 = .ok (.aload_n 0, 1) := by decide +kernel
theorem dX4_doVary_22 : decode cX4_doVary 22 = .ok (.iload_n 1, 1) := by decide +kernel
theorem dX4_doVary_23 : decode cX4_doVary 23 = .ok (.invokevirtual 109, 3) := by decide +kernel
theorem dX4_doVary_26 : decode cX4_doVary 26 = .ok (.iconst 1, 1) := by decide +kernel
theorem dX4_doVary_27 : decode cX4_doVary 27 = .ok (.if_icmp .gt 22, 3) := by decide +kernel
theorem dX4_doVary_30 : decode cX4_doVary 30 = .ok (.aload_n 0, 1) := by decide +kernel
theorem dX4_doVary_31 : decode cX4_doVary 31 = .ok (.iload_n 1, 1) := by decide +kernel
theorem dX4_doVary_32 : decode cX4_doVary 32 = .ok (.iconst 5, 1) := by decide +kernel
theorem dX4_doVary_33 : decode cX4_doVary 33 = .ok (.invokevirtual 46, 3) := by decide +kernel
theorem dX4_doVary_36 : decode cX4_doVary 36 = .ok (.ifCond .ne 13, 3) := by decide +kernel
theorem dX4_doVary_39 : decode cX4_doVary 39 = .ok (.aload_n 0, 1) := by decide +kernel
theorem dX4_doVary_40 : decode cX4_doVary 40 = .ok (.iload_n 1, 1) := by decide +kernel
theorem dX4_doVary_41 : decode cX4_doVary 41 = .ok (.iload_n 2, 1) := by decide +kernel
theorem dX4_doVary_42 : decode cX4_doVary 42 = .ok (.iload_n 3, 1) := by decide +kernel
theorem dX4_doVary_43 : decode cX4_doVary 43 = .ok (.invokevirtual 118, 3) := by decide +kernel
theorem dX4_doVary_46 : decode cX4_doVary 46 = .ok (.ifCond .ne 6, 3) := by decide +kernel
theorem dX4_doVary_49 : decode cX4_doVary 49 = .ok (.ldc 88, 2) := by decide +kernel
theorem dX4_doVary_51 : decode cX4_doVary 51 = .ok (.ireturn, 1) := by decide +kernel
theorem dX4_doVary_52 : decode cX4_doVary 52 = .ok (.iload_n 2, 1) := by decide +kernel
theorem dX4_doVary_53 : decode cX4_doVary 53 = .ok (.ifCond .ne 7, 3) := by decide +kernel
theorem dX4_doVary_56 : decode cX4_doVary 56 = .ok (.iconst 2, 1) := by decide +kernel
theorem dX4_doVary_57 : decode cX4_doVary 57 = .ok (.goto 13, 3) := by decide +kernel
theorem dX4_doVary_60 : decode cX4_doVary 60 = .ok (.iload_n 2, 1) := by decide +kernel
theorem dX4_doVary_61 : decode cX4_doVary 61 = .ok (.iconst 1, 1) := by decide +kernel
theorem dX4_doVary_62 : decode cX4_doVary 62 = .ok (.if_icmp .ne 7, 3) := by decide +kernel
theorem dX4_doVary_65 : decode cX4_doVary 65 = .ok (.iconst 3, 1) := by decide +kernel
theorem dX4_doVary_66 : decode cX4_doVary 66 = .ok (.goto 4, 3) := by decide +kernel
theorem dX4_doVary_69 : decode cX4_doVary 69 = .ok (.iconst 1, 1) := by decide +kernel
theorem dX4_doVary_70 : decode cX4_doVary 70 = .ok (.istore 4, 2) := by decide +kernel
theorem dX4_doVary_72 : decode cX4_doVary 72 = .ok (.aload_n 0, 1) := by decide +kernel
theorem dX4_doVary_73 : decode cX4_doVary 73 = .ok (.iload_n 1, 1) := by decide +kernel
theorem dX4_doVary_74 : decode cX4_doVary 74 = .ok (.iload 4, 2) := by decide +kernel
theorem dX4_doVary_76 : decode cX4_doVary 76 = .ok (.invokevirtual 46, 3) := by decide +kernel
theorem dX4_doVary_79 : decode cX4_doVary 79 = .ok (.istore 5, 2) := by decide +kernel
theorem dX4_doVary_81 : decode cX4_doVary 81 = .ok (.aload_n 0, 1) := by decide +kernel
theorem dX4_doVary_82 : decode cX4_doVary 82 = .ok (.iload_n 1, 1) := by decide +kernel
theorem dX4_doVary_83 : decode cX4_doVary 83 = .ok (.iload 4, 2) := by decide +kernel
theorem dX4_doVary_85 : decode cX4_doVary 85 = .ok (.iload_n 3, 1) := by decide +kernel
theorem dX4_doVary_86 : decode cX4_doVary 86 = .ok (.invokevirtual 66, 3) := by decide +kernel
theorem dX4_doVary_89 : decode cX4_doVary 89 = .ok (.iload_n 2, 1) := by decide +kernel
theorem dX4_doVary_90 : decode cX4_doVary 90 = .ok (.iconst 2, 1) := by decide +kernel
theorem dX4_doVary_91 : decode cX4_doVary 91 = .ok (.if_icmp .ne 11, 3) := by decide +kernel
theorem dX4_doVary_94 : decode cX4_doVary 94 = .ok (.aload_n 0, 1) := by decide +kernel
theorem dX4_doVary_95 : decode cX4_doVary 95 = .ok (.iload_n 1, 1) := by decide +kernel
theorem dX4_doVary_96 : decode cX4_doVary 96 = .ok (.bipush 7, 2) := by decide +kernel
theorem dX4_doVary_98 : decode cX4_doVary 98 = .ok (.iconst 0, 1) := by decide +kernel
theorem dX4_doVary_99 : decode cX4_doVary 99 = .ok (.invokevirtual 66, 3) := by decide +kernel
theorem dX4_doVary_102 : decode cX4_doVary 102 = .ok (.iload 5, 2) := by decide +kernel
theorem dX4_doVary_104 : decode cX4_doVary 104 = .ok (.ireturn, 1) := by decide +kernel
theorem dX4_waitsOn_0 : decode cX4_waitsOn 0 = .ok (.aload_n 0, 1) := by decide +kernel
theorem dX4_waitsOn_1 : decode cX4_waitsOn 1 = .ok (.iload_n 1, 1) := by decide +kernel
theorem dX4_waitsOn_2 : decode cX4_waitsOn 2 = .ok (.iconst 5, 1) := by decide +kernel
theorem dX4_waitsOn_3 : decode cX4_waitsOn 3 = .ok (.invokevirtual 46, 3) := by decide +kernel
theorem dX4_waitsOn_6 : decode cX4_waitsOn 6 = .ok (.ifCond .ne 4, 3) := by decide +kernel
theorem dX4_waitsOn_9 : decode cX4_waitsOn 9 = .ok (.return_, 1) := by decide +kernel
theorem dX4_waitsOn_10 : decode cX4_waitsOn 10 = .ok (.aload_n 0, 1) := by decide +kernel
theorem dX4_waitsOn_11 : decode cX4_waitsOn 11 = .ok (.iload_n 1, 1) := by decide +kernel
theorem dX4_waitsOn_12 : decode cX4_waitsOn 12 = .ok (.bipush 6, 2) := by decide +kernel
theorem dX4_waitsOn_14 : decode cX4_waitsOn 14 = .ok (.aload_n 0, 1) := by decide +kernel
theorem dX4_waitsOn_15 : decode cX4_waitsOn 15 = .ok (.iload_n 1, 1) := by decide +kernel
theorem dX4_waitsOn_16 : decode cX4_waitsOn 16 = .ok (.bipush 6, 2) := by decide +kernel
theorem dX4_waitsOn_18 : decode cX4_waitsOn 18 = .ok (.invokevirtual 46, 3) := by decide +kernel
theorem dX4_waitsOn_21 : decode cX4_waitsOn 21 = .ok (.iconst 1, 1) := by decide +kernel
theorem dX4_waitsOn_22 : decode cX4_waitsOn 22 = .ok (.iadd, 1) := by decide +kernel
theorem dX4_waitsOn_23 : decode cX4_waitsOn 23 = .ok (.invokevirtual 66, 3) := by decide +kernel
theorem dX4_waitsOn_26 : decode cX4_waitsOn 26 = .ok (.aload_n 0, 1) := by decide +kernel
theorem dX4_waitsOn_27 : decode cX4_waitsOn 27 = .ok (.iload_n 1, 1) := by decide +kernel
theorem dX4_waitsOn_28 : decode cX4_waitsOn 28 = .ok (.bipush 6, 2) := by decide +kernel
theorem dX4_waitsOn_30 : decode cX4_waitsOn 30 = .ok (.invokevirtual 46, 3) := by decide +kernel
theorem dX4_waitsOn_33 : decode cX4_waitsOn 33 = .ok (.aload_n 0, 1) := by decide +kernel
theorem dX4_waitsOn_34 : decode cX4_waitsOn 34 = .ok (.getfield 7, 3) := by decide +kernel
theorem dX4_waitsOn_37 : decode cX4_waitsOn 37 = .ok (.iconst 2, 1) := by decide +kernel
theorem dX4_waitsOn_38 : decode cX4_waitsOn 38 = .ok (.iaload, 1) := by decide +kernel
theorem dX4_waitsOn_39 : decode cX4_waitsOn 39 = .ok (.if_icmp .lt 32, 3) := by decide +kernel
theorem dX4_waitsOn_42 : decode cX4_waitsOn 42 = .ok (.aload_n 0, 1) := by decide +kernel
theorem dX4_waitsOn_43 : decode cX4_waitsOn 43 = .ok (.getfield 7, 3) := by decide +kernel
theorem dX4_waitsOn_46 : decode cX4_waitsOn 46 = .ok (.iconst 5, 1) := by decide +kernel
theorem dX4_waitsOn_47 : decode cX4_waitsOn 47 = .ok (.dup2, 1) := by decide +kernel
theorem dX4_waitsOn_48 : decode cX4_waitsOn 48 = .ok (.iaload, 1) := by decide +kernel
theorem dX4_waitsOn_49 : decode cX4_waitsOn 49 = .ok (.aload_n 0, 1) := by decide +kernel
theorem dX4_waitsOn_50 : decode cX4_waitsOn 50 = .ok (.iload_n 1, 1) := by decide +kernel
theorem dX4_waitsOn_51 : decode cX4_waitsOn 51 = .ok (.iconst 5, 1) := by decide +kernel
theorem dX4_waitsOn_52 : decode cX4_waitsOn 52 = .ok (.invokevirtual 46, 3) := by decide +kernel
theorem dX4_waitsOn_55 : decode cX4_waitsOn 55 = .ok (.invokestatic 106, 3) := by decide +kernel
theorem dX4_waitsOn_58 : decode cX4_waitsOn 58 = .ok (.iadd, 1) := by decide +kernel
theorem dX4_waitsOn_59 : decode cX4_waitsOn 59 = .ok (.iastore, 1) := by decide +kernel
theorem dX4_waitsOn_60 : decode cX4_waitsOn 60 = .ok (.aload_n 0, 1) := by decide +kernel
theorem dX4_waitsOn_61 : decode cX4_waitsOn 61 = .ok (.iload_n 1, 1) := by decide +kernel
theorem dX4_waitsOn_62 : decode cX4_waitsOn 62 = .ok (.aload_n 0, 1) := by decide +kernel
theorem dX4_waitsOn_63 : decode cX4_waitsOn 63 = .ok (.iload_n 1, 1) := by decide +kernel
theorem dX4_waitsOn_64 : decode cX4_waitsOn 64 = .ok (.iconst 5, 1) := by decide +kernel
theorem dX4_waitsOn_65 : decode cX4_waitsOn 65 = .ok (.invokevirtual 46, 3) := by decide +kernel
theorem dX4_waitsOn_68 : decode cX4_waitsOn 68 = .ok (.invokevirtual 102, 3) := by decide +kernel
theorem dX4_waitsOn_71 : decode cX4_waitsOn 71 = .ok (.return_, 1) := by decide +kernel
theorem dX4_runsOn_0 : decode cX4_runsOn 0 = .ok (.aload_n 0, 1) := by decide +kernel
theorem dX4_runsOn_1 : decode cX4_runsOn 1 = .ok (.iload_n 1, 1) := by decide +kernel
theorem dX4_runsOn_2 : decode cX4_runsOn 2 = .ok (.iconst 0, 1) := by decide +kernel
theorem dX4_runsOn_3 : decode cX4_runsOn 3 = .ok (.invokevirtual 46, 3) := by decide +kernel
theorem dX4_runsOn_6 : decode cX4_runsOn 6 = .ok (.istore_n 2, 1) := by decide +kernel
theorem dX4_runsOn_7 : decode cX4_runsOn 7 = .ok (.aload_n 0, 1) := by decide +kernel
theorem dX4_runsOn_8 : decode cX4_runsOn 8 = .ok (.iload_n 1, 1) := by decide +kernel
theorem dX4_runsOn_9 : decode cX4_runsOn 9 = .ok (.invokevirtual 109, 3) := by decide +kernel
theorem dX4_runsOn_12 : decode cX4_runsOn 12 = .ok (.iconst 1, 1) := by decide +kernel
theorem dX4_runsOn_13 : decode cX4_runsOn 13 = .ok (.if_icmp .ne 26, 3) := by decide +kernel
theorem dX4_runsOn_16 : decode cX4_runsOn 16 = .ok (.iload_n 2, 1) := by decide +kernel
theorem dX4_runsOn_17 : decode cX4_runsOn 17 = .ok (.iconst 2, 1) := by decide +kernel
theorem dX4_runsOn_18 : decode cX4_runsOn 18 = .ok (.if_icmp .eq 17, 3) := by decide +kernel
theorem dX4_runsOn_21 : decode cX4_runsOn 21 = .ok (.iload_n 2, 1) := by decide +kernel
theorem dX4_runsOn_22 : decode cX4_runsOn 22 = .ok (.iconst 1, 1) := by decide +kernel
theorem dX4_runsOn_23 : decode cX4_runsOn 23 = .ok (.if_icmp .ne 16, 3) := by decide +kernel
theorem dX4_runsOn_26 : decode cX4_runsOn 26 = .ok (.aload_n 0, 1) := by decide +kernel
theorem dX4_runsOn_27 : decode cX4_runsOn 27 = .ok (.iload_n 1, 1) := by decide +kernel
theorem dX4_runsOn_28 : decode cX4_runsOn 28 = .ok (.iconst 5, 1) := by decide +kernel
theorem dX4_runsOn_29 : decode cX4_runsOn 29 = .ok (.invokevirtual 46, 3) := by decide +kernel
theorem dX4_runsOn_32 : decode cX4_runsOn 32 = .ok (.ifCond .ne 7, 3) := by decide +kernel
theorem dX4_runsOn_35 : decode cX4_runsOn 35 = .ok (.iconst 1, 1) := by decide +kernel
theorem dX4_runsOn_36 : decode cX4_runsOn 36 = .ok (.goto 4, 3) := by decide +kernel
theorem dX4_runsOn_39 : decode cX4_runsOn 39 = .ok (.iconst 0, 1) := by decide +kernel
theorem dX4_runsOn_40 : decode cX4_runsOn 40 = .ok (.istore_n 3, 1) := by decide +kernel
theorem dX4_runsOn_41 : decode cX4_runsOn 41 = .ok (.iload_n 3, 1) := by decide +kernel
theorem dX4_runsOn_42 : decode cX4_runsOn 42 = .ok (.ifCond .eq 45, 3) := by decide +kernel
theorem dX4_runsOn_45 : decode cX4_runsOn 45 = .ok (.aload_n 0, 1) := by decide +kernel
theorem dX4_runsOn_46 : decode cX4_runsOn 46 = .ok (.iload_n 1, 1) := by decide +kernel
theorem dX4_runsOn_47 : decode cX4_runsOn 47 = .ok (.bipush 7, 2) := by decide +kernel
theorem dX4_runsOn_49 : decode cX4_runsOn 49 = .ok (.aload_n 0, 1) := by decide +kernel
theorem dX4_runsOn_50 : decode cX4_runsOn 50 = .ok (.iload_n 1, 1) := by decide +kernel
theorem dX4_runsOn_51 : decode cX4_runsOn 51 = .ok (.bipush 7, 2) := by decide +kernel
theorem dX4_runsOn_53 : decode cX4_runsOn 53 = .ok (.invokevirtual 46, 3) := by decide +kernel
theorem dX4_runsOn_56 : decode cX4_runsOn 56 = .ok (.iconst 1, 1) := by decide +kernel
theorem dX4_runsOn_57 : decode cX4_runsOn 57 = .ok (.iadd, 1) := by decide +kernel
theorem dX4_runsOn_58 : decode cX4_runsOn 58 = .ok (.invokevirtual 66, 3) := by decide +kernel
theorem dX4_runsOn_61 : decode cX4_runsOn 61 = .ok (.iload_n 2, 1) := by decide +kernel
theorem dX4_runsOn_62 : decode cX4_runsOn 62 = .ok (.iconst 1, 1) := by decide +kernel
theorem dX4_runsOn_63 : decode cX4_runsOn 63 = .ok (.if_icmp .ne 24, 3) := by decide +kernel
theorem dX4_runsOn_66 : decode cX4_runsOn 66 = .ok (.aload_n 0, 1) := by decide +kernel
theorem dX4_runsOn_67 : decode cX4_runsOn 67 = .ok (.iload_n 1, 1) := by decide +kernel
theorem dX4_runsOn_68 : decode cX4_runsOn 68 = .ok (.bipush 7, 2) := by decide +kernel
theorem dX4_runsOn_70 : decode cX4_runsOn 70 = .ok (.invokevirtual 46, 3) := by decide +kernel
theorem dX4_runsOn_73 : decode cX4_runsOn 73 = .ok (.aload_n 0, 1) := by decide +kernel
theorem dX4_runsOn_74 : decode cX4_runsOn 74 = .ok (.iload_n 1, 1) := by decide +kernel
theorem dX4_runsOn_75 : decode cX4_runsOn 75 = .ok (.iconst 2, 1) := by decide +kernel
theorem dX4_runsOn_76 : decode cX4_runsOn 76 = .ok (.invokevirtual 46, 3) := by decide +kernel
theorem dX4_runsOn_79 : decode cX4_runsOn 79 = .ok (.if_icmp .le 8, 3) := by decide +kernel
theorem dX4_runsOn_82 : decode cX4_runsOn 82 = .ok (.aload_n 0, 1) := by decide +kernel
theorem dX4_runsOn_83 : decode cX4_runsOn 83 = .ok (.iload_n 1, 1) := by decide +kernel
theorem dX4_runsOn_84 : decode cX4_runsOn 84 = .ok (.invokevirtual 96, 3) := by decide +kernel
theorem dX4_runsOn_87 : decode cX4_runsOn 87 = .ok (.return_, 1) := by decide +kernel
theorem dX4_ages_0 : decode cX4_ages 0 = .ok (.aload_n 0, 1) := by decide +kernel
theorem dX4_ages_1 : decode cX4_ages 1 = .ok (.iload_n 1, 1) := by decide +kernel
theorem dX4_ages_2 : decode cX4_ages 2 = .ok (.bipush 9, 2) := by decide +kernel
theorem dX4_ages_4 : decode cX4_ages 4 = .ok (.aload_n 0, 1) := by decide +kernel
theorem dX4_ages_5 : decode cX4_ages 5 = .ok (.iload_n 1, 1) := by decide +kernel
theorem dX4_ages_6 : decode cX4_ages 6 = .ok (.bipush 9, 2) := by decide +kernel
theorem dX4_ages_8 : decode cX4_ages 8 = .ok (.invokevirtual 46, 3) := by decide +kernel
theorem dX4_ages_11 : decode cX4_ages 11 = .ok (.iconst 1, 1) := by decide +kernel
theorem dX4_ages_12 : decode cX4_ages 12 = .ok (.iadd, 1) := by decide +kernel
theorem dX4_ages_13 : decode cX4_ages 13 = .ok (.invokevirtual 66, 3) := by decide +kernel
theorem dX4_ages_16 : decode cX4_ages 16 = .ok (.aload_n 0, 1) := by decide +kernel
theorem dX4_ages_17 : decode cX4_ages 17 = .ok (.iload_n 1, 1) := by decide +kernel
theorem dX4_ages_18 : decode cX4_ages 18 = .ok (.bipush 10, 2) := by decide +kernel
theorem dX4_ages_20 : decode cX4_ages 20 = .ok (.invokevirtual 46, 3) := by decide +kernel
theorem dX4_ages_23 : decode cX4_ages 23 = .ok (.istore_n 2, 1) := by decide +kernel
theorem dX4_ages_24 : decode cX4_ages 24 = .ok (.iload_n 2, 1) := by decide +kernel
theorem dX4_ages_25 : decode cX4_ages 25 = .ok (.ifCond .le 16, 3) := by decide +kernel
theorem dX4_ages_28 : decode cX4_ages 28 = .ok (.aload_n 0, 1) := by decide +kernel
theorem dX4_ages_29 : decode cX4_ages 29 = .ok (.iload_n 1, 1) := by decide +kernel
theorem dX4_ages_30 : decode cX4_ages 30 = .ok (.bipush 10, 2) := by decide +kernel
theorem dX4_ages_32 : decode cX4_ages 32 = .ok (.iload_n 2, 1) := by decide +kernel
theorem dX4_ages_33 : decode cX4_ages 33 = .ok (.iconst 1, 1) := by decide +kernel
theorem dX4_ages_34 : decode cX4_ages 34 = .ok (.isub, 1) := by decide +kernel
theorem dX4_ages_35 : decode cX4_ages 35 = .ok (.invokevirtual 66, 3) := by decide +kernel
theorem dX4_ages_38 : decode cX4_ages 38 = .ok (.goto 55, 3) := by decide +kernel
theorem dX4_ages_41 : decode cX4_ages 41 = .ok (.iload_n 2, 1) := by decide +kernel
theorem dX4_ages_42 : decode cX4_ages 42 = .ok (.ifCond .ne 22, 3) := by decide +kernel
theorem dX4_ages_45 : decode cX4_ages 45 = .ok (.aload_n 0, 1) := by decide +kernel
theorem dX4_ages_46 : decode cX4_ages 46 = .ok (.iload_n 1, 1) := by decide +kernel
theorem dX4_ages_47 : decode cX4_ages 47 = .ok (.bipush 11, 2) := by decide +kernel
theorem dX4_ages_49 : decode cX4_ages 49 = .ok (.aload_n 0, 1) := by decide +kernel
theorem dX4_ages_50 : decode cX4_ages 50 = .ok (.iload_n 1, 1) := by decide +kernel
theorem dX4_ages_51 : decode cX4_ages 51 = .ok (.bipush 11, 2) := by decide +kernel
theorem dX4_ages_53 : decode cX4_ages 53 = .ok (.invokevirtual 46, 3) := by decide +kernel
theorem dX4_ages_56 : decode cX4_ages 56 = .ok (.iconst 1, 1) := by decide +kernel
theorem dX4_ages_57 : decode cX4_ages 57 = .ok (.iadd, 1) := by decide +kernel
theorem dX4_ages_58 : decode cX4_ages 58 = .ok (.invokevirtual 66, 3) := by decide +kernel
theorem dX4_ages_61 : decode cX4_ages 61 = .ok (.goto 32, 3) := by decide +kernel
theorem dX4_ages_64 : decode cX4_ages 64 = .ok (.aload_n 0, 1) := by decide +kernel
theorem dX4_ages_65 : decode cX4_ages 65 = .ok (.iload_n 1, 1) := by decide +kernel
theorem dX4_ages_66 : decode cX4_ages 66 = .ok (.bipush 9, 2) := by decide +kernel
theorem dX4_ages_68 : decode cX4_ages 68 = .ok (.invokevirtual 46, 3) := by decide +kernel
theorem dX4_ages_71 : decode cX4_ages 71 = .ok (.aload_n 0, 1) := by decide +kernel
theorem dX4_ages_72 : decode cX4_ages 72 = .ok (.getfield 7, 3) := by decide +kernel
theorem dX4_ages_75 : decode cX4_ages 75 = .ok (.iconst 3, 1) := by decide +kernel
theorem dX4_ages_76 : decode cX4_ages 76 = .ok (.iaload, 1) := by decide +kernel
theorem dX4_ages_77 : decode cX4_ages 77 = .ok (.if_icmp .lt 16, 3) := by decide +kernel
theorem dX4_ages_80 : decode cX4_ages 80 = .ok (.aload_n 0, 1) := by decide +kernel
theorem dX4_ages_81 : decode cX4_ages 81 = .ok (.iload_n 1, 1) := by decide +kernel
theorem dX4_ages_82 : decode cX4_ages 82 = .ok (.invokevirtual 70, 3) := by decide +kernel
theorem dX4_ages_85 : decode cX4_ages 85 = .ok (.aload_n 0, 1) := by decide +kernel
theorem dX4_ages_86 : decode cX4_ages 86 = .ok (.iload_n 1, 1) := by decide +kernel
theorem dX4_ages_87 : decode cX4_ages 87 = .ok (.bipush 12, 2) := by decide +kernel
theorem dX4_ages_89 : decode cX4_ages 89 = .ok (.iconst 1, 1) := by decide +kernel
theorem dX4_ages_90 : decode cX4_ages 90 = .ok (.invokevirtual 66, 3) := by decide +kernel
theorem dX4_ages_93 : decode cX4_ages 93 = .ok (.return_, 1) := by decide +kernel
theorem dX4_passDay_0 : decode cX4_passDay 0 = .ok (.aload_n 0, 1) := by decide +kernel
theorem dX4_passDay_1 : decode cX4_passDay 1 = .ok (.getfield 7, 3) := by decide +kernel
theorem dX4_passDay_4 : decode cX4_passDay 4 = .ok (.iconst 0, 1) := by decide +kernel
theorem dX4_passDay_5 : decode cX4_passDay 5 = .ok (.dup2, 1) := by decide +kernel
theorem dX4_passDay_6 : decode cX4_passDay 6 = .ok (.iaload, 1) := by decide +kernel
theorem dX4_passDay_7 : decode cX4_passDay 7 = .ok (.iconst 1, 1) := by decide +kernel
theorem dX4_passDay_8 : decode cX4_passDay 8 = .ok (.iadd, 1) := by decide +kernel
theorem dX4_passDay_9 : decode cX4_passDay 9 = .ok (.iastore, 1) := by decide +kernel
theorem dX4_passDay_10 : decode cX4_passDay 10 = .ok (.iconst 0, 1) := by decide +kernel
theorem dX4_passDay_11 : decode cX4_passDay 11 = .ok (.istore_n 1, 1) := by decide +kernel
theorem dX4_passDay_12 : decode cX4_passDay 12 = .ok (.iconst 0, 1) := by decide +kernel
theorem dX4_passDay_13 : decode cX4_passDay 13 = .ok (.istore_n 2, 1) := by decide +kernel
theorem dX4_passDay_14 : decode cX4_passDay 14 = .ok (.iload_n 2, 1) := by decide +kernel
theorem dX4_passDay_15 : decode cX4_passDay 15 = .ok (.aload_n 0, 1) := by decide +kernel
theorem dX4_passDay_16 : decode cX4_passDay 16 = .ok (.getfield 7, 3) := by decide +kernel
theorem dX4_passDay_19 : decode cX4_passDay 19 = .ok (.iconst 1, 1) := by decide +kernel
theorem dX4_passDay_20 : decode cX4_passDay 20 = .ok (.iaload, 1) := by decide +kernel
theorem dX4_passDay_21 : decode cX4_passDay 21 = .ok (.if_icmp .ge 21, 3) := by decide +kernel
theorem dX4_passDay_24 : decode cX4_passDay 24 = .ok (.iload_n 1, 1) := by decide +kernel
theorem dX4_passDay_25 : decode cX4_passDay 25 = .ok (.aload_n 0, 1) := by decide +kernel
theorem dX4_passDay_26 : decode cX4_passDay 26 = .ok (.iload_n 2, 1) := by decide +kernel
theorem dX4_passDay_27 : decode cX4_passDay 27 = .ok (.bipush 8, 2) := by decide +kernel
theorem dX4_passDay_29 : decode cX4_passDay 29 = .ok (.invokevirtual 46, 3) := by decide +kernel
theorem dX4_passDay_32 : decode cX4_passDay 32 = .ok (.iload_n 2, 1) := by decide +kernel
theorem dX4_passDay_33 : decode cX4_passDay 33 = .ok (.ishl, 1) := by decide +kernel
theorem dX4_passDay_34 : decode cX4_passDay 34 = .ok (.ior, 1) := by decide +kernel
theorem dX4_passDay_35 : decode cX4_passDay 35 = .ok (.istore_n 1, 1) := by decide +kernel
theorem dX4_passDay_36 : decode cX4_passDay 36 = .ok (.iinc 2 1, 3) := by decide +kernel
theorem dX4_passDay_39 : decode cX4_passDay 39 = .ok (.goto (-25), 3) := by decide +kernel
theorem dX4_passDay_42 : decode cX4_passDay 42 = .ok (.iconst 0, 1) := by decide +kernel
theorem dX4_passDay_43 : decode cX4_passDay 43 = .ok (.istore_n 2, 1) := by decide +kernel
theorem dX4_passDay_44 : decode cX4_passDay 44 = .ok (.iload_n 2, 1) := by decide +kernel
theorem dX4_passDay_45 : decode cX4_passDay 45 = .ok (.aload_n 0, 1) := by decide +kernel
theorem dX4_passDay_46 : decode cX4_passDay 46 = .ok (.getfield 7, 3) := by decide +kernel
theorem dX4_passDay_49 : decode cX4_passDay 49 = .ok (.iconst 1, 1) := by decide +kernel
theorem dX4_passDay_50 : decode cX4_passDay 50 = .ok (.iaload, 1) := by decide +kernel
theorem dX4_passDay_51 : decode cX4_passDay 51 = .ok (.if_icmp .ge 14, 3) := by decide +kernel
theorem dX4_passDay_54 : decode cX4_passDay 54 = .ok (.aload_n 0, 1) := by decide +kernel
theorem dX4_passDay_55 : decode cX4_passDay 55 = .ok (.iload_n 2, 1) := by decide +kernel
theorem dX4_passDay_56 : decode cX4_passDay 56 = .ok (.invokevirtual 121, 3) := by decide +kernel
theorem dX4_passDay_59 : decode cX4_passDay 59 = .ok (.iinc 2 1, 3) := by decide +kernel
theorem dX4_passDay_62 : decode cX4_passDay 62 = .ok (.goto (-18), 3) := by decide +kernel
theorem dX4_passDay_65 : decode cX4_passDay 65 = .ok (.iconst 0, 1) := by decide +kernel
theorem dX4_passDay_66 : decode cX4_passDay 66 = .ok (.istore_n 2, 1) := by decide +kernel
theorem dX4_passDay_67 : decode cX4_passDay 67 = .ok (.iload_n 2, 1) := by decide +kernel
theorem dX4_passDay_68 : decode cX4_passDay 68 = .ok (.aload_n 0, 1) := by decide +kernel
theorem dX4_passDay_69 : decode cX4_passDay 69 = .ok (.getfield 7, 3) := by decide +kernel
theorem dX4_passDay_72 : decode cX4_passDay 72 = .ok (.iconst 1, 1) := by decide +kernel
theorem dX4_passDay_73 : decode cX4_passDay 73 = .ok (.iaload, 1) := by decide +kernel
theorem dX4_passDay_74 : decode cX4_passDay 74 = .ok (.if_icmp .ge 14, 3) := by decide +kernel
theorem dX4_passDay_77 : decode cX4_passDay 77 = .ok (.aload_n 0, 1) := by decide +kernel
theorem dX4_passDay_78 : decode cX4_passDay 78 = .ok (.iload_n 2, 1) := by decide +kernel
theorem dX4_passDay_79 : decode cX4_passDay 79 = .ok (.invokevirtual 124, 3) := by decide +kernel
theorem dX4_passDay_82 : decode cX4_passDay 82 = .ok (.iinc 2 1, 3) := by decide +kernel
theorem dX4_passDay_85 : decode cX4_passDay 85 = .ok (.goto (-18), 3) := by decide +kernel
theorem dX4_passDay_88 : decode cX4_passDay 88 = .ok (.iconst 0, 1) := by decide +kernel
theorem dX4_passDay_89 : decode cX4_passDay 89 = .ok (.istore_n 2, 1) := by decide +kernel
theorem dX4_passDay_90 : decode cX4_passDay 90 = .ok (.iload_n 2, 1) := by decide +kernel
theorem dX4_passDay_91 : decode cX4_passDay 91 = .ok (.aload_n 0, 1) := by decide +kernel
theorem dX4_passDay_92 : decode cX4_passDay 92 = .ok (.getfield 7, 3) := by decide +kernel
theorem dX4_passDay_95 : decode cX4_passDay 95 = .ok (.iconst 1, 1) := by decide +kernel
theorem dX4_passDay_96 : decode cX4_passDay 96 = .ok (.iaload, 1) := by decide +kernel
theorem dX4_passDay_97 : decode cX4_passDay 97 = .ok (.if_icmp .ge 34, 3) := by decide +kernel
theorem dX4_passDay_100 : decode cX4_passDay 100 = .ok (.iload_n 1, 1) := by decide +kernel
theorem dX4_passDay_101 : decode cX4_passDay 101 = .ok (.iload_n 2, 1) := by decide +kernel
theorem dX4_passDay_102 : decode cX4_passDay 102 = .ok (.ishr, 1) := by decide +kernel
theorem dX4_passDay_103 : decode cX4_passDay 103 = .ok (.iconst 1, 1) := by decide +kernel
theorem dX4_passDay_104 : decode cX4_passDay 104 = .ok (.iand, 1) := by decide +kernel
theorem dX4_passDay_105 : decode cX4_passDay 105 = .ok (.iconst 1, 1) := by decide +kernel
theorem dX4_passDay_106 : decode cX4_passDay 106 = .ok (.if_icmp .ne 19, 3) := by decide +kernel
theorem dX4_passDay_109 : decode cX4_passDay 109 = .ok (.aload_n 0, 1) := by decide +kernel
theorem dX4_passDay_110 : decode cX4_passDay 110 = .ok (.iload_n 2, 1) := by decide +kernel
theorem dX4_passDay_111 : decode cX4_passDay 111 = .ok (.bipush 8, 2) := by decide +kernel
theorem dX4_passDay_113 : decode cX4_passDay 113 = .ok (.invokevirtual 46, 3) := by decide +kernel
theorem dX4_passDay_116 : decode cX4_passDay 116 = .ok (.iconst 1, 1) := by decide +kernel
theorem dX4_passDay_117 : decode cX4_passDay 117 = .ok (.if_icmp .ne 8, 3) := by decide +kernel
theorem dX4_passDay_120 : decode cX4_passDay 120 = .ok (.aload_n 0, 1) := by decide +kernel
theorem dX4_passDay_121 : decode cX4_passDay 121 = .ok (.iload_n 2, 1) := by decide +kernel
theorem dX4_passDay_122 : decode cX4_passDay 122 = .ok (.invokevirtual 127, 3) := by decide +kernel
theorem dX4_passDay_125 : decode cX4_passDay 125 = .ok (.iinc 2 1, 3) := by decide +kernel
theorem dX4_passDay_128 : decode cX4_passDay 128 = .ok (.goto (-38), 3) := by decide +kernel
theorem dX4_passDay_131 : decode cX4_passDay 131 = .ok (.return_, 1) := by decide +kernel
theorem dX4_doPass_0 : decode cX4_doPass 0 = .ok (.iload_n 1, 1) := by decide +kernel
theorem dX4_doPass_1 : decode cX4_doPass 1 = .ok (.i2l, 1) := by decide +kernel
theorem dX4_doPass_2 : decode cX4_doPass 2 = .ok (.lconst 1, 1) := by decide +kernel
theorem dX4_doPass_3 : decode cX4_doPass 3 = .ok (.ldc2_w 130, 3) := by decide +kernel
theorem dX4_doPass_6 : decode cX4_doPass 6 = .ok (.invokestatic 40, 3) := by decide +kernel
theorem dX4_doPass_9 : decode cX4_doPass 9 = .ok (.ifCond .ne 6, 3) := by decide +kernel
theorem dX4_doPass_12 : decode cX4_doPass 12 = .ok (.ldc 87, 2) := by decide +kernel
theorem dX4_doPass_14 : decode cX4_doPass 14 = .ok (.ireturn, 1) := by decide +kernel
theorem dX4_doPass_15 : decode cX4_doPass 15 = .ok (.aload_n 0, 1) := by decide +kernel
theorem dX4_doPass_16 : decode cX4_doPass 16 = .ok (.getfield 7, 3) := by decide +kernel
theorem dX4_doPass_19 : decode cX4_doPass 19 = .ok (.iconst 0, 1) := by decide +kernel
theorem dX4_doPass_20 : decode cX4_doPass 20 = .ok (.iaload, 1) := by decide +kernel
theorem dX4_doPass_21 : decode cX4_doPass 21 = .ok (.iload_n 1, 1) := by decide +kernel
theorem dX4_doPass_22 : decode cX4_doPass 22 = .ok (.iadd, 1) := by decide +kernel
theorem dX4_doPass_23 : decode cX4_doPass 23 = .ok (.sipush 9999, 3) := by decide +kernel
theorem dX4_doPass_26 : decode cX4_doPass 26 = .ok (.if_icmp .le 6, 3) := by decide +kernel
theorem dX4_doPass_29 : decode cX4_doPass 29 = .ok (.ldc 89, 2) := by decide +kernel
theorem dX4_doPass_31 : decode cX4_doPass 31 = .ok (.ireturn, 1) := by decide +kernel
theorem dX4_doPass_32 : decode cX4_doPass 32 = .ok (.iconst 0, 1) := by decide +kernel
theorem dX4_doPass_33 : decode cX4_doPass 33 = .ok (.istore_n 2, 1) := by decide +kernel
theorem dX4_doPass_34 : decode cX4_doPass 34 = .ok (.iload_n 2, 1) := by decide +kernel
theorem dX4_doPass_35 : decode cX4_doPass 35 = .ok (.iload_n 1, 1) := by decide +kernel
theorem dX4_doPass_36 : decode cX4_doPass 36 = .ok (.if_icmp .ge 13, 3) := by decide +kernel
theorem dX4_doPass_39 : decode cX4_doPass 39 = .ok (.aload_n 0, 1) := by decide +kernel
theorem dX4_doPass_40 : decode cX4_doPass 40 = .ok (.invokevirtual 132, 3) := by decide +kernel
theorem dX4_doPass_43 : decode cX4_doPass 43 = .ok (.iinc 2 1, 3) := by decide +kernel
theorem dX4_doPass_46 : decode cX4_doPass 46 = .ok (.goto (-12), 3) := by decide +kernel
theorem dX4_doPass_49 : decode cX4_doPass 49 = .ok (.aload_n 0, 1) := by decide +kernel
theorem dX4_doPass_50 : decode cX4_doPass 50 = .ok (.getfield 7, 3) := by decide +kernel
theorem dX4_doPass_53 : decode cX4_doPass 53 = .ok (.iconst 0, 1) := by decide +kernel
theorem dX4_doPass_54 : decode cX4_doPass 54 = .ok (.iaload, 1) := by decide +kernel
theorem dX4_doPass_55 : decode cX4_doPass 55 = .ok (.ireturn, 1) := by decide +kernel
theorem dX4_doSet_0 : decode cX4_doSet 0 = .ok (.iload_n 1, 1) := by decide +kernel
theorem dX4_doSet_1 : decode cX4_doSet 1 = .ok (.i2l, 1) := by decide +kernel
theorem dX4_doSet_2 : decode cX4_doSet 2 = .ok (.lconst 0, 1) := by decide +kernel
theorem dX4_doSet_3 : decode cX4_doSet 3 = .ok (.lconst 1, 1) := by decide +kernel
theorem dX4_doSet_4 : decode cX4_doSet 4 = .ok (.invokestatic 40, 3) := by decide +kernel
theorem dX4_doSet_7 : decode cX4_doSet 7 = .ok (.ifCond .eq 26, 3) := by decide +kernel
theorem dX4_doSet_10 : decode cX4_doSet 10 = .ok (.iload_n 2, 1) := by decide +kernel
theorem dX4_doSet_11 : decode cX4_doSet 11 = .ok (.i2l, 1) := by decide +kernel
theorem dX4_doSet_12 : decode cX4_doSet 12 = .ok (.iload_n 1, 1) := by decide +kernel
theorem dX4_doSet_13 : decode cX4_doSet 13 = .ok (.i2l, 1) := by decide +kernel
theorem dX4_doSet_14 : decode cX4_doSet 14 = .ok (.iload_n 1, 1) := by decide +kernel
theorem dX4_doSet_15 : decode cX4_doSet 15 = .ok (.ifCond .ne 9, 3) := by decide +kernel
theorem dX4_doSet_18 : decode cX4_doSet 18 = .ok (.ldc2_w 112, 3) := by decide +kernel
theorem dX4_doSet_21 : decode cX4_doSet 21 = .ok (.goto 6, 3) := by decide +kernel
theorem dX4_doSet_24 : decode cX4_doSet 24 = .ok (.ldc2_w 74, 3) := by decide +kernel
theorem dX4_doSet_27 : decode cX4_doSet 27 = .ok (.invokestatic 40, 3) := by decide +kernel
theorem dX4_doSet_30 : decode cX4_doSet 30 = .ok (.ifCond .ne 6, 3) := by decide +kernel
theorem dX4_doSet_33 : decode cX4_doSet 33 = .ok (.ldc 87, 2) := by decide +kernel
theorem dX4_doSet_35 : decode cX4_doSet 35 = .ok (.ireturn, 1) := by decide +kernel
theorem dX4_doSet_36 : decode cX4_doSet 36 = .ok (.aload_n 0, 1) := by decide +kernel
theorem dX4_doSet_37 : decode cX4_doSet 37 = .ok (.getfield 7, 3) := by decide +kernel
theorem dX4_doSet_40 : decode cX4_doSet 40 = .ok (.iconst 2, 1) := by decide +kernel
theorem dX4_doSet_41 : decode cX4_doSet 41 = .ok (.iload_n 1, 1) := by decide +kernel
theorem dX4_doSet_42 : decode cX4_doSet 42 = .ok (.iadd, 1) := by decide +kernel
theorem dX4_doSet_43 : decode cX4_doSet 43 = .ok (.iaload, 1) := by decide +kernel
theorem dX4_doSet_44 : decode cX4_doSet 44 = .ok (.istore_n 3, 1) := by decide +kernel
theorem dX4_doSet_45 : decode cX4_doSet 45 = .ok (.aload_n 0, 1) := by decide +kernel
theorem dX4_doSet_46 : decode cX4_doSet 46 = .ok (.getfield 7, 3) := by decide +kernel
theorem dX4_doSet_49 : decode cX4_doSet 49 = .ok (.iconst 2, 1) := by decide +kernel
theorem dX4_doSet_50 : decode cX4_doSet 50 = .ok (.iload_n 1, 1) := by decide +kernel
theorem dX4_doSet_51 : decode cX4_doSet 51 = .ok (.iadd, 1) := by decide +kernel
theorem dX4_doSet_52 : decode cX4_doSet 52 = .ok (.iload_n 2, 1) := by decide +kernel
theorem dX4_doSet_53 : decode cX4_doSet 53 = .ok (.iastore, 1) := by decide +kernel
theorem dX4_doSet_54 : decode cX4_doSet 54 = .ok (.iload_n 3, 1) := by decide +kernel
theorem dX4_doSet_55 : decode cX4_doSet 55 = .ok (.ireturn, 1) := by decide +kernel
theorem dX4_condition_0 : decode cX4_condition 0 = .ok (.aload_n 0, 1) := by decide +kernel
theorem dX4_condition_1 : decode cX4_condition 1 = .ok (.getfield 7, 3) := by decide +kernel
theorem dX4_condition_4 : decode cX4_condition 4 = .ok (.aload_n 0, 1) := by decide +kernel
theorem dX4_condition_5 : decode cX4_condition 5 = .ok (.getfield 13, 3) := by decide +kernel
theorem dX4_condition_8 : decode cX4_condition 8 = .ok (.invokestatic 135, 3) := by decide +kernel
theorem dX4_condition_11 : decode cX4_condition 11 = .ok (.aload_n 0, 1) := by decide +kernel
theorem dX4_condition_12 : decode cX4_condition 12 = .ok (.aload_n 0, 1) := by decide +kernel
theorem dX4_condition_13 : decode cX4_condition 13 = .ok (.iload_n 1, 1) := by decide +kernel
theorem dX4_condition_14 : decode cX4_condition 14 = .ok (.iload_n 2, 1) := by decide +kernel
theorem dX4_condition_15 : decode cX4_condition 15 = .ok (.iload_n 3, 1) := by decide +kernel
theorem dX4_condition_16 : decode cX4_condition 16 = .ok (.iload 4, 2) := by decide +kernel
theorem dX4_condition_18 : decode cX4_condition 18 = .ok (.invokevirtual 139, 3) := by decide +kernel
theorem dX4_condition_21 : decode cX4_condition 21 = .ok (.invokevirtual 143, 3) := by decide +kernel
theorem dX4_condition_24 : decode cX4_condition 24 = .ok (.ireturn, 1) := by decide +kernel
theorem dX4_begin_0 : decode cX4_begin 0 = .ok (.aload_n 0, 1) := by decide +kernel
theorem dX4_begin_1 : decode cX4_begin 1 = .ok (.getfield 7, 3) := by decide +kernel
theorem dX4_begin_4 : decode cX4_begin 4 = .ok (.aload_n 0, 1) := by decide +kernel
theorem dX4_begin_5 : decode cX4_begin 5 = .ok (.getfield 13, 3) := by decide +kernel
theorem dX4_begin_8 : decode cX4_begin 8 = .ok (.invokestatic 135, 3) := by decide +kernel
theorem dX4_begin_11 : decode cX4_begin 11 = .ok (.aload_n 0, 1) := by decide +kernel
theorem dX4_begin_12 : decode cX4_begin 12 = .ok (.aload_n 0, 1) := by decide +kernel
theorem dX4_begin_13 : decode cX4_begin 13 = .ok (.iload_n 1, 1) := by decide +kernel
theorem dX4_begin_14 : decode cX4_begin 14 = .ok (.invokevirtual 146, 3) := by decide +kernel
theorem dX4_begin_17 : decode cX4_begin 17 = .ok (.invokevirtual 143, 3) := by decide +kernel
theorem dX4_begin_20 : decode cX4_begin 20 = .ok (.ireturn, 1) := by decide +kernel
theorem dX4_finish_0 : decode cX4_finish 0 = .ok (.aload_n 0, 1) := by decide +kernel
theorem dX4_finish_1 : decode cX4_finish 1 = .ok (.getfield 7, 3) := by decide +kernel
theorem dX4_finish_4 : decode cX4_finish 4 = .ok (.aload_n 0, 1) := by decide +kernel
theorem dX4_finish_5 : decode cX4_finish 5 = .ok (.getfield 13, 3) := by decide +kernel
theorem dX4_finish_8 : decode cX4_finish 8 = .ok (.invokestatic 135, 3) := by decide +kernel
theorem dX4_finish_11 : decode cX4_finish 11 = .ok (.aload_n 0, 1) := by decide +kernel
theorem dX4_finish_12 : decode cX4_finish 12 = .ok (.aload_n 0, 1) := by decide +kernel
theorem dX4_finish_13 : decode cX4_finish 13 = .ok (.iload_n 1, 1) := by decide +kernel
theorem dX4_finish_14 : decode cX4_finish 14 = .ok (.invokevirtual 149, 3) := by decide +kernel
theorem dX4_finish_17 : decode cX4_finish 17 = .ok (.invokevirtual 143, 3) := by decide +kernel
theorem dX4_finish_20 : decode cX4_finish 20 = .ok (.ireturn, 1) := by decide +kernel
theorem dX4_apply_0 : decode cX4_apply 0 = .ok (.aload_n 0, 1) := by decide +kernel
theorem dX4_apply_1 : decode cX4_apply 1 = .ok (.getfield 7, 3) := by decide +kernel
theorem dX4_apply_4 : decode cX4_apply 4 = .ok (.aload_n 0, 1) := by decide +kernel
theorem dX4_apply_5 : decode cX4_apply 5 = .ok (.getfield 13, 3) := by decide +kernel
theorem dX4_apply_8 : decode cX4_apply 8 = .ok (.invokestatic 135, 3) := by decide +kernel
theorem dX4_apply_11 : decode cX4_apply 11 = .ok (.aload_n 0, 1) := by decide +kernel
theorem dX4_apply_12 : decode cX4_apply 12 = .ok (.aload_n 0, 1) := by decide +kernel
theorem dX4_apply_13 : decode cX4_apply 13 = .ok (.iload_n 1, 1) := by decide +kernel
theorem dX4_apply_14 : decode cX4_apply 14 = .ok (.iload_n 2, 1) := by decide +kernel
theorem dX4_apply_15 : decode cX4_apply 15 = .ok (.invokevirtual 152, 3) := by decide +kernel
theorem dX4_apply_18 : decode cX4_apply 18 = .ok (.invokevirtual 143, 3) := by decide +kernel
theorem dX4_apply_21 : decode cX4_apply 21 = .ok (.ireturn, 1) := by decide +kernel
theorem dX4_decide_0 : decode cX4_decide 0 = .ok (.aload_n 0, 1) := by decide +kernel
theorem dX4_decide_1 : decode cX4_decide 1 = .ok (.getfield 7, 3) := by decide +kernel
theorem dX4_decide_4 : decode cX4_decide 4 = .ok (.aload_n 0, 1) := by decide +kernel
theorem dX4_decide_5 : decode cX4_decide 5 = .ok (.getfield 13, 3) := by decide +kernel
theorem dX4_decide_8 : decode cX4_decide 8 = .ok (.invokestatic 135, 3) := by decide +kernel
theorem dX4_decide_11 : decode cX4_decide 11 = .ok (.aload_n 0, 1) := by decide +kernel
theorem dX4_decide_12 : decode cX4_decide 12 = .ok (.aload_n 0, 1) := by decide +kernel
theorem dX4_decide_13 : decode cX4_decide 13 = .ok (.iload_n 1, 1) := by decide +kernel
theorem dX4_decide_14 : decode cX4_decide 14 = .ok (.iload_n 2, 1) := by decide +kernel
theorem dX4_decide_15 : decode cX4_decide 15 = .ok (.invokevirtual 155, 3) := by decide +kernel
theorem dX4_decide_18 : decode cX4_decide 18 = .ok (.invokevirtual 143, 3) := by decide +kernel
theorem dX4_decide_21 : decode cX4_decide 21 = .ok (.ireturn, 1) := by decide +kernel
theorem dX4_lapse_0 : decode cX4_lapse 0 = .ok (.aload_n 0, 1) := by decide +kernel
theorem dX4_lapse_1 : decode cX4_lapse 1 = .ok (.getfield 7, 3) := by decide +kernel
theorem dX4_lapse_4 : decode cX4_lapse 4 = .ok (.aload_n 0, 1) := by decide +kernel
theorem dX4_lapse_5 : decode cX4_lapse 5 = .ok (.getfield 13, 3) := by decide +kernel
theorem dX4_lapse_8 : decode cX4_lapse 8 = .ok (.invokestatic 135, 3) := by decide +kernel
theorem dX4_lapse_11 : decode cX4_lapse 11 = .ok (.aload_n 0, 1) := by decide +kernel
theorem dX4_lapse_12 : decode cX4_lapse 12 = .ok (.aload_n 0, 1) := by decide +kernel
theorem dX4_lapse_13 : decode cX4_lapse 13 = .ok (.iload_n 1, 1) := by decide +kernel
theorem dX4_lapse_14 : decode cX4_lapse 14 = .ok (.invokevirtual 158, 3) := by decide +kernel
theorem dX4_lapse_17 : decode cX4_lapse 17 = .ok (.invokevirtual 143, 3) := by decide +kernel
theorem dX4_lapse_20 : decode cX4_lapse 20 = .ok (.ireturn, 1) := by decide +kernel
theorem dX4_cure_0 : decode cX4_cure 0 = .ok (.aload_n 0, 1) := by decide +kernel
theorem dX4_cure_1 : decode cX4_cure 1 = .ok (.getfield 7, 3) := by decide +kernel
theorem dX4_cure_4 : decode cX4_cure 4 = .ok (.aload_n 0, 1) := by decide +kernel
theorem dX4_cure_5 : decode cX4_cure 5 = .ok (.getfield 13, 3) := by decide +kernel
theorem dX4_cure_8 : decode cX4_cure 8 = .ok (.invokestatic 135, 3) := by decide +kernel
theorem dX4_cure_11 : decode cX4_cure 11 = .ok (.aload_n 0, 1) := by decide +kernel
theorem dX4_cure_12 : decode cX4_cure 12 = .ok (.aload_n 0, 1) := by decide +kernel
theorem dX4_cure_13 : decode cX4_cure 13 = .ok (.iload_n 1, 1) := by decide +kernel
theorem dX4_cure_14 : decode cX4_cure 14 = .ok (.invokevirtual 161, 3) := by decide +kernel
theorem dX4_cure_17 : decode cX4_cure 17 = .ok (.invokevirtual 143, 3) := by decide +kernel
theorem dX4_cure_20 : decode cX4_cure 20 = .ok (.ireturn, 1) := by decide +kernel
theorem dX4_serve_0 : decode cX4_serve 0 = .ok (.aload_n 0, 1) := by decide +kernel
theorem dX4_serve_1 : decode cX4_serve 1 = .ok (.getfield 7, 3) := by decide +kernel
theorem dX4_serve_4 : decode cX4_serve 4 = .ok (.aload_n 0, 1) := by decide +kernel
theorem dX4_serve_5 : decode cX4_serve 5 = .ok (.getfield 13, 3) := by decide +kernel
theorem dX4_serve_8 : decode cX4_serve 8 = .ok (.invokestatic 135, 3) := by decide +kernel
theorem dX4_serve_11 : decode cX4_serve 11 = .ok (.aload_n 0, 1) := by decide +kernel
theorem dX4_serve_12 : decode cX4_serve 12 = .ok (.aload_n 0, 1) := by decide +kernel
theorem dX4_serve_13 : decode cX4_serve 13 = .ok (.iload_n 1, 1) := by decide +kernel
theorem dX4_serve_14 : decode cX4_serve 14 = .ok (.iload_n 2, 1) := by decide +kernel
theorem dX4_serve_15 : decode cX4_serve 15 = .ok (.invokevirtual 164, 3) := by decide +kernel
theorem dX4_serve_18 : decode cX4_serve 18 = .ok (.invokevirtual 143, 3) := by decide +kernel
theorem dX4_serve_21 : decode cX4_serve 21 = .ok (.ireturn, 1) := by decide +kernel
theorem dX4_vary_0 : decode cX4_vary 0 = .ok (.aload_n 0, 1) := by decide +kernel
theorem dX4_vary_1 : decode cX4_vary 1 = .ok (.getfield 7, 3) := by decide +kernel
theorem dX4_vary_4 : decode cX4_vary 4 = .ok (.aload_n 0, 1) := by decide +kernel
theorem dX4_vary_5 : decode cX4_vary 5 = .ok (.getfield 13, 3) := by decide +kernel
theorem dX4_vary_8 : decode cX4_vary 8 = .ok (.invokestatic 135, 3) := by decide +kernel
theorem dX4_vary_11 : decode cX4_vary 11 = .ok (.aload_n 0, 1) := by decide +kernel
theorem dX4_vary_12 : decode cX4_vary 12 = .ok (.aload_n 0, 1) := by decide +kernel
theorem dX4_vary_13 : decode cX4_vary 13 = .ok (.iload_n 1, 1) := by decide +kernel
theorem dX4_vary_14 : decode cX4_vary 14 = .ok (.iload_n 2, 1) := by decide +kernel
theorem dX4_vary_15 : decode cX4_vary 15 = .ok (.iload_n 3, 1) := by decide +kernel
theorem dX4_vary_16 : decode cX4_vary 16 = .ok (.invokevirtual 167, 3) := by decide +kernel
theorem dX4_vary_19 : decode cX4_vary 19 = .ok (.invokevirtual 143, 3) := by decide +kernel
theorem dX4_vary_22 : decode cX4_vary 22 = .ok (.ireturn, 1) := by decide +kernel
theorem dX4_pass_0 : decode cX4_pass 0 = .ok (.aload_n 0, 1) := by decide +kernel
theorem dX4_pass_1 : decode cX4_pass 1 = .ok (.getfield 7, 3) := by decide +kernel
theorem dX4_pass_4 : decode cX4_pass 4 = .ok (.aload_n 0, 1) := by decide +kernel
theorem dX4_pass_5 : decode cX4_pass 5 = .ok (.getfield 13, 3) := by decide +kernel
theorem dX4_pass_8 : decode cX4_pass 8 = .ok (.invokestatic 135, 3) := by decide +kernel
theorem dX4_pass_11 : decode cX4_pass 11 = .ok (.aload_n 0, 1) := by decide +kernel
theorem dX4_pass_12 : decode cX4_pass 12 = .ok (.aload_n 0, 1) := by decide +kernel
theorem dX4_pass_13 : decode cX4_pass 13 = .ok (.iload_n 1, 1) := by decide +kernel
theorem dX4_pass_14 : decode cX4_pass 14 = .ok (.invokevirtual 171, 3) := by decide +kernel
theorem dX4_pass_17 : decode cX4_pass 17 = .ok (.invokevirtual 143, 3) := by decide +kernel
theorem dX4_pass_20 : decode cX4_pass 20 = .ok (.ireturn, 1) := by decide +kernel
theorem dX4_set_0 : decode cX4_set 0 = .ok (.aload_n 0, 1) := by decide +kernel
theorem dX4_set_1 : decode cX4_set 1 = .ok (.getfield 7, 3) := by decide +kernel
theorem dX4_set_4 : decode cX4_set 4 = .ok (.aload_n 0, 1) := by decide +kernel
theorem dX4_set_5 : decode cX4_set 5 = .ok (.getfield 13, 3) := by decide +kernel
theorem dX4_set_8 : decode cX4_set 8 = .ok (.invokestatic 135, 3) := by decide +kernel
theorem dX4_set_11 : decode cX4_set 11 = .ok (.aload_n 0, 1) := by decide +kernel
theorem dX4_set_12 : decode cX4_set 12 = .ok (.aload_n 0, 1) := by decide +kernel
theorem dX4_set_13 : decode cX4_set 13 = .ok (.iload_n 1, 1) := by decide +kernel
theorem dX4_set_14 : decode cX4_set 14 = .ok (.iload_n 2, 1) := by decide +kernel
theorem dX4_set_15 : decode cX4_set 15 = .ok (.invokevirtual 174, 3) := by decide +kernel
theorem dX4_set_18 : decode cX4_set 18 = .ok (.invokevirtual 143, 3) := by decide +kernel
theorem dX4_set_21 : decode cX4_set 21 = .ok (.ireturn, 1) := by decide +kernel
theorem dX4_conditionOf_0 : decode cX4_conditionOf 0 = .ok (.aload_n 0, 1) := by decide +kernel
theorem dX4_conditionOf_1 : decode cX4_conditionOf 1 = .ok (.iload_n 1, 1) := by decide +kernel
theorem dX4_conditionOf_2 : decode cX4_conditionOf 2 = .ok (.invokevirtual 99, 3) := by decide +kernel
theorem dX4_conditionOf_5 : decode cX4_conditionOf 5 = .ok (.ifCond .eq 15, 3) := by decide +kernel
theorem dX4_conditionOf_8 : decode cX4_conditionOf 8 = .ok (.iload_n 2, 1) := by decide +kernel
theorem dX4_conditionOf_9 : decode cX4_conditionOf 9 = .ok (.i2l, 1) := by decide +kernel
theorem dX4_conditionOf_10 : decode cX4_conditionOf 10 = .ok (.lconst 0, 1) := by decide +kernel
theorem dX4_conditionOf_11 : decode cX4_conditionOf 11 = .ok (.ldc2_w 177, 3) := by decide +kernel
theorem dX4_conditionOf_14 : decode cX4_conditionOf 14 = .ok (.invokestatic 40, 3) := by decide +kernel
theorem dX4_conditionOf_17 : decode cX4_conditionOf 17 = .ok (.ifCond .ne 6, 3) := by decide +kernel
theorem dX4_conditionOf_20 : decode cX4_conditionOf 20 = .ok (.ldc 87, 2) := by decide +kernel
theorem dX4_conditionOf_22 : decode cX4_conditionOf 22 = .ok (.ireturn, 1) := by decide +kernel
theorem dX4_conditionOf_23 : decode cX4_conditionOf 23 = .ok (.iload_n 2, 1) := by decide +kernel
theorem dX4_conditionOf_24 : decode cX4_conditionOf 24 = .ok (.tableswitch 153 4 11 #[48, 54, 61, 68, 90, 98, 121, 145], 48) := by decide +kernel
theorem dX4_conditionOf_72 : decode cX4_conditionOf 72 = .ok (.aload_n 0, 1) := by decide +kernel
theorem dX4_conditionOf_73 : decode cX4_conditionOf 73 = .ok (.iload_n 1, 1) := by decide +kernel
theorem dX4_conditionOf_74 : decode cX4_conditionOf 74 = .ok (.invokevirtual 109, 3) := by decide +kernel
theorem dX4_conditionOf_77 : decode cX4_conditionOf 77 = .ok (.ireturn, 1) := by decide +kernel
theorem dX4_conditionOf_78 : decode cX4_conditionOf 78 = .ok (.aload_n 0, 1) := by decide +kernel
theorem dX4_conditionOf_79 : decode cX4_conditionOf 79 = .ok (.iload_n 1, 1) := by decide +kernel
theorem dX4_conditionOf_80 : decode cX4_conditionOf 80 = .ok (.iconst 4, 1) := by decide +kernel
theorem dX4_conditionOf_81 : decode cX4_conditionOf 81 = .ok (.invokevirtual 46, 3) := by decide +kernel
theorem dX4_conditionOf_84 : decode cX4_conditionOf 84 = .ok (.ireturn, 1) := by decide +kernel
theorem dX4_conditionOf_85 : decode cX4_conditionOf 85 = .ok (.aload_n 0, 1) := by decide +kernel
theorem dX4_conditionOf_86 : decode cX4_conditionOf 86 = .ok (.iload_n 1, 1) := by decide +kernel
theorem dX4_conditionOf_87 : decode cX4_conditionOf 87 = .ok (.iconst 5, 1) := by decide +kernel
theorem dX4_conditionOf_88 : decode cX4_conditionOf 88 = .ok (.invokevirtual 46, 3) := by decide +kernel
theorem dX4_conditionOf_91 : decode cX4_conditionOf 91 = .ok (.ireturn, 1) := by decide +kernel
theorem dX4_conditionOf_92 : decode cX4_conditionOf 92 = .ok (.aload_n 0, 1) := by decide +kernel
theorem dX4_conditionOf_93 : decode cX4_conditionOf 93 = .ok (.iload_n 1, 1) := by decide +kernel
theorem dX4_conditionOf_94 : decode cX4_conditionOf 94 = .ok (.iconst 5, 1) := by decide +kernel
theorem dX4_conditionOf_95 : decode cX4_conditionOf 95 = .ok (.invokevirtual 46, 3) := by decide +kernel
theorem dX4_conditionOf_98 : decode cX4_conditionOf 98 = .ok (.ifCond .ne 8, 3) := by decide +kernel
theorem dX4_conditionOf_101 : decode cX4_conditionOf 101 = .ok (.ldc 179, 2) := by decide +kernel
theorem dX4_conditionOf_103 : decode cX4_conditionOf 103 = .ok (.goto 10, 3) := by decide +kernel
theorem dX4_conditionOf_106 : decode cX4_conditionOf 106 = .ok (.aload_n 0, 1) := by decide +kernel
theorem dX4_conditionOf_107 : decode cX4_conditionOf 107 = .ok (.iload_n 1, 1) := by decide +kernel
theorem dX4_conditionOf_108 : decode cX4_conditionOf 108 = .ok (.bipush 6, 2) := by decide +kernel
theorem dX4_conditionOf_110 : decode cX4_conditionOf 110 = .ok (.invokevirtual 46, 3) := by decide +kernel
theorem dX4_conditionOf_113 : decode cX4_conditionOf 113 = .ok (.ireturn, 1) := by decide +kernel
theorem dX4_conditionOf_114 : decode cX4_conditionOf 114 = .ok (.aload_n 0, 1) := by decide +kernel
theorem dX4_conditionOf_115 : decode cX4_conditionOf 115 = .ok (.iload_n 1, 1) := by decide +kernel
theorem dX4_conditionOf_116 : decode cX4_conditionOf 116 = .ok (.bipush 7, 2) := by decide +kernel
theorem dX4_conditionOf_118 : decode cX4_conditionOf 118 = .ok (.invokevirtual 46, 3) := by decide +kernel
theorem dX4_conditionOf_121 : decode cX4_conditionOf 121 = .ok (.ireturn, 1) := by decide +kernel
theorem dX4_conditionOf_122 : decode cX4_conditionOf 122 = .ok (.aload_n 0, 1) := by decide +kernel
theorem dX4_conditionOf_123 : decode cX4_conditionOf 123 = .ok (.iload_n 1, 1) := by decide +kernel
theorem dX4_conditionOf_124 : decode cX4_conditionOf 124 = .ok (.bipush 8, 2) := by decide +kernel
theorem dX4_conditionOf_126 : decode cX4_conditionOf 126 = .ok (.invokevirtual 46, 3) := by decide +kernel
theorem dX4_conditionOf_129 : decode cX4_conditionOf 129 = .ok (.ifCond .ne 8, 3) := by decide +kernel
theorem dX4_conditionOf_132 : decode cX4_conditionOf 132 = .ok (.ldc 179, 2) := by decide +kernel
theorem dX4_conditionOf_134 : decode cX4_conditionOf 134 = .ok (.goto 10, 3) := by decide +kernel
theorem dX4_conditionOf_137 : decode cX4_conditionOf 137 = .ok (.aload_n 0, 1) := by decide +kernel
theorem dX4_conditionOf_138 : decode cX4_conditionOf 138 = .ok (.iload_n 1, 1) := by decide +kernel
theorem dX4_conditionOf_139 : decode cX4_conditionOf 139 = .ok (.bipush 9, 2) := by decide +kernel
theorem dX4_conditionOf_141 : decode cX4_conditionOf 141 = .ok (.invokevirtual 46, 3) := by decide +kernel
theorem dX4_conditionOf_144 : decode cX4_conditionOf 144 = .ok (.ireturn, 1) := by decide +kernel
theorem dX4_conditionOf_145 : decode cX4_conditionOf 145 = .ok (.aload_n 0, 1) := by decide +kernel
theorem dX4_conditionOf_146 : decode cX4_conditionOf 146 = .ok (.iload_n 1, 1) := by decide +kernel
theorem dX4_conditionOf_147 : decode cX4_conditionOf 147 = .ok (.bipush 10, 2) := by decide +kernel
theorem dX4_conditionOf_149 : decode cX4_conditionOf 149 = .ok (.invokevirtual 46, 3) := by decide +kernel
theorem dX4_conditionOf_152 : decode cX4_conditionOf 152 = .ok (.iconst (-1), 1) := by decide +kernel
theorem dX4_conditionOf_153 : decode cX4_conditionOf 153 = .ok (.if_icmp .ne 8, 3) := by decide +kernel
theorem dX4_conditionOf_156 : decode cX4_conditionOf 156 = .ok (.ldc 179, 2) := by decide +kernel
theorem dX4_conditionOf_158 : decode cX4_conditionOf 158 = .ok (.goto 10, 3) := by decide +kernel
theorem dX4_conditionOf_161 : decode cX4_conditionOf 161 = .ok (.aload_n 0, 1) := by decide +kernel
theorem dX4_conditionOf_162 : decode cX4_conditionOf 162 = .ok (.iload_n 1, 1) := by decide +kernel
theorem dX4_conditionOf_163 : decode cX4_conditionOf 163 = .ok (.bipush 10, 2) := by decide +kernel
theorem dX4_conditionOf_165 : decode cX4_conditionOf 165 = .ok (.invokevirtual 46, 3) := by decide +kernel
theorem dX4_conditionOf_168 : decode cX4_conditionOf 168 = .ok (.ireturn, 1) := by decide +kernel
theorem dX4_conditionOf_169 : decode cX4_conditionOf 169 = .ok (.aload_n 0, 1) := by decide +kernel
theorem dX4_conditionOf_170 : decode cX4_conditionOf 170 = .ok (.iload_n 1, 1) := by decide +kernel
theorem dX4_conditionOf_171 : decode cX4_conditionOf 171 = .ok (.bipush 11, 2) := by decide +kernel
theorem dX4_conditionOf_173 : decode cX4_conditionOf 173 = .ok (.invokevirtual 46, 3) := by decide +kernel
theorem dX4_conditionOf_176 : decode cX4_conditionOf 176 = .ok (.ireturn, 1) := by decide +kernel
theorem dX4_conditionOf_177 : decode cX4_conditionOf 177 = .ok (.aload_n 0, 1) := by decide +kernel
theorem dX4_conditionOf_178 : decode cX4_conditionOf 178 = .ok (.iload_n 1, 1) := by decide +kernel
theorem dX4_conditionOf_179 : decode cX4_conditionOf 179 = .ok (.iload_n 2, 1) := by decide +kernel
theorem dX4_conditionOf_180 : decode cX4_conditionOf 180 = .ok (.invokevirtual 46, 3) := by decide +kernel
theorem dX4_conditionOf_183 : decode cX4_conditionOf 183 = .ok (.ireturn, 1) := by decide +kernel
theorem dX4_stageOf_0 : decode cX4_stageOf 0 = .ok (.iload_n 1, 1) := by decide +kernel
theorem dX4_stageOf_1 : decode cX4_stageOf 1 = .ok (.invokestatic 78, 3) := by decide +kernel
theorem dX4_stageOf_4 : decode cX4_stageOf 4 = .ok (.ifCond .eq 15, 3) := by decide +kernel
theorem dX4_stageOf_7 : decode cX4_stageOf 7 = .ok (.iload_n 2, 1) := by decide +kernel
theorem dX4_stageOf_8 : decode cX4_stageOf 8 = .ok (.i2l, 1) := by decide +kernel
theorem dX4_stageOf_9 : decode cX4_stageOf 9 = .ok (.lconst 0, 1) := by decide +kernel
theorem dX4_stageOf_10 : decode cX4_stageOf 10 = .ok (.ldc2_w 180, 3) := by decide +kernel
theorem dX4_stageOf_13 : decode cX4_stageOf 13 = .ok (.invokestatic 40, 3) := by decide +kernel
theorem dX4_stageOf_16 : decode cX4_stageOf 16 = .ok (.ifCond .ne 6, 3) := by decide +kernel
theorem dX4_stageOf_19 : decode cX4_stageOf 19 = .ok (.ldc 87, 2) := by decide +kernel
theorem dX4_stageOf_21 : decode cX4_stageOf 21 = .ok (.ireturn, 1) := by decide +kernel
theorem dX4_stageOf_22 : decode cX4_stageOf 22 = .ok (.iload_n 2, 1) := by decide +kernel
theorem dX4_stageOf_23 : decode cX4_stageOf 23 = .ok (.tableswitch 99 0 2 #[25, 53, 76], 25) := by decide +kernel
theorem dX4_stageOf_48 : decode cX4_stageOf 48 = .ok (.aload_n 0, 1) := by decide +kernel
theorem dX4_stageOf_49 : decode cX4_stageOf 49 = .ok (.iload_n 1, 1) := by decide +kernel
theorem dX4_stageOf_50 : decode cX4_stageOf 50 = .ok (.invokevirtual 54, 3) := by decide +kernel
theorem dX4_stageOf_53 : decode cX4_stageOf 53 = .ok (.ifCond .eq 7, 3) := by decide +kernel
theorem dX4_stageOf_56 : decode cX4_stageOf 56 = .ok (.iconst 1, 1) := by decide +kernel
theorem dX4_stageOf_57 : decode cX4_stageOf 57 = .ok (.goto 4, 3) := by decide +kernel
theorem dX4_stageOf_60 : decode cX4_stageOf 60 = .ok (.iconst 0, 1) := by decide +kernel
theorem dX4_stageOf_61 : decode cX4_stageOf 61 = .ok (.aload_n 0, 1) := by decide +kernel
theorem dX4_stageOf_62 : decode cX4_stageOf 62 = .ok (.iload_n 1, 1) := by decide +kernel
theorem dX4_stageOf_63 : decode cX4_stageOf 63 = .ok (.invokevirtual 57, 3) := by decide +kernel
theorem dX4_stageOf_66 : decode cX4_stageOf 66 = .ok (.ifCond .eq 7, 3) := by decide +kernel
theorem dX4_stageOf_69 : decode cX4_stageOf 69 = .ok (.iconst 1, 1) := by decide +kernel
theorem dX4_stageOf_70 : decode cX4_stageOf 70 = .ok (.goto 4, 3) := by decide +kernel
theorem dX4_stageOf_73 : decode cX4_stageOf 73 = .ok (.iconst 0, 1) := by decide +kernel
theorem dX4_stageOf_74 : decode cX4_stageOf 74 = .ok (.iadd, 1) := by decide +kernel
theorem dX4_stageOf_75 : decode cX4_stageOf 75 = .ok (.ireturn, 1) := by decide +kernel
theorem dX4_stageOf_76 : decode cX4_stageOf 76 = .ok (.aload_n 0, 1) := by decide +kernel
theorem dX4_stageOf_77 : decode cX4_stageOf 77 = .ok (.iload_n 1, 1) := by decide +kernel
theorem dX4_stageOf_78 : decode cX4_stageOf 78 = .ok (.invokevirtual 54, 3) := by decide +kernel
theorem dX4_stageOf_81 : decode cX4_stageOf 81 = .ok (.ifCond .eq 15, 3) := by decide +kernel
theorem dX4_stageOf_84 : decode cX4_stageOf 84 = .ok (.aload_n 0, 1) := by decide +kernel
theorem dX4_stageOf_85 : decode cX4_stageOf 85 = .ok (.getfield 7, 3) := by decide +kernel
theorem dX4_stageOf_88 : decode cX4_stageOf 88 = .ok (.bipush 6, 2) := by decide +kernel
theorem dX4_stageOf_90 : decode cX4_stageOf 90 = .ok (.iload_n 1, 1) := by decide +kernel
theorem dX4_stageOf_91 : decode cX4_stageOf 91 = .ok (.iadd, 1) := by decide +kernel
theorem dX4_stageOf_92 : decode cX4_stageOf 92 = .ok (.iaload, 1) := by decide +kernel
theorem dX4_stageOf_93 : decode cX4_stageOf 93 = .ok (.goto 5, 3) := by decide +kernel
theorem dX4_stageOf_96 : decode cX4_stageOf 96 = .ok (.ldc 179, 2) := by decide +kernel
theorem dX4_stageOf_98 : decode cX4_stageOf 98 = .ok (.ireturn, 1) := by decide +kernel
theorem dX4_stageOf_99 : decode cX4_stageOf 99 = .ok (.aload_n 0, 1) := by decide +kernel
theorem dX4_stageOf_100 : decode cX4_stageOf 100 = .ok (.iload_n 1, 1) := by decide +kernel
theorem dX4_stageOf_101 : decode cX4_stageOf 101 = .ok (.invokevirtual 57, 3) := by decide +kernel
theorem dX4_stageOf_104 : decode cX4_stageOf 104 = .ok (.ifCond .eq 15, 3) := by decide +kernel
theorem dX4_stageOf_107 : decode cX4_stageOf 107 = .ok (.aload_n 0, 1) := by decide +kernel
theorem dX4_stageOf_108 : decode cX4_stageOf 108 = .ok (.getfield 7, 3) := by decide +kernel
theorem dX4_stageOf_111 : decode cX4_stageOf 111 = .ok (.bipush 11, 2) := by decide +kernel
theorem dX4_stageOf_113 : decode cX4_stageOf 113 = .ok (.iload_n 1, 1) := by decide +kernel
theorem dX4_stageOf_114 : decode cX4_stageOf 114 = .ok (.iadd, 1) := by decide +kernel
theorem dX4_stageOf_115 : decode cX4_stageOf 115 = .ok (.iaload, 1) := by decide +kernel
theorem dX4_stageOf_116 : decode cX4_stageOf 116 = .ok (.goto 5, 3) := by decide +kernel
theorem dX4_stageOf_119 : decode cX4_stageOf 119 = .ok (.ldc 179, 2) := by decide +kernel
theorem dX4_stageOf_121 : decode cX4_stageOf 121 = .ok (.ireturn, 1) := by decide +kernel
theorem dX4_stageOf_122 : decode cX4_stageOf 122 = .ok (.aload_n 0, 1) := by decide +kernel
theorem dX4_stageOf_123 : decode cX4_stageOf 123 = .ok (.iload_n 1, 1) := by decide +kernel
theorem dX4_stageOf_124 : decode cX4_stageOf 124 = .ok (.invokevirtual 93, 3) := by decide +kernel
theorem dX4_stageOf_127 : decode cX4_stageOf 127 = .ok (.ireturn, 1) := by decide +kernel
theorem dX4_withState_0 : decode cX4_withState 0 = .ok (.iconst 0, 1) := by decide +kernel
theorem dX4_withState_1 : decode cX4_withState 1 = .ok (.istore_n 2, 1) := by decide +kernel
theorem dX4_withState_2 : decode cX4_withState 2 = .ok (.iconst 0, 1) := by decide +kernel
theorem dX4_withState_3 : decode cX4_withState 3 = .ok (.istore_n 3, 1) := by decide +kernel
theorem dX4_withState_4 : decode cX4_withState 4 = .ok (.iload_n 3, 1) := by decide +kernel
theorem dX4_withState_5 : decode cX4_withState 5 = .ok (.aload_n 0, 1) := by decide +kernel
theorem dX4_withState_6 : decode cX4_withState 6 = .ok (.getfield 7, 3) := by decide +kernel
theorem dX4_withState_9 : decode cX4_withState 9 = .ok (.iconst 1, 1) := by decide +kernel
theorem dX4_withState_10 : decode cX4_withState 10 = .ok (.iaload, 1) := by decide +kernel
theorem dX4_withState_11 : decode cX4_withState 11 = .ok (.if_icmp .ge 28, 3) := by decide +kernel
theorem dX4_withState_14 : decode cX4_withState 14 = .ok (.iload_n 2, 1) := by decide +kernel
theorem dX4_withState_15 : decode cX4_withState 15 = .ok (.aload_n 0, 1) := by decide +kernel
theorem dX4_withState_16 : decode cX4_withState 16 = .ok (.iload_n 3, 1) := by decide +kernel
theorem dX4_withState_17 : decode cX4_withState 17 = .ok (.invokevirtual 109, 3) := by decide +kernel
theorem dX4_withState_20 : decode cX4_withState 20 = .ok (.iload_n 1, 1) := by decide +kernel
theorem dX4_withState_21 : decode cX4_withState 21 = .ok (.if_icmp .ne 9, 3) := by decide +kernel
theorem dX4_withState_24 : decode cX4_withState 24 = .ok (.iconst 1, 1) := by decide +kernel
theorem dX4_withState_25 : decode cX4_withState 25 = .ok (.iload_n 3, 1) := by decide +kernel
theorem dX4_withState_26 : decode cX4_withState 26 = .ok (.ishl, 1) := by decide +kernel
theorem dX4_withState_27 : decode cX4_withState 27 = .ok (.goto 4, 3) := by decide +kernel
theorem dX4_withState_30 : decode cX4_withState 30 = .ok (.iconst 0, 1) := by decide +kernel
theorem dX4_withState_31 : decode cX4_withState 31 = .ok (.ior, 1) := by decide +kernel
theorem dX4_withState_32 : decode cX4_withState 32 = .ok (.istore_n 2, 1) := by decide +kernel
theorem dX4_withState_33 : decode cX4_withState 33 = .ok (.iinc 3 1, 3) := by decide +kernel
theorem dX4_withState_36 : decode cX4_withState 36 = .ok (.goto (-32), 3) := by decide +kernel
theorem dX4_withState_39 : decode cX4_withState 39 = .ok (.iload_n 2, 1) := by decide +kernel
theorem dX4_withState_40 : decode cX4_withState 40 = .ok (.ireturn, 1) := by decide +kernel
theorem dX4_which_0 : decode cX4_which 0 = .ok (.iload_n 1, 1) := by decide +kernel
theorem dX4_which_1 : decode cX4_which 1 = .ok (.i2l, 1) := by decide +kernel
theorem dX4_which_2 : decode cX4_which 2 = .ok (.lconst 0, 1) := by decide +kernel
theorem dX4_which_3 : decode cX4_which 3 = .ok (.ldc2_w 44, 3) := by decide +kernel
theorem dX4_which_6 : decode cX4_which 6 = .ok (.invokestatic 40, 3) := by decide +kernel
theorem dX4_which_9 : decode cX4_which 9 = .ok (.ifCond .eq 11, 3) := by decide +kernel
theorem dX4_which_12 : decode cX4_which 12 = .ok (.aload_n 0, 1) := by decide +kernel
theorem dX4_which_13 : decode cX4_which 13 = .ok (.iload_n 1, 1) := by decide +kernel
theorem dX4_which_14 : decode cX4_which 14 = .ok (.invokevirtual 182, 3) := by decide +kernel
theorem dX4_which_17 : decode cX4_which 17 = .ok (.goto 5, 3) := by decide +kernel
theorem dX4_which_20 : decode cX4_which 20 = .ok (.ldc 87, 2) := by decide +kernel
theorem dX4_which_22 : decode cX4_which 22 = .ok (.ireturn, 1) := by decide +kernel
theorem dX4_when_0 : decode cX4_when 0 = .ok (.aload_n 0, 1) := by decide +kernel
theorem dX4_when_1 : decode cX4_when 1 = .ok (.iload_n 1, 1) := by decide +kernel
theorem dX4_when_2 : decode cX4_when 2 = .ok (.invokevirtual 99, 3) := by decide +kernel
theorem dX4_when_5 : decode cX4_when 5 = .ok (.ifCond .eq 15, 3) := by decide +kernel
theorem dX4_when_8 : decode cX4_when 8 = .ok (.iload_n 2, 1) := by decide +kernel
theorem dX4_when_9 : decode cX4_when 9 = .ok (.i2l, 1) := by decide +kernel
theorem dX4_when_10 : decode cX4_when 10 = .ok (.lconst 0, 1) := by decide +kernel
theorem dX4_when_11 : decode cX4_when 11 = .ok (.ldc2_w 44, 3) := by decide +kernel
theorem dX4_when_14 : decode cX4_when 14 = .ok (.invokestatic 40, 3) := by decide +kernel
theorem dX4_when_17 : decode cX4_when 17 = .ok (.ifCond .ne 6, 3) := by decide +kernel
theorem dX4_when_20 : decode cX4_when 20 = .ok (.ldc 87, 2) := by decide +kernel
theorem dX4_when_22 : decode cX4_when 22 = .ok (.ireturn, 1) := by decide +kernel
theorem dX4_when_23 : decode cX4_when 23 = .ok (.aload_n 0, 1) := by decide +kernel
theorem dX4_when_24 : decode cX4_when 24 = .ok (.getfield 7, 3) := by decide +kernel
theorem dX4_when_27 : decode cX4_when 27 = .ok (.aload_n 0, 1) := by decide +kernel
theorem dX4_when_28 : decode cX4_when 28 = .ok (.getfield 16, 3) := by decide +kernel
theorem dX4_when_31 : decode cX4_when 31 = .ok (.invokestatic 135, 3) := by decide +kernel
theorem dX4_when_34 : decode cX4_when 34 = .ok (.iconst 0, 1) := by decide +kernel
theorem dX4_when_35 : decode cX4_when 35 = .ok (.istore_n 3, 1) := by decide +kernel
theorem dX4_when_36 : decode cX4_when 36 = .ok (.iload_n 3, 1) := by decide +kernel
theorem dX4_when_37 : decode cX4_when 37 = .ok (.sipush 400, 3) := by decide +kernel
theorem dX4_when_40 : decode cX4_when 40 = .ok (.if_icmp .ge 22, 3) := by decide +kernel
theorem dX4_when_43 : decode cX4_when 43 = .ok (.aload_n 0, 1) := by decide +kernel
theorem dX4_when_44 : decode cX4_when 44 = .ok (.iload_n 1, 1) := by decide +kernel
theorem dX4_when_45 : decode cX4_when 45 = .ok (.invokevirtual 109, 3) := by decide +kernel
theorem dX4_when_48 : decode cX4_when 48 = .ok (.iload_n 2, 1) := by decide +kernel
theorem dX4_when_49 : decode cX4_when 49 = .ok (.if_icmp .eq 13, 3) := by decide +kernel
theorem dX4_when_52 : decode cX4_when 52 = .ok (.aload_n 0, 1) := by decide +kernel
theorem dX4_when_53 : decode cX4_when 53 = .ok (.invokevirtual 132, 3) := by decide +kernel
theorem dX4_when_56 : decode cX4_when 56 = .ok (.iinc 3 1, 3) := by decide +kernel
theorem dX4_when_59 : decode cX4_when 59 = .ok (.goto (-23), 3) := by decide +kernel
theorem dX4_when_62 : decode cX4_when 62 = .ok (.aload_n 0, 1) := by decide +kernel
theorem dX4_when_63 : decode cX4_when 63 = .ok (.iload_n 1, 1) := by decide +kernel
theorem dX4_when_64 : decode cX4_when 64 = .ok (.invokevirtual 109, 3) := by decide +kernel
theorem dX4_when_67 : decode cX4_when 67 = .ok (.iload_n 2, 1) := by decide +kernel
theorem dX4_when_68 : decode cX4_when 68 = .ok (.if_icmp .ne 7, 3) := by decide +kernel
theorem dX4_when_71 : decode cX4_when 71 = .ok (.iload_n 3, 1) := by decide +kernel
theorem dX4_when_72 : decode cX4_when 72 = .ok (.goto 5, 3) := by decide +kernel
theorem dX4_when_75 : decode cX4_when 75 = .ok (.ldc 179, 2) := by decide +kernel
theorem dX4_when_77 : decode cX4_when 77 = .ok (.istore 4, 2) := by decide +kernel
theorem dX4_when_79 : decode cX4_when 79 = .ok (.aload_n 0, 1) := by decide +kernel
theorem dX4_when_80 : decode cX4_when 80 = .ok (.getfield 16, 3) := by decide +kernel
theorem dX4_when_83 : decode cX4_when 83 = .ok (.aload_n 0, 1) := by decide +kernel
theorem dX4_when_84 : decode cX4_when 84 = .ok (.getfield 7, 3) := by decide +kernel
theorem dX4_when_87 : decode cX4_when 87 = .ok (.invokestatic 135, 3) := by decide +kernel
theorem dX4_when_90 : decode cX4_when 90 = .ok (.iload 4, 2) := by decide +kernel
theorem dX4_when_92 : decode cX4_when 92 = .ok (.ireturn, 1) := by decide +kernel
theorem dX4_lawful_0 : decode cX4_lawful 0 = .ok (.iload_n 1, 1) := by decide +kernel
theorem dX4_lawful_1 : decode cX4_lawful 1 = .ok (.invokestatic 78, 3) := by decide +kernel
theorem dX4_lawful_4 : decode cX4_lawful 4 = .ok (.ifCond .ne 6, 3) := by decide +kernel
theorem dX4_lawful_7 : decode cX4_lawful 7 = .ok (.ldc 87, 2) := by decide +kernel
theorem dX4_lawful_9 : decode cX4_lawful 9 = .ok (.ireturn, 1) := by decide +kernel
theorem dX4_lawful_10 : decode cX4_lawful 10 = .ok (.aload_n 0, 1) := by decide +kernel
theorem dX4_lawful_11 : decode cX4_lawful 11 = .ok (.iload_n 1, 1) := by decide +kernel
theorem dX4_lawful_12 : decode cX4_lawful 12 = .ok (.invokevirtual 90, 3) := by decide +kernel
theorem dX4_lawful_15 : decode cX4_lawful 15 = .ok (.ifCond .ne 6, 3) := by decide +kernel
theorem dX4_lawful_18 : decode cX4_lawful 18 = .ok (.ldc 88, 2) := by decide +kernel
theorem dX4_lawful_20 : decode cX4_lawful 20 = .ok (.ireturn, 1) := by decide +kernel
theorem dX4_lawful_21 : decode cX4_lawful 21 = .ok (.aload_n 0, 1) := by decide +kernel
theorem dX4_lawful_22 : decode cX4_lawful 22 = .ok (.getfield 7, 3) := by decide +kernel
theorem dX4_lawful_25 : decode cX4_lawful 25 = .ok (.aload_n 0, 1) := by decide +kernel
theorem dX4_lawful_26 : decode cX4_lawful 26 = .ok (.getfield 16, 3) := by decide +kernel
theorem dX4_lawful_29 : decode cX4_lawful 29 = .ok (.invokestatic 135, 3) := by decide +kernel
theorem dX4_lawful_32 : decode cX4_lawful 32 = .ok (.iconst 0, 1) := by decide +kernel
theorem dX4_lawful_33 : decode cX4_lawful 33 = .ok (.istore_n 2, 1) := by decide +kernel
theorem dX4_lawful_34 : decode cX4_lawful 34 = .ok (.iload_n 2, 1) := by decide +kernel
theorem dX4_lawful_35 : decode cX4_lawful 35 = .ok (.sipush 400, 3) := by decide +kernel
theorem dX4_lawful_38 : decode cX4_lawful 38 = .ok (.if_icmp .ge 21, 3) := by decide +kernel
theorem dX4_lawful_41 : decode cX4_lawful 41 = .ok (.aload_n 0, 1) := by decide +kernel
theorem dX4_lawful_42 : decode cX4_lawful 42 = .ok (.iload_n 1, 1) := by decide +kernel
theorem dX4_lawful_43 : decode cX4_lawful 43 = .ok (.invokevirtual 93, 3) := by decide +kernel
theorem dX4_lawful_46 : decode cX4_lawful 46 = .ok (.ifCond .eq 13, 3) := by decide +kernel
theorem dX4_lawful_49 : decode cX4_lawful 49 = .ok (.aload_n 0, 1) := by decide +kernel
theorem dX4_lawful_50 : decode cX4_lawful 50 = .ok (.invokevirtual 132, 3) := by decide +kernel
theorem dX4_lawful_53 : decode cX4_lawful 53 = .ok (.iinc 2 1, 3) := by decide +kernel
theorem dX4_lawful_56 : decode cX4_lawful 56 = .ok (.goto (-22), 3) := by decide +kernel
theorem dX4_lawful_59 : decode cX4_lawful 59 = .ok (.aload_n 0, 1) := by decide +kernel
theorem dX4_lawful_60 : decode cX4_lawful 60 = .ok (.iload_n 1, 1) := by decide +kernel
theorem dX4_lawful_61 : decode cX4_lawful 61 = .ok (.invokevirtual 93, 3) := by decide +kernel
theorem dX4_lawful_64 : decode cX4_lawful 64 = .ok (.ifCond .ne 7, 3) := by decide +kernel
theorem dX4_lawful_67 : decode cX4_lawful 67 = .ok (.iload_n 2, 1) := by decide +kernel
theorem dX4_lawful_68 : decode cX4_lawful 68 = .ok (.goto 5, 3) := by decide +kernel
theorem dX4_lawful_71 : decode cX4_lawful 71 = .ok (.ldc 179, 2) := by decide +kernel
theorem dX4_lawful_73 : decode cX4_lawful 73 = .ok (.istore_n 3, 1) := by decide +kernel
theorem dX4_lawful_74 : decode cX4_lawful 74 = .ok (.aload_n 0, 1) := by decide +kernel
theorem dX4_lawful_75 : decode cX4_lawful 75 = .ok (.getfield 16, 3) := by decide +kernel
theorem dX4_lawful_78 : decode cX4_lawful 78 = .ok (.aload_n 0, 1) := by decide +kernel
theorem dX4_lawful_79 : decode cX4_lawful 79 = .ok (.getfield 7, 3) := by decide +kernel
theorem dX4_lawful_82 : decode cX4_lawful 82 = .ok (.invokestatic 135, 3) := by decide +kernel
theorem dX4_lawful_85 : decode cX4_lawful 85 = .ok (.iload_n 3, 1) := by decide +kernel
theorem dX4_lawful_86 : decode cX4_lawful 86 = .ok (.ireturn, 1) := by decide +kernel
theorem dX4_fine_0 : decode cX4_fine 0 = .ok (.aload_n 0, 1) := by decide +kernel
theorem dX4_fine_1 : decode cX4_fine 1 = .ok (.iload_n 1, 1) := by decide +kernel
theorem dX4_fine_2 : decode cX4_fine 2 = .ok (.invokevirtual 99, 3) := by decide +kernel
theorem dX4_fine_5 : decode cX4_fine 5 = .ok (.ifCond .eq 14, 3) := by decide +kernel
theorem dX4_fine_8 : decode cX4_fine 8 = .ok (.lload_n 2, 1) := by decide +kernel
theorem dX4_fine_9 : decode cX4_fine 9 = .ok (.lconst 1, 1) := by decide +kernel
theorem dX4_fine_10 : decode cX4_fine 10 = .ok (.ldc2_w 185, 3) := by decide +kernel
theorem dX4_fine_13 : decode cX4_fine 13 = .ok (.invokestatic 40, 3) := by decide +kernel
theorem dX4_fine_16 : decode cX4_fine 16 = .ok (.ifCond .ne 7, 3) := by decide +kernel
theorem dX4_fine_19 : decode cX4_fine 19 = .ok (.ldc2_w 187, 3) := by decide +kernel
theorem dX4_fine_22 : decode cX4_fine 22 = .ok (.lreturn, 1) := by decide +kernel
theorem dX4_fine_23 : decode cX4_fine 23 = .ok (.aload_n 0, 1) := by decide +kernel
theorem dX4_fine_24 : decode cX4_fine 24 = .ok (.iload_n 1, 1) := by decide +kernel
theorem dX4_fine_25 : decode cX4_fine 25 = .ok (.bipush 11, 2) := by decide +kernel
theorem dX4_fine_27 : decode cX4_fine 27 = .ok (.invokevirtual 46, 3) := by decide +kernel
theorem dX4_fine_30 : decode cX4_fine 30 = .ok (.i2l, 1) := by decide +kernel
theorem dX4_fine_31 : decode cX4_fine 31 = .ok (.lstore 4, 2) := by decide +kernel
theorem dX4_fine_33 : decode cX4_fine 33 = .ok (.lload 4, 2) := by decide +kernel
theorem dX4_fine_35 : decode cX4_fine 35 = .ok (.lload 4, 2) := by decide +kernel
theorem dX4_fine_37 : decode cX4_fine 37 = .ok (.lmul, 1) := by decide +kernel
theorem dX4_fine_38 : decode cX4_fine 38 = .ok (.lstore 6, 2) := by decide +kernel
theorem dX4_fine_40 : decode cX4_fine 40 = .ok (.lload 6, 2) := by decide +kernel
theorem dX4_fine_42 : decode cX4_fine 42 = .ok (.lconst 0, 1) := by decide +kernel
theorem dX4_fine_43 : decode cX4_fine 43 = .ok (.lcmp, 1) := by decide +kernel
theorem dX4_fine_44 : decode cX4_fine 44 = .ok (.ifCond .le 20, 3) := by decide +kernel
theorem dX4_fine_47 : decode cX4_fine 47 = .ok (.lload_n 2, 1) := by decide +kernel
theorem dX4_fine_48 : decode cX4_fine 48 = .ok (.ldc2_w 189, 3) := by decide +kernel
theorem dX4_fine_51 : decode cX4_fine 51 = .ok (.lload 6, 2) := by decide +kernel
theorem dX4_fine_53 : decode cX4_fine 53 = .ok (.ldiv, 1) := by decide +kernel
theorem dX4_fine_54 : decode cX4_fine 54 = .ok (.lcmp, 1) := by decide +kernel
theorem dX4_fine_55 : decode cX4_fine 55 = .ok (.ifCond .le 9, 3) := by decide +kernel
theorem dX4_fine_58 : decode cX4_fine 58 = .ok (.ldc2_w 191, 3) := by decide +kernel
theorem dX4_fine_61 : decode cX4_fine 61 = .ok (.goto 7, 3) := by decide +kernel
theorem dX4_fine_64 : decode cX4_fine 64 = .ok (.lload_n 2, 1) := by decide +kernel
theorem dX4_fine_65 : decode cX4_fine 65 = .ok (.lload 6, 2) := by decide +kernel
theorem dX4_fine_67 : decode cX4_fine 67 = .ok (.lmul, 1) := by decide +kernel
theorem dX4_fine_68 : decode cX4_fine 68 = .ok (.lreturn, 1) := by decide +kernel
theorem dX4_shareBits_0 : decode cX4_shareBits 0 = .ok (.iload_n 0, 1) := by decide +kernel
theorem dX4_shareBits_1 : decode cX4_shareBits 1 = .ok (.i2l, 1) := by decide +kernel
theorem dX4_shareBits_2 : decode cX4_shareBits 2 = .ok (.lstore_n 2, 1) := by decide +kernel
theorem dX4_shareBits_3 : decode cX4_shareBits 3 = .ok (.iload_n 1, 1) := by decide +kernel
theorem dX4_shareBits_4 : decode cX4_shareBits 4 = .ok (.i2l, 1) := by decide +kernel
theorem dX4_shareBits_5 : decode cX4_shareBits 5 = .ok (.lstore 4, 2) := by decide +kernel
theorem dX4_shareBits_7 : decode cX4_shareBits 7 = .ok (.bipush 127, 2) := by decide +kernel
theorem dX4_shareBits_9 : decode cX4_shareBits 9 = .ok (.istore 6, 2) := by decide +kernel
theorem dX4_shareBits_11 : decode cX4_shareBits 11 = .ok (.lload_n 2, 1) := by decide +kernel
theorem dX4_shareBits_12 : decode cX4_shareBits 12 = .ok (.ldc2_w 76, 3) := by decide +kernel
theorem dX4_shareBits_15 : decode cX4_shareBits 15 = .ok (.lload 4, 2) := by decide +kernel
theorem dX4_shareBits_17 : decode cX4_shareBits 17 = .ok (.lmul, 1) := by decide +kernel
theorem dX4_shareBits_18 : decode cX4_shareBits 18 = .ok (.lcmp, 1) := by decide +kernel
theorem dX4_shareBits_19 : decode cX4_shareBits 19 = .ok (.ifCond .lt 17, 3) := by decide +kernel
theorem dX4_shareBits_22 : decode cX4_shareBits 22 = .ok (.lload 4, 2) := by decide +kernel
theorem dX4_shareBits_24 : decode cX4_shareBits 24 = .ok (.ldc2_w 76, 3) := by decide +kernel
theorem dX4_shareBits_27 : decode cX4_shareBits 27 = .ok (.lmul, 1) := by decide +kernel
theorem dX4_shareBits_28 : decode cX4_shareBits 28 = .ok (.lstore 4, 2) := by decide +kernel
theorem dX4_shareBits_30 : decode cX4_shareBits 30 = .ok (.iinc 6 1, 3) := by decide +kernel
theorem dX4_shareBits_33 : decode cX4_shareBits 33 = .ok (.goto (-22), 3) := by decide +kernel
theorem dX4_shareBits_36 : decode cX4_shareBits 36 = .ok (.lload_n 2, 1) := by decide +kernel
theorem dX4_shareBits_37 : decode cX4_shareBits 37 = .ok (.lload 4, 2) := by decide +kernel
theorem dX4_shareBits_39 : decode cX4_shareBits 39 = .ok (.lcmp, 1) := by decide +kernel
theorem dX4_shareBits_40 : decode cX4_shareBits 40 = .ok (.ifCond .ge 15, 3) := by decide +kernel
theorem dX4_shareBits_43 : decode cX4_shareBits 43 = .ok (.lload_n 2, 1) := by decide +kernel
theorem dX4_shareBits_44 : decode cX4_shareBits 44 = .ok (.ldc2_w 76, 3) := by decide +kernel
theorem dX4_shareBits_47 : decode cX4_shareBits 47 = .ok (.lmul, 1) := by decide +kernel
theorem dX4_shareBits_48 : decode cX4_shareBits 48 = .ok (.lstore_n 2, 1) := by decide +kernel
theorem dX4_shareBits_49 : decode cX4_shareBits 49 = .ok (.iinc 6 (-1), 3) := by decide +kernel
theorem dX4_shareBits_52 : decode cX4_shareBits 52 = .ok (.goto (-16), 3) := by decide +kernel
theorem dX4_shareBits_55 : decode cX4_shareBits 55 = .ok (.lload_n 2, 1) := by decide +kernel
theorem dX4_shareBits_56 : decode cX4_shareBits 56 = .ok (.ldc2_w 193, 3) := by decide +kernel
theorem dX4_shareBits_59 : decode cX4_shareBits 59 = .ok (.lmul, 1) := by decide +kernel
theorem dX4_shareBits_60 : decode cX4_shareBits 60 = .ok (.lload 4, 2) := by decide +kernel
theorem dX4_shareBits_62 : decode cX4_shareBits 62 = .ok (.ldiv, 1) := by decide +kernel
theorem dX4_shareBits_63 : decode cX4_shareBits 63 = .ok (.lstore 7, 2) := by decide +kernel
theorem dX4_shareBits_65 : decode cX4_shareBits 65 = .ok (.lload_n 2, 1) := by decide +kernel
theorem dX4_shareBits_66 : decode cX4_shareBits 66 = .ok (.ldc2_w 193, 3) := by decide +kernel
theorem dX4_shareBits_69 : decode cX4_shareBits 69 = .ok (.lmul, 1) := by decide +kernel
theorem dX4_shareBits_70 : decode cX4_shareBits 70 = .ok (.lload 4, 2) := by decide +kernel
theorem dX4_shareBits_72 : decode cX4_shareBits 72 = .ok (.lrem, 1) := by decide +kernel
theorem dX4_shareBits_73 : decode cX4_shareBits 73 = .ok (.lstore 9, 2) := by decide +kernel
theorem dX4_shareBits_75 : decode cX4_shareBits 75 = .ok (.ldc2_w 76, 3) := by decide +kernel
theorem dX4_shareBits_78 : decode cX4_shareBits 78 = .ok (.lload 9, 2) := by decide +kernel
theorem dX4_shareBits_80 : decode cX4_shareBits 80 = .ok (.lmul, 1) := by decide +kernel
theorem dX4_shareBits_81 : decode cX4_shareBits 81 = .ok (.lload 4, 2) := by decide +kernel
theorem dX4_shareBits_83 : decode cX4_shareBits 83 = .ok (.lcmp, 1) := by decide +kernel
theorem dX4_shareBits_84 : decode cX4_shareBits 84 = .ok (.ifCond .gt 26, 3) := by decide +kernel
theorem dX4_shareBits_87 : decode cX4_shareBits 87 = .ok (.ldc2_w 76, 3) := by decide +kernel
theorem dX4_shareBits_90 : decode cX4_shareBits 90 = .ok (.lload 9, 2) := by decide +kernel
theorem dX4_shareBits_92 : decode cX4_shareBits 92 = .ok (.lmul, 1) := by decide +kernel
theorem dX4_shareBits_93 : decode cX4_shareBits 93 = .ok (.lload 4, 2) := by decide +kernel
theorem dX4_shareBits_95 : decode cX4_shareBits 95 = .ok (.lcmp, 1) := by decide +kernel
theorem dX4_shareBits_96 : decode cX4_shareBits 96 = .ok (.ifCond .ne 18, 3) := by decide +kernel
theorem dX4_shareBits_99 : decode cX4_shareBits 99 = .ok (.lload 7, 2) := by decide +kernel
theorem dX4_shareBits_101 : decode cX4_shareBits 101 = .ok (.ldc2_w 76, 3) := by decide +kernel
theorem dX4_shareBits_104 : decode cX4_shareBits 104 = .ok (.lrem, 1) := by decide +kernel
theorem dX4_shareBits_105 : decode cX4_shareBits 105 = .ok (.lconst 1, 1) := by decide +kernel
theorem dX4_shareBits_106 : decode cX4_shareBits 106 = .ok (.lcmp, 1) := by decide +kernel
theorem dX4_shareBits_107 : decode cX4_shareBits 107 = .ok (.ifCond .ne 7, 3) := by decide +kernel
theorem dX4_shareBits_110 : decode cX4_shareBits 110 = .ok (.iconst 1, 1) := by decide +kernel
theorem dX4_shareBits_111 : decode cX4_shareBits 111 = .ok (.goto 4, 3) := by decide +kernel
theorem dX4_shareBits_114 : decode cX4_shareBits 114 = .ok (.iconst 0, 1) := by decide +kernel
theorem dX4_shareBits_115 : decode cX4_shareBits 115 = .ok (.istore 11, 2) := by decide +kernel
theorem dX4_shareBits_117 : decode cX4_shareBits 117 = .ok (.lload 7, 2) := by decide +kernel
theorem dX4_shareBits_119 : decode cX4_shareBits 119 = .ok (.iload 11, 2) := by decide +kernel
theorem dX4_shareBits_121 : decode cX4_shareBits 121 = .ok (.ifCond .eq 7, 3) := by decide +kernel
theorem dX4_shareBits_124 : decode cX4_shareBits 124 = .ok (.lconst 1, 1) := by decide +kernel
theorem dX4_shareBits_125 : decode cX4_shareBits 125 = .ok (.goto 4, 3) := by decide +kernel
theorem dX4_shareBits_128 : decode cX4_shareBits 128 = .ok (.lconst 0, 1) := by decide +kernel
theorem dX4_shareBits_129 : decode cX4_shareBits 129 = .ok (.ladd, 1) := by decide +kernel
theorem dX4_shareBits_130 : decode cX4_shareBits 130 = .ok (.lstore 7, 2) := by decide +kernel
theorem dX4_shareBits_132 : decode cX4_shareBits 132 = .ok (.lload 7, 2) := by decide +kernel
theorem dX4_shareBits_134 : decode cX4_shareBits 134 = .ok (.ldc2_w 195, 3) := by decide +kernel
theorem dX4_shareBits_137 : decode cX4_shareBits 137 = .ok (.lcmp, 1) := by decide +kernel
theorem dX4_shareBits_138 : decode cX4_shareBits 138 = .ok (.ifCond .ne 11, 3) := by decide +kernel
theorem dX4_shareBits_141 : decode cX4_shareBits 141 = .ok (.ldc2_w 193, 3) := by decide +kernel
theorem dX4_shareBits_144 : decode cX4_shareBits 144 = .ok (.lstore 7, 2) := by decide +kernel
theorem dX4_shareBits_146 : decode cX4_shareBits 146 = .ok (.iinc 6 1, 3) := by decide +kernel
theorem dX4_shareBits_149 : decode cX4_shareBits 149 = .ok (.iload 6, 2) := by decide +kernel
theorem dX4_shareBits_151 : decode cX4_shareBits 151 = .ok (.i2l, 1) := by decide +kernel
theorem dX4_shareBits_152 : decode cX4_shareBits 152 = .ok (.ldc2_w 193, 3) := by decide +kernel
theorem dX4_shareBits_155 : decode cX4_shareBits 155 = .ok (.lmul, 1) := by decide +kernel
theorem dX4_shareBits_156 : decode cX4_shareBits 156 = .ok (.lload 7, 2) := by decide +kernel
theorem dX4_shareBits_158 : decode cX4_shareBits 158 = .ok (.ladd, 1) := by decide +kernel
theorem dX4_shareBits_159 : decode cX4_shareBits 159 = .ok (.ldc2_w 193, 3) := by decide +kernel
theorem dX4_shareBits_162 : decode cX4_shareBits 162 = .ok (.lsub, 1) := by decide +kernel
theorem dX4_shareBits_163 : decode cX4_shareBits 163 = .ok (.l2i, 1) := by decide +kernel
theorem dX4_shareBits_164 : decode cX4_shareBits 164 = .ok (.ireturn, 1) := by decide +kernel
theorem dX4_share_0 : decode cX4_share 0 = .ok (.aload_n 0, 1) := by decide +kernel
theorem dX4_share_1 : decode cX4_share 1 = .ok (.getfield 7, 3) := by decide +kernel
theorem dX4_share_4 : decode cX4_share 4 = .ok (.iconst 1, 1) := by decide +kernel
theorem dX4_share_5 : decode cX4_share 5 = .ok (.iaload, 1) := by decide +kernel
theorem dX4_share_6 : decode cX4_share 6 = .ok (.ifCond .ne 6, 3) := by decide +kernel
theorem dX4_share_9 : decode cX4_share 9 = .ok (.ldc 179, 2) := by decide +kernel
theorem dX4_share_11 : decode cX4_share 11 = .ok (.ireturn, 1) := by decide +kernel
theorem dX4_share_12 : decode cX4_share 12 = .ok (.aload_n 0, 1) := by decide +kernel
theorem dX4_share_13 : decode cX4_share 13 = .ok (.iconst 2, 1) := by decide +kernel
theorem dX4_share_14 : decode cX4_share 14 = .ok (.invokevirtual 182, 3) := by decide +kernel
theorem dX4_share_17 : decode cX4_share 17 = .ok (.invokestatic 106, 3) := by decide +kernel
theorem dX4_share_20 : decode cX4_share 20 = .ok (.istore_n 1, 1) := by decide +kernel
theorem dX4_share_21 : decode cX4_share 21 = .ok (.iload_n 1, 1) := by decide +kernel
theorem dX4_share_22 : decode cX4_share 22 = .ok (.ifCond .ne 7, 3) := by decide +kernel
theorem dX4_share_25 : decode cX4_share 25 = .ok (.iconst 0, 1) := by decide +kernel
theorem dX4_share_26 : decode cX4_share 26 = .ok (.goto 13, 3) := by decide +kernel
theorem dX4_share_29 : decode cX4_share 29 = .ok (.iload_n 1, 1) := by decide +kernel
theorem dX4_share_30 : decode cX4_share 30 = .ok (.aload_n 0, 1) := by decide +kernel
theorem dX4_share_31 : decode cX4_share 31 = .ok (.getfield 7, 3) := by decide +kernel
theorem dX4_share_34 : decode cX4_share 34 = .ok (.iconst 1, 1) := by decide +kernel
theorem dX4_share_35 : decode cX4_share 35 = .ok (.iaload, 1) := by decide +kernel
theorem dX4_share_36 : decode cX4_share 36 = .ok (.invokestatic 197, 3) := by decide +kernel
theorem dX4_share_39 : decode cX4_share 39 = .ok (.ireturn, 1) := by decide +kernel
theorem dX4_partsOf_0 : decode cX4_partsOf 0 = .ok (.iconst 0, 1) := by decide +kernel
theorem dX4_partsOf_1 : decode cX4_partsOf 1 = .ok (.istore_n 2, 1) := by decide +kernel
theorem dX4_partsOf_2 : decode cX4_partsOf 2 = .ok (.iconst 0, 1) := by decide +kernel
theorem dX4_partsOf_3 : decode cX4_partsOf 3 = .ok (.istore_n 3, 1) := by decide +kernel
theorem dX4_partsOf_4 : decode cX4_partsOf 4 = .ok (.iload_n 3, 1) := by decide +kernel
theorem dX4_partsOf_5 : decode cX4_partsOf 5 = .ok (.aload_n 0, 1) := by decide +kernel
theorem dX4_partsOf_6 : decode cX4_partsOf 6 = .ok (.getfield 7, 3) := by decide +kernel
theorem dX4_partsOf_9 : decode cX4_partsOf 9 = .ok (.iconst 1, 1) := by decide +kernel
theorem dX4_partsOf_10 : decode cX4_partsOf 10 = .ok (.iaload, 1) := by decide +kernel
theorem dX4_partsOf_11 : decode cX4_partsOf 11 = .ok (.if_icmp .ge 34, 3) := by decide +kernel
theorem dX4_partsOf_14 : decode cX4_partsOf 14 = .ok (.iload_n 2, 1) := by decide +kernel
theorem dX4_partsOf_15 : decode cX4_partsOf 15 = .ok (.iload_n 1, 1) := by decide +kernel
theorem dX4_partsOf_16 : decode cX4_partsOf 16 = .ok (.ifCond .eq 15, 3) := by decide +kernel
theorem dX4_partsOf_19 : decode cX4_partsOf 19 = .ok (.aload_n 0, 1) := by decide +kernel
theorem dX4_partsOf_20 : decode cX4_partsOf 20 = .ok (.iload_n 3, 1) := by decide +kernel
theorem dX4_partsOf_21 : decode cX4_partsOf 21 = .ok (.iconst 4, 1) := by decide +kernel
theorem dX4_partsOf_22 : decode cX4_partsOf 22 = .ok (.invokevirtual 46, 3) := by decide +kernel
theorem dX4_partsOf_25 : decode cX4_partsOf 25 = .ok (.invokestatic 106, 3) := by decide +kernel
theorem dX4_partsOf_28 : decode cX4_partsOf 28 = .ok (.goto 9, 3) := by decide +kernel
theorem dX4_partsOf_31 : decode cX4_partsOf 31 = .ok (.aload_n 0, 1) := by decide +kernel
theorem dX4_partsOf_32 : decode cX4_partsOf 32 = .ok (.iload_n 3, 1) := by decide +kernel
theorem dX4_partsOf_33 : decode cX4_partsOf 33 = .ok (.iconst 3, 1) := by decide +kernel
theorem dX4_partsOf_34 : decode cX4_partsOf 34 = .ok (.invokevirtual 46, 3) := by decide +kernel
theorem dX4_partsOf_37 : decode cX4_partsOf 37 = .ok (.iadd, 1) := by decide +kernel
theorem dX4_partsOf_38 : decode cX4_partsOf 38 = .ok (.istore_n 2, 1) := by decide +kernel
theorem dX4_partsOf_39 : decode cX4_partsOf 39 = .ok (.iinc 3 1, 3) := by decide +kernel
theorem dX4_partsOf_42 : decode cX4_partsOf 42 = .ok (.goto (-38), 3) := by decide +kernel
theorem dX4_partsOf_45 : decode cX4_partsOf 45 = .ok (.iload_n 2, 1) := by decide +kernel
theorem dX4_partsOf_46 : decode cX4_partsOf 46 = .ok (.ireturn, 1) := by decide +kernel
theorem dX4_count_0 : decode cX4_count 0 = .ok (.iload_n 1, 1) := by decide +kernel
theorem dX4_count_1 : decode cX4_count 1 = .ok (.tableswitch 167 0 21 #[103, 110, 117, 123, 129, 136, 143, 148, 167, 167, 167, 167, 167, 167, 167, 167, 167, 167, 167, 167, 153, 160], 103) := by decide +kernel
theorem dX4_count_104 : decode cX4_count 104 = .ok (.aload_n 0, 1) := by decide +kernel
theorem dX4_count_105 : decode cX4_count 105 = .ok (.getfield 7, 3) := by decide +kernel
theorem dX4_count_108 : decode cX4_count 108 = .ok (.iconst 1, 1) := by decide +kernel
theorem dX4_count_109 : decode cX4_count 109 = .ok (.iaload, 1) := by decide +kernel
theorem dX4_count_110 : decode cX4_count 110 = .ok (.ireturn, 1) := by decide +kernel
theorem dX4_count_111 : decode cX4_count 111 = .ok (.aload_n 0, 1) := by decide +kernel
theorem dX4_count_112 : decode cX4_count 112 = .ok (.getfield 7, 3) := by decide +kernel
theorem dX4_count_115 : decode cX4_count 115 = .ok (.iconst 0, 1) := by decide +kernel
theorem dX4_count_116 : decode cX4_count 116 = .ok (.iaload, 1) := by decide +kernel
theorem dX4_count_117 : decode cX4_count 117 = .ok (.ireturn, 1) := by decide +kernel
theorem dX4_count_118 : decode cX4_count 118 = .ok (.aload_n 0, 1) := by decide +kernel
end
section
-- decode rows out of the printed list of the task
theorem dX4_count_119 : decode cX4_count 119 = .ok (.iconst 0, 1) := by decide +kernel
theorem dX4_count_120 : decode cX4_count 120 = .ok (.invokevirtual 200, 3) := by decide +kernel
theorem dX4_count_123 : decode cX4_count 123 = .ok (.ireturn, 1) := by decide +kernel
theorem dX4_count_124 : decode cX4_count 124 = .ok (.aload_n 0, 1) := by decide +kernel
theorem dX4_count_125 : decode cX4_count 125 = .ok (.iconst 1, 1) := by decide +kernel
theorem dX4_count_126 : decode cX4_count 126 = .ok (.invokevirtual 200, 3) := by decide +kernel
theorem dX4_count_129 : decode cX4_count 129 = .ok (.ireturn, 1) := by decide +kernel
theorem dX4_count_130 : decode cX4_count 130 = .ok (.aload_n 0, 1) := by decide +kernel
theorem dX4_count_131 : decode cX4_count 131 = .ok (.getfield 7, 3) := by decide +kernel
theorem dX4_count_134 : decode cX4_count 134 = .ok (.iconst 4, 1) := by decide +kernel
theorem dX4_count_135 : decode cX4_count 135 = .ok (.iaload, 1) := by decide +kernel
theorem dX4_count_136 : decode cX4_count 136 = .ok (.ireturn, 1) := by decide +kernel
theorem dX4_count_137 : decode cX4_count 137 = .ok (.aload_n 0, 1) := by decide +kernel
theorem dX4_count_138 : decode cX4_count 138 = .ok (.getfield 7, 3) := by decide +kernel
theorem dX4_count_141 : decode cX4_count 141 = .ok (.iconst 5, 1) := by decide +kernel
theorem dX4_count_142 : decode cX4_count 142 = .ok (.iaload, 1) := by decide +kernel
theorem dX4_count_143 : decode cX4_count 143 = .ok (.ireturn, 1) := by decide +kernel
theorem dX4_count_144 : decode cX4_count 144 = .ok (.aload_n 0, 1) := by decide +kernel
theorem dX4_count_145 : decode cX4_count 145 = .ok (.getfield 29, 3) := by decide +kernel
theorem dX4_count_148 : decode cX4_count 148 = .ok (.ireturn, 1) := by decide +kernel
theorem dX4_count_149 : decode cX4_count 149 = .ok (.aload_n 0, 1) := by decide +kernel
theorem dX4_count_150 : decode cX4_count 150 = .ok (.getfield 204, 3) := by decide +kernel
theorem dX4_count_153 : decode cX4_count 153 = .ok (.ireturn, 1) := by decide +kernel
theorem dX4_count_154 : decode cX4_count 154 = .ok (.aload_n 0, 1) := by decide +kernel
theorem dX4_count_155 : decode cX4_count 155 = .ok (.getfield 7, 3) := by decide +kernel
theorem dX4_count_158 : decode cX4_count 158 = .ok (.iconst 2, 1) := by decide +kernel
theorem dX4_count_159 : decode cX4_count 159 = .ok (.iaload, 1) := by decide +kernel
theorem dX4_count_160 : decode cX4_count 160 = .ok (.ireturn, 1) := by decide +kernel
theorem dX4_count_161 : decode cX4_count 161 = .ok (.aload_n 0, 1) := by decide +kernel
theorem dX4_count_162 : decode cX4_count 162 = .ok (.getfield 7, 3) := by decide +kernel
theorem dX4_count_165 : decode cX4_count 165 = .ok (.iconst 3, 1) := by decide +kernel
theorem dX4_count_166 : decode cX4_count 166 = .ok (.iaload, 1) := by decide +kernel
theorem dX4_count_167 : decode cX4_count 167 = .ok (.ireturn, 1) := by decide +kernel
theorem dX4_count_168 : decode cX4_count 168 = .ok (.ldc 87, 2) := by decide +kernel
theorem dX4_count_170 : decode cX4_count 170 = .ok (.ireturn, 1) := by decide +kernel
theorem dX4_undo_0 : decode cX4_undo 0 = .ok (.aload_n 0, 1) := by decide +kernel
theorem dX4_undo_1 : decode cX4_undo 1 = .ok (.getfield 29, 3) := by decide +kernel
theorem dX4_undo_4 : decode cX4_undo 4 = .ok (.ifCond .ne 6, 3) := by decide +kernel
theorem dX4_undo_7 : decode cX4_undo 7 = .ok (.ldc 88, 2) := by decide +kernel
theorem dX4_undo_9 : decode cX4_undo 9 = .ok (.ireturn, 1) := by decide +kernel
theorem dX4_undo_10 : decode cX4_undo 10 = .ok (.aload_n 0, 1) := by decide +kernel
theorem dX4_undo_11 : decode cX4_undo 11 = .ok (.dup, 1) := by decide +kernel
theorem dX4_undo_12 : decode cX4_undo 12 = .ok (.getfield 29, 3) := by decide +kernel
theorem dX4_undo_15 : decode cX4_undo 15 = .ok (.iconst 1, 1) := by decide +kernel
theorem dX4_undo_16 : decode cX4_undo 16 = .ok (.isub, 1) := by decide +kernel
theorem dX4_undo_17 : decode cX4_undo 17 = .ok (.putfield 29, 3) := by decide +kernel
theorem dX4_undo_20 : decode cX4_undo 20 = .ok (.iconst 0, 1) := by decide +kernel
theorem dX4_undo_21 : decode cX4_undo 21 = .ok (.istore_n 1, 1) := by decide +kernel
theorem dX4_undo_22 : decode cX4_undo 22 = .ok (.iload_n 1, 1) := by decide +kernel
theorem dX4_undo_23 : decode cX4_undo 23 = .ok (.sipush 146, 3) := by decide +kernel
theorem dX4_undo_26 : decode cX4_undo 26 = .ok (.if_icmp .ge 30, 3) := by decide +kernel
theorem dX4_undo_29 : decode cX4_undo 29 = .ok (.aload_n 0, 1) := by decide +kernel
theorem dX4_undo_30 : decode cX4_undo 30 = .ok (.getfield 7, 3) := by decide +kernel
theorem dX4_undo_33 : decode cX4_undo 33 = .ok (.iload_n 1, 1) := by decide +kernel
theorem dX4_undo_34 : decode cX4_undo 34 = .ok (.aload_n 0, 1) := by decide +kernel
theorem dX4_undo_35 : decode cX4_undo 35 = .ok (.getfield 19, 3) := by decide +kernel
theorem dX4_undo_38 : decode cX4_undo 38 = .ok (.sipush 146, 3) := by decide +kernel
theorem dX4_undo_41 : decode cX4_undo 41 = .ok (.aload_n 0, 1) := by decide +kernel
theorem dX4_undo_42 : decode cX4_undo 42 = .ok (.getfield 29, 3) := by decide +kernel
theorem dX4_undo_45 : decode cX4_undo 45 = .ok (.imul, 1) := by decide +kernel
theorem dX4_undo_46 : decode cX4_undo 46 = .ok (.iload_n 1, 1) := by decide +kernel
theorem dX4_undo_47 : decode cX4_undo 47 = .ok (.iadd, 1) := by decide +kernel
theorem dX4_undo_48 : decode cX4_undo 48 = .ok (.iaload, 1) := by decide +kernel
theorem dX4_undo_49 : decode cX4_undo 49 = .ok (.iastore, 1) := by decide +kernel
theorem dX4_undo_50 : decode cX4_undo 50 = .ok (.iinc 1 1, 3) := by decide +kernel
theorem dX4_undo_53 : decode cX4_undo 53 = .ok (.goto (-31), 3) := by decide +kernel
theorem dX4_undo_56 : decode cX4_undo 56 = .ok (.aload_n 0, 1) := by decide +kernel
theorem dX4_undo_57 : decode cX4_undo 57 = .ok (.getfield 29, 3) := by decide +kernel
theorem dX4_undo_60 : decode cX4_undo 60 = .ok (.ireturn, 1) := by decide +kernel
theorem dX4_type_0 : decode cX4_type 0 = .ok (.iload_n 1, 1) := by decide +kernel
theorem dX4_type_1 : decode cX4_type 1 = .ok (.i2l, 1) := by decide +kernel
theorem dX4_type_2 : decode cX4_type 2 = .ok (.ldc2_w 207, 3) := by decide +kernel
theorem dX4_type_5 : decode cX4_type 5 = .ok (.ldc2_w 209, 3) := by decide +kernel
theorem dX4_type_8 : decode cX4_type 8 = .ok (.invokestatic 40, 3) := by decide +kernel
theorem dX4_type_11 : decode cX4_type 11 = .ok (.ifCond .ne 6, 3) := by decide +kernel
theorem dX4_type_14 : decode cX4_type 14 = .ok (.ldc 87, 2) := by decide +kernel
theorem dX4_type_16 : decode cX4_type 16 = .ok (.ireturn, 1) := by decide +kernel
theorem dX4_type_17 : decode cX4_type 17 = .ok (.aload_n 0, 1) := by decide +kernel
theorem dX4_type_18 : decode cX4_type 18 = .ok (.getfield 204, 3) := by decide +kernel
theorem dX4_type_21 : decode cX4_type 21 = .ok (.bipush 80, 2) := by decide +kernel
theorem dX4_type_23 : decode cX4_type 23 = .ok (.if_icmp .ne 6, 3) := by decide +kernel
theorem dX4_type_26 : decode cX4_type 26 = .ok (.ldc 89, 2) := by decide +kernel
theorem dX4_type_28 : decode cX4_type 28 = .ok (.ireturn, 1) := by decide +kernel
theorem dX4_type_29 : decode cX4_type 29 = .ok (.aload_n 0, 1) := by decide +kernel
theorem dX4_type_30 : decode cX4_type 30 = .ok (.getfield 22, 3) := by decide +kernel
theorem dX4_type_33 : decode cX4_type 33 = .ok (.aload_n 0, 1) := by decide +kernel
theorem dX4_type_34 : decode cX4_type 34 = .ok (.getfield 204, 3) := by decide +kernel
theorem dX4_type_37 : decode cX4_type 37 = .ok (.iload_n 1, 1) := by decide +kernel
theorem dX4_type_38 : decode cX4_type 38 = .ok (.iastore, 1) := by decide +kernel
theorem dX4_type_39 : decode cX4_type 39 = .ok (.aload_n 0, 1) := by decide +kernel
theorem dX4_type_40 : decode cX4_type 40 = .ok (.dup, 1) := by decide +kernel
theorem dX4_type_41 : decode cX4_type 41 = .ok (.getfield 204, 3) := by decide +kernel
theorem dX4_type_44 : decode cX4_type 44 = .ok (.iconst 1, 1) := by decide +kernel
theorem dX4_type_45 : decode cX4_type 45 = .ok (.iadd, 1) := by decide +kernel
theorem dX4_type_46 : decode cX4_type 46 = .ok (.putfield 204, 3) := by decide +kernel
theorem dX4_type_49 : decode cX4_type 49 = .ok (.aload_n 0, 1) := by decide +kernel
theorem dX4_type_50 : decode cX4_type 50 = .ok (.getfield 204, 3) := by decide +kernel
theorem dX4_type_53 : decode cX4_type 53 = .ok (.ireturn, 1) := by decide +kernel
theorem dX4_clearText_0 : decode cX4_clearText 0 = .ok (.aload_n 0, 1) := by decide +kernel
theorem dX4_clearText_1 : decode cX4_clearText 1 = .ok (.getfield 204, 3) := by decide +kernel
theorem dX4_clearText_4 : decode cX4_clearText 4 = .ok (.istore_n 1, 1) := by decide +kernel
theorem dX4_clearText_5 : decode cX4_clearText 5 = .ok (.aload_n 0, 1) := by decide +kernel
theorem dX4_clearText_6 : decode cX4_clearText 6 = .ok (.iconst 0, 1) := by decide +kernel
theorem dX4_clearText_7 : decode cX4_clearText 7 = .ok (.putfield 204, 3) := by decide +kernel
theorem dX4_clearText_10 : decode cX4_clearText 10 = .ok (.iload_n 1, 1) := by decide +kernel
theorem dX4_clearText_11 : decode cX4_clearText 11 = .ok (.ireturn, 1) := by decide +kernel
theorem dX4_numbersOf_0 : decode cX4_numbersOf 0 = .ok (.iload_n 0, 1) := by decide +kernel
theorem dX4_numbersOf_1 : decode cX4_numbersOf 1 = .ok (.tableswitch 85 97 112 #[81, 83, 79, 81, 85, 83, 85, 85, 85, 85, 85, 85, 85, 85, 85, 83], 79) := by decide +kernel
theorem dX4_numbersOf_80 : decode cX4_numbersOf 80 = .ok (.iconst 4, 1) := by decide +kernel
theorem dX4_numbersOf_81 : decode cX4_numbersOf 81 = .ok (.ireturn, 1) := by decide +kernel
theorem dX4_numbersOf_82 : decode cX4_numbersOf 82 = .ok (.iconst 2, 1) := by decide +kernel
theorem dX4_numbersOf_83 : decode cX4_numbersOf 83 = .ok (.ireturn, 1) := by decide +kernel
theorem dX4_numbersOf_84 : decode cX4_numbersOf 84 = .ok (.iconst 1, 1) := by decide +kernel
theorem dX4_numbersOf_85 : decode cX4_numbersOf 85 = .ok (.ireturn, 1) := by decide +kernel
theorem dX4_numbersOf_86 : decode cX4_numbersOf 86 = .ok (.iconst 0, 1) := by decide +kernel
theorem dX4_numbersOf_87 : decode cX4_numbersOf 87 = .ok (.ireturn, 1) := by decide +kernel
theorem dX4_takes_0 : decode cX4_takes 0 = .ok (.aload_n 0, 1) := by decide +kernel
theorem dX4_takes_1 : decode cX4_takes 1 = .ok (.getfield 211, 3) := by decide +kernel
theorem dX4_takes_4 : decode cX4_takes 4 = .ok (.aload_n 0, 1) := by decide +kernel
theorem dX4_takes_5 : decode cX4_takes 5 = .ok (.getfield 204, 3) := by decide +kernel
theorem dX4_takes_8 : decode cX4_takes 8 = .ok (.if_icmp .ge 20, 3) := by decide +kernel
theorem dX4_takes_11 : decode cX4_takes 11 = .ok (.aload_n 0, 1) := by decide +kernel
theorem dX4_takes_12 : decode cX4_takes 12 = .ok (.getfield 22, 3) := by decide +kernel
theorem dX4_takes_15 : decode cX4_takes 15 = .ok (.aload_n 0, 1) := by decide +kernel
theorem dX4_takes_16 : decode cX4_takes 16 = .ok (.getfield 211, 3) := by decide +kernel
theorem dX4_takes_19 : decode cX4_takes 19 = .ok (.iaload, 1) := by decide +kernel
theorem dX4_takes_20 : decode cX4_takes 20 = .ok (.iload_n 1, 1) := by decide +kernel
theorem dX4_takes_21 : decode cX4_takes 21 = .ok (.if_icmp .ne 7, 3) := by decide +kernel
theorem dX4_takes_24 : decode cX4_takes 24 = .ok (.iconst 1, 1) := by decide +kernel
theorem dX4_takes_25 : decode cX4_takes 25 = .ok (.goto 4, 3) := by decide +kernel
theorem dX4_takes_28 : decode cX4_takes 28 = .ok (.iconst 0, 1) := by decide +kernel
theorem dX4_takes_29 : decode cX4_takes 29 = .ok (.istore_n 2, 1) := by decide +kernel
theorem dX4_takes_30 : decode cX4_takes 30 = .ok (.aload_n 0, 1) := by decide +kernel
theorem dX4_takes_31 : decode cX4_takes 31 = .ok (.dup, 1) := by decide +kernel
theorem dX4_takes_32 : decode cX4_takes 32 = .ok (.getfield 211, 3) := by decide +kernel
theorem dX4_takes_35 : decode cX4_takes 35 = .ok (.iload_n 2, 1) := by decide +kernel
theorem dX4_takes_36 : decode cX4_takes 36 = .ok (.ifCond .eq 7, 3) := by decide +kernel
theorem dX4_takes_39 : decode cX4_takes 39 = .ok (.iconst 1, 1) := by decide +kernel
theorem dX4_takes_40 : decode cX4_takes 40 = .ok (.goto 4, 3) := by decide +kernel
theorem dX4_takes_43 : decode cX4_takes 43 = .ok (.iconst 0, 1) := by decide +kernel
theorem dX4_takes_44 : decode cX4_takes 44 = .ok (.iadd, 1) := by decide +kernel
theorem dX4_takes_45 : decode cX4_takes 45 = .ok (.putfield 211, 3) := by decide +kernel
theorem dX4_takes_48 : decode cX4_takes 48 = .ok (.iload_n 2, 1) := by decide +kernel
theorem dX4_takes_49 : decode cX4_takes 49 = .ok (.ireturn, 1) := by decide +kernel
theorem dX4_takesNumber_0 : decode cX4_takesNumber 0 = .ok (.aload_n 0, 1) := by decide +kernel
theorem dX4_takesNumber_1 : decode cX4_takesNumber 1 = .ok (.getfield 211, 3) := by decide +kernel
theorem dX4_takesNumber_4 : decode cX4_takesNumber 4 = .ok (.istore_n 2, 1) := by decide +kernel
theorem dX4_takesNumber_5 : decode cX4_takesNumber 5 = .ok (.aload_n 0, 1) := by decide +kernel
theorem dX4_takesNumber_6 : decode cX4_takesNumber 6 = .ok (.getfield 25, 3) := by decide +kernel
theorem dX4_takesNumber_9 : decode cX4_takesNumber 9 = .ok (.iload_n 1, 1) := by decide +kernel
theorem dX4_takesNumber_10 : decode cX4_takesNumber 10 = .ok (.iconst 0, 1) := by decide +kernel
theorem dX4_takesNumber_11 : decode cX4_takesNumber 11 = .ok (.iastore, 1) := by decide +kernel
theorem dX4_takesNumber_12 : decode cX4_takesNumber 12 = .ok (.aload_n 0, 1) := by decide +kernel
theorem dX4_takesNumber_13 : decode cX4_takesNumber 13 = .ok (.getfield 211, 3) := by decide +kernel
theorem dX4_takesNumber_16 : decode cX4_takesNumber 16 = .ok (.aload_n 0, 1) := by decide +kernel
theorem dX4_takesNumber_17 : decode cX4_takesNumber 17 = .ok (.getfield 204, 3) := by decide +kernel
theorem dX4_takesNumber_20 : decode cX4_takesNumber 20 = .ok (.if_icmp .ge 76, 3) := by decide +kernel
theorem dX4_takesNumber_23 : decode cX4_takesNumber 23 = .ok (.aload_n 0, 1) := by decide +kernel
theorem dX4_takesNumber_24 : decode cX4_takesNumber 24 = .ok (.getfield 211, 3) := by decide +kernel
theorem dX4_takesNumber_27 : decode cX4_takesNumber 27 = .ok (.iload_n 2, 1) := by decide +kernel
theorem dX4_takesNumber_28 : decode cX4_takesNumber 28 = .ok (.iconst 3, 1) := by decide +kernel
theorem dX4_takesNumber_29 : decode cX4_takesNumber 29 = .ok (.iadd, 1) := by decide +kernel
theorem dX4_takesNumber_30 : decode cX4_takesNumber 30 = .ok (.if_icmp .ge 66, 3) := by decide +kernel
theorem dX4_takesNumber_33 : decode cX4_takesNumber 33 = .ok (.aload_n 0, 1) := by decide +kernel
theorem dX4_takesNumber_34 : decode cX4_takesNumber 34 = .ok (.getfield 22, 3) := by decide +kernel
theorem dX4_takesNumber_37 : decode cX4_takesNumber 37 = .ok (.aload_n 0, 1) := by decide +kernel
theorem dX4_takesNumber_38 : decode cX4_takesNumber 38 = .ok (.getfield 211, 3) := by decide +kernel
theorem dX4_takesNumber_41 : decode cX4_takesNumber 41 = .ok (.iaload, 1) := by decide +kernel
theorem dX4_takesNumber_42 : decode cX4_takesNumber 42 = .ok (.i2l, 1) := by decide +kernel
theorem dX4_takesNumber_43 : decode cX4_takesNumber 43 = .ok (.ldc2_w 214, 3) := by decide +kernel
theorem dX4_takesNumber_46 : decode cX4_takesNumber 46 = .ok (.ldc2_w 216, 3) := by decide +kernel
theorem dX4_takesNumber_49 : decode cX4_takesNumber 49 = .ok (.invokestatic 40, 3) := by decide +kernel
theorem dX4_takesNumber_52 : decode cX4_takesNumber 52 = .ok (.ifCond .eq 44, 3) := by decide +kernel
theorem dX4_takesNumber_55 : decode cX4_takesNumber 55 = .ok (.aload_n 0, 1) := by decide +kernel
theorem dX4_takesNumber_56 : decode cX4_takesNumber 56 = .ok (.getfield 25, 3) := by decide +kernel
theorem dX4_takesNumber_59 : decode cX4_takesNumber 59 = .ok (.iload_n 1, 1) := by decide +kernel
theorem dX4_takesNumber_60 : decode cX4_takesNumber 60 = .ok (.bipush 10, 2) := by decide +kernel
theorem dX4_takesNumber_62 : decode cX4_takesNumber 62 = .ok (.aload_n 0, 1) := by decide +kernel
theorem dX4_takesNumber_63 : decode cX4_takesNumber 63 = .ok (.getfield 25, 3) := by decide +kernel
theorem dX4_takesNumber_66 : decode cX4_takesNumber 66 = .ok (.iload_n 1, 1) := by decide +kernel
theorem dX4_takesNumber_67 : decode cX4_takesNumber 67 = .ok (.iaload, 1) := by decide +kernel
theorem dX4_takesNumber_68 : decode cX4_takesNumber 68 = .ok (.imul, 1) := by decide +kernel
theorem dX4_takesNumber_69 : decode cX4_takesNumber 69 = .ok (.aload_n 0, 1) := by decide +kernel
theorem dX4_takesNumber_70 : decode cX4_takesNumber 70 = .ok (.getfield 22, 3) := by decide +kernel
theorem dX4_takesNumber_73 : decode cX4_takesNumber 73 = .ok (.aload_n 0, 1) := by decide +kernel
theorem dX4_takesNumber_74 : decode cX4_takesNumber 74 = .ok (.getfield 211, 3) := by decide +kernel
theorem dX4_takesNumber_77 : decode cX4_takesNumber 77 = .ok (.iaload, 1) := by decide +kernel
theorem dX4_takesNumber_78 : decode cX4_takesNumber 78 = .ok (.iadd, 1) := by decide +kernel
theorem dX4_takesNumber_79 : decode cX4_takesNumber 79 = .ok (.bipush 48, 2) := by decide +kernel
theorem dX4_takesNumber_81 : decode cX4_takesNumber 81 = .ok (.isub, 1) := by decide +kernel
theorem dX4_takesNumber_82 : decode cX4_takesNumber 82 = .ok (.iastore, 1) := by decide +kernel
theorem dX4_takesNumber_83 : decode cX4_takesNumber 83 = .ok (.aload_n 0, 1) := by decide +kernel
theorem dX4_takesNumber_84 : decode cX4_takesNumber 84 = .ok (.dup, 1) := by decide +kernel
theorem dX4_takesNumber_85 : decode cX4_takesNumber 85 = .ok (.getfield 211, 3) := by decide +kernel
theorem dX4_takesNumber_88 : decode cX4_takesNumber 88 = .ok (.iconst 1, 1) := by decide +kernel
theorem dX4_takesNumber_89 : decode cX4_takesNumber 89 = .ok (.iadd, 1) := by decide +kernel
theorem dX4_takesNumber_90 : decode cX4_takesNumber 90 = .ok (.putfield 211, 3) := by decide +kernel
theorem dX4_takesNumber_93 : decode cX4_takesNumber 93 = .ok (.goto (-81), 3) := by decide +kernel
theorem dX4_takesNumber_96 : decode cX4_takesNumber 96 = .ok (.aload_n 0, 1) := by decide +kernel
theorem dX4_takesNumber_97 : decode cX4_takesNumber 97 = .ok (.getfield 211, 3) := by decide +kernel
theorem dX4_takesNumber_100 : decode cX4_takesNumber 100 = .ok (.iload_n 2, 1) := by decide +kernel
theorem dX4_takesNumber_101 : decode cX4_takesNumber 101 = .ok (.if_icmp .le 7, 3) := by decide +kernel
theorem dX4_takesNumber_104 : decode cX4_takesNumber 104 = .ok (.iconst 1, 1) := by decide +kernel
theorem dX4_takesNumber_105 : decode cX4_takesNumber 105 = .ok (.goto 4, 3) := by decide +kernel
theorem dX4_takesNumber_108 : decode cX4_takesNumber 108 = .ok (.iconst 0, 1) := by decide +kernel
theorem dX4_takesNumber_109 : decode cX4_takesNumber 109 = .ok (.ireturn, 1) := by decide +kernel
theorem dX4_readsOrder_0 : decode cX4_readsOrder 0 = .ok (.aload_n 0, 1) := by decide +kernel
theorem dX4_readsOrder_1 : decode cX4_readsOrder 1 = .ok (.aload_n 0, 1) := by decide +kernel
theorem dX4_readsOrder_2 : decode cX4_readsOrder 2 = .ok (.getfield 218, 3) := by decide +kernel
theorem dX4_readsOrder_5 : decode cX4_readsOrder 5 = .ok (.putfield 211, 3) := by decide +kernel
theorem dX4_readsOrder_8 : decode cX4_readsOrder 8 = .ok (.aload_n 0, 1) := by decide +kernel
theorem dX4_readsOrder_9 : decode cX4_readsOrder 9 = .ok (.getfield 22, 3) := by decide +kernel
theorem dX4_readsOrder_12 : decode cX4_readsOrder 12 = .ok (.aload_n 0, 1) := by decide +kernel
theorem dX4_readsOrder_13 : decode cX4_readsOrder 13 = .ok (.getfield 218, 3) := by decide +kernel
theorem dX4_readsOrder_16 : decode cX4_readsOrder 16 = .ok (.iaload, 1) := by decide +kernel
theorem dX4_readsOrder_17 : decode cX4_readsOrder 17 = .ok (.invokestatic 221, 3) := by decide +kernel
theorem dX4_readsOrder_20 : decode cX4_readsOrder 20 = .ok (.istore_n 1, 1) := by decide +kernel
theorem dX4_readsOrder_21 : decode cX4_readsOrder 21 = .ok (.iload_n 1, 1) := by decide +kernel
theorem dX4_readsOrder_22 : decode cX4_readsOrder 22 = .ok (.ifCond .ne 5, 3) := by decide +kernel
theorem dX4_readsOrder_25 : decode cX4_readsOrder 25 = .ok (.iconst 0, 1) := by decide +kernel
theorem dX4_readsOrder_26 : decode cX4_readsOrder 26 = .ok (.ireturn, 1) := by decide +kernel
theorem dX4_readsOrder_27 : decode cX4_readsOrder 27 = .ok (.aload_n 0, 1) := by decide +kernel
theorem dX4_readsOrder_28 : decode cX4_readsOrder 28 = .ok (.dup, 1) := by decide +kernel
theorem dX4_readsOrder_29 : decode cX4_readsOrder 29 = .ok (.getfield 211, 3) := by decide +kernel
theorem dX4_readsOrder_32 : decode cX4_readsOrder 32 = .ok (.iconst 1, 1) := by decide +kernel
theorem dX4_readsOrder_33 : decode cX4_readsOrder 33 = .ok (.iadd, 1) := by decide +kernel
theorem dX4_readsOrder_34 : decode cX4_readsOrder 34 = .ok (.putfield 211, 3) := by decide +kernel
theorem dX4_readsOrder_37 : decode cX4_readsOrder 37 = .ok (.iconst 0, 1) := by decide +kernel
theorem dX4_readsOrder_38 : decode cX4_readsOrder 38 = .ok (.istore_n 2, 1) := by decide +kernel
theorem dX4_readsOrder_39 : decode cX4_readsOrder 39 = .ok (.iload_n 2, 1) := by decide +kernel
theorem dX4_readsOrder_40 : decode cX4_readsOrder 40 = .ok (.iload_n 1, 1) := by decide +kernel
theorem dX4_readsOrder_41 : decode cX4_readsOrder 41 = .ok (.if_icmp .ge 32, 3) := by decide +kernel
theorem dX4_readsOrder_44 : decode cX4_readsOrder 44 = .ok (.iload_n 2, 1) := by decide +kernel
theorem dX4_readsOrder_45 : decode cX4_readsOrder 45 = .ok (.ifCond .le 12, 3) := by decide +kernel
theorem dX4_readsOrder_48 : decode cX4_readsOrder 48 = .ok (.aload_n 0, 1) := by decide +kernel
theorem dX4_readsOrder_49 : decode cX4_readsOrder 49 = .ok (.bipush 44, 2) := by decide +kernel
theorem dX4_readsOrder_51 : decode cX4_readsOrder 51 = .ok (.invokevirtual 224, 3) := by decide +kernel
theorem dX4_readsOrder_54 : decode cX4_readsOrder 54 = .ok (.ifCond .eq 11, 3) := by decide +kernel
theorem dX4_readsOrder_57 : decode cX4_readsOrder 57 = .ok (.aload_n 0, 1) := by decide +kernel
theorem dX4_readsOrder_58 : decode cX4_readsOrder 58 = .ok (.iload_n 2, 1) := by decide +kernel
theorem dX4_readsOrder_59 : decode cX4_readsOrder 59 = .ok (.invokevirtual 227, 3) := by decide +kernel
theorem dX4_readsOrder_62 : decode cX4_readsOrder 62 = .ok (.ifCond .ne 5, 3) := by decide +kernel
theorem dX4_readsOrder_65 : decode cX4_readsOrder 65 = .ok (.iconst 0, 1) := by decide +kernel
theorem dX4_readsOrder_66 : decode cX4_readsOrder 66 = .ok (.ireturn, 1) := by decide +kernel
theorem dX4_readsOrder_67 : decode cX4_readsOrder 67 = .ok (.iinc 2 1, 3) := by decide +kernel
theorem dX4_readsOrder_70 : decode cX4_readsOrder 70 = .ok (.goto (-31), 3) := by decide +kernel
theorem dX4_readsOrder_73 : decode cX4_readsOrder 73 = .ok (.aload_n 0, 1) := by decide +kernel
theorem dX4_readsOrder_74 : decode cX4_readsOrder 74 = .ok (.bipush 59, 2) := by decide +kernel
theorem dX4_readsOrder_76 : decode cX4_readsOrder 76 = .ok (.invokevirtual 224, 3) := by decide +kernel
theorem dX4_readsOrder_79 : decode cX4_readsOrder 79 = .ok (.ireturn, 1) := by decide +kernel
theorem dX4_doesOrder_0 : decode cX4_doesOrder 0 = .ok (.aload_n 0, 1) := by decide +kernel
theorem dX4_doesOrder_1 : decode cX4_doesOrder 1 = .ok (.getfield 22, 3) := by decide +kernel
theorem dX4_doesOrder_4 : decode cX4_doesOrder 4 = .ok (.aload_n 0, 1) := by decide +kernel
theorem dX4_doesOrder_5 : decode cX4_doesOrder 5 = .ok (.getfield 218, 3) := by decide +kernel
theorem dX4_doesOrder_8 : decode cX4_doesOrder 8 = .ok (.iaload, 1) := by decide +kernel
theorem dX4_doesOrder_9 : decode cX4_doesOrder 9 = .ok (.tableswitch 124 97 102 #[90, 68, 39, 107, 124, 79], 39) := by decide +kernel
theorem dX4_doesOrder_48 : decode cX4_doesOrder 48 = .ok (.aload_n 0, 1) := by decide +kernel
theorem dX4_doesOrder_49 : decode cX4_doesOrder 49 = .ok (.aload_n 0, 1) := by decide +kernel
theorem dX4_doesOrder_50 : decode cX4_doesOrder 50 = .ok (.getfield 25, 3) := by decide +kernel
theorem dX4_doesOrder_53 : decode cX4_doesOrder 53 = .ok (.iconst 0, 1) := by decide +kernel
theorem dX4_doesOrder_54 : decode cX4_doesOrder 54 = .ok (.iaload, 1) := by decide +kernel
theorem dX4_doesOrder_55 : decode cX4_doesOrder 55 = .ok (.aload_n 0, 1) := by decide +kernel
theorem dX4_doesOrder_56 : decode cX4_doesOrder 56 = .ok (.getfield 25, 3) := by decide +kernel
theorem dX4_doesOrder_59 : decode cX4_doesOrder 59 = .ok (.iconst 1, 1) := by decide +kernel
theorem dX4_doesOrder_60 : decode cX4_doesOrder 60 = .ok (.iaload, 1) := by decide +kernel
theorem dX4_doesOrder_61 : decode cX4_doesOrder 61 = .ok (.aload_n 0, 1) := by decide +kernel
theorem dX4_doesOrder_62 : decode cX4_doesOrder 62 = .ok (.getfield 25, 3) := by decide +kernel
theorem dX4_doesOrder_65 : decode cX4_doesOrder 65 = .ok (.iconst 2, 1) := by decide +kernel
theorem dX4_doesOrder_66 : decode cX4_doesOrder 66 = .ok (.iaload, 1) := by decide +kernel
theorem dX4_doesOrder_67 : decode cX4_doesOrder 67 = .ok (.aload_n 0, 1) := by decide +kernel
theorem dX4_doesOrder_68 : decode cX4_doesOrder 68 = .ok (.getfield 25, 3) := by decide +kernel
theorem dX4_doesOrder_71 : decode cX4_doesOrder 71 = .ok (.iconst 3, 1) := by decide +kernel
theorem dX4_doesOrder_72 : decode cX4_doesOrder 72 = .ok (.iaload, 1) := by decide +kernel
theorem dX4_doesOrder_73 : decode cX4_doesOrder 73 = .ok (.invokevirtual 139, 3) := by decide +kernel
theorem dX4_doesOrder_76 : decode cX4_doesOrder 76 = .ok (.ireturn, 1) := by decide +kernel
theorem dX4_doesOrder_77 : decode cX4_doesOrder 77 = .ok (.aload_n 0, 1) := by decide +kernel
theorem dX4_doesOrder_78 : decode cX4_doesOrder 78 = .ok (.aload_n 0, 1) := by decide +kernel
theorem dX4_doesOrder_79 : decode cX4_doesOrder 79 = .ok (.getfield 25, 3) := by decide +kernel
theorem dX4_doesOrder_82 : decode cX4_doesOrder 82 = .ok (.iconst 0, 1) := by decide +kernel
theorem dX4_doesOrder_83 : decode cX4_doesOrder 83 = .ok (.iaload, 1) := by decide +kernel
theorem dX4_doesOrder_84 : decode cX4_doesOrder 84 = .ok (.invokevirtual 146, 3) := by decide +kernel
theorem dX4_doesOrder_87 : decode cX4_doesOrder 87 = .ok (.ireturn, 1) := by decide +kernel
theorem dX4_doesOrder_88 : decode cX4_doesOrder 88 = .ok (.aload_n 0, 1) := by decide +kernel
theorem dX4_doesOrder_89 : decode cX4_doesOrder 89 = .ok (.aload_n 0, 1) := by decide +kernel
theorem dX4_doesOrder_90 : decode cX4_doesOrder 90 = .ok (.getfield 25, 3) := by decide +kernel
theorem dX4_doesOrder_93 : decode cX4_doesOrder 93 = .ok (.iconst 0, 1) := by decide +kernel
theorem dX4_doesOrder_94 : decode cX4_doesOrder 94 = .ok (.iaload, 1) := by decide +kernel
theorem dX4_doesOrder_95 : decode cX4_doesOrder 95 = .ok (.invokevirtual 149, 3) := by decide +kernel
theorem dX4_doesOrder_98 : decode cX4_doesOrder 98 = .ok (.ireturn, 1) := by decide +kernel
theorem dX4_doesOrder_99 : decode cX4_doesOrder 99 = .ok (.aload_n 0, 1) := by decide +kernel
theorem dX4_doesOrder_100 : decode cX4_doesOrder 100 = .ok (.aload_n 0, 1) := by decide +kernel
theorem dX4_doesOrder_101 : decode cX4_doesOrder 101 = .ok (.getfield 25, 3) := by decide +kernel
theorem dX4_doesOrder_104 : decode cX4_doesOrder 104 = .ok (.iconst 0, 1) := by decide +kernel
theorem dX4_doesOrder_105 : decode cX4_doesOrder 105 = .ok (.iaload, 1) := by decide +kernel
theorem dX4_doesOrder_106 : decode cX4_doesOrder 106 = .ok (.aload_n 0, 1) := by decide +kernel
theorem dX4_doesOrder_107 : decode cX4_doesOrder 107 = .ok (.getfield 25, 3) := by decide +kernel
theorem dX4_doesOrder_110 : decode cX4_doesOrder 110 = .ok (.iconst 1, 1) := by decide +kernel
theorem dX4_doesOrder_111 : decode cX4_doesOrder 111 = .ok (.iaload, 1) := by decide +kernel
theorem dX4_doesOrder_112 : decode cX4_doesOrder 112 = .ok (.invokevirtual 152, 3) := by decide +kernel
theorem dX4_doesOrder_115 : decode cX4_doesOrder 115 = .ok (.ireturn, 1) := by decide +kernel
theorem dX4_doesOrder_116 : decode cX4_doesOrder 116 = .ok (.aload_n 0, 1) := by decide +kernel
theorem dX4_doesOrder_117 : decode cX4_doesOrder 117 = .ok (.aload_n 0, 1) := by decide +kernel
theorem dX4_doesOrder_118 : decode cX4_doesOrder 118 = .ok (.getfield 25, 3) := by decide +kernel
theorem dX4_doesOrder_121 : decode cX4_doesOrder 121 = .ok (.iconst 0, 1) := by decide +kernel
theorem dX4_doesOrder_122 : decode cX4_doesOrder 122 = .ok (.iaload, 1) := by decide +kernel
theorem dX4_doesOrder_123 : decode cX4_doesOrder 123 = .ok (.aload_n 0, 1) := by decide +kernel
theorem dX4_doesOrder_124 : decode cX4_doesOrder 124 = .ok (.getfield 25, 3) := by decide +kernel
theorem dX4_doesOrder_127 : decode cX4_doesOrder 127 = .ok (.iconst 1, 1) := by decide +kernel
theorem dX4_doesOrder_128 : decode cX4_doesOrder 128 = .ok (.iaload, 1) := by decide +kernel
theorem dX4_doesOrder_129 : decode cX4_doesOrder 129 = .ok (.invokevirtual 155, 3) := by decide +kernel
theorem dX4_doesOrder_132 : decode cX4_doesOrder 132 = .ok (.ireturn, 1) := by decide +kernel
theorem dX4_doesOrder_133 : decode cX4_doesOrder 133 = .ok (.aload_n 0, 1) := by decide +kernel
theorem dX4_doesOrder_134 : decode cX4_doesOrder 134 = .ok (.aload_n 0, 1) := by decide +kernel
theorem dX4_doesOrder_135 : decode cX4_doesOrder 135 = .ok (.getfield 25, 3) := by decide +kernel
theorem dX4_doesOrder_138 : decode cX4_doesOrder 138 = .ok (.iconst 0, 1) := by decide +kernel
theorem dX4_doesOrder_139 : decode cX4_doesOrder 139 = .ok (.iaload, 1) := by decide +kernel
theorem dX4_doesOrder_140 : decode cX4_doesOrder 140 = .ok (.invokevirtual 171, 3) := by decide +kernel
theorem dX4_doesOrder_143 : decode cX4_doesOrder 143 = .ok (.ireturn, 1) := by decide +kernel
theorem dX4_doesAll_0 : decode cX4_doesAll 0 = .ok (.aload_n 0, 1) := by decide +kernel
theorem dX4_doesAll_1 : decode cX4_doesAll 1 = .ok (.iconst 0, 1) := by decide +kernel
theorem dX4_doesAll_2 : decode cX4_doesAll 2 = .ok (.putfield 218, 3) := by decide +kernel
theorem dX4_doesAll_5 : decode cX4_doesAll 5 = .ok (.aload_n 0, 1) := by decide +kernel
theorem dX4_doesAll_6 : decode cX4_doesAll 6 = .ok (.iconst 0, 1) := by decide +kernel
theorem dX4_doesAll_7 : decode cX4_doesAll 7 = .ok (.putfield 230, 3) := by decide +kernel
theorem dX4_doesAll_10 : decode cX4_doesAll 10 = .ok (.aload_n 0, 1) := by decide +kernel
theorem dX4_doesAll_11 : decode cX4_doesAll 11 = .ok (.getfield 218, 3) := by decide +kernel
theorem dX4_doesAll_14 : decode cX4_doesAll 14 = .ok (.aload_n 0, 1) := by decide +kernel
theorem dX4_doesAll_15 : decode cX4_doesAll 15 = .ok (.getfield 204, 3) := by decide +kernel
theorem dX4_doesAll_18 : decode cX4_doesAll 18 = .ok (.if_icmp .ge 77, 3) := by decide +kernel
theorem dX4_doesAll_21 : decode cX4_doesAll 21 = .ok (.aload_n 0, 1) := by decide +kernel
theorem dX4_doesAll_22 : decode cX4_doesAll 22 = .ok (.invokevirtual 233, 3) := by decide +kernel
theorem dX4_doesAll_25 : decode cX4_doesAll 25 = .ok (.ifCond .ne 23, 3) := by decide +kernel
theorem dX4_doesAll_28 : decode cX4_doesAll 28 = .ok (.aload_n 0, 1) := by decide +kernel
theorem dX4_doesAll_29 : decode cX4_doesAll 29 = .ok (.iconst 1, 1) := by decide +kernel
theorem dX4_doesAll_30 : decode cX4_doesAll 30 = .ok (.putfield 237, 3) := by decide +kernel
theorem dX4_doesAll_33 : decode cX4_doesAll 33 = .ok (.aload_n 0, 1) := by decide +kernel
theorem dX4_doesAll_34 : decode cX4_doesAll 34 = .ok (.aload_n 0, 1) := by decide +kernel
theorem dX4_doesAll_35 : decode cX4_doesAll 35 = .ok (.getfield 211, 3) := by decide +kernel
theorem dX4_doesAll_38 : decode cX4_doesAll 38 = .ok (.aload_n 0, 1) := by decide +kernel
theorem dX4_doesAll_39 : decode cX4_doesAll 39 = .ok (.getfield 218, 3) := by decide +kernel
theorem dX4_doesAll_42 : decode cX4_doesAll 42 = .ok (.isub, 1) := by decide +kernel
theorem dX4_doesAll_43 : decode cX4_doesAll 43 = .ok (.putfield 240, 3) := by decide +kernel
theorem dX4_doesAll_46 : decode cX4_doesAll 46 = .ok (.iconst 0, 1) := by decide +kernel
theorem dX4_doesAll_47 : decode cX4_doesAll 47 = .ok (.ireturn, 1) := by decide +kernel
theorem dX4_doesAll_48 : decode cX4_doesAll 48 = .ok (.aload_n 0, 1) := by decide +kernel
theorem dX4_doesAll_49 : decode cX4_doesAll 49 = .ok (.getfield 211, 3) := by decide +kernel
theorem dX4_doesAll_52 : decode cX4_doesAll 52 = .ok (.istore_n 1, 1) := by decide +kernel
theorem dX4_doesAll_53 : decode cX4_doesAll 53 = .ok (.aload_n 0, 1) := by decide +kernel
theorem dX4_doesAll_54 : decode cX4_doesAll 54 = .ok (.invokevirtual 243, 3) := by decide +kernel
theorem dX4_doesAll_57 : decode cX4_doesAll 57 = .ok (.istore_n 2, 1) := by decide +kernel
theorem dX4_doesAll_58 : decode cX4_doesAll 58 = .ok (.iload_n 2, 1) := by decide +kernel
theorem dX4_doesAll_59 : decode cX4_doesAll 59 = .ok (.invokestatic 33, 3) := by decide +kernel
theorem dX4_doesAll_62 : decode cX4_doesAll 62 = .ok (.ifCond .eq 15, 3) := by decide +kernel
theorem dX4_doesAll_65 : decode cX4_doesAll 65 = .ok (.aload_n 0, 1) := by decide +kernel
theorem dX4_doesAll_66 : decode cX4_doesAll 66 = .ok (.iconst 2, 1) := by decide +kernel
theorem dX4_doesAll_67 : decode cX4_doesAll 67 = .ok (.putfield 237, 3) := by decide +kernel
theorem dX4_doesAll_70 : decode cX4_doesAll 70 = .ok (.aload_n 0, 1) := by decide +kernel
theorem dX4_doesAll_71 : decode cX4_doesAll 71 = .ok (.iload_n 2, 1) := by decide +kernel
theorem dX4_doesAll_72 : decode cX4_doesAll 72 = .ok (.putfield 240, 3) := by decide +kernel
theorem dX4_doesAll_75 : decode cX4_doesAll 75 = .ok (.iconst 0, 1) := by decide +kernel
theorem dX4_doesAll_76 : decode cX4_doesAll 76 = .ok (.ireturn, 1) := by decide +kernel
theorem dX4_doesAll_77 : decode cX4_doesAll 77 = .ok (.aload_n 0, 1) := by decide +kernel
theorem dX4_doesAll_78 : decode cX4_doesAll 78 = .ok (.dup, 1) := by decide +kernel
theorem dX4_doesAll_79 : decode cX4_doesAll 79 = .ok (.getfield 230, 3) := by decide +kernel
theorem dX4_doesAll_82 : decode cX4_doesAll 82 = .ok (.iconst 1, 1) := by decide +kernel
theorem dX4_doesAll_83 : decode cX4_doesAll 83 = .ok (.iadd, 1) := by decide +kernel
theorem dX4_doesAll_84 : decode cX4_doesAll 84 = .ok (.putfield 230, 3) := by decide +kernel
theorem dX4_doesAll_87 : decode cX4_doesAll 87 = .ok (.aload_n 0, 1) := by decide +kernel
theorem dX4_doesAll_88 : decode cX4_doesAll 88 = .ok (.iload_n 1, 1) := by decide +kernel
theorem dX4_doesAll_89 : decode cX4_doesAll 89 = .ok (.putfield 218, 3) := by decide +kernel
theorem dX4_doesAll_92 : decode cX4_doesAll 92 = .ok (.goto (-82), 3) := by decide +kernel
theorem dX4_doesAll_95 : decode cX4_doesAll 95 = .ok (.iconst 1, 1) := by decide +kernel
theorem dX4_doesAll_96 : decode cX4_doesAll 96 = .ok (.ireturn, 1) := by decide +kernel
theorem dX4_fault_0 : decode cX4_fault 0 = .ok (.iload_n 1, 1) := by decide +kernel
theorem dX4_fault_1 : decode cX4_fault 1 = .ok (.i2l, 1) := by decide +kernel
theorem dX4_fault_2 : decode cX4_fault 2 = .ok (.lconst 0, 1) := by decide +kernel
theorem dX4_fault_3 : decode cX4_fault 3 = .ok (.ldc2_w 76, 3) := by decide +kernel
theorem dX4_fault_6 : decode cX4_fault 6 = .ok (.invokestatic 40, 3) := by decide +kernel
theorem dX4_fault_9 : decode cX4_fault 9 = .ok (.ifCond .ne 6, 3) := by decide +kernel
theorem dX4_fault_12 : decode cX4_fault 12 = .ok (.ldc 87, 2) := by decide +kernel
theorem dX4_fault_14 : decode cX4_fault 14 = .ok (.ireturn, 1) := by decide +kernel
theorem dX4_fault_15 : decode cX4_fault 15 = .ok (.aload_n 0, 1) := by decide +kernel
theorem dX4_fault_16 : decode cX4_fault 16 = .ok (.getfield 7, 3) := by decide +kernel
theorem dX4_fault_19 : decode cX4_fault 19 = .ok (.aload_n 0, 1) := by decide +kernel
theorem dX4_fault_20 : decode cX4_fault 20 = .ok (.getfield 13, 3) := by decide +kernel
theorem dX4_fault_23 : decode cX4_fault 23 = .ok (.invokestatic 135, 3) := by decide +kernel
theorem dX4_fault_26 : decode cX4_fault 26 = .ok (.aload_n 0, 1) := by decide +kernel
theorem dX4_fault_27 : decode cX4_fault 27 = .ok (.invokevirtual 247, 3) := by decide +kernel
theorem dX4_fault_30 : decode cX4_fault 30 = .ok (.istore_n 2, 1) := by decide +kernel
theorem dX4_fault_31 : decode cX4_fault 31 = .ok (.aload_n 0, 1) := by decide +kernel
theorem dX4_fault_32 : decode cX4_fault 32 = .ok (.getfield 13, 3) := by decide +kernel
theorem dX4_fault_35 : decode cX4_fault 35 = .ok (.aload_n 0, 1) := by decide +kernel
theorem dX4_fault_36 : decode cX4_fault 36 = .ok (.getfield 7, 3) := by decide +kernel
theorem dX4_fault_39 : decode cX4_fault 39 = .ok (.invokestatic 135, 3) := by decide +kernel
theorem dX4_fault_42 : decode cX4_fault 42 = .ok (.iload_n 2, 1) := by decide +kernel
theorem dX4_fault_43 : decode cX4_fault 43 = .ok (.ifCond .eq 8, 3) := by decide +kernel
theorem dX4_fault_46 : decode cX4_fault 46 = .ok (.ldc 179, 2) := by decide +kernel
theorem dX4_fault_48 : decode cX4_fault 48 = .ok (.goto 30, 3) := by decide +kernel
theorem dX4_fault_51 : decode cX4_fault 51 = .ok (.iload_n 1, 1) := by decide +kernel
theorem dX4_fault_52 : decode cX4_fault 52 = .ok (.ifCond .ne 10, 3) := by decide +kernel
theorem dX4_fault_55 : decode cX4_fault 55 = .ok (.aload_n 0, 1) := by decide +kernel
theorem dX4_fault_56 : decode cX4_fault 56 = .ok (.getfield 218, 3) := by decide +kernel
theorem dX4_fault_59 : decode cX4_fault 59 = .ok (.goto 19, 3) := by decide +kernel
theorem dX4_fault_62 : decode cX4_fault 62 = .ok (.iload_n 1, 1) := by decide +kernel
theorem dX4_fault_63 : decode cX4_fault 63 = .ok (.iconst 1, 1) := by decide +kernel
theorem dX4_fault_64 : decode cX4_fault 64 = .ok (.if_icmp .ne 10, 3) := by decide +kernel
theorem dX4_fault_67 : decode cX4_fault 67 = .ok (.aload_n 0, 1) := by decide +kernel
theorem dX4_fault_68 : decode cX4_fault 68 = .ok (.getfield 237, 3) := by decide +kernel
theorem dX4_fault_71 : decode cX4_fault 71 = .ok (.goto 7, 3) := by decide +kernel
theorem dX4_fault_74 : decode cX4_fault 74 = .ok (.aload_n 0, 1) := by decide +kernel
theorem dX4_fault_75 : decode cX4_fault 75 = .ok (.getfield 240, 3) := by decide +kernel
theorem dX4_fault_78 : decode cX4_fault 78 = .ok (.ireturn, 1) := by decide +kernel
theorem dX4_play_0 : decode cX4_play 0 = .ok (.aload_n 0, 1) := by decide +kernel
theorem dX4_play_1 : decode cX4_play 1 = .ok (.getfield 7, 3) := by decide +kernel
theorem dX4_play_4 : decode cX4_play 4 = .ok (.aload_n 0, 1) := by decide +kernel
theorem dX4_play_5 : decode cX4_play 5 = .ok (.getfield 13, 3) := by decide +kernel
theorem dX4_play_8 : decode cX4_play 8 = .ok (.invokestatic 135, 3) := by decide +kernel
theorem dX4_play_11 : decode cX4_play 11 = .ok (.aload_n 0, 1) := by decide +kernel
theorem dX4_play_12 : decode cX4_play 12 = .ok (.invokevirtual 247, 3) := by decide +kernel
theorem dX4_play_15 : decode cX4_play 15 = .ok (.ifCond .ne 17, 3) := by decide +kernel
theorem dX4_play_18 : decode cX4_play 18 = .ok (.aload_n 0, 1) := by decide +kernel
theorem dX4_play_19 : decode cX4_play 19 = .ok (.getfield 13, 3) := by decide +kernel
theorem dX4_play_22 : decode cX4_play 22 = .ok (.aload_n 0, 1) := by decide +kernel
theorem dX4_play_23 : decode cX4_play 23 = .ok (.getfield 7, 3) := by decide +kernel
theorem dX4_play_26 : decode cX4_play 26 = .ok (.invokestatic 135, 3) := by decide +kernel
theorem dX4_play_29 : decode cX4_play 29 = .ok (.ldc 88, 2) := by decide +kernel
theorem dX4_play_31 : decode cX4_play 31 = .ok (.ireturn, 1) := by decide +kernel
theorem dX4_play_32 : decode cX4_play 32 = .ok (.aload_n 0, 1) := by decide +kernel
theorem dX4_play_33 : decode cX4_play 33 = .ok (.invokevirtual 37, 3) := by decide +kernel
theorem dX4_play_36 : decode cX4_play 36 = .ok (.aload_n 0, 1) := by decide +kernel
theorem dX4_play_37 : decode cX4_play 37 = .ok (.getfield 230, 3) := by decide +kernel
theorem dX4_play_40 : decode cX4_play 40 = .ok (.ireturn, 1) := by decide +kernel
theorem dJ6_bitCount_0f7a4_0 : decode cJ6_bitCount_0f7a4 0 = .ok (.iload_n 0, 1) := by decide +kernel
theorem dJ6_bitCount_0f7a4_1 : decode cJ6_bitCount_0f7a4 1 = .ok (.iload_n 0, 1) := by decide +kernel
theorem dJ6_bitCount_0f7a4_2 : decode cJ6_bitCount_0f7a4 2 = .ok (.iconst 1, 1) := by decide +kernel
theorem dJ6_bitCount_0f7a4_3 : decode cJ6_bitCount_0f7a4 3 = .ok (.iushr, 1) := by decide +kernel
theorem dJ6_bitCount_0f7a4_4 : decode cJ6_bitCount_0f7a4 4 = .ok (.ldc_w 265, 3) := by decide +kernel
theorem dJ6_bitCount_0f7a4_7 : decode cJ6_bitCount_0f7a4 7 = .ok (.iand, 1) := by decide +kernel
theorem dJ6_bitCount_0f7a4_8 : decode cJ6_bitCount_0f7a4 8 = .ok (.isub, 1) := by decide +kernel
theorem dJ6_bitCount_0f7a4_9 : decode cJ6_bitCount_0f7a4 9 = .ok (.istore_n 0, 1) := by decide +kernel
theorem dJ6_bitCount_0f7a4_10 : decode cJ6_bitCount_0f7a4 10 = .ok (.iload_n 0, 1) := by decide +kernel
theorem dJ6_bitCount_0f7a4_11 : decode cJ6_bitCount_0f7a4 11 = .ok (.ldc_w 266, 3) := by decide +kernel
theorem dJ6_bitCount_0f7a4_14 : decode cJ6_bitCount_0f7a4 14 = .ok (.iand, 1) := by decide +kernel
theorem dJ6_bitCount_0f7a4_15 : decode cJ6_bitCount_0f7a4 15 = .ok (.iload_n 0, 1) := by decide +kernel
theorem dJ6_bitCount_0f7a4_16 : decode cJ6_bitCount_0f7a4 16 = .ok (.iconst 2, 1) := by decide +kernel
theorem dJ6_bitCount_0f7a4_17 : decode cJ6_bitCount_0f7a4 17 = .ok (.iushr, 1) := by decide +kernel
theorem dJ6_bitCount_0f7a4_18 : decode cJ6_bitCount_0f7a4 18 = .ok (.ldc_w 266, 3) := by decide +kernel
theorem dJ6_bitCount_0f7a4_21 : decode cJ6_bitCount_0f7a4 21 = .ok (.iand, 1) := by decide +kernel
theorem dJ6_bitCount_0f7a4_22 : decode cJ6_bitCount_0f7a4 22 = .ok (.iadd, 1) := by decide +kernel
theorem dJ6_bitCount_0f7a4_23 : decode cJ6_bitCount_0f7a4 23 = .ok (.istore_n 0, 1) := by decide +kernel
theorem dJ6_bitCount_0f7a4_24 : decode cJ6_bitCount_0f7a4 24 = .ok (.iload_n 0, 1) := by decide +kernel
theorem dJ6_bitCount_0f7a4_25 : decode cJ6_bitCount_0f7a4 25 = .ok (.iload_n 0, 1) := by decide +kernel
theorem dJ6_bitCount_0f7a4_26 : decode cJ6_bitCount_0f7a4 26 = .ok (.iconst 4, 1) := by decide +kernel
theorem dJ6_bitCount_0f7a4_27 : decode cJ6_bitCount_0f7a4 27 = .ok (.iushr, 1) := by decide +kernel
theorem dJ6_bitCount_0f7a4_28 : decode cJ6_bitCount_0f7a4 28 = .ok (.iadd, 1) := by decide +kernel
theorem dJ6_bitCount_0f7a4_29 : decode cJ6_bitCount_0f7a4 29 = .ok (.ldc_w 267, 3) := by decide +kernel
theorem dJ6_bitCount_0f7a4_32 : decode cJ6_bitCount_0f7a4 32 = .ok (.iand, 1) := by decide +kernel
theorem dJ6_bitCount_0f7a4_33 : decode cJ6_bitCount_0f7a4 33 = .ok (.istore_n 0, 1) := by decide +kernel
theorem dJ6_bitCount_0f7a4_34 : decode cJ6_bitCount_0f7a4 34 = .ok (.iload_n 0, 1) := by decide +kernel
theorem dJ6_bitCount_0f7a4_35 : decode cJ6_bitCount_0f7a4 35 = .ok (.iload_n 0, 1) := by decide +kernel
theorem dJ6_bitCount_0f7a4_36 : decode cJ6_bitCount_0f7a4 36 = .ok (.bipush 8, 2) := by decide +kernel
theorem dJ6_bitCount_0f7a4_38 : decode cJ6_bitCount_0f7a4 38 = .ok (.iushr, 1) := by decide +kernel
theorem dJ6_bitCount_0f7a4_39 : decode cJ6_bitCount_0f7a4 39 = .ok (.iadd, 1) := by decide +kernel
theorem dJ6_bitCount_0f7a4_40 : decode cJ6_bitCount_0f7a4 40 = .ok (.istore_n 0, 1) := by decide +kernel
theorem dJ6_bitCount_0f7a4_41 : decode cJ6_bitCount_0f7a4 41 = .ok (.iload_n 0, 1) := by decide +kernel
theorem dJ6_bitCount_0f7a4_42 : decode cJ6_bitCount_0f7a4 42 = .ok (.iload_n 0, 1) := by decide +kernel
theorem dJ6_bitCount_0f7a4_43 : decode cJ6_bitCount_0f7a4 43 = .ok (.bipush 16, 2) := by decide +kernel
theorem dJ6_bitCount_0f7a4_45 : decode cJ6_bitCount_0f7a4 45 = .ok (.iushr, 1) := by decide +kernel
theorem dJ6_bitCount_0f7a4_46 : decode cJ6_bitCount_0f7a4 46 = .ok (.iadd, 1) := by decide +kernel
theorem dJ6_bitCount_0f7a4_47 : decode cJ6_bitCount_0f7a4 47 = .ok (.istore_n 0, 1) := by decide +kernel
theorem dJ6_bitCount_0f7a4_48 : decode cJ6_bitCount_0f7a4 48 = .ok (.iload_n 0, 1) := by decide +kernel
theorem dJ6_bitCount_0f7a4_49 : decode cJ6_bitCount_0f7a4 49 = .ok (.bipush 63, 2) := by decide +kernel
theorem dJ6_bitCount_0f7a4_51 : decode cJ6_bitCount_0f7a4 51 = .ok (.iand, 1) := by decide +kernel
theorem dJ6_bitCount_0f7a4_52 : decode cJ6_bitCount_0f7a4 52 = .ok (.ireturn, 1) := by decide +kernel
theorem dJ9_max_7cf53_0 : decode cJ9_max_7cf53 0 = .ok (.iload_n 0, 1) := by decide +kernel
theorem dJ9_max_7cf53_1 : decode cJ9_max_7cf53 1 = .ok (.iload_n 1, 1) := by decide +kernel
theorem dJ9_max_7cf53_2 : decode cJ9_max_7cf53 2 = .ok (.if_icmp .lt 7, 3) := by decide +kernel
theorem dJ9_max_7cf53_5 : decode cJ9_max_7cf53 5 = .ok (.iload_n 0, 1) := by decide +kernel
theorem dJ9_max_7cf53_6 : decode cJ9_max_7cf53 6 = .ok (.goto 4, 3) := by decide +kernel
theorem dJ9_max_7cf53_9 : decode cJ9_max_7cf53 9 = .ok (.iload_n 1, 1) := by decide +kernel
theorem dJ9_max_7cf53_10 : decode cJ9_max_7cf53 10 = .ok (.ireturn, 1) := by decide +kernel
theorem dL_law_0 : decode cL_law 0 = .ok (.new 7, 3) := by decide +kernel
theorem dL_law_3 : decode cL_law 3 = .ok (.dup, 1) := by decide +kernel
theorem dL_law_4 : decode cL_law 4 = .ok (.invokespecial 9, 3) := by decide +kernel
theorem dL_law_7 : decode cL_law 7 = .ok (.astore_n 1, 1) := by decide +kernel
theorem dL_law_8 : decode cL_law 8 = .ok (.new 10, 3) := by decide +kernel
theorem dL_law_11 : decode cL_law 11 = .ok (.dup, 1) := by decide +kernel
theorem dL_law_12 : decode cL_law 12 = .ok (.invokespecial 12, 3) := by decide +kernel
theorem dL_law_15 : decode cL_law 15 = .ok (.astore_n 2, 1) := by decide +kernel
theorem dL_law_16 : decode cL_law 16 = .ok (.iconst 0, 1) := by decide +kernel
theorem dL_law_17 : decode cL_law 17 = .ok (.istore_n 3, 1) := by decide +kernel
theorem dL_law_18 : decode cL_law 18 = .ok (.iload_n 3, 1) := by decide +kernel
theorem dL_law_19 : decode cL_law 19 = .ok (.aload_n 0, 1) := by decide +kernel
theorem dL_law_20 : decode cL_law 20 = .ok (.arraylength, 1) := by decide +kernel
theorem dL_law_21 : decode cL_law 21 = .ok (.iconst 5, 1) := by decide +kernel
theorem dL_law_22 : decode cL_law 22 = .ok (.isub, 1) := by decide +kernel
theorem dL_law_23 : decode cL_law 23 = .ok (.if_icmp .gt 800, 3) := by decide +kernel
theorem dL_law_26 : decode cL_law 26 = .ok (.aload_n 0, 1) := by decide +kernel
theorem dL_law_27 : decode cL_law 27 = .ok (.iload_n 3, 1) := by decide +kernel
theorem dL_law_28 : decode cL_law 28 = .ok (.iaload, 1) := by decide +kernel
theorem dL_law_29 : decode cL_law 29 = .ok (.bipush 31, 2) := by decide +kernel
theorem dL_law_31 : decode cL_law 31 = .ok (.iand, 1) := by decide +kernel
theorem dL_law_32 : decode cL_law 32 = .ok (.tableswitch 785 0 23 #[112, 165, 188, 211, 244, 277, 300, 323, 356, 399, 422, 455, 488, 521, 544, 577, 600, 664, 677, 700, 713, 736, 749, 772], 112) := by decide +kernel
theorem dL_law_144 : decode cL_law 144 = .ok (.aload_n 1, 1) := by decide +kernel
theorem dL_law_145 : decode cL_law 145 = .ok (.aload_n 0, 1) := by decide +kernel
theorem dL_law_146 : decode cL_law 146 = .ok (.iload_n 3, 1) := by decide +kernel
theorem dL_law_147 : decode cL_law 147 = .ok (.iconst 1, 1) := by decide +kernel
theorem dL_law_148 : decode cL_law 148 = .ok (.iadd, 1) := by decide +kernel
theorem dL_law_149 : decode cL_law 149 = .ok (.iaload, 1) := by decide +kernel
theorem dL_law_150 : decode cL_law 150 = .ok (.aload_n 0, 1) := by decide +kernel
theorem dL_law_151 : decode cL_law 151 = .ok (.iload_n 3, 1) := by decide +kernel
theorem dL_law_152 : decode cL_law 152 = .ok (.iconst 2, 1) := by decide +kernel
theorem dL_law_153 : decode cL_law 153 = .ok (.iadd, 1) := by decide +kernel
theorem dL_law_154 : decode cL_law 154 = .ok (.iaload, 1) := by decide +kernel
theorem dL_law_155 : decode cL_law 155 = .ok (.aload_n 0, 1) := by decide +kernel
theorem dL_law_156 : decode cL_law 156 = .ok (.iload_n 3, 1) := by decide +kernel
theorem dL_law_157 : decode cL_law 157 = .ok (.iconst 3, 1) := by decide +kernel
theorem dL_law_158 : decode cL_law 158 = .ok (.iadd, 1) := by decide +kernel
theorem dL_law_159 : decode cL_law 159 = .ok (.iaload, 1) := by decide +kernel
theorem dL_law_160 : decode cL_law 160 = .ok (.aload_n 0, 1) := by decide +kernel
theorem dL_law_161 : decode cL_law 161 = .ok (.iload_n 3, 1) := by decide +kernel
theorem dL_law_162 : decode cL_law 162 = .ok (.iconst 4, 1) := by decide +kernel
theorem dL_law_163 : decode cL_law 163 = .ok (.iadd, 1) := by decide +kernel
theorem dL_law_164 : decode cL_law 164 = .ok (.iaload, 1) := by decide +kernel
theorem dL_law_165 : decode cL_law 165 = .ok (.invokevirtual 13, 3) := by decide +kernel
theorem dL_law_168 : decode cL_law 168 = .ok (.aload_n 2, 1) := by decide +kernel
theorem dL_law_169 : decode cL_law 169 = .ok (.aload_n 0, 1) := by decide +kernel
theorem dL_law_170 : decode cL_law 170 = .ok (.iload_n 3, 1) := by decide +kernel
theorem dL_law_171 : decode cL_law 171 = .ok (.iconst 1, 1) := by decide +kernel
theorem dL_law_172 : decode cL_law 172 = .ok (.iadd, 1) := by decide +kernel
theorem dL_law_173 : decode cL_law 173 = .ok (.iaload, 1) := by decide +kernel
theorem dL_law_174 : decode cL_law 174 = .ok (.aload_n 0, 1) := by decide +kernel
theorem dL_law_175 : decode cL_law 175 = .ok (.iload_n 3, 1) := by decide +kernel
theorem dL_law_176 : decode cL_law 176 = .ok (.iconst 2, 1) := by decide +kernel
theorem dL_law_177 : decode cL_law 177 = .ok (.iadd, 1) := by decide +kernel
theorem dL_law_178 : decode cL_law 178 = .ok (.iaload, 1) := by decide +kernel
theorem dL_law_179 : decode cL_law 179 = .ok (.aload_n 0, 1) := by decide +kernel
theorem dL_law_180 : decode cL_law 180 = .ok (.iload_n 3, 1) := by decide +kernel
theorem dL_law_181 : decode cL_law 181 = .ok (.iconst 3, 1) := by decide +kernel
theorem dL_law_182 : decode cL_law 182 = .ok (.iadd, 1) := by decide +kernel
theorem dL_law_183 : decode cL_law 183 = .ok (.iaload, 1) := by decide +kernel
theorem dL_law_184 : decode cL_law 184 = .ok (.aload_n 0, 1) := by decide +kernel
theorem dL_law_185 : decode cL_law 185 = .ok (.iload_n 3, 1) := by decide +kernel
theorem dL_law_186 : decode cL_law 186 = .ok (.iconst 4, 1) := by decide +kernel
theorem dL_law_187 : decode cL_law 187 = .ok (.iadd, 1) := by decide +kernel
theorem dL_law_188 : decode cL_law 188 = .ok (.iaload, 1) := by decide +kernel
theorem dL_law_189 : decode cL_law 189 = .ok (.invokevirtual 17, 3) := by decide +kernel
theorem dL_law_192 : decode cL_law 192 = .ok (.if_icmp .eq 625, 3) := by decide +kernel
theorem dL_law_195 : decode cL_law 195 = .ok (.iconst 0, 1) := by decide +kernel
theorem dL_law_196 : decode cL_law 196 = .ok (.ireturn, 1) := by decide +kernel
theorem dL_law_197 : decode cL_law 197 = .ok (.aload_n 1, 1) := by decide +kernel
theorem dL_law_198 : decode cL_law 198 = .ok (.aload_n 0, 1) := by decide +kernel
theorem dL_law_199 : decode cL_law 199 = .ok (.iload_n 3, 1) := by decide +kernel
theorem dL_law_200 : decode cL_law 200 = .ok (.iconst 1, 1) := by decide +kernel
theorem dL_law_201 : decode cL_law 201 = .ok (.iadd, 1) := by decide +kernel
theorem dL_law_202 : decode cL_law 202 = .ok (.iaload, 1) := by decide +kernel
theorem dL_law_203 : decode cL_law 203 = .ok (.invokevirtual 18, 3) := by decide +kernel
theorem dL_law_206 : decode cL_law 206 = .ok (.aload_n 2, 1) := by decide +kernel
theorem dL_law_207 : decode cL_law 207 = .ok (.aload_n 0, 1) := by decide +kernel
theorem dL_law_208 : decode cL_law 208 = .ok (.iload_n 3, 1) := by decide +kernel
theorem dL_law_209 : decode cL_law 209 = .ok (.iconst 1, 1) := by decide +kernel
theorem dL_law_210 : decode cL_law 210 = .ok (.iadd, 1) := by decide +kernel
theorem dL_law_211 : decode cL_law 211 = .ok (.iaload, 1) := by decide +kernel
theorem dL_law_212 : decode cL_law 212 = .ok (.invokevirtual 22, 3) := by decide +kernel
theorem dL_law_215 : decode cL_law 215 = .ok (.if_icmp .eq 602, 3) := by decide +kernel
theorem dL_law_218 : decode cL_law 218 = .ok (.iconst 0, 1) := by decide +kernel
theorem dL_law_219 : decode cL_law 219 = .ok (.ireturn, 1) := by decide +kernel
theorem dL_law_220 : decode cL_law 220 = .ok (.aload_n 1, 1) := by decide +kernel
theorem dL_law_221 : decode cL_law 221 = .ok (.aload_n 0, 1) := by decide +kernel
theorem dL_law_222 : decode cL_law 222 = .ok (.iload_n 3, 1) := by decide +kernel
theorem dL_law_223 : decode cL_law 223 = .ok (.iconst 1, 1) := by decide +kernel
theorem dL_law_224 : decode cL_law 224 = .ok (.iadd, 1) := by decide +kernel
theorem dL_law_225 : decode cL_law 225 = .ok (.iaload, 1) := by decide +kernel
theorem dL_law_226 : decode cL_law 226 = .ok (.invokevirtual 23, 3) := by decide +kernel
theorem dL_law_229 : decode cL_law 229 = .ok (.aload_n 2, 1) := by decide +kernel
theorem dL_law_230 : decode cL_law 230 = .ok (.aload_n 0, 1) := by decide +kernel
theorem dL_law_231 : decode cL_law 231 = .ok (.iload_n 3, 1) := by decide +kernel
theorem dL_law_232 : decode cL_law 232 = .ok (.iconst 1, 1) := by decide +kernel
theorem dL_law_233 : decode cL_law 233 = .ok (.iadd, 1) := by decide +kernel
theorem dL_law_234 : decode cL_law 234 = .ok (.iaload, 1) := by decide +kernel
theorem dL_law_235 : decode cL_law 235 = .ok (.invokevirtual 26, 3) := by decide +kernel
theorem dL_law_238 : decode cL_law 238 = .ok (.if_icmp .eq 579, 3) := by decide +kernel
theorem dL_law_241 : decode cL_law 241 = .ok (.iconst 0, 1) := by decide +kernel
theorem dL_law_242 : decode cL_law 242 = .ok (.ireturn, 1) := by decide +kernel
theorem dL_law_243 : decode cL_law 243 = .ok (.aload_n 1, 1) := by decide +kernel
theorem dL_law_244 : decode cL_law 244 = .ok (.aload_n 0, 1) := by decide +kernel
theorem dL_law_245 : decode cL_law 245 = .ok (.iload_n 3, 1) := by decide +kernel
theorem dL_law_246 : decode cL_law 246 = .ok (.iconst 1, 1) := by decide +kernel
theorem dL_law_247 : decode cL_law 247 = .ok (.iadd, 1) := by decide +kernel
theorem dL_law_248 : decode cL_law 248 = .ok (.iaload, 1) := by decide +kernel
theorem dL_law_249 : decode cL_law 249 = .ok (.aload_n 0, 1) := by decide +kernel
theorem dL_law_250 : decode cL_law 250 = .ok (.iload_n 3, 1) := by decide +kernel
theorem dL_law_251 : decode cL_law 251 = .ok (.iconst 2, 1) := by decide +kernel
theorem dL_law_252 : decode cL_law 252 = .ok (.iadd, 1) := by decide +kernel
theorem dL_law_253 : decode cL_law 253 = .ok (.iaload, 1) := by decide +kernel
theorem dL_law_254 : decode cL_law 254 = .ok (.invokevirtual 27, 3) := by decide +kernel
theorem dL_law_257 : decode cL_law 257 = .ok (.aload_n 2, 1) := by decide +kernel
theorem dL_law_258 : decode cL_law 258 = .ok (.aload_n 0, 1) := by decide +kernel
theorem dL_law_259 : decode cL_law 259 = .ok (.iload_n 3, 1) := by decide +kernel
theorem dL_law_260 : decode cL_law 260 = .ok (.iconst 1, 1) := by decide +kernel
theorem dL_law_261 : decode cL_law 261 = .ok (.iadd, 1) := by decide +kernel
theorem dL_law_262 : decode cL_law 262 = .ok (.iaload, 1) := by decide +kernel
theorem dL_law_263 : decode cL_law 263 = .ok (.aload_n 0, 1) := by decide +kernel
theorem dL_law_264 : decode cL_law 264 = .ok (.iload_n 3, 1) := by decide +kernel
theorem dL_law_265 : decode cL_law 265 = .ok (.iconst 2, 1) := by decide +kernel
theorem dL_law_266 : decode cL_law 266 = .ok (.iadd, 1) := by decide +kernel
theorem dL_law_267 : decode cL_law 267 = .ok (.iaload, 1) := by decide +kernel
theorem dL_law_268 : decode cL_law 268 = .ok (.invokevirtual 31, 3) := by decide +kernel
theorem dL_law_271 : decode cL_law 271 = .ok (.if_icmp .eq 546, 3) := by decide +kernel
theorem dL_law_274 : decode cL_law 274 = .ok (.iconst 0, 1) := by decide +kernel
theorem dL_law_275 : decode cL_law 275 = .ok (.ireturn, 1) := by decide +kernel
theorem dL_law_276 : decode cL_law 276 = .ok (.aload_n 1, 1) := by decide +kernel
theorem dL_law_277 : decode cL_law 277 = .ok (.aload_n 0, 1) := by decide +kernel
theorem dL_law_278 : decode cL_law 278 = .ok (.iload_n 3, 1) := by decide +kernel
theorem dL_law_279 : decode cL_law 279 = .ok (.iconst 1, 1) := by decide +kernel
theorem dL_law_280 : decode cL_law 280 = .ok (.iadd, 1) := by decide +kernel
theorem dL_law_281 : decode cL_law 281 = .ok (.iaload, 1) := by decide +kernel
theorem dL_law_282 : decode cL_law 282 = .ok (.aload_n 0, 1) := by decide +kernel
theorem dL_law_283 : decode cL_law 283 = .ok (.iload_n 3, 1) := by decide +kernel
theorem dL_law_284 : decode cL_law 284 = .ok (.iconst 2, 1) := by decide +kernel
theorem dL_law_285 : decode cL_law 285 = .ok (.iadd, 1) := by decide +kernel
theorem dL_law_286 : decode cL_law 286 = .ok (.iaload, 1) := by decide +kernel
theorem dL_law_287 : decode cL_law 287 = .ok (.invokevirtual 32, 3) := by decide +kernel
theorem dL_law_290 : decode cL_law 290 = .ok (.aload_n 2, 1) := by decide +kernel
theorem dL_law_291 : decode cL_law 291 = .ok (.aload_n 0, 1) := by decide +kernel
theorem dL_law_292 : decode cL_law 292 = .ok (.iload_n 3, 1) := by decide +kernel
theorem dL_law_293 : decode cL_law 293 = .ok (.iconst 1, 1) := by decide +kernel
theorem dL_law_294 : decode cL_law 294 = .ok (.iadd, 1) := by decide +kernel
theorem dL_law_295 : decode cL_law 295 = .ok (.iaload, 1) := by decide +kernel
theorem dL_law_296 : decode cL_law 296 = .ok (.aload_n 0, 1) := by decide +kernel
theorem dL_law_297 : decode cL_law 297 = .ok (.iload_n 3, 1) := by decide +kernel
theorem dL_law_298 : decode cL_law 298 = .ok (.iconst 2, 1) := by decide +kernel
theorem dL_law_299 : decode cL_law 299 = .ok (.iadd, 1) := by decide +kernel
theorem dL_law_300 : decode cL_law 300 = .ok (.iaload, 1) := by decide +kernel
theorem dL_law_301 : decode cL_law 301 = .ok (.invokevirtual 35, 3) := by decide +kernel
theorem dL_law_304 : decode cL_law 304 = .ok (.if_icmp .eq 513, 3) := by decide +kernel
theorem dL_law_307 : decode cL_law 307 = .ok (.iconst 0, 1) := by decide +kernel
theorem dL_law_308 : decode cL_law 308 = .ok (.ireturn, 1) := by decide +kernel
theorem dL_law_309 : decode cL_law 309 = .ok (.aload_n 1, 1) := by decide +kernel
theorem dL_law_310 : decode cL_law 310 = .ok (.aload_n 0, 1) := by decide +kernel
theorem dL_law_311 : decode cL_law 311 = .ok (.iload_n 3, 1) := by decide +kernel
theorem dL_law_312 : decode cL_law 312 = .ok (.iconst 1, 1) := by decide +kernel
theorem dL_law_313 : decode cL_law 313 = .ok (.iadd, 1) := by decide +kernel
theorem dL_law_314 : decode cL_law 314 = .ok (.iaload, 1) := by decide +kernel
theorem dL_law_315 : decode cL_law 315 = .ok (.invokevirtual 36, 3) := by decide +kernel
theorem dL_law_318 : decode cL_law 318 = .ok (.aload_n 2, 1) := by decide +kernel
theorem dL_law_319 : decode cL_law 319 = .ok (.aload_n 0, 1) := by decide +kernel
theorem dL_law_320 : decode cL_law 320 = .ok (.iload_n 3, 1) := by decide +kernel
theorem dL_law_321 : decode cL_law 321 = .ok (.iconst 1, 1) := by decide +kernel
theorem dL_law_322 : decode cL_law 322 = .ok (.iadd, 1) := by decide +kernel
theorem dL_law_323 : decode cL_law 323 = .ok (.iaload, 1) := by decide +kernel
theorem dL_law_324 : decode cL_law 324 = .ok (.invokevirtual 39, 3) := by decide +kernel
theorem dL_law_327 : decode cL_law 327 = .ok (.if_icmp .eq 490, 3) := by decide +kernel
theorem dL_law_330 : decode cL_law 330 = .ok (.iconst 0, 1) := by decide +kernel
theorem dL_law_331 : decode cL_law 331 = .ok (.ireturn, 1) := by decide +kernel
theorem dL_law_332 : decode cL_law 332 = .ok (.aload_n 1, 1) := by decide +kernel
theorem dL_law_333 : decode cL_law 333 = .ok (.aload_n 0, 1) := by decide +kernel
theorem dL_law_334 : decode cL_law 334 = .ok (.iload_n 3, 1) := by decide +kernel
theorem dL_law_335 : decode cL_law 335 = .ok (.iconst 1, 1) := by decide +kernel
theorem dL_law_336 : decode cL_law 336 = .ok (.iadd, 1) := by decide +kernel
theorem dL_law_337 : decode cL_law 337 = .ok (.iaload, 1) := by decide +kernel
theorem dL_law_338 : decode cL_law 338 = .ok (.invokevirtual 40, 3) := by decide +kernel
theorem dL_law_341 : decode cL_law 341 = .ok (.aload_n 2, 1) := by decide +kernel
theorem dL_law_342 : decode cL_law 342 = .ok (.aload_n 0, 1) := by decide +kernel
theorem dL_law_343 : decode cL_law 343 = .ok (.iload_n 3, 1) := by decide +kernel
theorem dL_law_344 : decode cL_law 344 = .ok (.iconst 1, 1) := by decide +kernel
theorem dL_law_345 : decode cL_law 345 = .ok (.iadd, 1) := by decide +kernel
theorem dL_law_346 : decode cL_law 346 = .ok (.iaload, 1) := by decide +kernel
theorem dL_law_347 : decode cL_law 347 = .ok (.invokevirtual 43, 3) := by decide +kernel
theorem dL_law_350 : decode cL_law 350 = .ok (.if_icmp .eq 467, 3) := by decide +kernel
theorem dL_law_353 : decode cL_law 353 = .ok (.iconst 0, 1) := by decide +kernel
theorem dL_law_354 : decode cL_law 354 = .ok (.ireturn, 1) := by decide +kernel
theorem dL_law_355 : decode cL_law 355 = .ok (.aload_n 1, 1) := by decide +kernel
theorem dL_law_356 : decode cL_law 356 = .ok (.aload_n 0, 1) := by decide +kernel
theorem dL_law_357 : decode cL_law 357 = .ok (.iload_n 3, 1) := by decide +kernel
theorem dL_law_358 : decode cL_law 358 = .ok (.iconst 1, 1) := by decide +kernel
theorem dL_law_359 : decode cL_law 359 = .ok (.iadd, 1) := by decide +kernel
theorem dL_law_360 : decode cL_law 360 = .ok (.iaload, 1) := by decide +kernel
theorem dL_law_361 : decode cL_law 361 = .ok (.aload_n 0, 1) := by decide +kernel
theorem dL_law_362 : decode cL_law 362 = .ok (.iload_n 3, 1) := by decide +kernel
theorem dL_law_363 : decode cL_law 363 = .ok (.iconst 2, 1) := by decide +kernel
theorem dL_law_364 : decode cL_law 364 = .ok (.iadd, 1) := by decide +kernel
theorem dL_law_365 : decode cL_law 365 = .ok (.iaload, 1) := by decide +kernel
theorem dL_law_366 : decode cL_law 366 = .ok (.invokevirtual 44, 3) := by decide +kernel
theorem dL_law_369 : decode cL_law 369 = .ok (.aload_n 2, 1) := by decide +kernel
theorem dL_law_370 : decode cL_law 370 = .ok (.aload_n 0, 1) := by decide +kernel
theorem dL_law_371 : decode cL_law 371 = .ok (.iload_n 3, 1) := by decide +kernel
theorem dL_law_372 : decode cL_law 372 = .ok (.iconst 1, 1) := by decide +kernel
theorem dL_law_373 : decode cL_law 373 = .ok (.iadd, 1) := by decide +kernel
theorem dL_law_374 : decode cL_law 374 = .ok (.iaload, 1) := by decide +kernel
theorem dL_law_375 : decode cL_law 375 = .ok (.aload_n 0, 1) := by decide +kernel
theorem dL_law_376 : decode cL_law 376 = .ok (.iload_n 3, 1) := by decide +kernel
theorem dL_law_377 : decode cL_law 377 = .ok (.iconst 2, 1) := by decide +kernel
theorem dL_law_378 : decode cL_law 378 = .ok (.iadd, 1) := by decide +kernel
theorem dL_law_379 : decode cL_law 379 = .ok (.iaload, 1) := by decide +kernel
theorem dL_law_380 : decode cL_law 380 = .ok (.invokevirtual 47, 3) := by decide +kernel
theorem dL_law_383 : decode cL_law 383 = .ok (.if_icmp .eq 434, 3) := by decide +kernel
theorem dL_law_386 : decode cL_law 386 = .ok (.iconst 0, 1) := by decide +kernel
theorem dL_law_387 : decode cL_law 387 = .ok (.ireturn, 1) := by decide +kernel
theorem dL_law_388 : decode cL_law 388 = .ok (.aload_n 1, 1) := by decide +kernel
theorem dL_law_389 : decode cL_law 389 = .ok (.aload_n 0, 1) := by decide +kernel
theorem dL_law_390 : decode cL_law 390 = .ok (.iload_n 3, 1) := by decide +kernel
theorem dL_law_391 : decode cL_law 391 = .ok (.iconst 1, 1) := by decide +kernel
theorem dL_law_392 : decode cL_law 392 = .ok (.iadd, 1) := by decide +kernel
theorem dL_law_393 : decode cL_law 393 = .ok (.iaload, 1) := by decide +kernel
theorem dL_law_394 : decode cL_law 394 = .ok (.aload_n 0, 1) := by decide +kernel
theorem dL_law_395 : decode cL_law 395 = .ok (.iload_n 3, 1) := by decide +kernel
theorem dL_law_396 : decode cL_law 396 = .ok (.iconst 2, 1) := by decide +kernel
theorem dL_law_397 : decode cL_law 397 = .ok (.iadd, 1) := by decide +kernel
theorem dL_law_398 : decode cL_law 398 = .ok (.iaload, 1) := by decide +kernel
theorem dL_law_399 : decode cL_law 399 = .ok (.aload_n 0, 1) := by decide +kernel
theorem dL_law_400 : decode cL_law 400 = .ok (.iload_n 3, 1) := by decide +kernel
theorem dL_law_401 : decode cL_law 401 = .ok (.iconst 3, 1) := by decide +kernel
theorem dL_law_402 : decode cL_law 402 = .ok (.iadd, 1) := by decide +kernel
theorem dL_law_403 : decode cL_law 403 = .ok (.iaload, 1) := by decide +kernel
theorem dL_law_404 : decode cL_law 404 = .ok (.invokevirtual 48, 3) := by decide +kernel
theorem dL_law_407 : decode cL_law 407 = .ok (.aload_n 2, 1) := by decide +kernel
theorem dL_law_408 : decode cL_law 408 = .ok (.aload_n 0, 1) := by decide +kernel
theorem dL_law_409 : decode cL_law 409 = .ok (.iload_n 3, 1) := by decide +kernel
theorem dL_law_410 : decode cL_law 410 = .ok (.iconst 1, 1) := by decide +kernel
theorem dL_law_411 : decode cL_law 411 = .ok (.iadd, 1) := by decide +kernel
theorem dL_law_412 : decode cL_law 412 = .ok (.iaload, 1) := by decide +kernel
theorem dL_law_413 : decode cL_law 413 = .ok (.aload_n 0, 1) := by decide +kernel
theorem dL_law_414 : decode cL_law 414 = .ok (.iload_n 3, 1) := by decide +kernel
theorem dL_law_415 : decode cL_law 415 = .ok (.iconst 2, 1) := by decide +kernel
theorem dL_law_416 : decode cL_law 416 = .ok (.iadd, 1) := by decide +kernel
theorem dL_law_417 : decode cL_law 417 = .ok (.iaload, 1) := by decide +kernel
theorem dL_law_418 : decode cL_law 418 = .ok (.aload_n 0, 1) := by decide +kernel
theorem dL_law_419 : decode cL_law 419 = .ok (.iload_n 3, 1) := by decide +kernel
theorem dL_law_420 : decode cL_law 420 = .ok (.iconst 3, 1) := by decide +kernel
theorem dL_law_421 : decode cL_law 421 = .ok (.iadd, 1) := by decide +kernel
theorem dL_law_422 : decode cL_law 422 = .ok (.iaload, 1) := by decide +kernel
theorem dL_law_423 : decode cL_law 423 = .ok (.invokevirtual 52, 3) := by decide +kernel
theorem dL_law_426 : decode cL_law 426 = .ok (.if_icmp .eq 391, 3) := by decide +kernel
theorem dL_law_429 : decode cL_law 429 = .ok (.iconst 0, 1) := by decide +kernel
theorem dL_law_430 : decode cL_law 430 = .ok (.ireturn, 1) := by decide +kernel
theorem dL_law_431 : decode cL_law 431 = .ok (.aload_n 1, 1) := by decide +kernel
theorem dL_law_432 : decode cL_law 432 = .ok (.aload_n 0, 1) := by decide +kernel
theorem dL_law_433 : decode cL_law 433 = .ok (.iload_n 3, 1) := by decide +kernel
theorem dL_law_434 : decode cL_law 434 = .ok (.iconst 1, 1) := by decide +kernel
theorem dL_law_435 : decode cL_law 435 = .ok (.iadd, 1) := by decide +kernel
theorem dL_law_436 : decode cL_law 436 = .ok (.iaload, 1) := by decide +kernel
theorem dL_law_437 : decode cL_law 437 = .ok (.invokevirtual 53, 3) := by decide +kernel
theorem dL_law_440 : decode cL_law 440 = .ok (.aload_n 2, 1) := by decide +kernel
theorem dL_law_441 : decode cL_law 441 = .ok (.aload_n 0, 1) := by decide +kernel
theorem dL_law_442 : decode cL_law 442 = .ok (.iload_n 3, 1) := by decide +kernel
theorem dL_law_443 : decode cL_law 443 = .ok (.iconst 1, 1) := by decide +kernel
theorem dL_law_444 : decode cL_law 444 = .ok (.iadd, 1) := by decide +kernel
theorem dL_law_445 : decode cL_law 445 = .ok (.iaload, 1) := by decide +kernel
theorem dL_law_446 : decode cL_law 446 = .ok (.invokevirtual 56, 3) := by decide +kernel
theorem dL_law_449 : decode cL_law 449 = .ok (.if_icmp .eq 368, 3) := by decide +kernel
theorem dL_law_452 : decode cL_law 452 = .ok (.iconst 0, 1) := by decide +kernel
theorem dL_law_453 : decode cL_law 453 = .ok (.ireturn, 1) := by decide +kernel
theorem dL_law_454 : decode cL_law 454 = .ok (.aload_n 1, 1) := by decide +kernel
theorem dL_law_455 : decode cL_law 455 = .ok (.aload_n 0, 1) := by decide +kernel
theorem dL_law_456 : decode cL_law 456 = .ok (.iload_n 3, 1) := by decide +kernel
theorem dL_law_457 : decode cL_law 457 = .ok (.iconst 1, 1) := by decide +kernel
theorem dL_law_458 : decode cL_law 458 = .ok (.iadd, 1) := by decide +kernel
theorem dL_law_459 : decode cL_law 459 = .ok (.iaload, 1) := by decide +kernel
theorem dL_law_460 : decode cL_law 460 = .ok (.aload_n 0, 1) := by decide +kernel
theorem dL_law_461 : decode cL_law 461 = .ok (.iload_n 3, 1) := by decide +kernel
theorem dL_law_462 : decode cL_law 462 = .ok (.iconst 2, 1) := by decide +kernel
theorem dL_law_463 : decode cL_law 463 = .ok (.iadd, 1) := by decide +kernel
theorem dL_law_464 : decode cL_law 464 = .ok (.iaload, 1) := by decide +kernel
theorem dL_law_465 : decode cL_law 465 = .ok (.invokevirtual 57, 3) := by decide +kernel
theorem dL_law_468 : decode cL_law 468 = .ok (.aload_n 2, 1) := by decide +kernel
theorem dL_law_469 : decode cL_law 469 = .ok (.aload_n 0, 1) := by decide +kernel
theorem dL_law_470 : decode cL_law 470 = .ok (.iload_n 3, 1) := by decide +kernel
theorem dL_law_471 : decode cL_law 471 = .ok (.iconst 1, 1) := by decide +kernel
theorem dL_law_472 : decode cL_law 472 = .ok (.iadd, 1) := by decide +kernel
theorem dL_law_473 : decode cL_law 473 = .ok (.iaload, 1) := by decide +kernel
theorem dL_law_474 : decode cL_law 474 = .ok (.aload_n 0, 1) := by decide +kernel
theorem dL_law_475 : decode cL_law 475 = .ok (.iload_n 3, 1) := by decide +kernel
theorem dL_law_476 : decode cL_law 476 = .ok (.iconst 2, 1) := by decide +kernel
theorem dL_law_477 : decode cL_law 477 = .ok (.iadd, 1) := by decide +kernel
theorem dL_law_478 : decode cL_law 478 = .ok (.iaload, 1) := by decide +kernel
theorem dL_law_479 : decode cL_law 479 = .ok (.invokevirtual 60, 3) := by decide +kernel
theorem dL_law_482 : decode cL_law 482 = .ok (.if_icmp .eq 335, 3) := by decide +kernel
theorem dL_law_485 : decode cL_law 485 = .ok (.iconst 0, 1) := by decide +kernel
theorem dL_law_486 : decode cL_law 486 = .ok (.ireturn, 1) := by decide +kernel
theorem dL_law_487 : decode cL_law 487 = .ok (.aload_n 1, 1) := by decide +kernel
theorem dL_law_488 : decode cL_law 488 = .ok (.aload_n 0, 1) := by decide +kernel
theorem dL_law_489 : decode cL_law 489 = .ok (.iload_n 3, 1) := by decide +kernel
theorem dL_law_490 : decode cL_law 490 = .ok (.iconst 1, 1) := by decide +kernel
theorem dL_law_491 : decode cL_law 491 = .ok (.iadd, 1) := by decide +kernel
theorem dL_law_492 : decode cL_law 492 = .ok (.iaload, 1) := by decide +kernel
theorem dL_law_493 : decode cL_law 493 = .ok (.aload_n 0, 1) := by decide +kernel
theorem dL_law_494 : decode cL_law 494 = .ok (.iload_n 3, 1) := by decide +kernel
theorem dL_law_495 : decode cL_law 495 = .ok (.iconst 2, 1) := by decide +kernel
theorem dL_law_496 : decode cL_law 496 = .ok (.iadd, 1) := by decide +kernel
theorem dL_law_497 : decode cL_law 497 = .ok (.iaload, 1) := by decide +kernel
theorem dL_law_498 : decode cL_law 498 = .ok (.invokevirtual 61, 3) := by decide +kernel
theorem dL_law_501 : decode cL_law 501 = .ok (.aload_n 2, 1) := by decide +kernel
theorem dL_law_502 : decode cL_law 502 = .ok (.aload_n 0, 1) := by decide +kernel
theorem dL_law_503 : decode cL_law 503 = .ok (.iload_n 3, 1) := by decide +kernel
theorem dL_law_504 : decode cL_law 504 = .ok (.iconst 1, 1) := by decide +kernel
theorem dL_law_505 : decode cL_law 505 = .ok (.iadd, 1) := by decide +kernel
theorem dL_law_506 : decode cL_law 506 = .ok (.iaload, 1) := by decide +kernel
theorem dL_law_507 : decode cL_law 507 = .ok (.aload_n 0, 1) := by decide +kernel
theorem dL_law_508 : decode cL_law 508 = .ok (.iload_n 3, 1) := by decide +kernel
theorem dL_law_509 : decode cL_law 509 = .ok (.iconst 2, 1) := by decide +kernel
theorem dL_law_510 : decode cL_law 510 = .ok (.iadd, 1) := by decide +kernel
theorem dL_law_511 : decode cL_law 511 = .ok (.iaload, 1) := by decide +kernel
theorem dL_law_512 : decode cL_law 512 = .ok (.invokevirtual 64, 3) := by decide +kernel
theorem dL_law_515 : decode cL_law 515 = .ok (.if_icmp .eq 302, 3) := by decide +kernel
theorem dL_law_518 : decode cL_law 518 = .ok (.iconst 0, 1) := by decide +kernel
theorem dL_law_519 : decode cL_law 519 = .ok (.ireturn, 1) := by decide +kernel
theorem dL_law_520 : decode cL_law 520 = .ok (.aload_n 1, 1) := by decide +kernel
theorem dL_law_521 : decode cL_law 521 = .ok (.aload_n 0, 1) := by decide +kernel
theorem dL_law_522 : decode cL_law 522 = .ok (.iload_n 3, 1) := by decide +kernel
theorem dL_law_523 : decode cL_law 523 = .ok (.iconst 1, 1) := by decide +kernel
theorem dL_law_524 : decode cL_law 524 = .ok (.iadd, 1) := by decide +kernel
theorem dL_law_525 : decode cL_law 525 = .ok (.iaload, 1) := by decide +kernel
theorem dL_law_526 : decode cL_law 526 = .ok (.aload_n 0, 1) := by decide +kernel
theorem dL_law_527 : decode cL_law 527 = .ok (.iload_n 3, 1) := by decide +kernel
theorem dL_law_528 : decode cL_law 528 = .ok (.iconst 2, 1) := by decide +kernel
theorem dL_law_529 : decode cL_law 529 = .ok (.iadd, 1) := by decide +kernel
theorem dL_law_530 : decode cL_law 530 = .ok (.iaload, 1) := by decide +kernel
theorem dL_law_531 : decode cL_law 531 = .ok (.invokevirtual 65, 3) := by decide +kernel
theorem dL_law_534 : decode cL_law 534 = .ok (.aload_n 2, 1) := by decide +kernel
theorem dL_law_535 : decode cL_law 535 = .ok (.aload_n 0, 1) := by decide +kernel
theorem dL_law_536 : decode cL_law 536 = .ok (.iload_n 3, 1) := by decide +kernel
theorem dL_law_537 : decode cL_law 537 = .ok (.iconst 1, 1) := by decide +kernel
theorem dL_law_538 : decode cL_law 538 = .ok (.iadd, 1) := by decide +kernel
theorem dL_law_539 : decode cL_law 539 = .ok (.iaload, 1) := by decide +kernel
theorem dL_law_540 : decode cL_law 540 = .ok (.aload_n 0, 1) := by decide +kernel
theorem dL_law_541 : decode cL_law 541 = .ok (.iload_n 3, 1) := by decide +kernel
theorem dL_law_542 : decode cL_law 542 = .ok (.iconst 2, 1) := by decide +kernel
theorem dL_law_543 : decode cL_law 543 = .ok (.iadd, 1) := by decide +kernel
theorem dL_law_544 : decode cL_law 544 = .ok (.iaload, 1) := by decide +kernel
theorem dL_law_545 : decode cL_law 545 = .ok (.invokevirtual 68, 3) := by decide +kernel
theorem dL_law_548 : decode cL_law 548 = .ok (.if_icmp .eq 269, 3) := by decide +kernel
theorem dL_law_551 : decode cL_law 551 = .ok (.iconst 0, 1) := by decide +kernel
theorem dL_law_552 : decode cL_law 552 = .ok (.ireturn, 1) := by decide +kernel
theorem dL_law_553 : decode cL_law 553 = .ok (.aload_n 1, 1) := by decide +kernel
theorem dL_law_554 : decode cL_law 554 = .ok (.aload_n 0, 1) := by decide +kernel
theorem dL_law_555 : decode cL_law 555 = .ok (.iload_n 3, 1) := by decide +kernel
theorem dL_law_556 : decode cL_law 556 = .ok (.iconst 1, 1) := by decide +kernel
theorem dL_law_557 : decode cL_law 557 = .ok (.iadd, 1) := by decide +kernel
theorem dL_law_558 : decode cL_law 558 = .ok (.iaload, 1) := by decide +kernel
theorem dL_law_559 : decode cL_law 559 = .ok (.invokevirtual 69, 3) := by decide +kernel
theorem dL_law_562 : decode cL_law 562 = .ok (.aload_n 2, 1) := by decide +kernel
theorem dL_law_563 : decode cL_law 563 = .ok (.aload_n 0, 1) := by decide +kernel
theorem dL_law_564 : decode cL_law 564 = .ok (.iload_n 3, 1) := by decide +kernel
theorem dL_law_565 : decode cL_law 565 = .ok (.iconst 1, 1) := by decide +kernel
theorem dL_law_566 : decode cL_law 566 = .ok (.iadd, 1) := by decide +kernel
theorem dL_law_567 : decode cL_law 567 = .ok (.iaload, 1) := by decide +kernel
theorem dL_law_568 : decode cL_law 568 = .ok (.invokevirtual 72, 3) := by decide +kernel
theorem dL_law_571 : decode cL_law 571 = .ok (.if_icmp .eq 246, 3) := by decide +kernel
theorem dL_law_574 : decode cL_law 574 = .ok (.iconst 0, 1) := by decide +kernel
theorem dL_law_575 : decode cL_law 575 = .ok (.ireturn, 1) := by decide +kernel
theorem dL_law_576 : decode cL_law 576 = .ok (.aload_n 1, 1) := by decide +kernel
theorem dL_law_577 : decode cL_law 577 = .ok (.aload_n 0, 1) := by decide +kernel
theorem dL_law_578 : decode cL_law 578 = .ok (.iload_n 3, 1) := by decide +kernel
theorem dL_law_579 : decode cL_law 579 = .ok (.iconst 1, 1) := by decide +kernel
theorem dL_law_580 : decode cL_law 580 = .ok (.iadd, 1) := by decide +kernel
theorem dL_law_581 : decode cL_law 581 = .ok (.iaload, 1) := by decide +kernel
theorem dL_law_582 : decode cL_law 582 = .ok (.aload_n 0, 1) := by decide +kernel
theorem dL_law_583 : decode cL_law 583 = .ok (.iload_n 3, 1) := by decide +kernel
theorem dL_law_584 : decode cL_law 584 = .ok (.iconst 2, 1) := by decide +kernel
theorem dL_law_585 : decode cL_law 585 = .ok (.iadd, 1) := by decide +kernel
theorem dL_law_586 : decode cL_law 586 = .ok (.iaload, 1) := by decide +kernel
theorem dL_law_587 : decode cL_law 587 = .ok (.invokevirtual 73, 3) := by decide +kernel
theorem dL_law_590 : decode cL_law 590 = .ok (.aload_n 2, 1) := by decide +kernel
theorem dL_law_591 : decode cL_law 591 = .ok (.aload_n 0, 1) := by decide +kernel
theorem dL_law_592 : decode cL_law 592 = .ok (.iload_n 3, 1) := by decide +kernel
theorem dL_law_593 : decode cL_law 593 = .ok (.iconst 1, 1) := by decide +kernel
theorem dL_law_594 : decode cL_law 594 = .ok (.iadd, 1) := by decide +kernel
theorem dL_law_595 : decode cL_law 595 = .ok (.iaload, 1) := by decide +kernel
theorem dL_law_596 : decode cL_law 596 = .ok (.aload_n 0, 1) := by decide +kernel
theorem dL_law_597 : decode cL_law 597 = .ok (.iload_n 3, 1) := by decide +kernel
theorem dL_law_598 : decode cL_law 598 = .ok (.iconst 2, 1) := by decide +kernel
theorem dL_law_599 : decode cL_law 599 = .ok (.iadd, 1) := by decide +kernel
theorem dL_law_600 : decode cL_law 600 = .ok (.iaload, 1) := by decide +kernel
theorem dL_law_601 : decode cL_law 601 = .ok (.invokevirtual 76, 3) := by decide +kernel
theorem dL_law_604 : decode cL_law 604 = .ok (.if_icmp .eq 213, 3) := by decide +kernel
theorem dL_law_607 : decode cL_law 607 = .ok (.iconst 0, 1) := by decide +kernel
theorem dL_law_608 : decode cL_law 608 = .ok (.ireturn, 1) := by decide +kernel
theorem dL_law_609 : decode cL_law 609 = .ok (.aload_n 1, 1) := by decide +kernel
theorem dL_law_610 : decode cL_law 610 = .ok (.aload_n 0, 1) := by decide +kernel
theorem dL_law_611 : decode cL_law 611 = .ok (.iload_n 3, 1) := by decide +kernel
theorem dL_law_612 : decode cL_law 612 = .ok (.iconst 1, 1) := by decide +kernel
theorem dL_law_613 : decode cL_law 613 = .ok (.iadd, 1) := by decide +kernel
theorem dL_law_614 : decode cL_law 614 = .ok (.iaload, 1) := by decide +kernel
theorem dL_law_615 : decode cL_law 615 = .ok (.invokevirtual 77, 3) := by decide +kernel
theorem dL_law_618 : decode cL_law 618 = .ok (.aload_n 2, 1) := by decide +kernel
theorem dL_law_619 : decode cL_law 619 = .ok (.aload_n 0, 1) := by decide +kernel
theorem dL_law_620 : decode cL_law 620 = .ok (.iload_n 3, 1) := by decide +kernel
theorem dL_law_621 : decode cL_law 621 = .ok (.iconst 1, 1) := by decide +kernel
theorem dL_law_622 : decode cL_law 622 = .ok (.iadd, 1) := by decide +kernel
theorem dL_law_623 : decode cL_law 623 = .ok (.iaload, 1) := by decide +kernel
theorem dL_law_624 : decode cL_law 624 = .ok (.invokevirtual 80, 3) := by decide +kernel
theorem dL_law_627 : decode cL_law 627 = .ok (.if_icmp .eq 190, 3) := by decide +kernel
theorem dL_law_630 : decode cL_law 630 = .ok (.iconst 0, 1) := by decide +kernel
theorem dL_law_631 : decode cL_law 631 = .ok (.ireturn, 1) := by decide +kernel
theorem dL_law_632 : decode cL_law 632 = .ok (.aload_n 1, 1) := by decide +kernel
theorem dL_law_633 : decode cL_law 633 = .ok (.aload_n 0, 1) := by decide +kernel
theorem dL_law_634 : decode cL_law 634 = .ok (.iload_n 3, 1) := by decide +kernel
theorem dL_law_635 : decode cL_law 635 = .ok (.iconst 1, 1) := by decide +kernel
theorem dL_law_636 : decode cL_law 636 = .ok (.iadd, 1) := by decide +kernel
theorem dL_law_637 : decode cL_law 637 = .ok (.iaload, 1) := by decide +kernel
theorem dL_law_638 : decode cL_law 638 = .ok (.aload_n 0, 1) := by decide +kernel
theorem dL_law_639 : decode cL_law 639 = .ok (.iload_n 3, 1) := by decide +kernel
theorem dL_law_640 : decode cL_law 640 = .ok (.iconst 2, 1) := by decide +kernel
theorem dL_law_641 : decode cL_law 641 = .ok (.iadd, 1) := by decide +kernel
theorem dL_law_642 : decode cL_law 642 = .ok (.iaload, 1) := by decide +kernel
theorem dL_law_643 : decode cL_law 643 = .ok (.i2l, 1) := by decide +kernel
theorem dL_law_644 : decode cL_law 644 = .ok (.bipush 32, 2) := by decide +kernel
theorem dL_law_646 : decode cL_law 646 = .ok (.lshl, 1) := by decide +kernel
theorem dL_law_647 : decode cL_law 647 = .ok (.aload_n 0, 1) := by decide +kernel
theorem dL_law_648 : decode cL_law 648 = .ok (.iload_n 3, 1) := by decide +kernel
theorem dL_law_649 : decode cL_law 649 = .ok (.iconst 3, 1) := by decide +kernel
theorem dL_law_650 : decode cL_law 650 = .ok (.iadd, 1) := by decide +kernel
theorem dL_law_651 : decode cL_law 651 = .ok (.iaload, 1) := by decide +kernel
theorem dL_law_652 : decode cL_law 652 = .ok (.i2l, 1) := by decide +kernel
theorem dL_law_653 : decode cL_law 653 = .ok (.ldc2_w 81, 3) := by decide +kernel
theorem dL_law_656 : decode cL_law 656 = .ok (.land, 1) := by decide +kernel
theorem dL_law_657 : decode cL_law 657 = .ok (.lor, 1) := by decide +kernel
theorem dL_law_658 : decode cL_law 658 = .ok (.invokevirtual 83, 3) := by decide +kernel
theorem dL_law_661 : decode cL_law 661 = .ok (.aload_n 2, 1) := by decide +kernel
theorem dL_law_662 : decode cL_law 662 = .ok (.aload_n 0, 1) := by decide +kernel
theorem dL_law_663 : decode cL_law 663 = .ok (.iload_n 3, 1) := by decide +kernel
theorem dL_law_664 : decode cL_law 664 = .ok (.iconst 1, 1) := by decide +kernel
theorem dL_law_665 : decode cL_law 665 = .ok (.iadd, 1) := by decide +kernel
theorem dL_law_666 : decode cL_law 666 = .ok (.iaload, 1) := by decide +kernel
theorem dL_law_667 : decode cL_law 667 = .ok (.aload_n 0, 1) := by decide +kernel
theorem dL_law_668 : decode cL_law 668 = .ok (.iload_n 3, 1) := by decide +kernel
theorem dL_law_669 : decode cL_law 669 = .ok (.iconst 2, 1) := by decide +kernel
theorem dL_law_670 : decode cL_law 670 = .ok (.iadd, 1) := by decide +kernel
theorem dL_law_671 : decode cL_law 671 = .ok (.iaload, 1) := by decide +kernel
theorem dL_law_672 : decode cL_law 672 = .ok (.i2l, 1) := by decide +kernel
theorem dL_law_673 : decode cL_law 673 = .ok (.bipush 32, 2) := by decide +kernel
theorem dL_law_675 : decode cL_law 675 = .ok (.lshl, 1) := by decide +kernel
theorem dL_law_676 : decode cL_law 676 = .ok (.aload_n 0, 1) := by decide +kernel
theorem dL_law_677 : decode cL_law 677 = .ok (.iload_n 3, 1) := by decide +kernel
theorem dL_law_678 : decode cL_law 678 = .ok (.iconst 3, 1) := by decide +kernel
theorem dL_law_679 : decode cL_law 679 = .ok (.iadd, 1) := by decide +kernel
theorem dL_law_680 : decode cL_law 680 = .ok (.iaload, 1) := by decide +kernel
theorem dL_law_681 : decode cL_law 681 = .ok (.i2l, 1) := by decide +kernel
theorem dL_law_682 : decode cL_law 682 = .ok (.ldc2_w 81, 3) := by decide +kernel
theorem dL_law_685 : decode cL_law 685 = .ok (.land, 1) := by decide +kernel
theorem dL_law_686 : decode cL_law 686 = .ok (.lor, 1) := by decide +kernel
theorem dL_law_687 : decode cL_law 687 = .ok (.invokevirtual 87, 3) := by decide +kernel
theorem dL_law_690 : decode cL_law 690 = .ok (.lcmp, 1) := by decide +kernel
theorem dL_law_691 : decode cL_law 691 = .ok (.ifCond .eq 126, 3) := by decide +kernel
theorem dL_law_694 : decode cL_law 694 = .ok (.iconst 0, 1) := by decide +kernel
theorem dL_law_695 : decode cL_law 695 = .ok (.ireturn, 1) := by decide +kernel
theorem dL_law_696 : decode cL_law 696 = .ok (.aload_n 1, 1) := by decide +kernel
theorem dL_law_697 : decode cL_law 697 = .ok (.invokevirtual 88, 3) := by decide +kernel
theorem dL_law_700 : decode cL_law 700 = .ok (.aload_n 2, 1) := by decide +kernel
theorem dL_law_701 : decode cL_law 701 = .ok (.invokevirtual 92, 3) := by decide +kernel
theorem dL_law_704 : decode cL_law 704 = .ok (.if_icmp .eq 113, 3) := by decide +kernel
theorem dL_law_707 : decode cL_law 707 = .ok (.iconst 0, 1) := by decide +kernel
theorem dL_law_708 : decode cL_law 708 = .ok (.ireturn, 1) := by decide +kernel
theorem dL_law_709 : decode cL_law 709 = .ok (.aload_n 1, 1) := by decide +kernel
theorem dL_law_710 : decode cL_law 710 = .ok (.aload_n 0, 1) := by decide +kernel
theorem dL_law_711 : decode cL_law 711 = .ok (.iload_n 3, 1) := by decide +kernel
theorem dL_law_712 : decode cL_law 712 = .ok (.iconst 1, 1) := by decide +kernel
theorem dL_law_713 : decode cL_law 713 = .ok (.iadd, 1) := by decide +kernel
theorem dL_law_714 : decode cL_law 714 = .ok (.iaload, 1) := by decide +kernel
theorem dL_law_715 : decode cL_law 715 = .ok (.invokevirtual 93, 3) := by decide +kernel
theorem dL_law_718 : decode cL_law 718 = .ok (.aload_n 2, 1) := by decide +kernel
theorem dL_law_719 : decode cL_law 719 = .ok (.aload_n 0, 1) := by decide +kernel
theorem dL_law_720 : decode cL_law 720 = .ok (.iload_n 3, 1) := by decide +kernel
theorem dL_law_721 : decode cL_law 721 = .ok (.iconst 1, 1) := by decide +kernel
theorem dL_law_722 : decode cL_law 722 = .ok (.iadd, 1) := by decide +kernel
theorem dL_law_723 : decode cL_law 723 = .ok (.iaload, 1) := by decide +kernel
theorem dL_law_724 : decode cL_law 724 = .ok (.invokevirtual 96, 3) := by decide +kernel
theorem dL_law_727 : decode cL_law 727 = .ok (.if_icmp .eq 90, 3) := by decide +kernel
theorem dL_law_730 : decode cL_law 730 = .ok (.iconst 0, 1) := by decide +kernel
theorem dL_law_731 : decode cL_law 731 = .ok (.ireturn, 1) := by decide +kernel
theorem dL_law_732 : decode cL_law 732 = .ok (.aload_n 1, 1) := by decide +kernel
theorem dL_law_733 : decode cL_law 733 = .ok (.invokevirtual 97, 3) := by decide +kernel
theorem dL_law_736 : decode cL_law 736 = .ok (.aload_n 2, 1) := by decide +kernel
theorem dL_law_737 : decode cL_law 737 = .ok (.invokevirtual 100, 3) := by decide +kernel
theorem dL_law_740 : decode cL_law 740 = .ok (.if_icmp .eq 77, 3) := by decide +kernel
theorem dL_law_743 : decode cL_law 743 = .ok (.iconst 0, 1) := by decide +kernel
theorem dL_law_744 : decode cL_law 744 = .ok (.ireturn, 1) := by decide +kernel
theorem dL_law_745 : decode cL_law 745 = .ok (.aload_n 1, 1) := by decide +kernel
theorem dL_law_746 : decode cL_law 746 = .ok (.aload_n 0, 1) := by decide +kernel
theorem dL_law_747 : decode cL_law 747 = .ok (.iload_n 3, 1) := by decide +kernel
theorem dL_law_748 : decode cL_law 748 = .ok (.iconst 1, 1) := by decide +kernel
theorem dL_law_749 : decode cL_law 749 = .ok (.iadd, 1) := by decide +kernel
theorem dL_law_750 : decode cL_law 750 = .ok (.iaload, 1) := by decide +kernel
theorem dL_law_751 : decode cL_law 751 = .ok (.invokevirtual 101, 3) := by decide +kernel
theorem dL_law_754 : decode cL_law 754 = .ok (.aload_n 2, 1) := by decide +kernel
theorem dL_law_755 : decode cL_law 755 = .ok (.aload_n 0, 1) := by decide +kernel
theorem dL_law_756 : decode cL_law 756 = .ok (.iload_n 3, 1) := by decide +kernel
theorem dL_law_757 : decode cL_law 757 = .ok (.iconst 1, 1) := by decide +kernel
theorem dL_law_758 : decode cL_law 758 = .ok (.iadd, 1) := by decide +kernel
theorem dL_law_759 : decode cL_law 759 = .ok (.iaload, 1) := by decide +kernel
theorem dL_law_760 : decode cL_law 760 = .ok (.invokevirtual 104, 3) := by decide +kernel
theorem dL_law_763 : decode cL_law 763 = .ok (.if_icmp .eq 54, 3) := by decide +kernel
theorem dL_law_766 : decode cL_law 766 = .ok (.iconst 0, 1) := by decide +kernel
theorem dL_law_767 : decode cL_law 767 = .ok (.ireturn, 1) := by decide +kernel
theorem dL_law_768 : decode cL_law 768 = .ok (.aload_n 1, 1) := by decide +kernel
theorem dL_law_769 : decode cL_law 769 = .ok (.invokevirtual 105, 3) := by decide +kernel
theorem dL_law_772 : decode cL_law 772 = .ok (.aload_n 2, 1) := by decide +kernel
theorem dL_law_773 : decode cL_law 773 = .ok (.invokevirtual 108, 3) := by decide +kernel
theorem dL_law_776 : decode cL_law 776 = .ok (.if_icmp .eq 41, 3) := by decide +kernel
theorem dL_law_779 : decode cL_law 779 = .ok (.iconst 0, 1) := by decide +kernel
theorem dL_law_780 : decode cL_law 780 = .ok (.ireturn, 1) := by decide +kernel
theorem dL_law_781 : decode cL_law 781 = .ok (.aload_n 1, 1) := by decide +kernel
theorem dL_law_782 : decode cL_law 782 = .ok (.aload_n 0, 1) := by decide +kernel
theorem dL_law_783 : decode cL_law 783 = .ok (.iload_n 3, 1) := by decide +kernel
theorem dL_law_784 : decode cL_law 784 = .ok (.iconst 1, 1) := by decide +kernel
theorem dL_law_785 : decode cL_law 785 = .ok (.iadd, 1) := by decide +kernel
theorem dL_law_786 : decode cL_law 786 = .ok (.iaload, 1) := by decide +kernel
theorem dL_law_787 : decode cL_law 787 = .ok (.invokevirtual 109, 3) := by decide +kernel
theorem dL_law_790 : decode cL_law 790 = .ok (.aload_n 2, 1) := by decide +kernel
theorem dL_law_791 : decode cL_law 791 = .ok (.aload_n 0, 1) := by decide +kernel
theorem dL_law_792 : decode cL_law 792 = .ok (.iload_n 3, 1) := by decide +kernel
theorem dL_law_793 : decode cL_law 793 = .ok (.iconst 1, 1) := by decide +kernel
theorem dL_law_794 : decode cL_law 794 = .ok (.iadd, 1) := by decide +kernel
theorem dL_law_795 : decode cL_law 795 = .ok (.iaload, 1) := by decide +kernel
theorem dL_law_796 : decode cL_law 796 = .ok (.invokevirtual 112, 3) := by decide +kernel
theorem dL_law_799 : decode cL_law 799 = .ok (.if_icmp .eq 18, 3) := by decide +kernel
theorem dL_law_802 : decode cL_law 802 = .ok (.iconst 0, 1) := by decide +kernel
theorem dL_law_803 : decode cL_law 803 = .ok (.ireturn, 1) := by decide +kernel
theorem dL_law_804 : decode cL_law 804 = .ok (.aload_n 1, 1) := by decide +kernel
theorem dL_law_805 : decode cL_law 805 = .ok (.invokevirtual 113, 3) := by decide +kernel
theorem dL_law_808 : decode cL_law 808 = .ok (.aload_n 2, 1) := by decide +kernel
theorem dL_law_809 : decode cL_law 809 = .ok (.invokevirtual 116, 3) := by decide +kernel
theorem dL_law_812 : decode cL_law 812 = .ok (.if_icmp .eq 5, 3) := by decide +kernel
theorem dL_law_815 : decode cL_law 815 = .ok (.iconst 0, 1) := by decide +kernel
theorem dL_law_816 : decode cL_law 816 = .ok (.ireturn, 1) := by decide +kernel
theorem dL_law_817 : decode cL_law 817 = .ok (.iinc 3 5, 3) := by decide +kernel
theorem dL_law_820 : decode cL_law 820 = .ok (.goto (-802), 3) := by decide +kernel
theorem dL_law_823 : decode cL_law 823 = .ok (.iconst 1, 1) := by decide +kernel
theorem dL_law_824 : decode cL_law 824 = .ok (.ireturn, 1) := by decide +kernel
end
section
-- THE WORDS in one list; what of them may be handed on; the nest's links apart
def lw_all : List Cond := lw_tbl.filter goodWord
theorem lw_all_tbl {w : Cond} (h : w ∈ lw_all) : w ∈ lw_tbl := (List.mem_filter.mp h).1
theorem mq_ (i : Nat) {w : Cond} (h : lw_tbl[i]? = some w) (hg : goodWord w = true) : w ∈ lw_all := List.mem_filter.mpr ⟨List.mem_of_getElem? h, hg⟩
theorem lw_good {w : Cond} (h : w ∈ lw_all) : (w.onTables && w.keeps) = true ∨ ∃ ty, w = .arrayClass ty := good_of_word (List.mem_filter.mp h).2
theorem gi_ws {y : MethodName} {c : ByteArray} {n : Nat} {ret : Option FieldType} (h : Cond.code y c n ret ∈ lw_all) : GoodIn lw_all (Cond.code y c n ret :: lw_all) := by
  intro w hw
  rcases List.mem_cons.mp hw with rfl | hw
  · exact ⟨h, lw_good h⟩
  · exact ⟨hw, lw_good hw⟩
def nw_b : Cond → Bool
  | .fieldLinkNest .. => true
  | .methodLinkNest .. => true
  | _ => false
def nw_all : List Cond := lw_tbl.filter nw_b
theorem nq_ (i : Nat) {w : Cond} (h : lw_tbl[i]? = some w) (hg : nw_b w = true) : w ∈ nw_all := List.mem_filter.mpr ⟨List.mem_of_getElem? h, hg⟩
def En_N (U : State) : Prop := ∀ w ∈ nw_all, va_Nw w U
theorem En_N.warm {s U : State} (hW : s.WarmedH U.vm) (h : En_N s) : En_N U := by
  intro w hw
  have hb := (List.mem_filter.mp hw).2
  have h1 := h w hw
  cases w <;> first | exact va_Nw.warmF hW h1 | exact va_Nw.warmM hW h1 | (exfalso; revert hb; simp [nw_b])
theorem En_N.same {s U : State} (hv : s.vm = U.vm) (h : En_N s) : En_N U := by
  intro w hw
  have hb := (List.mem_filter.mp hw).2
  have h1 := h w hw
  cases w <;> first | exact va_Nw.same rfl hv h1 | (exfalso; revert hb; simp [nw_b])
/-- what holds of the tables wherever the walk stands: classes, array classes, the nest's links, arrays over classes -/
def En (D : va_G) (cy : Nat → ClassId) (U : State) : Prop := va_K D vwCl [(cy 0, .char), (cy 1, .int), (cy 2, .object RX0), (cy 3, .object RX2)] U ∧ En_N U ∧ va_AO RX0 U ∧ va_AO RX2 U
theorem En.warm {D : va_G} {cy : Nat → ClassId} {s U : State} (hW : s.WarmedH U.vm) (h : En D cy s) : En D cy U := ⟨va_K.moved hW.alike h.1, h.2.1.warm hW, h.2.2.1.moved hW.alike, h.2.2.2.moved hW.alike⟩
theorem En.calling {D : va_G} {cy : Nat → ClassId} {U : State} {g : JFrame} {mk : MethodId} {a : Array Value} (h : En D cy U) : En D cy (U.calling g mk a) := ⟨va_K.moved (u := U) (U := U.calling g mk a) (Vm.Alike.refl U.vm) h.1, En_N.same (s := U) (U := U.calling g mk a) rfl h.2.1, va_AO.moved (u := U) (U := U.calling g mk a) (Vm.Alike.refl U.vm) h.2.2.1, va_AO.moved (u := U) (U := U.calling g mk a) (Vm.Alike.refl U.vm) h.2.2.2⟩
-- THE MEMORY: ints by address and place, references by address and place; the kind and the length of what lies at an address
abbrev mV : Type := Nat → Nat → Int32
abbrev mG : Type := Nat → Nat → Option Nat
abbrev mY : Type := (Nat → Nat) × (Nat → Nat)
def nfd : Nat → Nat
  | 0 => 14
  | 1 => 7
  | 2 => 9
  | 3 => 6
  | _ => 13
def rfd : Nat → Nat → Bool
  | 0, _ => false
  | 1, j => decide (j < 2)
  | 2, j => decide (j < 3)
  | 3, j => decide (j < 5)
  | _, j => decide (j < 4) || decide (j = 5) || decide (j = 9)
def fce (k : Nat) (V : Nat → Int32) (G : Nat → Option Nat) : List Value := (List.range (nfd k)).map (fun j => if rfd k j then va_rf (G j) else .int (V j))
def enc (Y : mY) (cy : Nat → ClassId) (V : mV) (G : mG) (a : Nat) : va_E :=
  if Y.1 a < 5 then .inr (Y.1 a, fce (Y.1 a) (V a) (G a))
  else if Y.1 a < 7 then .inl (cy (Y.1 a - 5), Y.2 a, .inl (V a))
  else .inl (cy (Y.1 a - 5), Y.2 a, .inr (.inr (.inr (.inr (G a)))))
theorem enc_o {Y : mY} {cy : Nat → ClassId} {V : mV} {G : mG} {a ci : Nat} (h : Y.1 a = ci) (hc : ci < 5) : enc Y cy V G a = .inr (ci, fce ci (V a) (G a)) := by
  subst h; simp [enc, hc]
theorem enc_i {Y : mY} {cy : Nat → ClassId} {V : mV} {G : mG} {a ci : Nat} (h : Y.1 a = ci) (h1 : 5 ≤ ci) (h2 : ci < 7) : enc Y cy V G a = .inl (cy (ci - 5), Y.2 a, .inl (V a)) := by
  subst h; simp [enc, h2, Nat.not_lt.mpr h1]
theorem enc_q {Y : mY} {cy : Nat → ClassId} {V : mV} {G : mG} {a ci : Nat} (h : Y.1 a = ci) (h1 : 7 ≤ ci) : enc Y cy V G a = .inl (cy (ci - 5), Y.2 a, .inr (.inr (.inr (.inr (G a))))) := by
  subst h; rw [enc, if_neg (by omega), if_neg (by omega)]
theorem enc_cong {Y : mY} {cy : Nat → ClassId} {V V' : mV} {G G' : mG} {a : Nat} (h1 : V' a = V a) (h2 : G' a = G a) : enc Y cy V' G' a = enc Y cy V G a := by
  simp [enc, h1, h2]
/-- the heap holds the memory: n cells in all, those that have a kind lie from z on -/
def Wd (Y : mY) (cy : Nat → ClassId) (D : va_G) (z n : Nat) (V : mV) (G : mG) (H : Heap) : Prop := H.size = n ∧ ∀ a, Y.1 a < 9 → z ≤ a ∧ va_at D vwCl (a, enc Y cy V G a) H
abbrev zA (z : Nat) : Nat → Prop := fun q => z ≤ q
theorem wd_lt {Y : mY} {cy : Nat → ClassId} {D : va_G} {z n : Nat} {V : mV} {G : mG} {H : Heap} (h : Wd Y cy D z n V G H) {a : Nat} (ha : Y.1 a < 9) : a < n := by
  have := (h.2 a ha).2.lt
  rw [← h.1]; exact this
theorem wd_put {Y : mY} {cy : Nat → ClassId} {D : va_G} {z n : Nat} {V V' : mV} {G G' : mG} {H H1 : Heap} (h : Wd Y cy D z n V G H) {a : Nat} (hz : H1.size = H.size) (oq : ∀ q : Nat, q ≠ a → H1[q]? = H[q]?) (hV : ∀ b, b ≠ a → V' b = V b) (hG : ∀ b, b ≠ a → G' b = G b) (ha : va_at D vwCl (a, enc Y cy V' G' a) H1) : Wd Y cy D z n V' G' H1 := by
  refine ⟨hz.trans h.1, fun b hb => ?_⟩
  by_cases e : b = a
  · subst e; exact ⟨(h.2 b hb).1, ha⟩
  · refine ⟨(h.2 b hb).1, ?_⟩
    rw [enc_cong (hV b e) (hG b e)]
    exact va_at.kept (h.2 b hb).2 (oq b e)
theorem va_P1 {D : va_G} {cl : List vw_C} {q : Nat × va_E} {H : Heap} (h : va_at D cl q H) : va_P D cl [q] H := by
  intro k q' hk
  have hz : k < 1 := (List.getElem?_eq_some_iff.mp hk).1
  rw [show k = 0 by omega] at hk
  cases hk
  exact h
theorem va_up_s {α : Type} (f : Nat → α) (k : Nat) (v : α) : va_up f k v k = v := by simp [va_up]
theorem va_up_o {α : Type} (f : Nat → α) (k : Nat) (v : α) : ∀ b, b ≠ k → va_up f k v b = f b := fun b h => va_up_ne f v h
/-- one place of the memory -/
def up2 {α : Type} (f : Nat → Nat → α) (a k : Nat) (v : α) : Nat → Nat → α := va_up f a (va_up (f a) k v)
theorem up2_s {α : Type} (f : Nat → Nat → α) (a k : Nat) (v : α) : up2 f a k v a = va_up (f a) k v := va_up_s _ _ _
theorem up2_o {α : Type} (f : Nat → Nat → α) (a k : Nat) (v : α) : ∀ b, b ≠ a → up2 f a k v b = f b := va_up_o _ _ _
theorem fce_seti {ci k : Nat} {V : Nat → Int32} {G : Nat → Option Nat} (hr : rfd ci k = false) (x : Int32) : (fce ci V G).set k (.int x) = fce ci (va_up V k x) G := by
  refine List.ext_getElem? (fun j => ?_)
  rw [List.getElem?_set]
  simp only [fce, List.getElem?_map, List.getElem?_range, List.length_map, List.length_range]
  by_cases hj : k = j
  · subst hj
    by_cases hn : k < nfd ci
    · simp [hn, hr, va_up]
    · simp [hn]
  · simp only [hj, if_false]
    cases h : (List.range (nfd ci))[j]? with
    | none => rfl
    | some i =>
      have : i = j := by
        have h2 := List.getElem?_eq_some_iff.mp h
        obtain ⟨h3, h4⟩ := h2
        simpa using h4.symm
      subst this
      simp [va_up, Ne.symm hj]
theorem fce_setr {ci k : Nat} {V : Nat → Int32} {G : Nat → Option Nat} (hr : rfd ci k = true) (x : Option Nat) : (fce ci V G).set k (va_rf x) = fce ci V (va_up G k x) := by
  refine List.ext_getElem? (fun j => ?_)
  rw [List.getElem?_set]
  simp only [fce, List.getElem?_map, List.getElem?_range, List.length_map, List.length_range]
  by_cases hj : k = j
  · subst hj
    by_cases hn : k < nfd ci
    · simp [hn, hr, va_up]
    · simp [hn]
  · simp only [hj, if_false]
    cases h : (List.range (nfd ci))[j]? with
    | none => rfl
    | some i =>
      have : i = j := by
        have h2 := List.getElem?_eq_some_iff.mp h
        obtain ⟨h3, h4⟩ := h2
        simpa using h4.symm
      subst this
      simp [va_up, Ne.symm hj]
theorem fce_len (ci : Nat) (V : Nat → Int32) (G : Nat → Option Nat) : (fce ci V G).length = nfd ci := by simp [fce]
end
section
-- ROWS over the memory: reading, writing, making
section WK
variable {p : Program} {l : Launch} {e : Env} {R : Room} {s : State} {m : MethodId} {args : Array Value} {below : List Frame} {meth : Method} {c : Code} {H : Heap} {locs : List Loc} {cells slots : Nat} {Q : State → Prop}
variable {cc : ByteArray} {pc : Nat} {ls : Array Slot} {rest : List Value} {D : va_G} {cy : Nat → ClassId} {z n a : Nat} {Y : mY} {V : mV} {G : mG} {H0 : Heap}
theorem wk_get (hx : p.tables.exec = Jvm.exec) (hb : c.code = cc) (hts : ∀ w ∈ lw_all, w.before args s = true) {own C : String} {T : u_T} {N ci k index : Nat} (hown : s.vm.findClass own = some m.cls) (hE : En D cy s) (hW : Wd Y cy D z n V G H) (hc : vwCl[ci]? = some (C, T, N)) (hin : ∀ w ∈ u_ws C T N, w ∈ lw_all) (hk : k < N) (hl : Cond.fieldLink own index C (T k).2.1 (T k).2.2.1 ∈ lw_all) (hT : (T k).1 = C) (hci : ci < 5) {v : Value} (hv : (fce ci (V a) (G a))[k]? = some v) (hK : Y.1 a = ci) (hdg : decode cc pc = .ok (.getfield index, 3))
    (kk : W p l e R s m args below meth c H locs cells slots Q (F0 m (pc + 3) ls (v :: rest))) : W p l e R s m args below meth c H locs cells slots Q (F0 m pc ls (.ref a :: rest)) := by
  have h1 := (hW.2 a (by omega)).2
  rw [enc_o hK hci] at h1
  exact va_get hx hb hts hin hown hE.1 (va_P1 h1) 0 rfl hc k hk (hts _ hl) (fun x h => by rw [hT] at h; exact h) hv hdg kk
theorem wk_getN (hx : p.tables.exec = Jvm.exec) (hb : c.code = cc) (hts : ∀ w ∈ lw_all, w.before args s = true) {own C host : String} {T : u_T} {N ci k index : Nat} (hown : s.vm.findClass own = some m.cls) (hE : En D cy s) (hW : Wd Y cy D z n V G H) (hc : vwCl[ci]? = some (C, T, N)) (hin : ∀ w ∈ u_ws C T N, w ∈ lw_all) (hk : k < N) (hl : Cond.fieldLinkNest own index C (T k).2.1 (T k).2.2.1 host ∈ nw_all) (hT : (T k).1 = C) (hci : ci < 5) {v : Value} (hv : (fce ci (V a) (G a))[k]? = some v) (hK : Y.1 a = ci) (hdg : decode cc pc = .ok (.getfield index, 3))
    (kk : W p l e R s m args below meth c H locs cells slots Q (F0 m (pc + 3) ls (v :: rest))) : W p l e R s m args below meth c H locs cells slots Q (F0 m pc ls (.ref a :: rest)) := by
  have h1 := (hW.2 a (by omega)).2
  rw [enc_o hK hci] at h1
  exact va_getN hx hb hts hin hown hE.1 (va_P1 h1) 0 rfl hc k hk (va_Nw.use rfl (hE.2.1 _ hl)) (fun x h => by rw [hT] at h; exact h) hv hdg kk
/-- behind a write into the field k of the object a -/
theorem wk_putat {C : String} {T : u_T} {N ci k : Nat} {own : String} {Ts : List Cond} (hts : ∀ w ∈ Ts, w.before args s = true) (hin : ∀ w ∈ u_ws C T N, w ∈ Ts) (ty0 : Nat → FieldType) (hty : ∀ k, k < N → parseFieldDescriptor (T k).2.2.1 = some (ty0 k)) (hnm : ∀ a, a < N → ∀ b, b < N → a ≠ b → (T a).2.1 ≠ (T b).2.1) (hK : va_K D vwCl [(cy 0, .char), (cy 1, .int), (cy 2, .object RX0), (cy 3, .object RX2)] s) (hc : vwCl[ci]? = some (C, T, N)) (hk : k < N) {fs : List Value} {v : Value} {cell : Cell} (hlen : k < fs.length) (q2 : cell.cls = D.1 ci) (q3 : cell.vm = .none) (q4 : ∀ k, k < N → cell.slots[D.2 ci k]? = some (vp_V fs k)) {H1 : Heap} (e1 : H1[a]? = some (cell.setSlot (D.2 ci k) v)) : va_at D vwCl (a, .inr (ci, fs.set k v)) H1 := by
  have hap := va_apart (own := own) hts hin ty0 hty hnm hK hc
  exact ⟨_, hc, t_OB.to (V := updV (vp_V fs) k v) ⟨_, e1, q2, q3, t_set q4 hap hk v⟩ (fun j _ => vp_updV_set hlen v j)⟩
theorem wk_put (hx : p.tables.exec = Jvm.exec) (hb : c.code = cc) (hts : ∀ w ∈ lw_all, w.before args s = true) {own C : String} {T : u_T} {N ci k index : Nat} (hown : s.vm.findClass own = some m.cls) (hE : En D cy s) (hW : Wd Y cy D z n V G H) (hS : va_S (zA z) H0 H locs) (hc : vwCl[ci]? = some (C, T, N)) (hin : ∀ w ∈ u_ws C T N, w ∈ lw_all) (hk : k < N) (hl : Cond.fieldLink own index C (T k).2.1 (T k).2.2.1 ∈ lw_all) (hT : (T k).1 = C) (hci : ci < 5) (ty0 : Nat → FieldType) (hty : ∀ k, k < N → parseFieldDescriptor (T k).2.2.1 = some (ty0 k)) (hnm : ∀ a, a < N → ∀ b, b < N → a ≠ b → (T a).2.1 ≠ (T b).2.1) (hfin : (T k).2.2.2 = false) {ty : FieldType} {v : Value} (hd : parseFieldDescriptor (T k).2.2.1 = some ty) (hn : narrow ty v = v) (hfit : fits ty v = true) (hkn : k < nfd ci)
    {V' : mV} {G' : mG} (hset : (fce ci (V a) (G a)).set k v = fce ci (V' a) (G' a)) (hV : ∀ b, b ≠ a → V' b = V b) (hG : ∀ b, b ≠ a → G' b = G b) (hK : Y.1 a = ci) (hdg : decode cc pc = .ok (.putfield index, 3))
    (kk : ∀ (H1 : Heap) (locs1 : List Loc), Wd Y cy D z n V' G' H1 → va_S (zA z) H0 H1 locs1 → W p l e R s m args below meth c H1 locs1 cells slots Q (F0 m (pc + 3) ls rest)) : W p l e R s m args below meth c H locs cells slots Q (F0 m pc ls (v :: .ref a :: rest)) := by
  have hza := (hW.2 a (by omega)).1
  have h1 := (hW.2 a (by omega)).2
  rw [enc_o hK hci] at h1
  obtain ⟨r, g1, cell, q1, q2, q3, q4⟩ := h1
  have hr : r = (C, T, N) := Option.some.inj (g1.symm.trans hc)
  subst hr
  obtain ⟨hSl, hfc, kC, hkC, hkind⟩ := hE.1.1 ci _ hc
  obtain ⟨cf, kf, fi, f, hi, hsl⟩ := hSl k hk
  have hlay := hts _ (hin _ (u_in_lay hk))
  unfold u_lay at hlay
  rw [if_neg (by rw [hfin]; decide)] at hlay
  have hst := (u_facts hfc hkC (u_lays hts hin hk) hi).1
  have h6 := u_store hfc hkC hkind hlay hi hd hn hfit
  refine W.putK hx hb (f := f) ⟨hown, hts _ hl, ⟨_, _, _, by have h := hi; rw [hT] at h; exact h⟩, hst⟩ (by rw [q2]; exact h6) q1 q3 (by rw [hsl]; exact k2_hasslot (q4 k hk)) rfl rfl hdg fun H' e1 e2 e3 => ?_
  rw [hsl] at e1 ⊢
  refine kk H' _ (wd_put hW e2 e3 hV hG ?_) (hS.put e2 e3 hza)
  rw [enc_o hK hci, ← hset]
  exact wk_putat (own := own) hts hin ty0 hty hnm hE.1 hc hk (by rw [fce_len]; exact hkn) q2 q3 q4 e1
theorem wk_putN (hx : p.tables.exec = Jvm.exec) (hb : c.code = cc) (hts : ∀ w ∈ lw_all, w.before args s = true) {own C host : String} {T : u_T} {N ci k index : Nat} (hown : s.vm.findClass own = some m.cls) (hE : En D cy s) (hW : Wd Y cy D z n V G H) (hS : va_S (zA z) H0 H locs) (hc : vwCl[ci]? = some (C, T, N)) (hin : ∀ w ∈ u_ws C T N, w ∈ lw_all) (hk : k < N) (hl : Cond.fieldLinkNest own index C (T k).2.1 (T k).2.2.1 host ∈ nw_all) (hT : (T k).1 = C) (hci : ci < 5) (ty0 : Nat → FieldType) (hty : ∀ k, k < N → parseFieldDescriptor (T k).2.2.1 = some (ty0 k)) (hnm : ∀ a, a < N → ∀ b, b < N → a ≠ b → (T a).2.1 ≠ (T b).2.1) (hfin : (T k).2.2.2 = false) {ty : FieldType} {v : Value} (hd : parseFieldDescriptor (T k).2.2.1 = some ty) (hn : narrow ty v = v) (hfit : fits ty v = true) (hkn : k < nfd ci)
    {V' : mV} {G' : mG} (hset : (fce ci (V a) (G a)).set k v = fce ci (V' a) (G' a)) (hV : ∀ b, b ≠ a → V' b = V b) (hG : ∀ b, b ≠ a → G' b = G b) (hK : Y.1 a = ci) (hdg : decode cc pc = .ok (.putfield index, 3))
    (kk : ∀ (H1 : Heap) (locs1 : List Loc), Wd Y cy D z n V' G' H1 → va_S (zA z) H0 H1 locs1 → W p l e R s m args below meth c H1 locs1 cells slots Q (F0 m (pc + 3) ls rest)) : W p l e R s m args below meth c H locs cells slots Q (F0 m pc ls (v :: .ref a :: rest)) := by
  have hza := (hW.2 a (by omega)).1
  have h1 := (hW.2 a (by omega)).2
  rw [enc_o hK hci] at h1
  obtain ⟨r, g1, cell, q1, q2, q3, q4⟩ := h1
  have hr : r = (C, T, N) := Option.some.inj (g1.symm.trans hc)
  subst hr
  obtain ⟨hSl, hfc, kC, hkC, hkind⟩ := hE.1.1 ci _ hc
  obtain ⟨cf, kf, fi, f, hi, hsl⟩ := hSl k hk
  have hlay := hts _ (hin _ (u_in_lay hk))
  unfold u_lay at hlay
  rw [if_neg (by rw [hfin]; decide)] at hlay
  have hst := (u_facts hfc hkC (u_lays hts hin hk) hi).1
  have h6 := u_store hfc hkC hkind hlay hi hd hn hfit
  refine va_WputK hx hb (f := f) hown (va_Nw.use rfl (hE.2.1 _ hl)) (by have h := hi; rw [hT] at h; exact h) hst (by rw [q2]; exact h6) q1 q3 (by rw [hsl]; exact k2_hasslot (q4 k hk)) rfl rfl hdg fun H' e1 e2 e3 => ?_
  rw [hsl] at e1 ⊢
  refine kk H' _ (wd_put hW e2 e3 hV hG ?_) (hS.put e2 e3 hza)
  rw [enc_o hK hci, ← hset]
  exact wk_putat (own := own) hts hin ty0 hty hnm hE.1 hc hk (by rw [fce_len]; exact hkn) q2 q3 q4 e1
theorem wk_putF (hx : p.tables.exec = Jvm.exec) (hb : c.code = cc) (hts : ∀ w ∈ lw_all, w.before args s = true) {own C : String} {T : u_T} {N ci k index : Nat} (hown : s.vm.findClass own = some m.cls) (hE : En D cy s) (hW : Wd Y cy D z n V G H) (hS : va_S (zA z) H0 H locs) (hc : vwCl[ci]? = some (C, T, N)) (hin : ∀ w ∈ u_ws C T N, w ∈ lw_all) (hk : k < N) (hl : Cond.fieldLink own index C (T k).2.1 (T k).2.2.1 ∈ lw_all) (hT : (T k).1 = C) (hCo : C = own) (hci : ci < 5) (ty0 : Nat → FieldType) (hty : ∀ k, k < N → parseFieldDescriptor (T k).2.2.1 = some (ty0 k)) (hnm : ∀ a, a < N → ∀ b, b < N → a ≠ b → (T a).2.1 ≠ (T b).2.1) (hfin : (T k).2.2.2 = true) {ty : FieldType} {v : Value} (hd : parseFieldDescriptor (T k).2.2.1 = some ty) (hn : narrow ty v = v) (hfit : fits ty v = true) (hkn : k < nfd ci) (hin2 : meth.name = "<init>")
    {V' : mV} {G' : mG} (hset : (fce ci (V a) (G a)).set k v = fce ci (V' a) (G' a)) (hV : ∀ b, b ≠ a → V' b = V b) (hG : ∀ b, b ≠ a → G' b = G b) (hK : Y.1 a = ci) (hdg : decode cc pc = .ok (.putfield index, 3))
    (kk : ∀ (H1 : Heap) (locs1 : List Loc), Wd Y cy D z n V' G' H1 → va_S (zA z) H0 H1 locs1 → W p l e R s m args below meth c H1 locs1 cells slots Q (F0 m (pc + 3) ls rest)) : W p l e R s m args below meth c H locs cells slots Q (F0 m pc ls (v :: .ref a :: rest)) := by
  have hza := (hW.2 a (by omega)).1
  have h1 := (hW.2 a (by omega)).2
  rw [enc_o hK hci] at h1
  obtain ⟨r, g1, cell, q1, q2, q3, q4⟩ := h1
  have hr : r = (C, T, N) := Option.some.inj (g1.symm.trans hc)
  subst hr
  obtain ⟨hSl, hfc, kC, hkC, hkind⟩ := hE.1.1 ci _ hc
  obtain ⟨cf, kf, fi, f, hi, hsl⟩ := hSl k hk
  have hlay := hts _ (hin _ (u_in_lay hk))
  unfold u_lay at hlay
  rw [if_pos hfin] at hlay
  have hst := (u_facts hfc hkC (u_lays hts hin hk) hi).1
  have hcf : m.cls = cf := by
    obtain ⟨_, _, c', _, _, _, -, -, hf', -, -, -, hown2, -⟩ := Cond.laysFinal_spec hlay
    have e1 : c' = cf := by have := hi.symm.trans hf'; simp at this; exact this.1.symm
    rw [hT, hCo] at hown2
    rw [← e1]; exact Option.some.inj (hown.symm.trans hown2)
  have h6 := u_fits hfc hkC hkind (Or.inr hlay) hi hd hn hfit
  refine W.putFinK hx hb hown (hts _ hl) (by have h := hi; rw [hT] at h; exact h) hst hcf hin2 (by rw [q2]; exact h6) q1 q3 (by rw [hsl]; exact k2_hasslot (q4 k hk)) rfl rfl hdg fun H' e1 e2 e3 => ?_
  rw [hsl] at e1 ⊢
  refine kk H' _ (wd_put hW e2 e3 hV hG ?_) (hS.put e2 e3 hza)
  rw [enc_o hK hci, ← hset]
  exact wk_putat (own := own) hts hin ty0 hty hnm hE.1 hc hk (by rw [fce_len]; exact hkn) q2 q3 q4 e1
-- arrays
theorem wk_iald (hx : p.tables.exec = Jvm.exec) (hb : c.code = cc) (hE : En D cy s) (hW : Wd Y cy D z n V G H) {i : Int32} (hK : Y.1 a = 6) (hi : ¬ (i < 0 ∨ Y.2 a ≤ i.toNatClampNeg)) (hdg : decode cc pc = .ok (.iaload, 1))
    (kk : W p l e R s m args below meth c H locs cells slots Q (F0 m (pc + 1) ls (.int (V a i.toNatClampNeg) :: rest))) : W p l e R s m args below meth c H locs cells slots Q (F0 m pc ls (.int i :: .ref a :: rest)) := by
  have h1 := (hW.2 a (by omega)).2
  rw [enc_i hK (by omega) (by omega)] at h1
  exact va_iald hx hb hE.1 (va_P1 h1) 0 1 rfl rfl hi hdg kk
theorem wk_cald (hx : p.tables.exec = Jvm.exec) (hb : c.code = cc) (hE : En D cy s) (hW : Wd Y cy D z n V G H) {i : Int32} (hK : Y.1 a = 5) (hi : ¬ (i < 0 ∨ Y.2 a ≤ i.toNatClampNeg)) (hdg : decode cc pc = .ok (.caload, 1))
    (kk : W p l e R s m args below meth c H locs cells slots Q (F0 m (pc + 1) ls (.int (V a i.toNatClampNeg) :: rest))) : W p l e R s m args below meth c H locs cells slots Q (F0 m pc ls (.int i :: .ref a :: rest)) := by
  have h1 := (hW.2 a (by omega)).2
  rw [enc_i hK (by omega) (by omega)] at h1
  exact va_cald hx hb hE.1 (va_P1 h1) 0 0 rfl rfl hi hdg kk
theorem wk_aald (hx : p.tables.exec = Jvm.exec) (hb : c.code = cc) (hE : En D cy s) (hW : Wd Y cy D z n V G H) {i : Int32} (hK : Y.1 a = 7 ∨ Y.1 a = 8) (hi : ¬ (i < 0 ∨ Y.2 a ≤ i.toNatClampNeg)) {q : Nat} (hq : G a i.toNatClampNeg = some q) (hdg : decode cc pc = .ok (.aaload, 1))
    (kk : W p l e R s m args below meth c H locs cells slots Q (F0 m (pc + 1) ls (.ref q :: rest))) : W p l e R s m args below meth c H locs cells slots Q (F0 m pc ls (.int i :: .ref a :: rest)) := by
  have h1 := (hW.2 a (by omega)).2
  have kk : W p l e R s m args below meth c H locs cells slots Q (F0 m (pc + 1) ls (va_rf (G a i.toNatClampNeg) :: rest)) := by rw [hq]; exact kk
  rcases hK with hK | hK
  · rw [enc_q hK (by omega)] at h1
    exact va_aldq hx hb hE.1 (va_P1 h1) 0 2 rfl rfl hi hdg kk
  · rw [enc_q hK (by omega)] at h1
    exact va_aldq hx hb hE.1 (va_P1 h1) 0 3 rfl rfl hi hdg kk
theorem wk_alen (hx : p.tables.exec = Jvm.exec) (hb : c.code = cc) (hE : En D cy s) (hW : Wd Y cy D z n V G H) (hK : Y.1 a = 6) (hdg : decode cc pc = .ok (.arraylength, 1))
    (kk : W p l e R s m args below meth c H locs cells slots Q (F0 m (pc + 1) ls (.int (Int32.ofNat (Y.2 a)) :: rest))) : W p l e R s m args below meth c H locs cells slots Q (F0 m pc ls (.ref a :: rest)) := by
  have h1 := (hW.2 a (by omega)).2
  rw [enc_i hK (by omega) (by omega)] at h1
  exact va_alen hx hb hE.1 (va_P1 h1) 0 1 rfl rfl rfl hdg kk
theorem updV_i (f : Nat → Int32) (k : Nat) (x : Int32) : updV (fun j => Value.int (f j)) k (.int x) = fun j => Value.int (va_up f k x j) := by
  funext q
  by_cases hq : q = k
  · subst hq; simp [updV, va_up]
  · simp [updV, va_up, hq]
theorem updV_r (f : Nat → Option Nat) (k : Nat) (x : Nat) : updV (fun j => va_rf (f j)) k (.ref x) = fun j => va_rf (va_up f k (some x) j) := by
  funext q
  by_cases hq : q = k
  · subst hq; simp [updV, va_up, va_rf]
  · simp [updV, va_up, hq]
theorem wk_iast (hx : p.tables.exec = Jvm.exec) (hb : c.code = cc) (hE : En D cy s) (hW : Wd Y cy D z n V G H) (hS : va_S (zA z) H0 H locs) {i x : Int32} (hK : Y.1 a = 6) (hi : ¬ (i < 0 ∨ Y.2 a ≤ i.toNatClampNeg)) (hdg : decode cc pc = .ok (.iastore, 1))
    (kk : ∀ (H1 : Heap) (locs1 : List Loc), Wd Y cy D z n (up2 V a i.toNatClampNeg x) G H1 → va_S (zA z) H0 H1 locs1 → W p l e R s m args below meth c H1 locs1 cells slots Q (F0 m (pc + 1) ls rest)) : W p l e R s m args below meth c H locs cells slots Q (F0 m pc ls (.int x :: .int i :: .ref a :: rest)) := by
  have hza := (hW.2 a (by omega)).1
  have h1 := (hW.2 a (by omega)).2
  rw [enc_i hK (by omega) (by omega)] at h1
  have h1 : H[a]? = some (arrV (cy 1) (Y.2 a) (fun j => .int (V a j))) := h1
  refine W.iast hx hb h1 ((hE.1.2 1 _ rfl).1 (Y.2 a) (fun j => .int (V a j))) (fun q => by cases q) (by rw [arrV_size]; exact hi) rfl rfl hdg fun H1 e z1 oq => ?_
  refine kk H1 _ (wd_put hW z1 oq (up2_o _ _ _ _) (fun _ _ => rfl) ?_) (hS.put z1 oq hza)
  rw [enc_i hK (by omega) (by omega), up2_s]
  show H1[a]? = some (arrV (cy 1) (Y.2 a) (fun j => .int (va_up (V a) i.toNatClampNeg x j)))
  rw [e, arrV_store, updV_i]
theorem wk_cast (hx : p.tables.exec = Jvm.exec) (hb : c.code = cc) (hE : En D cy s) (hW : Wd Y cy D z n V G H) (hS : va_S (zA z) H0 H locs) {i x : Int32} (hK : Y.1 a = 5) (hi : ¬ (i < 0 ∨ Y.2 a ≤ i.toNatClampNeg)) (hdg : decode cc pc = .ok (.castore, 1))
    (kk : ∀ (H1 : Heap) (locs1 : List Loc), Wd Y cy D z n (up2 V a i.toNatClampNeg (vp_nar .char x)) G H1 → va_S (zA z) H0 H1 locs1 → W p l e R s m args below meth c H1 locs1 cells slots Q (F0 m (pc + 1) ls rest)) : W p l e R s m args below meth c H locs cells slots Q (F0 m pc ls (.int x :: .int i :: .ref a :: rest)) := by
  have hza := (hW.2 a (by omega)).1
  have h1 := (hW.2 a (by omega)).2
  rw [enc_i hK (by omega) (by omega)] at h1
  have h1 : H[a]? = some (arrV (cy 0) (Y.2 a) (fun j => .int (V a j))) := h1
  refine W.cast hx hb h1 ((hE.1.2 0 _ rfl).1 (Y.2 a) (fun j => .int (V a j))) (fun q => by cases q) (by rw [arrV_size]; exact hi) rfl rfl hdg fun H1 e z1 oq => ?_
  refine kk H1 _ (wd_put hW z1 oq (up2_o _ _ _ _) (fun _ _ => rfl) ?_) (hS.put z1 oq hza)
  rw [enc_i hK (by omega) (by omega), up2_s]
  show H1[a]? = some (arrV (cy 0) (Y.2 a) (fun j => .int (va_up (V a) i.toNatClampNeg (vp_nar .char x) j)))
  rw [e, arrV_store, ← updV_i]
  rfl
theorem wk_aast (hx : p.tables.exec = Jvm.exec) (hb : c.code = cc) (hE : En D cy s) (hW : Wd Y cy D z n V G H) (hS : va_S (zA z) H0 H locs) {i : Int32} {v : Nat} (hK : (Y.1 a = 7 ∧ Y.1 v = 0) ∨ (Y.1 a = 8 ∧ Y.1 v = 2)) (hi : ¬ (i < 0 ∨ Y.2 a ≤ i.toNatClampNeg)) (hdg : decode cc pc = .ok (.aastore, 1))
    (kk : ∀ (H1 : Heap) (locs1 : List Loc), Wd Y cy D z n V (up2 G a i.toNatClampNeg (some v)) H1 → va_S (zA z) H0 H1 locs1 → W p l e R s m args below meth c H1 locs1 cells slots Q (F0 m (pc + 1) ls rest)) : W p l e R s m args below meth c H locs cells slots Q (F0 m pc ls (.ref v :: .int i :: .ref a :: rest)) := by
  have hlt : i.toNatClampNeg < Y.2 a := Nat.not_le.mp fun q => hi (Or.inr q)
  have h0 : ¬ i < 0 := fun q => hi (Or.inl q)
  have key : ∀ (t0 ci : Nat) (r : vw_C), [(cy 0, FieldType.char), (cy 1, .int), (cy 2, .object RX0), (cy 3, .object RX2)][t0]? = some (cy t0, .object r.1) → vwCl[ci]? = some r → t0 = 2 ∨ t0 = 3 → ci < 5 → Y.1 a = t0 + 5 → Y.1 v = ci → W p l e R s m args below meth c H locs cells slots Q (F0 m pc ls (.ref v :: .int i :: .ref a :: rest)) := by
    intro t0 ci r ht hc ht0 hci hKa hKv
    have hza := (hW.2 a (by omega)).1
    have h1 := (hW.2 a (by omega)).2
    rw [enc_q hKa (by omega)] at h1
    rw [show t0 + 5 - 5 = t0 by omega] at h1
    have h1 : H[a]? = some (arrV (cy t0) (Y.2 a) (fun j => va_rf (G a j))) := h1
    have h2 := (hW.2 v (by omega)).2
    rw [enc_o hKv hci] at h2
    obtain ⟨r', hr', cellV, g1, g2, g3, -⟩ := h2
    have hcls := (hE.1.1 ci r hc).2
    obtain ⟨kA, comp, k1, k2, k3, -⟩ := (hE.1.2 t0 _ ht).2
    have hcomp : comp = D.1 ci := Option.some.inj (k3.symm.trans hcls.1)
    subst hcomp
    obtain ⟨kC, hkC, -⟩ := hcls.2
    refine W.aast hx hb h1 (fun q h => by cases h) (fun h => by cases h) k1 k2 rfl hkC ⟨h0, by rw [arrV_size]; exact hlt⟩ g1 (fun q h => by rw [g3] at h; cases h) (by rw [g2]; exact hkC) (by rw [g2]; exact va_assign hcls) rfl rfl hdg fun H1 e z1 oq => ?_
    refine kk H1 _ (wd_put hW z1 oq (fun _ _ => rfl) (up2_o _ _ _ _) ?_) (hS.put z1 oq hza)
    rw [enc_q hKa (by omega), up2_s, show t0 + 5 - 5 = t0 by omega]
    show H1[a]? = some (arrV (cy t0) (Y.2 a) (fun j => va_rf (va_up (G a) i.toNatClampNeg (some v) j)))
    rw [e, arrV_store, updV_r]
  rcases hK with ⟨h1, h2⟩ | ⟨h1, h2⟩
  · exact key 2 0 (RX0, TX0, 14) rfl rfl (Or.inl rfl) (by omega) h1 h2
  · exact key 3 2 (RX2, TX2, 9) rfl rfl (Or.inr rfl) (by omega) h1 h2
end WK
end
section
-- CONTRACTS, ends, calls, making
abbrev rmd (d : Nat) : Room := { frames := d, cells := 0, slots := 0, locals := 40 * d }
def QC (D : va_G) (cy : Nat → ClassId) (z : Nat) (Y : mY) (n : Nat) (V : mV) (G : mG) (res : Option Value) : Array Value → State → Outcome → State → Prop := fun _ st o t => (o = .returned res ∧ Wd Y cy D z n V G t.heap) ∧ va_F (zA z) st t
/-- from any state that holds the memory (Y, n, V, G) the method returns res, and leaves (Y1, n1, V1, G1) -/
def CT (l : Launch) (y : MethodName) (cc : ByteArray) (maxL : Nat) (ret : Option FieldType) (rm : Room) (D : va_G) (cy : Nat → ClassId) (z : Nat) (av : List Value) (Y : mY) (n : Nat) (V : mV) (G : mG) (res : Option Value) (Y1 : mY) (n1 : Nat) (V1 : mV) (G1 : mG) : Prop :=
  Met l y (Cond.code y cc maxL ret :: lw_all) rm (va_Pc av (fun U => Wd Y cy D z n V G U.heap ∧ En D cy U)) (QC D cy z Y1 n1 V1 G1 res) rm.cells rm.slots (zA z)
theorem ct_of {l : Launch} {y : MethodName} {cc : ByteArray} {maxL : Nat} {ret : Option FieldType} {rm : Room} {D : va_G} {cy : Nat → ClassId} {z : Nat} {av : List Value} {Y : mY} {n : Nat} {V : mV} {G : mG} {res : Option Value} {Y1 : mY} {n1 : Nat} {V1 : mV} {G1 : mG} (hy : plainName y.cls = true) (hn : (lg_sl av).length ≤ maxL)
    (body : ∀ (p : Program) (e : Env) (s : State) (m : MethodId) (args : Array Value) (below : List Frame) (meth : Method) (c : Code) (ls : Array Slot), p.tables.exec = Jvm.exec → c.code = cc → meth.sig.returnType = ret → c.maxLocals = maxL → s.vm.findClass y.cls = some m.cls → (∀ w ∈ lw_all, w.before args s = true) → meth.locks = false → meth.name = y.name → En D cy s → Wd Y cy D z n V G s.heap → lv_has ls maxL (lv_args 0 av) →
      W p l e rm s m args below meth c s.heap [] 0 0 (MQ below (QC D cy z Y1 n1 V1 G1 res) args s rm.cells rm.slots (zA z)) (F0 m 0 ls [])) : CT l y cc maxL ret rm D cy z av Y n V G res Y1 n1 V1 G1 := by
  refine Met.ofW (cc := cc) (maxL := maxL) (ret := ret) hy rfl ?_
  intro p e s m args below meth c s₁ B hml hv
  obtain ⟨rfl, hW, hE⟩ := hv
  have hts0 := atoms_spec (ws := Cond.code y cc maxL ret :: lw_all) B.pre
  have hl := lv_entry av (n := maxL) hn
  rw [lg_entry_eq]
  generalize (lg_sl av ++ List.replicate (maxL - (lg_sl av).length) Slot.unset).toArray = ls at hl ⊢
  exact body p e s m _ below meth c ls B.exec B.bytes B.returns hml (findClass_of_methodNamed B.named) (fun w h => hts0 w (List.mem_cons_of_mem _ h)) B.notSynchronized (name_of_methodNamed B.named B.method).1 hE hW hl
section WR
variable {p : Program} {l : Launch} {e : Env} {R : Room} {s : State} {m : MethodId} {args : Array Value} {below : List Frame} {meth : Method} {c : Code} {H : Heap} {locs : List Loc} {cells slots : Nat} {Q : State → Prop}
variable {cc : ByteArray} {pc : Nat} {ls : Array Slot} {rest st0 : List Value} {D : va_G} {cy : Nat → ClassId} {z n a : Nat} {Y : mY} {V : mV} {G : mG} {H0 : Heap}
theorem wk_iret {v : Int32} (hx : p.tables.exec = Jvm.exec) (hb : c.code = cc) (hr : meth.sig.returnType = some .int) (hlocks : meth.locks = false) (hW : Wd Y cy D z n V G H) (hS : va_S (zA z) s.heap H locs) (hdg : decode cc pc = .ok (.ireturn, 1)) : W p l e R s m args below meth c H locs cells slots (MQ below (QC D cy z Y n V G (some (.int v))) args s cells slots (zA z)) (F0 m pc ls [.int v]) :=
  W.iret hx hb hr (fun t ht _ => ⟨⟨rfl, by rw [ht]; exact hW⟩, hS.F ht⟩) hS.2.2 hdg hlocks
theorem wk_zret {v : Int32} (hx : p.tables.exec = Jvm.exec) (hb : c.code = cc) (hr : meth.sig.returnType = some .boolean) (hlocks : meth.locks = false) (hv : v = 0 ∨ v = 1) (hW : Wd Y cy D z n V G H) (hS : va_S (zA z) s.heap H locs) (hdg : decode cc pc = .ok (.ireturn, 1)) : W p l e R s m args below meth c H locs cells slots (MQ below (QC D cy z Y n V G (some (.int v))) args s cells slots (zA z)) (F0 m pc ls [.int v]) :=
  W.zret hx hb hr (by rcases hv with rfl | rfl <;> rfl) (fun t ht _ => ⟨⟨rfl, by rw [ht]; exact hW⟩, hS.F ht⟩) hS.2.2 hdg hlocks
theorem wk_lret {v : Int64} (hx : p.tables.exec = Jvm.exec) (hb : c.code = cc) (hr : meth.sig.returnType = some .long) (hlocks : meth.locks = false) (hW : Wd Y cy D z n V G H) (hS : va_S (zA z) s.heap H locs) (hdg : decode cc pc = .ok (.lreturn, 1)) : W p l e R s m args below meth c H locs cells slots (MQ below (QC D cy z Y n V G (some (.long v))) args s cells slots (zA z)) (F0 m pc ls [.long v]) :=
  W.lret hx hb hr (fun t ht _ => ⟨⟨rfl, by rw [ht]; exact hW⟩, hS.F ht⟩) hS.2.2 hdg hlocks
theorem wk_vret (hx : p.tables.exec = Jvm.exec) (hb : c.code = cc) (hr : meth.sig.returnType = none) (hlocks : meth.locks = false) (hW : Wd Y cy D z n V G H) (hS : va_S (zA z) s.heap H locs) (hdg : decode cc pc = .ok (.return_, 1)) : W p l e R s m args below meth c H locs cells slots (MQ below (QC D cy z Y n V G none) args s cells slots (zA z)) (F0 m pc ls []) :=
  W.vret hx hb hr (fun t ht _ => ⟨⟨rfl, by rw [ht]; exact hW⟩, hS.F ht⟩) hS.2.2 hdg hlocks
-- calls
theorem wk_call {mc ms : Nat} {Y1 : mY} {n1 : Nat} {V1 : mV} {G1 : mG} {res : Option Value} {a : Array Value} {z0 : State → Outcome → State → Prop} (hz0 : z0 = QC D cy z Y1 n1 V1 G1 res a) (hr : va_Run p l e R s m args below meth c H locs cells slots mc ms (F0 m pc ls st0) rest z0 (zA z)) (hS : va_S (zA z) H0 H locs)
    (kk : ∀ (H1 : Heap) (locs1 : List Loc), Wd Y1 cy D z n1 V1 G1 H1 → va_S (zA z) H0 H1 locs1 → W p l e R s m args below meth c H1 locs1 (cells + mc) (slots + ms) Q (F0 m (pc + 3) ls (res.toList ++ rest))) : W p l e R s m args below meth c H locs cells slots Q (F0 m pc ls st0) := by
  subst hz0
  intro T hT X
  obtain ⟨v, st₀, t, T', L, h0, X', hL, e1, e2, ⟨⟨hv, hw⟩, hz, hk⟩, st⟩ := hr T hT X
  cases hv
  rw [h0] at hz hk
  obtain ⟨t2, a1, b1⟩ := kk T'.heap (locs ++ L) (by rw [e1]; exact hw)
    ⟨Nat.le_trans hS.1 (by rw [e1]; exact hz), fun q h1 h2 => by rw [e1, hk q (Nat.lt_of_lt_of_le h1 hS.1) h2]; exact hS.2.1 q h1 h2, fun q hq => by
      rcases List.mem_append.mp hq with h | h
      · exact hS.2.2 q h
      · exact hL q h⟩ T' rfl X'
  exact ⟨t2, st t2 a1, b1⟩
theorem wk_pre {s : State} {H : Heap} {av : List Value} (hE : En D cy s) (hW : Wd Y cy D z n V G H) : PreS s H (va_Pc av (fun U => Wd Y cy D z n V G U.heap ∧ En D cy U)) av :=
  ⟨fun a U g mk q => ⟨q.1, q.2.1, q.2.2.calling⟩, fun U hU hWm => ⟨rfl, by rw [hU]; exact hW, hE.warm hWm⟩⟩
theorem wk_recv {s : State} {H : Heap} {b ci : Nat} {r : vw_C} (hE : En D cy s) (hW : Wd Y cy D z n V G H) (hK : Y.1 b = ci) (hci : ci < 5) (hc : vwCl[ci]? = some r) : ∃ cellB : Cell, H[b]? = some cellB ∧ cellB.vm.isStatics = false ∧ s.vm.findClass r.1 = some cellB.cls := by
  have h1 := (hW.2 b (by omega)).2
  rw [enc_o hK hci] at h1
  exact va_recv hE.1 (va_P1 h1) hc (q0 := 0) rfl
variable {y : MethodName} {bytes : ByteArray} {maxL nL k index : Nat} {ret : Option FieldType} {rm : Room} {own : String} {b : Nat} {As : List Value} {Y1 : mY} {n1 : Nat} {V1 : mV} {G1 : mG} {res : Option Value}
theorem wk_V (hx : p.tables.exec = Jvm.exec) (hb : c.code = cc) (hml : c.maxLocals = nL) (hown : s.vm.findClass own = some m.cls) (hts : ∀ w ∈ lw_all, w.before args s = true) (hE : En D cy s) {ci : Nat} {r : vw_C} (hci : ci < 5) (hc : vwCl[ci]? = some r) (hyc : y.cls = r.1) (hcode : Cond.code y bytes maxL ret ∈ lw_all) (hini : Cond.initialized y.cls ∈ lw_all) (hlink : Cond.methodLink own index y ∈ lw_all) (hinst : Cond.instanceMethod y ∈ lw_all) (hsel : Cond.selects y.cls y y ∈ lw_all) (hd : y.cls ≠ "java/lang/invoke/MethodHandle" ∧ y.cls ≠ "java/lang/invoke/VarHandle" ∧ (parseMethodDescriptor y.desc).map (fun d => d.parameters.length) = some k)
    (hM : CT l y bytes maxL ret rm D cy z (.ref b :: As) Y n V G res Y1 n1 V1 G1) (hW : Wd Y cy D z n V G H) (hS : va_S (zA z) H0 H locs) (hK : Y.1 b = ci) (hk : As.length = k) (hst : st0 = As.reverse ++ .ref b :: rest) (hsize : ls.size = nL) (hrest : (rest.map fun v => v.category).sum ≤ 8) (hR : rm.frames + 1 ≤ R.frames ∧ 8 + (maxL + 11) + rm.locals ≤ R.locals) (hdg : decode cc pc = .ok (.invokevirtual index, 3)) (hf : cells + rm.cells ≤ R.cells ∧ slots + rm.slots ≤ R.slots)
    (kk : ∀ (H1 : Heap) (locs1 : List Loc), Wd Y1 cy D z n1 V1 G1 H1 → va_S (zA z) H0 H1 locs1 → W p l e R s m args below meth c H1 locs1 (cells + rm.cells) (slots + rm.slots) Q (F0 m (pc + 3) ls (res.toList ++ rest))) : W p l e R s m args below meth c H locs cells slots Q (F0 m pc ls st0) := by
  subst hst
  have hrv := wk_recv hE hW hK hci hc
  rw [← hyc] at hrv
  exact wk_call rfl (va_runV (C := y.cls) (As := As) (rest := rest) ⟨hx, hb, hml, hown, hts⟩ hM ⟨callB_of k hts (gi_ws hcode) rfl rfl rfl (hts _ hini) (hts _ hlink) hd hR, hts _ hinst, hts _ hsel⟩ ⟨(wk_pre hE hW).1, hrv, (wk_pre hE hW).2⟩ rfl hk hsize rfl (lv_room hrest) hdg hf) hS kk
theorem wk_VN {host : String} (hx : p.tables.exec = Jvm.exec) (hb : c.code = cc) (hml : c.maxLocals = nL) (hown : s.vm.findClass own = some m.cls) (hts : ∀ w ∈ lw_all, w.before args s = true) (hE : En D cy s) {ci : Nat} {r : vw_C} (hci : ci < 5) (hc : vwCl[ci]? = some r) (hyc : y.cls = r.1) (hcode : Cond.code y bytes maxL ret ∈ lw_all) (hini : Cond.initialized y.cls ∈ lw_all) (hlink : Cond.methodLinkNest own index y host ∈ nw_all) (hinst : Cond.instanceMethod y ∈ lw_all) (hsel : Cond.selects y.cls y y ∈ lw_all) (hd : y.cls ≠ "java/lang/invoke/MethodHandle" ∧ y.cls ≠ "java/lang/invoke/VarHandle" ∧ (parseMethodDescriptor y.desc).map (fun d => d.parameters.length) = some k)
    (hM : CT l y bytes maxL ret rm D cy z (.ref b :: As) Y n V G res Y1 n1 V1 G1) (hW : Wd Y cy D z n V G H) (hS : va_S (zA z) H0 H locs) (hK : Y.1 b = ci) (hk : As.length = k) (hst : st0 = As.reverse ++ .ref b :: rest) (hsize : ls.size = nL) (hrest : (rest.map fun v => v.category).sum ≤ 8) (hR : rm.frames + 1 ≤ R.frames ∧ 8 + (maxL + 11) + rm.locals ≤ R.locals) (hdg : decode cc pc = .ok (.invokevirtual index, 3)) (hf : cells + rm.cells ≤ R.cells ∧ slots + rm.slots ≤ R.slots)
    (kk : ∀ (H1 : Heap) (locs1 : List Loc), Wd Y1 cy D z n1 V1 G1 H1 → va_S (zA z) H0 H1 locs1 → W p l e R s m args below meth c H1 locs1 (cells + rm.cells) (slots + rm.slots) Q (F0 m (pc + 3) ls (res.toList ++ rest))) : W p l e R s m args below meth c H locs cells slots Q (F0 m pc ls st0) := by
  subst hst
  have hrv := wk_recv hE hW hK hci hc
  rw [← hyc] at hrv
  exact wk_call rfl (va_runVN (C := y.cls) (host := host) (As := As) (rest := rest) ⟨hx, hb, hml, hown, hts⟩ hM ⟨va_cnB k hts (gi_ws hcode) rfl rfl rfl (hE.2.1 _ hlink) (hts _ hini) hd hR, hts _ hinst, hts _ hsel⟩ ⟨(wk_pre hE hW).1, hrv, (wk_pre hE hW).2⟩ rfl hk hsize rfl (lv_room hrest) hdg hf) hS kk
theorem wk_S (hx : p.tables.exec = Jvm.exec) (hb : c.code = cc) (hml : c.maxLocals = nL) (hown : s.vm.findClass own = some m.cls) (hts : ∀ w ∈ lw_all, w.before args s = true) (hE : En D cy s) (hcode : Cond.code y bytes maxL ret ∈ lw_all) (hini : Cond.initialized y.cls ∈ lw_all) (hlink : Cond.methodLink own index y ∈ lw_all) (hstat : Cond.static y ∈ lw_all) (hd : y.cls ≠ "java/lang/invoke/MethodHandle" ∧ y.cls ≠ "java/lang/invoke/VarHandle" ∧ (parseMethodDescriptor y.desc).map (fun d => d.parameters.length) = some k)
    (hM : CT l y bytes maxL ret rm D cy z As Y n V G res Y1 n1 V1 G1) (hW : Wd Y cy D z n V G H) (hS : va_S (zA z) H0 H locs) (hk : As.length = k) (hst : st0 = As.reverse ++ rest) (hsize : ls.size = nL) (hrest : (rest.map fun v => v.category).sum ≤ 8) (hR : rm.frames + 1 ≤ R.frames ∧ 8 + (maxL + 11) + rm.locals ≤ R.locals) (hdg : decode cc pc = .ok (.invokestatic index, 3)) (hf : cells + rm.cells ≤ R.cells ∧ slots + rm.slots ≤ R.slots)
    (kk : ∀ (H1 : Heap) (locs1 : List Loc), Wd Y1 cy D z n1 V1 G1 H1 → va_S (zA z) H0 H1 locs1 → W p l e R s m args below meth c H1 locs1 (cells + rm.cells) (slots + rm.slots) Q (F0 m (pc + 3) ls (res.toList ++ rest))) : W p l e R s m args below meth c H locs cells slots Q (F0 m pc ls st0) := by
  subst hst
  exact wk_call rfl (va_runS (As := As) (rest := rest) ⟨hx, hb, hml, hown, hts⟩ hM ⟨callB_of k hts (gi_ws hcode) rfl rfl rfl (hts _ hini) (hts _ hlink) hd hR, hts _ hstat⟩ (wk_pre hE hW) rfl hk hsize rfl (lv_room hrest) hdg hf) hS kk
theorem wk_SN {host : String} (hx : p.tables.exec = Jvm.exec) (hb : c.code = cc) (hml : c.maxLocals = nL) (hown : s.vm.findClass own = some m.cls) (hts : ∀ w ∈ lw_all, w.before args s = true) (hE : En D cy s) (hcode : Cond.code y bytes maxL ret ∈ lw_all) (hini : Cond.initialized y.cls ∈ lw_all) (hlink : Cond.methodLinkNest own index y host ∈ nw_all) (hstat : Cond.static y ∈ lw_all) (hd : y.cls ≠ "java/lang/invoke/MethodHandle" ∧ y.cls ≠ "java/lang/invoke/VarHandle" ∧ (parseMethodDescriptor y.desc).map (fun d => d.parameters.length) = some k)
    (hM : CT l y bytes maxL ret rm D cy z As Y n V G res Y1 n1 V1 G1) (hW : Wd Y cy D z n V G H) (hS : va_S (zA z) H0 H locs) (hk : As.length = k) (hst : st0 = As.reverse ++ rest) (hsize : ls.size = nL) (hrest : (rest.map fun v => v.category).sum ≤ 8) (hR : rm.frames + 1 ≤ R.frames ∧ 8 + (maxL + 11) + rm.locals ≤ R.locals) (hdg : decode cc pc = .ok (.invokestatic index, 3)) (hf : cells + rm.cells ≤ R.cells ∧ slots + rm.slots ≤ R.slots)
    (kk : ∀ (H1 : Heap) (locs1 : List Loc), Wd Y1 cy D z n1 V1 G1 H1 → va_S (zA z) H0 H1 locs1 → W p l e R s m args below meth c H1 locs1 (cells + rm.cells) (slots + rm.slots) Q (F0 m (pc + 3) ls (res.toList ++ rest))) : W p l e R s m args below meth c H locs cells slots Q (F0 m pc ls st0) := by
  subst hst
  exact wk_call rfl (va_runSN (host := host) (As := As) (rest := rest) ⟨hx, hb, hml, hown, hts⟩ hM ⟨va_cnB k hts (gi_ws hcode) rfl rfl rfl (hE.2.1 _ hlink) (hts _ hini) hd hR, hts _ hstat, trivial⟩ (wk_pre hE hW) rfl hk hsize rfl (lv_room hrest) hdg hf) hS kk
theorem wk_I (hx : p.tables.exec = Jvm.exec) (hb : c.code = cc) (hml : c.maxLocals = nL) (hown : s.vm.findClass own = some m.cls) (hts : ∀ w ∈ lw_all, w.before args s = true) (hE : En D cy s) (hcode : Cond.code y bytes maxL none ∈ lw_all) (hini : Cond.initialized y.cls ∈ lw_all) (hlink : Cond.methodLink own index y ∈ lw_all) (hinst : Cond.instanceMethod y ∈ lw_all) (hyn : y.name = "<init>") (hd : y.cls ≠ "java/lang/invoke/MethodHandle" ∧ y.cls ≠ "java/lang/invoke/VarHandle" ∧ (parseMethodDescriptor y.desc).map (fun d => d.parameters.length) = some k)
    (hM : CT l y bytes maxL none rm D cy z (.ref b :: As) Y n V G none Y1 n1 V1 G1) (hW : Wd Y cy D z n V G H) (hS : va_S (zA z) H0 H locs) (hk : As.length = k) (hst : st0 = As.reverse ++ .ref b :: rest) (hsize : ls.size = nL) (hrest : (rest.map fun v => v.category).sum ≤ 8) (hR : rm.frames + 1 ≤ R.frames ∧ 8 + (maxL + 11) + rm.locals ≤ R.locals) (hdg : decode cc pc = .ok (.invokespecial index, 3)) (hf : cells + rm.cells ≤ R.cells ∧ slots + rm.slots ≤ R.slots)
    (kk : ∀ (H1 : Heap) (locs1 : List Loc), Wd Y1 cy D z n1 V1 G1 H1 → va_S (zA z) H0 H1 locs1 → W p l e R s m args below meth c H1 locs1 (cells + rm.cells) (slots + rm.slots) Q (F0 m (pc + 3) ls rest)) : W p l e R s m args below meth c H locs cells slots Q (F0 m pc ls st0) := by
  subst hst
  exact wk_call rfl (va_runI (As := As) (rest := rest) ⟨hx, hb, hml, hown, hts⟩ hM ⟨callB_of k hts (gi_ws hcode) rfl rfl rfl (hts _ hini) (hts _ hlink) hd hR, hyn, hts _ hinst⟩ (wk_pre hE hW) rfl hk hsize rfl (lv_room hrest) hdg hf) hS kk
theorem wk_IN {host : String} (hx : p.tables.exec = Jvm.exec) (hb : c.code = cc) (hml : c.maxLocals = nL) (hown : s.vm.findClass own = some m.cls) (hts : ∀ w ∈ lw_all, w.before args s = true) (hE : En D cy s) (hcode : Cond.code y bytes maxL none ∈ lw_all) (hini : Cond.initialized y.cls ∈ lw_all) (hlink : Cond.methodLinkNest own index y host ∈ nw_all) (hinst : Cond.instanceMethod y ∈ lw_all) (hyn : y.name = "<init>") (hd : y.cls ≠ "java/lang/invoke/MethodHandle" ∧ y.cls ≠ "java/lang/invoke/VarHandle" ∧ (parseMethodDescriptor y.desc).map (fun d => d.parameters.length) = some k)
    (hM : CT l y bytes maxL none rm D cy z (.ref b :: As) Y n V G none Y1 n1 V1 G1) (hW : Wd Y cy D z n V G H) (hS : va_S (zA z) H0 H locs) (hk : As.length = k) (hst : st0 = As.reverse ++ .ref b :: rest) (hsize : ls.size = nL) (hrest : (rest.map fun v => v.category).sum ≤ 8) (hR : rm.frames + 1 ≤ R.frames ∧ 8 + (maxL + 11) + rm.locals ≤ R.locals) (hdg : decode cc pc = .ok (.invokespecial index, 3)) (hf : cells + rm.cells ≤ R.cells ∧ slots + rm.slots ≤ R.slots)
    (kk : ∀ (H1 : Heap) (locs1 : List Loc), Wd Y1 cy D z n1 V1 G1 H1 → va_S (zA z) H0 H1 locs1 → W p l e R s m args below meth c H1 locs1 (cells + rm.cells) (slots + rm.slots) Q (F0 m (pc + 3) ls rest)) : W p l e R s m args below meth c H locs cells slots Q (F0 m pc ls st0) := by
  subst hst
  exact wk_call rfl (va_runIN (host := host) (As := As) (rest := rest) ⟨hx, hb, hml, hown, hts⟩ hM ⟨va_cnB k hts (gi_ws hcode) rfl rfl rfl (hE.2.1 _ hlink) (hts _ hini) hd hR, hyn, hts _ hinst⟩ (wk_pre hE hW) rfl hk hsize rfl (lv_room hrest) hdg hf) hS kk
-- making
theorem wd_push {H1 : Heap} {V' : mV} {G' : mG} {k : Nat} (hW : Wd Y cy D z n V G H) (hz : z ≤ n) (z1 : H1.size = n + 1) (o1 : ∀ q, q < n → H1[q]? = H[q]?) (hV : ∀ b, b ≠ n → V' b = V b) (hG : ∀ b, b ≠ n → G' b = G b) (h : va_at D vwCl (n, enc (va_up Y.1 n k, Y.2) cy V' G' n) H1) : Wd (va_up Y.1 n k, Y.2) cy D z (n + 1) V' G' H1 := by
  refine ⟨z1, fun b hb => ?_⟩
  by_cases e : b = n
  · subst e; exact ⟨hz, h⟩
  · have hb : Y.1 b < 9 := by
      have := va_up_ne Y.1 k e
      simp only [this] at hb
      exact hb
    have h3 := hW.2 b hb
    have hlt := wd_lt hW hb
    refine ⟨h3.1, ?_⟩
    have h4 : enc (va_up Y.1 n k, Y.2) cy V' G' b = enc Y cy V G b := by
      have h5 : va_up Y.1 n k b = Y.1 b := va_up_ne _ _ e
      simp [enc, h5, hV b e, hG b e]
    rw [h4]
    exact va_at.kept h3.2 (o1 b hlt)
theorem wk_new (hx : p.tables.exec = Jvm.exec) (hb : c.code = cc) (hts : ∀ w ∈ lw_all, w.before args s = true) {C : String} {T : u_T} {N ci index : Nat} (hown : s.vm.findClass own = some m.cls) (hE : En D cy s) (hW : Wd Y cy D z n V G H) (hz : z ≤ H0.size) (hS : va_S (zA z) H0 H locs) (hc : vwCl[ci]? = some (C, T, N)) (hin : ∀ w ∈ u_ws C T N, w ∈ lw_all) (ty : Nat → FieldType) (hty : ∀ k, k < N → parseFieldDescriptor (T k).2.2.1 = some (ty k)) (hcl : Cond.classLink own index C ∈ lw_all) (hinst : Cond.instantiable C N ∈ lw_all) (hini : Cond.initialized C ∈ lw_all) (hci : ci < 5) (hfs : ∀ j, j < N → defaultValue (ty j) = vp_V (fce ci (fun _ => 0) (fun _ => none)) j) (hdg : decode cc pc = .ok (.new index, 3)) (hcells : cells + 1 ≤ R.cells) (hslots : slots + N ≤ R.slots)
    (kk : ∀ (H1 : Heap), Wd (va_up Y.1 n ci, Y.2) cy D z (n + 1) (va_up V n (fun _ => 0)) (va_up G n (fun _ => none)) H1 → va_S (zA z) H0 H1 locs → W p l e R s m args below meth c H1 locs (cells + 1) (slots + N) Q (F0 m (pc + 3) ls (.ref n :: rest))) : W p l e R s m args below meth c H locs cells slots Q (F0 m pc ls rest) := by
  have hKn := hE.1.1 ci _ hc
  have hzn : z ≤ n := by have := hS.1; rw [← hW.1]; omega
  refine W.newcK hx hb hown (hts _ hcl) (hts _ hinst) (hts _ hini) rfl hdg hcells hslots hKn.2.1 hW.1 fun H1 kC hkC e1 z1 o1 => ?_
  refine kk H1 (wd_push hW hzn z1 o1 (va_up_o _ _ _) (va_up_o _ _ _) ?_) ⟨by have := hS.1; have := hW.1; omega, fun x h1 h2 => (o1 x (by have := hS.1; have := hW.1; omega)).trans (hS.2.1 x h1 h2), hS.2.2⟩
  rw [enc_o (ci := ci) (by simp [va_up]) hci, va_up_s, va_up_s]
  exact ⟨_, hc, (u_born ty hts hin hKn hkC e1 hty).to hfs⟩
theorem wk_newI (hx : p.tables.exec = Jvm.exec) (hb : c.code = cc) (hts : ∀ w ∈ lw_all, w.before args s = true) (hE : En D cy s) (hW : Wd Y cy D z n V G H) (hz : z ≤ H0.size) (hS : va_S (zA z) H0 H locs) {atype : ArrayType} {ci : Nat} (hat : (atype = .char ∧ ci = 5) ∨ (atype = .int ∧ ci = 6)) (hac : Cond.arrayClass (newarray.typeOf atype) ∈ lw_all) {i : Int32} {N : Nat} (hi : ¬ i < 0) (hN : i.toNatClampNeg = N) (hL : Y.2 n = N) (hbytes : N * 4 ≤ 536870912) (hdg : decode cc pc = .ok (.newarray atype, 2)) (hcells : cells + 1 ≤ R.cells) (hslots : slots + N ≤ R.slots)
    (kk : ∀ (H1 : Heap), Wd (va_up Y.1 n ci, Y.2) cy D z (n + 1) (va_up V n (fun _ => 0)) G H1 → va_S (zA z) H0 H1 locs → W p l e R s m args below meth c H1 locs (cells + 1) (slots + N) Q (F0 m (pc + 2) ls (.ref n :: rest))) : W p l e R s m args below meth c H locs cells slots Q (F0 m pc ls (.int i :: rest)) := by
  have hzn : z ≤ n := by have := hS.1; rw [← hW.1]; omega
  refine va_newaK hx hb (hts _ hac) rfl hdg rfl hi hN (by rcases hat with ⟨rfl, -⟩ | ⟨rfl, -⟩ <;> simp [newarray.typeOf, componentBytes] <;> omega) hcells hslots hW.1 fun H1 cA e1 z1 o1 hAr hNm => ?_
  refine kk H1 (wd_push hW hzn z1 o1 (va_up_o _ _ _) (fun _ _ => rfl) ?_) ⟨by have := hS.1; have := hW.1; omega, fun x h1 h2 => (o1 x (by have := hS.1; have := hW.1; omega)).trans (hS.2.1 x h1 h2), hS.2.2⟩
  rcases hat with ⟨rfl, rfl⟩ | ⟨rfl, rfl⟩
  · have h2 : s.vm.findClass ("[" ++ FieldType.char.toString) = some (cy 0) := (hE.1.2 0 _ rfl).2
    have h3 : cA = cy 0 := Option.some.inj (hNm.symm.trans h2)
    rw [enc_i (ci := 5) (by simp [va_up]) (by omega) (by omega), va_up_s]
    show H1[n]? = some (arrV (cy 0) (Y.2 n) (fun _ => .int 0))
    rw [hL, ← h3]
    exact e1
  · have h2 : s.vm.findClass ("[" ++ FieldType.int.toString) = some (cy 1) := (hE.1.2 1 _ rfl).2
    have h3 : cA = cy 1 := Option.some.inj (hNm.symm.trans h2)
    rw [enc_i (ci := 6) (by simp [va_up]) (by omega) (by omega), va_up_s]
    show H1[n]? = some (arrV (cy 1) (Y.2 n) (fun _ => .int 0))
    rw [hL, ← h3]
    exact e1
theorem wk_newO (hx : p.tables.exec = Jvm.exec) (hb : c.code = cc) (hts : ∀ w ∈ lw_all, w.before args s = true) {C : String} {ci index : Nat} (hown : s.vm.findClass own = some m.cls) (hE : En D cy s) (hW : Wd Y cy D z n V G H) (hz : z ≤ H0.size) (hS : va_S (zA z) H0 H locs) (hcl : Cond.classLink own index C ∈ lw_all) (hCi : (C = RX0 ∧ ci = 7) ∨ (C = RX2 ∧ ci = 8)) {i : Int32} {N : Nat} (hi : ¬ i < 0) (hN : i.toNatClampNeg = N) (hL : Y.2 n = N) (hbytes : N * 4 ≤ 536870912) (hdg : decode cc pc = .ok (.anewarray index, 3)) (hcells : cells + 1 ≤ R.cells) (hslots : slots + N ≤ R.slots)
    (kk : ∀ (H1 : Heap), Wd (va_up Y.1 n ci, Y.2) cy D z (n + 1) V (va_up G n (fun _ => none)) H1 → va_S (zA z) H0 H1 locs → W p l e R s m args below meth c H1 locs (cells + 1) (slots + N) Q (F0 m (pc + 3) ls (.ref n :: rest))) : W p l e R s m args below meth c H locs cells slots Q (F0 m pc ls (.int i :: rest)) := by
  have hzn : z ≤ n := by have := hS.1; rw [← hW.1]; omega
  have hov : va_AO C s := by
    rcases hCi with ⟨rfl, -⟩ | ⟨rfl, -⟩
    · exact hE.2.2.1
    · exact hE.2.2.2
  subst hN
  refine W.anew hx hb hown (hts _ hcl) (va_AO.use hov) rfl hdg rfl hi hbytes hcells hslots fun cA kA comp f1 f2 f3 f4 => ?_
  generalize hH1 : H.push ({ cls := cA, slots := Array.replicate i.toNatClampNeg .null, vm := .none } : Cell) = H1
  have z1 : H1.size = n + 1 := by rw [← hH1, Array.size_push, hW.1]
  have e1 : H1[n]? = some (arrV cA i.toNatClampNeg (fun _ => .null)) := by rw [← hH1, ← hW.1, Array.getElem?_push_size, ← arrV_new]
  have o1 : ∀ q : Nat, q < n → H1[q]? = H[q]? := fun q hq => by rw [← hH1, Array.getElem?_push, if_neg (by rw [hW.1]; omega)]
  have hwd : Wd (va_up Y.1 n ci, Y.2) cy D z (n + 1) V (va_up G n (fun _ => none)) H1 := by
    refine wd_push hW hzn z1 o1 (fun _ _ => rfl) (va_up_o _ _ _) ?_
    rcases hCi with ⟨rfl, rfl⟩ | ⟨rfl, rfl⟩
    · obtain ⟨kA2, comp2, g1, g2, g3, g4⟩ := (hE.1.2 2 _ rfl).2
      have h3 : cA = cy 2 := Option.some.inj (f1.symm.trans g4)
      rw [enc_q (ci := 7) (by simp [va_up]) (by omega), va_up_s]
      show H1[n]? = some (arrV (cy 2) (Y.2 n) (fun _ => .null))
      rw [hL, ← h3]
      exact e1
    · obtain ⟨kA2, comp2, g1, g2, g3, g4⟩ := (hE.1.2 3 _ rfl).2
      have h3 : cA = cy 3 := Option.some.inj (f1.symm.trans g4)
      rw [enc_q (ci := 8) (by simp [va_up]) (by omega), va_up_s]
      show H1[n]? = some (arrV (cy 3) (Y.2 n) (fun _ => .null))
      rw [hL, ← h3]
      exact e1
  have hk := kk H1 hwd ⟨by have := hS.1; have := hW.1; omega, fun x h1 h2 => (o1 x (by have := hS.1; have := hW.1; omega)).trans (hS.2.1 x h1 h2), hS.2.2⟩
  rw [hW.1]
  exact hk
theorem wk_obj (hx : p.tables.exec = Jvm.exec) (hb : c.code = cc) (hts : ∀ w ∈ lw_all, w.before args s = true) (hown : s.vm.findClass own = some m.cls) (hml : c.maxLocals = nL) (hlink : Cond.methodLink own index Lib.objectInit ∈ lw_all) (hinst : Cond.instanceMethod Lib.objectInit ∈ lw_all) (hcode : Cond.code Lib.objectInit ⟨#[0xb1]⟩ 1 none ∈ lw_all) (hsize : ls.size = nL) (hdg : decode cc pc = .ok (.invokespecial index, 3)) (hR : 1 ≤ R.frames ∧ 12 ≤ R.locals)
    (kk : W p l e R s m args below meth c H locs cells slots Q (F0 m (pc + 3) ls [])) : W p l e R s m args below meth c H locs cells slots Q (F0 m pc ls [.ref a]) :=
  W.objInit hx hb hown (hts _ hlink) (hts _ hinst) (hts _ hcode) rfl (by rw [hml]; exact hsize) rfl hdg hR.1 hR.2 kk
end WR
end
section
-- small rows that the walks use
theorem og {g : Prop} [Decidable g] {α : Type} {t : Option α} {r : α} (h : (if g then t else none) = some r) : g ∧ t = some r := by
  by_cases q : g
  · rw [if_pos q] at h; exact ⟨q, h⟩
  · rw [if_neg q] at h; cases h
theorem ob {α β : Type} {o : Option α} {f : α → Option β} {r : β} (h : o.bind f = some r) : ∃ x, o = some x ∧ f x = some r := by
  cases o with
  | none => cases h
  | some x => exact ⟨x, rfl, h⟩
def fuB : Nat := 100000
def sw_off (dflt lo hi : Int) (offs : Array Int) (x : Int) : Option Int := if x < lo ∨ hi < x then some dflt else offs[(x - lo).toNat]?
section WSW
variable {p : Program} {l : Launch} {e : Env} {R : Room} {s : State} {m : MethodId} {args : Array Value} {below : List Frame} {meth : Method} {c : Code} {H : Heap} {locs : List Loc} {cells slots : Nat} {Q : State → Prop} {cc : ByteArray} {pc : Nat} {ls : Array Slot} {rest : List Value}
theorem wk_tsw (hx : p.tables.exec = Jvm.exec) (hb : c.code = cc) {dflt lo hi : Int} {offs : Array Int} {len : Nat} {x : Int32} {off : Int} {tgt : Nat} (hdg : decode cc pc = .ok (.tableswitch dflt lo hi offs, len)) (ho : sw_off dflt lo hi offs x.toInt = some off) (ht : (pc : Int) + off = (tgt : Int)) (k : W p l e R s m args below meth c H locs cells slots Q (F0 m tgt ls rest)) : W p l e R s m args below meth c H locs cells slots Q (F0 m pc ls (.int x :: rest)) := by
  unfold sw_off at ho
  by_cases h : x.toInt < lo ∨ hi < x.toInt
  · rw [if_pos h] at ho
    cases ho
    exact lv_tableOut hx hb hdg h ht k
  · rw [if_neg h] at ho
    exact lv_tableIn hx hb hdg (fun q => h (Or.inl q)) (fun q => h (Or.inr q)) ho ht k
end WSW
theorem inX0 : ∀ w ∈ u_ws RX0 TX0 14, w ∈ lw_all := by decide +kernel
theorem hfX0 : ∀ j, j < 14 → defaultValue (tyX0 j) = vp_V (fce 0 (fun _ => 0) (fun _ => none)) j := by
  intro j hj
  rcases (show j = 0 ∨ j = 1 ∨ j = 2 ∨ j = 3 ∨ j = 4 ∨ j = 5 ∨ j = 6 ∨ j = 7 ∨ j = 8 ∨ j = 9 ∨ j = 10 ∨ j = 11 ∨ j = 12 ∨ j = 13 by omega) with rfl | rfl | rfl | rfl | rfl | rfl | rfl | rfl | rfl | rfl | rfl | rfl | rfl | rfl <;> rfl
theorem inX1 : ∀ w ∈ u_ws RX1 TX1 7, w ∈ lw_all := by decide +kernel
theorem hfX1 : ∀ j, j < 7 → defaultValue (tyX1 j) = vp_V (fce 1 (fun _ => 0) (fun _ => none)) j := by
  intro j hj
  rcases (show j = 0 ∨ j = 1 ∨ j = 2 ∨ j = 3 ∨ j = 4 ∨ j = 5 ∨ j = 6 by omega) with rfl | rfl | rfl | rfl | rfl | rfl | rfl <;> rfl
theorem inX2 : ∀ w ∈ u_ws RX2 TX2 9, w ∈ lw_all := by decide +kernel
theorem hfX2 : ∀ j, j < 9 → defaultValue (tyX2 j) = vp_V (fce 2 (fun _ => 0) (fun _ => none)) j := by
  intro j hj
  rcases (show j = 0 ∨ j = 1 ∨ j = 2 ∨ j = 3 ∨ j = 4 ∨ j = 5 ∨ j = 6 ∨ j = 7 ∨ j = 8 by omega) with rfl | rfl | rfl | rfl | rfl | rfl | rfl | rfl | rfl <;> rfl
theorem inX3 : ∀ w ∈ u_ws RX3 TX3 6, w ∈ lw_all := by decide +kernel
theorem hfX3 : ∀ j, j < 6 → defaultValue (tyX3 j) = vp_V (fce 3 (fun _ => 0) (fun _ => none)) j := by
  intro j hj
  rcases (show j = 0 ∨ j = 1 ∨ j = 2 ∨ j = 3 ∨ j = 4 ∨ j = 5 by omega) with rfl | rfl | rfl | rfl | rfl | rfl <;> rfl
theorem inX4 : ∀ w ∈ u_ws RX4 TX4 13, w ∈ lw_all := by decide +kernel
theorem hfX4 : ∀ j, j < 13 → defaultValue (tyX4 j) = vp_V (fce 4 (fun _ => 0) (fun _ => none)) j := by
  intro j hj
  rcases (show j = 0 ∨ j = 1 ∨ j = 2 ∨ j = 3 ∨ j = 4 ∨ j = 5 ∨ j = 6 ∨ j = 7 ∨ j = 8 ∨ j = 9 ∨ j = 10 ∨ j = 11 ∨ j = 12 by omega) with rfl | rfl | rfl | rfl | rfl | rfl | rfl | rfl | rfl | rfl | rfl | rfl | rfl <;> rfl
end
section
-- the words of the links, by their places; a row a field link, a row a call link
theorem q112 : Cond.methodLink RX0 3 Lib.objectInit ∈ lw_all := mq_ 112 (by decide +kernel) (by decide)
theorem q98 : Cond.instanceMethod Lib.objectInit ∈ lw_all := mq_ 98 (by decide +kernel) (by decide)
theorem q99 : Cond.code Lib.objectInit ⟨#[0xb1]⟩ 1 none ∈ lw_all := mq_ 99 (by decide +kernel) (by decide)
theorem q113 : Cond.fieldLink RX0 9 RX0 (TX0 0).2.1 (TX0 0).2.2.1 ∈ lw_all := mq_ 113 (by decide +kernel) (by decide)
theorem q116 : Cond.fieldLink RX0 15 RX0 (TX0 1).2.1 (TX0 1).2.2.1 ∈ lw_all := mq_ 116 (by decide +kernel) (by decide)
theorem q119 : Cond.fieldLink RX0 18 RX0 (TX0 2).2.1 (TX0 2).2.2.1 ∈ lw_all := mq_ 119 (by decide +kernel) (by decide)
theorem q122 : Cond.fieldLink RX0 21 RX0 (TX0 3).2.1 (TX0 3).2.2.1 ∈ lw_all := mq_ 122 (by decide +kernel) (by decide)
theorem q125 : Cond.fieldLink RX0 24 RX0 (TX0 4).2.1 (TX0 4).2.2.1 ∈ lw_all := mq_ 125 (by decide +kernel) (by decide)
theorem q128 : Cond.fieldLink RX0 27 RX0 (TX0 5).2.1 (TX0 5).2.2.1 ∈ lw_all := mq_ 128 (by decide +kernel) (by decide)
theorem q131 : Cond.fieldLink RX0 30 RX0 (TX0 6).2.1 (TX0 6).2.2.1 ∈ lw_all := mq_ 131 (by decide +kernel) (by decide)
theorem q134 : Cond.fieldLink RX0 33 RX0 (TX0 7).2.1 (TX0 7).2.2.1 ∈ lw_all := mq_ 134 (by decide +kernel) (by decide)
theorem q137 : Cond.fieldLink RX0 36 RX0 (TX0 8).2.1 (TX0 8).2.2.1 ∈ lw_all := mq_ 137 (by decide +kernel) (by decide)
theorem q140 : Cond.fieldLink RX0 40 RX0 (TX0 9).2.1 (TX0 9).2.2.1 ∈ lw_all := mq_ 140 (by decide +kernel) (by decide)
theorem q142 : Cond.fieldLink RX0 43 RX0 (TX0 10).2.1 (TX0 10).2.2.1 ∈ lw_all := mq_ 142 (by decide +kernel) (by decide)
theorem q145 : Cond.fieldLink RX0 46 RX0 (TX0 11).2.1 (TX0 11).2.2.1 ∈ lw_all := mq_ 145 (by decide +kernel) (by decide)
theorem q148 : Cond.fieldLink RX0 49 RX0 (TX0 12).2.1 (TX0 12).2.2.1 ∈ lw_all := mq_ 148 (by decide +kernel) (by decide)
theorem q151 : Cond.fieldLink RX0 52 RX0 (TX0 13).2.1 (TX0 13).2.2.1 ∈ lw_all := mq_ 151 (by decide +kernel) (by decide)
theorem q226 : Cond.methodLink RX1 3 Lib.objectInit ∈ lw_all := mq_ 226 (by decide +kernel) (by decide)
theorem q253 : Cond.arrayClass .char ∈ lw_all := mq_ 253 (by decide +kernel) (by decide)
theorem q227 : Cond.fieldLink RX1 9 RX1 (TX1 0).2.1 (TX1 0).2.2.1 ∈ lw_all := mq_ 227 (by decide +kernel) (by decide)
theorem q182 : Cond.arrayClass .int ∈ lw_all := mq_ 182 (by decide +kernel) (by decide)
theorem q228 : Cond.fieldLink RX1 15 RX1 (TX1 1).2.1 (TX1 1).2.2.1 ∈ lw_all := mq_ 228 (by decide +kernel) (by decide)
theorem q229 : Cond.fieldLink RX1 19 RX1 (TX1 2).2.1 (TX1 2).2.2.1 ∈ lw_all := mq_ 229 (by decide +kernel) (by decide)
theorem q231 : Cond.fieldLink RX1 23 RX1 (TX1 3).2.1 (TX1 3).2.2.1 ∈ lw_all := mq_ 231 (by decide +kernel) (by decide)
theorem q233 : Cond.fieldLink RX1 26 RX1 (TX1 4).2.1 (TX1 4).2.2.1 ∈ lw_all := mq_ 233 (by decide +kernel) (by decide)
theorem q234 : Cond.fieldLink RX1 29 RX1 (TX1 5).2.1 (TX1 5).2.2.1 ∈ lw_all := mq_ 234 (by decide +kernel) (by decide)
theorem q236 : Cond.fieldLink RX1 32 RX1 (TX1 6).2.1 (TX1 6).2.2.1 ∈ lw_all := mq_ 236 (by decide +kernel) (by decide)
theorem q105 : Cond.methodLink RX2 3 Lib.objectInit ∈ lw_all := mq_ 105 (by decide +kernel) (by decide)
theorem q106 : Cond.classLink RX2 9 RX0 ∈ lw_all := mq_ 106 (by decide +kernel) (by decide)
theorem q183 : Cond.fieldLink RX2 11 RX2 (TX2 0).2.1 (TX2 0).2.2.1 ∈ lw_all := mq_ 183 (by decide +kernel) (by decide)
theorem q185 : Cond.fieldLink RX2 17 RX2 (TX2 1).2.1 (TX2 1).2.2.1 ∈ lw_all := mq_ 185 (by decide +kernel) (by decide)
theorem q187 : Cond.fieldLink RX2 21 RX2 (TX2 2).2.1 (TX2 2).2.2.1 ∈ lw_all := mq_ 187 (by decide +kernel) (by decide)
theorem q189 : Cond.fieldLink RX2 24 RX2 (TX2 3).2.1 (TX2 3).2.2.1 ∈ lw_all := mq_ 189 (by decide +kernel) (by decide)
theorem q191 : Cond.fieldLink RX2 28 RX2 (TX2 4).2.1 (TX2 4).2.2.1 ∈ lw_all := mq_ 191 (by decide +kernel) (by decide)
theorem q193 : Cond.fieldLink RX2 31 RX2 (TX2 5).2.1 (TX2 5).2.2.1 ∈ lw_all := mq_ 193 (by decide +kernel) (by decide)
theorem q195 : Cond.fieldLink RX2 34 RX2 (TX2 6).2.1 (TX2 6).2.2.1 ∈ lw_all := mq_ 195 (by decide +kernel) (by decide)
theorem q197 : Cond.fieldLink RX2 37 RX2 (TX2 7).2.1 (TX2 7).2.2.1 ∈ lw_all := mq_ 197 (by decide +kernel) (by decide)
theorem q199 : Cond.fieldLink RX2 40 RX2 (TX2 8).2.1 (TX2 8).2.2.1 ∈ lw_all := mq_ 199 (by decide +kernel) (by decide)
theorem q108 : Cond.instantiable RX0 14 ∈ lw_all := mq_ 108 (by decide +kernel) (by decide)
theorem q87 : Cond.initialized RX0 ∈ lw_all := mq_ 87 (by decide +kernel) (by decide)
theorem nq109 : Cond.methodLinkNest RX2 43 yX0_init "TriggerConditions" ∈ nw_all := nq_ 109 (by decide +kernel) (by decide)
theorem q111 : Cond.code yX0_init cX0_init 1 none ∈ lw_all := mq_ 111 (by decide +kernel) (by decide)
theorem q110 : Cond.instanceMethod yX0_init ∈ lw_all := mq_ 110 (by decide +kernel) (by decide)
theorem q97 : Cond.methodLink RX3 1 Lib.objectInit ∈ lw_all := mq_ 97 (by decide +kernel) (by decide)
theorem q100 : Cond.classLink RX3 7 RX2 ∈ lw_all := mq_ 100 (by decide +kernel) (by decide)
theorem q101 : Cond.instantiable RX2 9 ∈ lw_all := mq_ 101 (by decide +kernel) (by decide)
theorem q86 : Cond.initialized RX2 ∈ lw_all := mq_ 86 (by decide +kernel) (by decide)
theorem nq102 : Cond.methodLinkNest RX3 9 yX2_init "TriggerConditions" ∈ nw_all := nq_ 102 (by decide +kernel) (by decide)
theorem q104 : Cond.code yX2_init cX2_init 2 none ∈ lw_all := mq_ 104 (by decide +kernel) (by decide)
theorem q103 : Cond.instanceMethod yX2_init ∈ lw_all := mq_ 103 (by decide +kernel) (by decide)
theorem q254 : Cond.fieldLink RX3 10 RX3 (TX3 0).2.1 (TX3 0).2.2.1 ∈ lw_all := mq_ 254 (by decide +kernel) (by decide)
theorem q255 : Cond.fieldLink RX3 16 RX3 (TX3 1).2.1 (TX3 1).2.2.1 ∈ lw_all := mq_ 255 (by decide +kernel) (by decide)
theorem q256 : Cond.fieldLink RX3 19 RX3 (TX3 2).2.1 (TX3 2).2.2.1 ∈ lw_all := mq_ 256 (by decide +kernel) (by decide)
theorem q221 : Cond.classLink RX3 23 RX1 ∈ lw_all := mq_ 221 (by decide +kernel) (by decide)
theorem q222 : Cond.instantiable RX1 7 ∈ lw_all := mq_ 222 (by decide +kernel) (by decide)
theorem q88 : Cond.initialized RX1 ∈ lw_all := mq_ 88 (by decide +kernel) (by decide)
theorem nq223 : Cond.methodLinkNest RX3 25 yX1_init "TriggerConditions" ∈ nw_all := nq_ 223 (by decide +kernel) (by decide)
theorem q225 : Cond.code yX1_init cX1_init 1 none ∈ lw_all := mq_ 225 (by decide +kernel) (by decide)
theorem q224 : Cond.instanceMethod yX1_init ∈ lw_all := mq_ 224 (by decide +kernel) (by decide)
theorem q257 : Cond.fieldLink RX3 26 RX3 (TX3 3).2.1 (TX3 3).2.2.1 ∈ lw_all := mq_ 257 (by decide +kernel) (by decide)
theorem q258 : Cond.fieldLink RX3 30 RX3 (TX3 4).2.1 (TX3 4).2.2.1 ∈ lw_all := mq_ 258 (by decide +kernel) (by decide)
theorem q259 : Cond.fieldLink RX3 33 RX3 (TX3 5).2.1 (TX3 5).2.2.1 ∈ lw_all := mq_ 259 (by decide +kernel) (by decide)
theorem q607 : Cond.methodLink RX4 1 Lib.objectInit ∈ lw_all := mq_ 607 (by decide +kernel) (by decide)
theorem q608 : Cond.fieldLink RX4 7 RX4 (TX4 0).2.1 (TX4 0).2.2.1 ∈ lw_all := mq_ 608 (by decide +kernel) (by decide)
theorem q609 : Cond.fieldLink RX4 13 RX4 (TX4 1).2.1 (TX4 1).2.2.1 ∈ lw_all := mq_ 609 (by decide +kernel) (by decide)
theorem q610 : Cond.fieldLink RX4 16 RX4 (TX4 2).2.1 (TX4 2).2.2.1 ∈ lw_all := mq_ 610 (by decide +kernel) (by decide)
theorem q611 : Cond.fieldLink RX4 19 RX4 (TX4 3).2.1 (TX4 3).2.2.1 ∈ lw_all := mq_ 611 (by decide +kernel) (by decide)
theorem q613 : Cond.fieldLink RX4 22 RX4 (TX4 5).2.1 (TX4 5).2.2.1 ∈ lw_all := mq_ 613 (by decide +kernel) (by decide)
theorem q617 : Cond.fieldLink RX4 25 RX4 (TX4 9).2.1 (TX4 9).2.2.1 ∈ lw_all := mq_ 617 (by decide +kernel) (by decide)
theorem q306 : Cond.methodLink RX0 55 yX0_endBreach ∈ lw_all := mq_ 306 (by decide +kernel) (by decide)
theorem q309 : Cond.code yX0_endBreach cX0_endBreach 1 none ∈ lw_all := mq_ 309 (by decide +kernel) (by decide)
theorem q5 : Cond.selects yX0_endBreach.cls yX0_endBreach yX0_endBreach ∈ lw_all := mq_ 5 (by decide +kernel) (by decide)
theorem q308 : Cond.instanceMethod yX0_endBreach ∈ lw_all := mq_ 308 (by decide +kernel) (by decide)
theorem q382 : Cond.methodLink RX0 58 yX0_isMet ∈ lw_all := mq_ 382 (by decide +kernel) (by decide)
theorem q337 : Cond.code yX0_isMet cX0_isMet 1 (some .boolean) ∈ lw_all := mq_ 337 (by decide +kernel) (by decide)
theorem q11 : Cond.selects yX0_isMet.cls yX0_isMet yX0_isMet ∈ lw_all := mq_ 11 (by decide +kernel) (by decide)
theorem q336 : Cond.instanceMethod yX0_isMet ∈ lw_all := mq_ 336 (by decide +kernel) (by decide)
theorem q553 : Cond.constant RX1 35 (-1000003) ∈ lw_all := mq_ 553 (by decide +kernel) (by decide)
theorem q581 : Cond.methodLink RX1 56 yX1_isDigit ∈ lw_all := mq_ 581 (by decide +kernel) (by decide)
theorem q583 : Cond.code yX1_isDigit cX1_isDigit 1 (some .boolean) ∈ lw_all := mq_ 583 (by decide +kernel) (by decide)
theorem q582 : Cond.static yX1_isDigit ∈ lw_all := mq_ 582 (by decide +kernel) (by decide)
theorem q577 : Cond.methodLink RX1 48 yX1_readNumber ∈ lw_all := mq_ 577 (by decide +kernel) (by decide)
theorem q580 : Cond.code yX1_readNumber cX1_readNumber 4 (some .boolean) ∈ lw_all := mq_ 580 (by decide +kernel) (by decide)
theorem q41 : Cond.selects yX1_readNumber.cls yX1_readNumber yX1_readNumber ∈ lw_all := mq_ 41 (by decide +kernel) (by decide)
theorem q579 : Cond.instanceMethod yX1_readNumber ∈ lw_all := mq_ 579 (by decide +kernel) (by decide)
theorem q584 : Cond.methodLink RX1 52 yX1_readSign ∈ lw_all := mq_ 584 (by decide +kernel) (by decide)
theorem q587 : Cond.code yX1_readSign cX1_readSign 2 (some .boolean) ∈ lw_all := mq_ 587 (by decide +kernel) (by decide)
theorem q42 : Cond.selects yX1_readSign.cls yX1_readSign yX1_readSign ∈ lw_all := mq_ 42 (by decide +kernel) (by decide)
theorem q586 : Cond.instanceMethod yX1_readSign ∈ lw_all := mq_ 586 (by decide +kernel) (by decide)
theorem q574 : Cond.methodLink RX1 44 yX1_numbersBehind ∈ lw_all := mq_ 574 (by decide +kernel) (by decide)
theorem q576 : Cond.code yX1_numbersBehind cX1_numbersBehind 1 (some .int) ∈ lw_all := mq_ 576 (by decide +kernel) (by decide)
theorem q575 : Cond.static yX1_numbersBehind ∈ lw_all := mq_ 575 (by decide +kernel) (by decide)
theorem nq595 : Cond.methodLinkNest RX1 72 yX2_applyFor "TriggerConditions" ∈ nw_all := nq_ 595 (by decide +kernel) (by decide)
theorem q361 : Cond.code yX2_applyFor cX2_applyFor 4 (some .int) ∈ lw_all := mq_ 361 (by decide +kernel) (by decide)
theorem q15 : Cond.selects yX2_applyFor.cls yX2_applyFor yX2_applyFor ∈ lw_all := mq_ 15 (by decide +kernel) (by decide)
theorem q360 : Cond.instanceMethod yX2_applyFor ∈ lw_all := mq_ 360 (by decide +kernel) (by decide)
theorem nq593 : Cond.methodLinkNest RX1 65 yX2_beginStage "TriggerConditions" ∈ nw_all := nq_ 593 (by decide +kernel) (by decide)
theorem q325 : Cond.code yX2_beginStage cX2_beginStage 4 (some .int) ∈ lw_all := mq_ 325 (by decide +kernel) (by decide)
theorem q8 : Cond.selects yX2_beginStage.cls yX2_beginStage yX2_beginStage ∈ lw_all := mq_ 8 (by decide +kernel) (by decide)
theorem q324 : Cond.instanceMethod yX2_beginStage ∈ lw_all := mq_ 324 (by decide +kernel) (by decide)
theorem nq592 : Cond.methodLinkNest RX1 59 yX2_addCondition "TriggerConditions" ∈ nw_all := nq_ 592 (by decide +kernel) (by decide)
theorem q288 : Cond.code yX2_addCondition cX2_addCondition 5 (some .int) ∈ lw_all := mq_ 288 (by decide +kernel) (by decide)
theorem q2 : Cond.selects yX2_addCondition.cls yX2_addCondition yX2_addCondition ∈ lw_all := mq_ 2 (by decide +kernel) (by decide)
theorem q287 : Cond.instanceMethod yX2_addCondition ∈ lw_all := mq_ 287 (by decide +kernel) (by decide)
theorem nq596 : Cond.methodLinkNest RX1 76 yX2_decideOn "TriggerConditions" ∈ nw_all := nq_ 596 (by decide +kernel) (by decide)
theorem q377 : Cond.code yX2_decideOn cX2_decideOn 4 (some .int) ∈ lw_all := mq_ 377 (by decide +kernel) (by decide)
theorem q18 : Cond.selects yX2_decideOn.cls yX2_decideOn yX2_decideOn ∈ lw_all := mq_ 18 (by decide +kernel) (by decide)
theorem q376 : Cond.instanceMethod yX2_decideOn ∈ lw_all := mq_ 376 (by decide +kernel) (by decide)
theorem nq594 : Cond.methodLinkNest RX1 69 yX2_finishStage "TriggerConditions" ∈ nw_all := nq_ 594 (by decide +kernel) (by decide)
theorem q349 : Cond.code yX2_finishStage cX2_finishStage 2 (some .int) ∈ lw_all := mq_ 349 (by decide +kernel) (by decide)
theorem q13 : Cond.selects yX2_finishStage.cls yX2_finishStage yX2_finishStage ∈ lw_all := mq_ 13 (by decide +kernel) (by decide)
theorem q348 : Cond.instanceMethod yX2_finishStage ∈ lw_all := mq_ 348 (by decide +kernel) (by decide)
theorem nq597 : Cond.methodLinkNest RX1 79 yX2_passDays "TriggerConditions" ∈ nw_all := nq_ 597 (by decide +kernel) (by decide)
theorem q440 : Cond.code yX2_passDays cX2_passDays 4 (some .int) ∈ lw_all := mq_ 440 (by decide +kernel) (by decide)
theorem q26 : Cond.selects yX2_passDays.cls yX2_passDays yX2_passDays ∈ lw_all := mq_ 26 (by decide +kernel) (by decide)
theorem q439 : Cond.instanceMethod yX2_passDays ∈ lw_all := mq_ 439 (by decide +kernel) (by decide)
theorem q570 : Cond.methodLink RX1 36 yX1_readOrder ∈ lw_all := mq_ 570 (by decide +kernel) (by decide)
theorem q573 : Cond.code yX1_readOrder cX1_readOrder 4 (some .boolean) ∈ lw_all := mq_ 573 (by decide +kernel) (by decide)
theorem q40 : Cond.selects yX1_readOrder.cls yX1_readOrder yX1_readOrder ∈ lw_all := mq_ 40 (by decide +kernel) (by decide)
theorem q572 : Cond.instanceMethod yX1_readOrder ∈ lw_all := mq_ 572 (by decide +kernel) (by decide)
theorem q588 : Cond.methodLink RX1 40 yX1_doOrder ∈ lw_all := mq_ 588 (by decide +kernel) (by decide)
theorem q591 : Cond.code yX1_doOrder cX1_doOrder 2 (some .int) ∈ lw_all := mq_ 591 (by decide +kernel) (by decide)
theorem q43 : Cond.selects yX1_doOrder.cls yX1_doOrder yX1_doOrder ∈ lw_all := mq_ 43 (by decide +kernel) (by decide)
theorem q590 : Cond.instanceMethod yX1_doOrder ∈ lw_all := mq_ 590 (by decide +kernel) (by decide)
theorem q314 : Cond.methodLink RX3 238 yX3_rotateHistory ∈ lw_all := mq_ 314 (by decide +kernel) (by decide)
theorem q317 : Cond.code yX3_rotateHistory cX3_rotateHistory 3 none ∈ lw_all := mq_ 317 (by decide +kernel) (by decide)
theorem q85 : Cond.initialized RX3 ∈ lw_all := mq_ 85 (by decide +kernel) (by decide)
theorem q7 : Cond.selects yX3_rotateHistory.cls yX3_rotateHistory yX3_rotateHistory ∈ lw_all := mq_ 7 (by decide +kernel) (by decide)
theorem q316 : Cond.instanceMethod yX3_rotateHistory ∈ lw_all := mq_ 316 (by decide +kernel) (by decide)
theorem nq277 : Cond.methodLinkNest RX3 37 yX2_copyFrom "TriggerConditions" ∈ nw_all := nq_ 277 (by decide +kernel) (by decide)
theorem q280 : Cond.code yX2_copyFrom cX2_copyFrom 3 none ∈ lw_all := mq_ 280 (by decide +kernel) (by decide)
theorem q0 : Cond.selects yX2_copyFrom.cls yX2_copyFrom yX2_copyFrom ∈ lw_all := mq_ 0 (by decide +kernel) (by decide)
theorem q279 : Cond.instanceMethod yX2_copyFrom ∈ lw_all := mq_ 279 (by decide +kernel) (by decide)
theorem nq285 : Cond.methodLinkNest RX3 41 yX2_addCondition "TriggerConditions" ∈ nw_all := nq_ 285 (by decide +kernel) (by decide)
theorem q310 : Cond.methodLink RX3 45 yX3_recorded ∈ lw_all := mq_ 310 (by decide +kernel) (by decide)
theorem q313 : Cond.code yX3_recorded cX3_recorded 3 (some .int) ∈ lw_all := mq_ 313 (by decide +kernel) (by decide)
theorem q6 : Cond.selects yX3_recorded.cls yX3_recorded yX3_recorded ∈ lw_all := mq_ 6 (by decide +kernel) (by decide)
theorem q312 : Cond.instanceMethod yX3_recorded ∈ lw_all := mq_ 312 (by decide +kernel) (by decide)
theorem nq322 : Cond.methodLinkNest RX3 49 yX2_beginStage "TriggerConditions" ∈ nw_all := nq_ 322 (by decide +kernel) (by decide)
theorem nq346 : Cond.methodLinkNest RX3 52 yX2_finishStage "TriggerConditions" ∈ nw_all := nq_ 346 (by decide +kernel) (by decide)
theorem nq358 : Cond.methodLinkNest RX3 55 yX2_applyFor "TriggerConditions" ∈ nw_all := nq_ 358 (by decide +kernel) (by decide)
theorem nq374 : Cond.methodLinkNest RX3 59 yX2_decideOn "TriggerConditions" ∈ nw_all := nq_ 374 (by decide +kernel) (by decide)
theorem nq393 : Cond.methodLinkNest RX3 62 yX2_lapseOf "TriggerConditions" ∈ nw_all := nq_ 393 (by decide +kernel) (by decide)
theorem q396 : Cond.code yX2_lapseOf cX2_lapseOf 3 (some .int) ∈ lw_all := mq_ 396 (by decide +kernel) (by decide)
theorem q20 : Cond.selects yX2_lapseOf.cls yX2_lapseOf yX2_lapseOf ∈ lw_all := mq_ 20 (by decide +kernel) (by decide)
theorem q395 : Cond.instanceMethod yX2_lapseOf ∈ lw_all := mq_ 395 (by decide +kernel) (by decide)
theorem nq405 : Cond.methodLinkNest RX3 65 yX2_cureOf "TriggerConditions" ∈ nw_all := nq_ 405 (by decide +kernel) (by decide)
theorem q408 : Cond.code yX2_cureOf cX2_cureOf 4 (some .int) ∈ lw_all := mq_ 408 (by decide +kernel) (by decide)
theorem q22 : Cond.selects yX2_cureOf.cls yX2_cureOf yX2_cureOf ∈ lw_all := mq_ 22 (by decide +kernel) (by decide)
theorem q407 : Cond.instanceMethod yX2_cureOf ∈ lw_all := mq_ 407 (by decide +kernel) (by decide)
theorem nq414 : Cond.methodLinkNest RX3 68 yX2_serveOn "TriggerConditions" ∈ nw_all := nq_ 414 (by decide +kernel) (by decide)
theorem q417 : Cond.code yX2_serveOn cX2_serveOn 4 (some .int) ∈ lw_all := mq_ 417 (by decide +kernel) (by decide)
theorem q23 : Cond.selects yX2_serveOn.cls yX2_serveOn yX2_serveOn ∈ lw_all := mq_ 23 (by decide +kernel) (by decide)
theorem q416 : Cond.instanceMethod yX2_serveOn ∈ lw_all := mq_ 416 (by decide +kernel) (by decide)
theorem nq422 : Cond.methodLinkNest RX3 71 yX2_varyTo "TriggerConditions" ∈ nw_all := nq_ 422 (by decide +kernel) (by decide)
theorem q425 : Cond.code yX2_varyTo cX2_varyTo 6 (some .int) ∈ lw_all := mq_ 425 (by decide +kernel) (by decide)
theorem q24 : Cond.selects yX2_varyTo.cls yX2_varyTo yX2_varyTo ∈ lw_all := mq_ 24 (by decide +kernel) (by decide)
theorem q424 : Cond.instanceMethod yX2_varyTo ∈ lw_all := mq_ 424 (by decide +kernel) (by decide)
theorem nq437 : Cond.methodLinkNest RX3 75 yX2_passDays "TriggerConditions" ∈ nw_all := nq_ 437 (by decide +kernel) (by decide)
theorem nq457 : Cond.methodLinkNest RX3 78 yX2_putSetting "TriggerConditions" ∈ nw_all := nq_ 457 (by decide +kernel) (by decide)
theorem q460 : Cond.code yX2_putSetting cX2_putSetting 4 (some .int) ∈ lw_all := mq_ 460 (by decide +kernel) (by decide)
theorem q30 : Cond.selects yX2_putSetting.cls yX2_putSetting yX2_putSetting ∈ lw_all := mq_ 30 (by decide +kernel) (by decide)
theorem q459 : Cond.instanceMethod yX2_putSetting ∈ lw_all := mq_ 459 (by decide +kernel) (by decide)
theorem nq465 : Cond.methodLinkNest RX3 81 yX2_hasCondition "TriggerConditions" ∈ nw_all := nq_ 465 (by decide +kernel) (by decide)
theorem q365 : Cond.code yX2_hasCondition cX2_hasCondition 2 (some .boolean) ∈ lw_all := mq_ 365 (by decide +kernel) (by decide)
theorem q16 : Cond.selects yX2_hasCondition.cls yX2_hasCondition yX2_hasCondition ∈ lw_all := mq_ 16 (by decide +kernel) (by decide)
theorem q364 : Cond.instanceMethod yX2_hasCondition ∈ lw_all := mq_ 364 (by decide +kernel) (by decide)
theorem nq184 : Cond.fieldLinkNest RX3 86 RX2 (TX2 0).2.1 (TX2 0).2.2.1 "TriggerConditions" ∈ nw_all := nq_ 184 (by decide +kernel) (by decide)
theorem nq115 : Cond.fieldLinkNest RX3 90 RX0 (TX0 0).2.1 (TX0 0).2.2.1 "TriggerConditions" ∈ nw_all := nq_ 115 (by decide +kernel) (by decide)
theorem nq118 : Cond.fieldLinkNest RX3 95 RX0 (TX0 1).2.1 (TX0 1).2.2.1 "TriggerConditions" ∈ nw_all := nq_ 118 (by decide +kernel) (by decide)
theorem nq120 : Cond.fieldLinkNest RX3 98 RX0 (TX0 2).2.1 (TX0 2).2.2.1 "TriggerConditions" ∈ nw_all := nq_ 120 (by decide +kernel) (by decide)
theorem nq124 : Cond.fieldLinkNest RX3 101 RX0 (TX0 3).2.1 (TX0 3).2.2.1 "TriggerConditions" ∈ nw_all := nq_ 124 (by decide +kernel) (by decide)
theorem nq467 : Cond.methodLinkNest RX3 104 yX2_stateOf "TriggerConditions" ∈ nw_all := nq_ 467 (by decide +kernel) (by decide)
theorem q400 : Cond.code yX2_stateOf cX2_stateOf 2 (some .int) ∈ lw_all := mq_ 400 (by decide +kernel) (by decide)
theorem q21 : Cond.selects yX2_stateOf.cls yX2_stateOf yX2_stateOf ∈ lw_all := mq_ 21 (by decide +kernel) (by decide)
theorem q399 : Cond.instanceMethod yX2_stateOf ∈ lw_all := mq_ 399 (by decide +kernel) (by decide)
theorem nq127 : Cond.fieldLinkNest RX3 108 RX0 (TX0 4).2.1 (TX0 4).2.2.1 "TriggerConditions" ∈ nw_all := nq_ 127 (by decide +kernel) (by decide)
theorem nq129 : Cond.fieldLinkNest RX3 111 RX0 (TX0 5).2.1 (TX0 5).2.2.1 "TriggerConditions" ∈ nw_all := nq_ 129 (by decide +kernel) (by decide)
theorem q468 : Cond.constant RX3 117 (-1000004) ∈ lw_all := mq_ 468 (by decide +kernel) (by decide)
theorem nq132 : Cond.fieldLinkNest RX3 114 RX0 (TX0 6).2.1 (TX0 6).2.2.1 "TriggerConditions" ∈ nw_all := nq_ 132 (by decide +kernel) (by decide)
theorem nq135 : Cond.fieldLinkNest RX3 118 RX0 (TX0 7).2.1 (TX0 7).2.2.1 "TriggerConditions" ∈ nw_all := nq_ 135 (by decide +kernel) (by decide)
theorem nq139 : Cond.fieldLinkNest RX3 121 RX0 (TX0 8).2.1 (TX0 8).2.2.1 "TriggerConditions" ∈ nw_all := nq_ 139 (by decide +kernel) (by decide)
theorem nq143 : Cond.fieldLinkNest RX3 125 RX0 (TX0 10).2.1 (TX0 10).2.2.1 "TriggerConditions" ∈ nw_all := nq_ 143 (by decide +kernel) (by decide)
theorem nq146 : Cond.fieldLinkNest RX3 128 RX0 (TX0 11).2.1 (TX0 11).2.2.1 "TriggerConditions" ∈ nw_all := nq_ 146 (by decide +kernel) (by decide)
theorem nq149 : Cond.fieldLinkNest RX3 131 RX0 (TX0 12).2.1 (TX0 12).2.2.1 "TriggerConditions" ∈ nw_all := nq_ 149 (by decide +kernel) (by decide)
theorem nq152 : Cond.fieldLinkNest RX3 134 RX0 (TX0 13).2.1 (TX0 13).2.2.1 "TriggerConditions" ∈ nw_all := nq_ 152 (by decide +kernel) (by decide)
theorem q466 : Cond.constant RX3 85 (-1000001) ∈ lw_all := mq_ 466 (by decide +kernel) (by decide)
theorem q473 : Cond.methodLink RX3 137 yX3_isWithin ∈ lw_all := mq_ 473 (by decide +kernel) (by decide)
theorem q291 : Cond.code yX3_isWithin cX3_isWithin 3 (some .boolean) ∈ lw_all := mq_ 291 (by decide +kernel) (by decide)
theorem q290 : Cond.static yX3_isWithin ∈ lw_all := mq_ 290 (by decide +kernel) (by decide)
theorem nq474 : Cond.methodLinkNest RX3 141 yX2_progressOf "TriggerConditions" ∈ nw_all := nq_ 474 (by decide +kernel) (by decide)
theorem q477 : Cond.code yX2_progressOf cX2_progressOf 2 (some .int) ∈ lw_all := mq_ 477 (by decide +kernel) (by decide)
theorem q31 : Cond.selects yX2_progressOf.cls yX2_progressOf yX2_progressOf ∈ lw_all := mq_ 31 (by decide +kernel) (by decide)
theorem q476 : Cond.instanceMethod yX2_progressOf ∈ lw_all := mq_ 476 (by decide +kernel) (by decide)
theorem nq478 : Cond.methodLinkNest RX3 144 yX2_isBegun "TriggerConditions" ∈ nw_all := nq_ 478 (by decide +kernel) (by decide)
theorem q299 : Cond.code yX2_isBegun cX2_isBegun 2 (some .boolean) ∈ lw_all := mq_ 299 (by decide +kernel) (by decide)
theorem q3 : Cond.selects yX2_isBegun.cls yX2_isBegun yX2_isBegun ∈ lw_all := mq_ 3 (by decide +kernel) (by decide)
theorem q298 : Cond.instanceMethod yX2_isBegun ∈ lw_all := mq_ 298 (by decide +kernel) (by decide)
theorem nq186 : Cond.fieldLinkNest RX3 147 RX2 (TX2 1).2.1 (TX2 1).2.2.1 "TriggerConditions" ∈ nw_all := nq_ 186 (by decide +kernel) (by decide)
theorem nq479 : Cond.methodLinkNest RX3 151 yX2_isFinished "TriggerConditions" ∈ nw_all := nq_ 479 (by decide +kernel) (by decide)
theorem q353 : Cond.code yX2_isFinished cX2_isFinished 2 (some .boolean) ∈ lw_all := mq_ 353 (by decide +kernel) (by decide)
theorem q14 : Cond.selects yX2_isFinished.cls yX2_isFinished yX2_isFinished ∈ lw_all := mq_ 14 (by decide +kernel) (by decide)
theorem q352 : Cond.instanceMethod yX2_isFinished ∈ lw_all := mq_ 352 (by decide +kernel) (by decide)
theorem nq188 : Cond.fieldLinkNest RX3 154 RX2 (TX2 2).2.1 (TX2 2).2.2.1 "TriggerConditions" ∈ nw_all := nq_ 188 (by decide +kernel) (by decide)
theorem nq480 : Cond.methodLinkNest RX3 157 yX2_unmetAhead "TriggerConditions" ∈ nw_all := nq_ 480 (by decide +kernel) (by decide)
theorem q333 : Cond.code yX2_unmetAhead cX2_unmetAhead 5 (some .int) ∈ lw_all := mq_ 333 (by decide +kernel) (by decide)
theorem q10 : Cond.selects yX2_unmetAhead.cls yX2_unmetAhead yX2_unmetAhead ∈ lw_all := mq_ 10 (by decide +kernel) (by decide)
theorem q332 : Cond.instanceMethod yX2_unmetAhead ∈ lw_all := mq_ 332 (by decide +kernel) (by decide)
theorem nq485 : Cond.methodLinkNest RX3 160 yX2_withState "TriggerConditions" ∈ nw_all := nq_ 485 (by decide +kernel) (by decide)
theorem q488 : Cond.code yX2_withState cX2_withState 4 (some .int) ∈ lw_all := mq_ 488 (by decide +kernel) (by decide)
theorem q32 : Cond.selects yX2_withState.cls yX2_withState yX2_withState ∈ lw_all := mq_ 32 (by decide +kernel) (by decide)
theorem q487 : Cond.instanceMethod yX2_withState ∈ lw_all := mq_ 487 (by decide +kernel) (by decide)
theorem nq493 : Cond.methodLinkNest RX3 163 yX2_daysUntil "TriggerConditions" ∈ nw_all := nq_ 493 (by decide +kernel) (by decide)
theorem q496 : Cond.code yX2_daysUntil cX2_daysUntil 5 (some .int) ∈ lw_all := mq_ 496 (by decide +kernel) (by decide)
theorem q33 : Cond.selects yX2_daysUntil.cls yX2_daysUntil yX2_daysUntil ∈ lw_all := mq_ 33 (by decide +kernel) (by decide)
theorem q495 : Cond.instanceMethod yX2_daysUntil ∈ lw_all := mq_ 495 (by decide +kernel) (by decide)
theorem nq502 : Cond.methodLinkNest RX3 166 yX2_canBegin "TriggerConditions" ∈ nw_all := nq_ 502 (by decide +kernel) (by decide)
theorem q329 : Cond.code yX2_canBegin cX2_canBegin 2 (some .boolean) ∈ lw_all := mq_ 329 (by decide +kernel) (by decide)
theorem q9 : Cond.selects yX2_canBegin.cls yX2_canBegin yX2_canBegin ∈ lw_all := mq_ 9 (by decide +kernel) (by decide)
theorem q328 : Cond.instanceMethod yX2_canBegin ∈ lw_all := mq_ 328 (by decide +kernel) (by decide)
theorem nq504 : Cond.methodLinkNest RX3 170 yX2_daysUntilLawful "TriggerConditions" ∈ nw_all := nq_ 504 (by decide +kernel) (by decide)
theorem q507 : Cond.code yX2_daysUntilLawful cX2_daysUntilLawful 6 (some .int) ∈ lw_all := mq_ 507 (by decide +kernel) (by decide)
theorem q34 : Cond.selects yX2_daysUntilLawful.cls yX2_daysUntilLawful yX2_daysUntilLawful ∈ lw_all := mq_ 34 (by decide +kernel) (by decide)
theorem q506 : Cond.instanceMethod yX2_daysUntilLawful ∈ lw_all := mq_ 506 (by decide +kernel) (by decide)
theorem q503 : Cond.constant RX3 169 (-1000002) ∈ lw_all := mq_ 503 (by decide +kernel) (by decide)
theorem q517 : Cond.constantLong RX3 175 (-1000001) ∈ lw_all := mq_ 517 (by decide +kernel) (by decide)
theorem q516 : Cond.constantLong RX3 173 (1000000000000000) ∈ lw_all := mq_ 516 (by decide +kernel) (by decide)
theorem q518 : Cond.constantLong RX3 177 (9223372036854775807) ∈ lw_all := mq_ 518 (by decide +kernel) (by decide)
theorem q519 : Cond.constantLong RX3 179 (-1000003) ∈ lw_all := mq_ 519 (by decide +kernel) (by decide)
theorem q528 : Cond.constantFloat RX3 241 (1258291200) ∈ lw_all := mq_ 528 (by decide +kernel) (by decide)
theorem nq190 : Cond.fieldLinkNest RX3 181 RX2 (TX2 3).2.1 (TX2 3).2.2.1 "TriggerConditions" ∈ nw_all := nq_ 190 (by decide +kernel) (by decide)
theorem q524 : Cond.methodLink RX3 184 yJ6_bitCount_0f7a4 ∈ lw_all := mq_ 524 (by decide +kernel) (by decide)
theorem q385 : Cond.code yJ6_bitCount_0f7a4 cJ6_bitCount_0f7a4 1 (some .int) ∈ lw_all := mq_ 385 (by decide +kernel) (by decide)
theorem q90 : Cond.initialized RJ6 ∈ lw_all := mq_ 90 (by decide +kernel) (by decide)
theorem q384 : Cond.static yJ6_bitCount_0f7a4 ∈ lw_all := mq_ 384 (by decide +kernel) (by decide)
theorem q525 : Cond.methodLink RX3 189 yX3_bitsOf ∈ lw_all := mq_ 525 (by decide +kernel) (by decide)
theorem q527 : Cond.code yX3_bitsOf cX3_bitsOf 3 (some .int) ∈ lw_all := mq_ 527 (by decide +kernel) (by decide)
theorem q526 : Cond.static yX3_bitsOf ∈ lw_all := mq_ 526 (by decide +kernel) (by decide)
theorem nq192 : Cond.fieldLinkNest RX3 193 RX2 (TX2 4).2.1 (TX2 4).2.2.1 "TriggerConditions" ∈ nw_all := nq_ 192 (by decide +kernel) (by decide)
theorem nq533 : Cond.methodLinkNest RX3 196 yX2_partsOfAll "TriggerConditions" ∈ nw_all := nq_ 533 (by decide +kernel) (by decide)
theorem q536 : Cond.code yX2_partsOfAll cX2_partsOfAll 3 (some .int) ∈ lw_all := mq_ 536 (by decide +kernel) (by decide)
theorem q35 : Cond.selects yX2_partsOfAll.cls yX2_partsOfAll yX2_partsOfAll ∈ lw_all := mq_ 35 (by decide +kernel) (by decide)
theorem q535 : Cond.instanceMethod yX2_partsOfAll ∈ lw_all := mq_ 535 (by decide +kernel) (by decide)
theorem nq537 : Cond.methodLinkNest RX3 200 yX2_approvedOfAll "TriggerConditions" ∈ nw_all := nq_ 537 (by decide +kernel) (by decide)
theorem q540 : Cond.code yX2_approvedOfAll cX2_approvedOfAll 3 (some .int) ∈ lw_all := mq_ 540 (by decide +kernel) (by decide)
theorem q36 : Cond.selects yX2_approvedOfAll.cls yX2_approvedOfAll yX2_approvedOfAll ∈ lw_all := mq_ 36 (by decide +kernel) (by decide)
theorem q539 : Cond.instanceMethod yX2_approvedOfAll ∈ lw_all := mq_ 539 (by decide +kernel) (by decide)
theorem nq194 : Cond.fieldLinkNest RX3 203 RX2 (TX2 5).2.1 (TX2 5).2.2.1 "TriggerConditions" ∈ nw_all := nq_ 194 (by decide +kernel) (by decide)
theorem nq196 : Cond.fieldLinkNest RX3 206 RX2 (TX2 6).2.1 (TX2 6).2.2.1 "TriggerConditions" ∈ nw_all := nq_ 196 (by decide +kernel) (by decide)
theorem nq230 : Cond.fieldLinkNest RX3 209 RX1 (TX1 2).2.1 (TX1 2).2.2.1 "TriggerConditions" ∈ nw_all := nq_ 230 (by decide +kernel) (by decide)
theorem nq198 : Cond.fieldLinkNest RX3 212 RX2 (TX2 7).2.1 (TX2 7).2.2.1 "TriggerConditions" ∈ nw_all := nq_ 198 (by decide +kernel) (by decide)
theorem nq200 : Cond.fieldLinkNest RX3 215 RX2 (TX2 8).2.1 (TX2 8).2.2.1 "TriggerConditions" ∈ nw_all := nq_ 200 (by decide +kernel) (by decide)
theorem nq549 : Cond.methodLinkNest RX3 218 yX1_append "TriggerConditions" ∈ nw_all := nq_ 549 (by decide +kernel) (by decide)
theorem q552 : Cond.code yX1_append cX1_append 2 (some .int) ∈ lw_all := mq_ 552 (by decide +kernel) (by decide)
theorem q37 : Cond.selects yX1_append.cls yX1_append yX1_append ∈ lw_all := mq_ 37 (by decide +kernel) (by decide)
theorem q551 : Cond.instanceMethod yX1_append ∈ lw_all := mq_ 551 (by decide +kernel) (by decide)
theorem nq558 : Cond.methodLinkNest RX3 222 yX1_empty "TriggerConditions" ∈ nw_all := nq_ 558 (by decide +kernel) (by decide)
theorem q561 : Cond.code yX1_empty cX1_empty 2 (some .int) ∈ lw_all := mq_ 561 (by decide +kernel) (by decide)
theorem q38 : Cond.selects yX1_empty.cls yX1_empty yX1_empty ∈ lw_all := mq_ 38 (by decide +kernel) (by decide)
theorem q560 : Cond.instanceMethod yX1_empty ∈ lw_all := mq_ 560 (by decide +kernel) (by decide)
theorem nq566 : Cond.methodLinkNest RX3 225 yX1_doAll "TriggerConditions" ∈ nw_all := nq_ 566 (by decide +kernel) (by decide)
theorem q569 : Cond.code yX1_doAll cX1_doAll 4 (some .int) ∈ lw_all := mq_ 569 (by decide +kernel) (by decide)
theorem q39 : Cond.selects yX1_doAll.cls yX1_doAll yX1_doAll ∈ lw_all := mq_ 39 (by decide +kernel) (by decide)
theorem q568 : Cond.instanceMethod yX1_doAll ∈ lw_all := mq_ 568 (by decide +kernel) (by decide)
theorem nq235 : Cond.fieldLinkNest RX3 229 RX1 (TX1 5).2.1 (TX1 5).2.2.1 "TriggerConditions" ∈ nw_all := nq_ 235 (by decide +kernel) (by decide)
theorem nq232 : Cond.fieldLinkNest RX3 232 RX1 (TX1 3).2.1 (TX1 3).2.2.1 "TriggerConditions" ∈ nw_all := nq_ 232 (by decide +kernel) (by decide)
theorem nq237 : Cond.fieldLinkNest RX3 235 RX1 (TX1 6).2.1 (TX1 6).2.2.1 "TriggerConditions" ∈ nw_all := nq_ 237 (by decide +kernel) (by decide)
theorem nq289 : Cond.methodLinkNest RX2 88 yX3_isWithin "TriggerConditions" ∈ nw_all := nq_ 289 (by decide +kernel) (by decide)
theorem q295 : Cond.constant RX2 95 (-1000001) ∈ lw_all := mq_ 295 (by decide +kernel) (by decide)
theorem q292 : Cond.methodLink RX2 92 yX2_leastDays ∈ lw_all := mq_ 292 (by decide +kernel) (by decide)
theorem q294 : Cond.code yX2_leastDays cX2_leastDays 1 (some .int) ∈ lw_all := mq_ 294 (by decide +kernel) (by decide)
theorem q293 : Cond.static yX2_leastDays ∈ lw_all := mq_ 293 (by decide +kernel) (by decide)
theorem q296 : Cond.methodLink RX2 48 yX2_isBegun ∈ lw_all := mq_ 296 (by decide +kernel) (by decide)
theorem nq302 : Cond.methodLinkNest RX2 98 yX0_startAs "TriggerConditions" ∈ nw_all := nq_ 302 (by decide +kernel) (by decide)
theorem q305 : Cond.code yX0_startAs cX0_startAs 5 none ∈ lw_all := mq_ 305 (by decide +kernel) (by decide)
theorem q4 : Cond.selects yX0_startAs.cls yX0_startAs yX0_startAs ∈ lw_all := mq_ 4 (by decide +kernel) (by decide)
theorem q304 : Cond.instanceMethod yX0_startAs ∈ lw_all := mq_ 304 (by decide +kernel) (by decide)
theorem q301 : Cond.constant RX2 97 (-1000003) ∈ lw_all := mq_ 301 (by decide +kernel) (by decide)
theorem q300 : Cond.constant RX2 96 (-1000002) ∈ lw_all := mq_ 300 (by decide +kernel) (by decide)
theorem nq114 : Cond.fieldLinkNest RX2 66 RX0 (TX0 0).2.1 (TX0 0).2.2.1 "TriggerConditions" ∈ nw_all := nq_ 114 (by decide +kernel) (by decide)
theorem nq117 : Cond.fieldLinkNest RX2 69 RX0 (TX0 1).2.1 (TX0 1).2.2.1 "TriggerConditions" ∈ nw_all := nq_ 117 (by decide +kernel) (by decide)
theorem nq334 : Cond.methodLinkNest RX2 62 yX0_isMet "TriggerConditions" ∈ nw_all := nq_ 334 (by decide +kernel) (by decide)
theorem nq138 : Cond.fieldLinkNest RX2 59 RX0 (TX0 8).2.1 (TX0 8).2.2.1 "TriggerConditions" ∈ nw_all := nq_ 138 (by decide +kernel) (by decide)
theorem q326 : Cond.methodLink RX2 102 yX2_canBegin ∈ lw_all := mq_ 326 (by decide +kernel) (by decide)
theorem q330 : Cond.methodLink RX2 105 yX2_unmetAhead ∈ lw_all := mq_ 330 (by decide +kernel) (by decide)
theorem q338 : Cond.methodLink RX2 108 yX2_startBreach ∈ lw_all := mq_ 338 (by decide +kernel) (by decide)
theorem q341 : Cond.code yX2_startBreach cX2_startBreach 2 none ∈ lw_all := mq_ 341 (by decide +kernel) (by decide)
theorem q12 : Cond.selects yX2_startBreach.cls yX2_startBreach yX2_startBreach ∈ lw_all := mq_ 12 (by decide +kernel) (by decide)
theorem q340 : Cond.instanceMethod yX2_startBreach ∈ lw_all := mq_ 340 (by decide +kernel) (by decide)
theorem q350 : Cond.methodLink RX2 52 yX2_isFinished ∈ lw_all := mq_ 350 (by decide +kernel) (by decide)
theorem q362 : Cond.methodLink RX2 111 yX2_hasCondition ∈ lw_all := mq_ 362 (by decide +kernel) (by decide)
theorem nq366 : Cond.methodLinkNest RX2 114 yX0_isPartsSet "TriggerConditions" ∈ nw_all := nq_ 366 (by decide +kernel) (by decide)
theorem q369 : Cond.code yX0_isPartsSet cX0_isPartsSet 2 (some .boolean) ∈ lw_all := mq_ 369 (by decide +kernel) (by decide)
theorem q17 : Cond.selects yX0_isPartsSet.cls yX0_isPartsSet yX0_isPartsSet ∈ lw_all := mq_ 17 (by decide +kernel) (by decide)
theorem q368 : Cond.instanceMethod yX0_isPartsSet ∈ lw_all := mq_ 368 (by decide +kernel) (by decide)
theorem nq130 : Cond.fieldLinkNest RX2 117 RX0 (TX0 5).2.1 (TX0 5).2.2.1 "TriggerConditions" ∈ nw_all := nq_ 130 (by decide +kernel) (by decide)
theorem nq126 : Cond.fieldLinkNest RX2 79 RX0 (TX0 4).2.1 (TX0 4).2.2.1 "TriggerConditions" ∈ nw_all := nq_ 126 (by decide +kernel) (by decide)
theorem nq133 : Cond.fieldLinkNest RX2 120 RX0 (TX0 6).2.1 (TX0 6).2.2.1 "TriggerConditions" ∈ nw_all := nq_ 133 (by decide +kernel) (by decide)
theorem nq378 : Cond.methodLinkNest RX2 123 yX0_approve "TriggerConditions" ∈ nw_all := nq_ 378 (by decide +kernel) (by decide)
theorem q381 : Cond.code yX0_approve cX0_approve 2 none ∈ lw_all := mq_ 381 (by decide +kernel) (by decide)
theorem q19 : Cond.selects yX0_approve.cls yX0_approve yX0_approve ∈ lw_all := mq_ 19 (by decide +kernel) (by decide)
theorem q380 : Cond.instanceMethod yX0_approve ∈ lw_all := mq_ 380 (by decide +kernel) (by decide)
theorem nq123 : Cond.fieldLinkNest RX2 76 RX0 (TX0 3).2.1 (TX0 3).2.2.1 "TriggerConditions" ∈ nw_all := nq_ 123 (by decide +kernel) (by decide)
theorem q383 : Cond.methodLink RX2 82 yJ6_bitCount_0f7a4 ∈ lw_all := mq_ 383 (by decide +kernel) (by decide)
theorem nq141 : Cond.fieldLinkNest RX2 55 RX0 (TX0 9).2.1 (TX0 9).2.2.1 "TriggerConditions" ∈ nw_all := nq_ 141 (by decide +kernel) (by decide)
theorem nq136 : Cond.fieldLinkNest RX2 127 RX0 (TX0 7).2.1 (TX0 7).2.2.1 "TriggerConditions" ∈ nw_all := nq_ 136 (by decide +kernel) (by decide)
theorem nq121 : Cond.fieldLinkNest RX2 149 RX0 (TX0 2).2.1 (TX0 2).2.2.1 "TriggerConditions" ∈ nw_all := nq_ 121 (by decide +kernel) (by decide)
theorem q445 : Cond.methodLink RX2 155 yX2_passClock ∈ lw_all := mq_ 445 (by decide +kernel) (by decide)
theorem q448 : Cond.code yX2_passClock cX2_passClock 2 none ∈ lw_all := mq_ 448 (by decide +kernel) (by decide)
theorem q28 : Cond.selects yX2_passClock.cls yX2_passClock yX2_passClock ∈ lw_all := mq_ 28 (by decide +kernel) (by decide)
theorem q447 : Cond.instanceMethod yX2_passClock ∈ lw_all := mq_ 447 (by decide +kernel) (by decide)
theorem nq449 : Cond.methodLinkNest RX2 158 yX0_ageBreach "TriggerConditions" ∈ nw_all := nq_ 449 (by decide +kernel) (by decide)
theorem q452 : Cond.code yX0_ageBreach cX0_ageBreach 2 none ∈ lw_all := mq_ 452 (by decide +kernel) (by decide)
theorem q29 : Cond.selects yX0_ageBreach.cls yX0_ageBreach yX0_ageBreach ∈ lw_all := mq_ 29 (by decide +kernel) (by decide)
theorem q451 : Cond.instanceMethod yX0_ageBreach ∈ lw_all := mq_ 451 (by decide +kernel) (by decide)
theorem q441 : Cond.methodLink RX2 152 yX2_passDayOf ∈ lw_all := mq_ 441 (by decide +kernel) (by decide)
theorem q444 : Cond.code yX2_passDayOf cX2_passDayOf 3 none ∈ lw_all := mq_ 444 (by decide +kernel) (by decide)
theorem q27 : Cond.selects yX2_passDayOf.cls yX2_passDayOf yX2_passDayOf ∈ lw_all := mq_ 27 (by decide +kernel) (by decide)
theorem q443 : Cond.instanceMethod yX2_passDayOf ∈ lw_all := mq_ 443 (by decide +kernel) (by decide)
theorem nq281 : Cond.methodLinkNest RX2 44 yX0_copyFrom "TriggerConditions" ∈ nw_all := nq_ 281 (by decide +kernel) (by decide)
theorem q284 : Cond.code yX0_copyFrom cX0_copyFrom 2 none ∈ lw_all := mq_ 284 (by decide +kernel) (by decide)
theorem q1 : Cond.selects yX0_copyFrom.cls yX0_copyFrom yX0_copyFrom ∈ lw_all := mq_ 1 (by decide +kernel) (by decide)
theorem q283 : Cond.instanceMethod yX0_copyFrom ∈ lw_all := mq_ 283 (by decide +kernel) (by decide)
theorem q397 : Cond.methodLink RX2 72 yX2_stateOf ∈ lw_all := mq_ 397 (by decide +kernel) (by decide)
theorem nq144 : Cond.fieldLinkNest RX2 130 RX0 (TX0 10).2.1 (TX0 10).2.2.1 "TriggerConditions" ∈ nw_all := nq_ 144 (by decide +kernel) (by decide)
theorem nq409 : Cond.methodLinkNest RX2 133 yX0_endBreach "TriggerConditions" ∈ nw_all := nq_ 409 (by decide +kernel) (by decide)
theorem nq147 : Cond.fieldLinkNest RX2 136 RX0 (TX0 11).2.1 (TX0 11).2.2.1 "TriggerConditions" ∈ nw_all := nq_ 147 (by decide +kernel) (by decide)
theorem nq150 : Cond.fieldLinkNest RX2 139 RX0 (TX0 12).2.1 (TX0 12).2.2.1 "TriggerConditions" ∈ nw_all := nq_ 150 (by decide +kernel) (by decide)
theorem q426 : Cond.methodLink RX2 142 yX2_isVariation ∈ lw_all := mq_ 426 (by decide +kernel) (by decide)
theorem q428 : Cond.code yX2_isVariation cX2_isVariation 3 (some .boolean) ∈ lw_all := mq_ 428 (by decide +kernel) (by decide)
theorem q427 : Cond.static yX2_isVariation ∈ lw_all := mq_ 427 (by decide +kernel) (by decide)
theorem q429 : Cond.methodLink RX2 145 yX2_canVary ∈ lw_all := mq_ 429 (by decide +kernel) (by decide)
theorem q432 : Cond.code yX2_canVary cX2_canVary 5 (some .boolean) ∈ lw_all := mq_ 432 (by decide +kernel) (by decide)
theorem q25 : Cond.selects yX2_canVary.cls yX2_canVary yX2_canVary ∈ lw_all := mq_ 25 (by decide +kernel) (by decide)
theorem q431 : Cond.instanceMethod yX2_canVary ∈ lw_all := mq_ 431 (by decide +kernel) (by decide)
theorem q497 : Cond.constant RX2 161 (-1000004) ∈ lw_all := mq_ 497 (by decide +kernel) (by decide)
theorem q508 : Cond.methodLink RX2 162 yX2_daysUntil ∈ lw_all := mq_ 508 (by decide +kernel) (by decide)
theorem q509 : Cond.methodLink RX2 166 Lib.Math.max.name ∈ lw_all := mq_ 509 (by decide +kernel) (by decide)
theorem q510 : Cond.static Lib.Math.max.name ∈ lw_all := mq_ 510 (by decide +kernel) (by decide)
theorem q91 : Cond.initialized RJ9 ∈ lw_all := mq_ 91 (by decide +kernel) (by decide)
theorem q511 : Cond.code Lib.Math.max.name Lib.Math.max.code 2 (some .int) ∈ lw_all := mq_ 511 (by decide +kernel) (by decide)
theorem q386 : Cond.constant RJ6 265 (1431655765) ∈ lw_all := mq_ 386 (by decide +kernel) (by decide)
theorem q387 : Cond.constant RJ6 266 (858993459) ∈ lw_all := mq_ 387 (by decide +kernel) (by decide)
theorem q388 : Cond.constant RJ6 267 (252645135) ∈ lw_all := mq_ 388 (by decide +kernel) (by decide)
theorem q690 : Cond.constant RX4 28 (-1000000) ∈ lw_all := mq_ 690 (by decide +kernel) (by decide)
theorem q612 : Cond.fieldLink RX4 29 RX4 (TX4 4).2.1 (TX4 4).2.2.1 ∈ lw_all := mq_ 612 (by decide +kernel) (by decide)
theorem q687 : Cond.methodLink RX4 33 yX4_isError ∈ lw_all := mq_ 687 (by decide +kernel) (by decide)
theorem q689 : Cond.code yX4_isError cX4_isError 1 (some .boolean) ∈ lw_all := mq_ 689 (by decide +kernel) (by decide)
theorem q89 : Cond.initialized RX4 ∈ lw_all := mq_ 89 (by decide +kernel) (by decide)
theorem q688 : Cond.static yX4_isError ∈ lw_all := mq_ 688 (by decide +kernel) (by decide)
theorem q691 : Cond.methodLink RX4 37 yX4_record ∈ lw_all := mq_ 691 (by decide +kernel) (by decide)
theorem q694 : Cond.code yX4_record cX4_record 2 none ∈ lw_all := mq_ 694 (by decide +kernel) (by decide)
theorem q48 : Cond.selects yX4_record.cls yX4_record yX4_record ∈ lw_all := mq_ 48 (by decide +kernel) (by decide)
theorem q693 : Cond.instanceMethod yX4_record ∈ lw_all := mq_ 693 (by decide +kernel) (by decide)
theorem q660 : Cond.methodLink RX4 40 yX4_in ∈ lw_all := mq_ 660 (by decide +kernel) (by decide)
theorem q662 : Cond.code yX4_in cX4_in 6 (some .boolean) ∈ lw_all := mq_ 662 (by decide +kernel) (by decide)
theorem q661 : Cond.static yX4_in ∈ lw_all := mq_ 661 (by decide +kernel) (by decide)
theorem q666 : Cond.constantLong RX4 44 (4) ∈ lw_all := mq_ 666 (by decide +kernel) (by decide)
theorem q711 : Cond.methodLink RX4 46 yX4_get ∈ lw_all := mq_ 711 (by decide +kernel) (by decide)
theorem q714 : Cond.code yX4_get cX4_get 3 (some .int) ∈ lw_all := mq_ 714 (by decide +kernel) (by decide)
theorem q52 : Cond.selects yX4_get.cls yX4_get yX4_get ∈ lw_all := mq_ 52 (by decide +kernel) (by decide)
theorem q713 : Cond.instanceMethod yX4_get ∈ lw_all := mq_ 713 (by decide +kernel) (by decide)
theorem q719 : Cond.methodLink RX4 50 yX4_allParts ∈ lw_all := mq_ 719 (by decide +kernel) (by decide)
theorem q722 : Cond.code yX4_allParts cX4_allParts 2 (some .int) ∈ lw_all := mq_ 722 (by decide +kernel) (by decide)
theorem q54 : Cond.selects yX4_allParts.cls yX4_allParts yX4_allParts ∈ lw_all := mq_ 54 (by decide +kernel) (by decide)
theorem q721 : Cond.instanceMethod yX4_allParts ∈ lw_all := mq_ 721 (by decide +kernel) (by decide)
theorem q735 : Cond.methodLink RX4 57 yX4_isFinished ∈ lw_all := mq_ 735 (by decide +kernel) (by decide)
theorem q738 : Cond.code yX4_isFinished cX4_isFinished 2 (some .boolean) ∈ lw_all := mq_ 738 (by decide +kernel) (by decide)
theorem q57 : Cond.selects yX4_isFinished.cls yX4_isFinished yX4_isFinished ∈ lw_all := mq_ 57 (by decide +kernel) (by decide)
theorem q737 : Cond.instanceMethod yX4_isFinished ∈ lw_all := mq_ 737 (by decide +kernel) (by decide)
theorem q673 : Cond.methodLink RX4 54 yX4_hasBegun ∈ lw_all := mq_ 673 (by decide +kernel) (by decide)
theorem q676 : Cond.code yX4_hasBegun cX4_hasBegun 2 (some .boolean) ∈ lw_all := mq_ 676 (by decide +kernel) (by decide)
theorem q45 : Cond.selects yX4_hasBegun.cls yX4_hasBegun yX4_hasBegun ∈ lw_all := mq_ 45 (by decide +kernel) (by decide)
theorem q675 : Cond.instanceMethod yX4_hasBegun ∈ lw_all := mq_ 675 (by decide +kernel) (by decide)
theorem q715 : Cond.methodLink RX4 60 yX4_isMet ∈ lw_all := mq_ 715 (by decide +kernel) (by decide)
theorem q718 : Cond.code yX4_isMet cX4_isMet 2 (some .boolean) ∈ lw_all := mq_ 718 (by decide +kernel) (by decide)
theorem q53 : Cond.selects yX4_isMet.cls yX4_isMet yX4_isMet ∈ lw_all := mq_ 53 (by decide +kernel) (by decide)
theorem q717 : Cond.instanceMethod yX4_isMet ∈ lw_all := mq_ 717 (by decide +kernel) (by decide)
theorem q782 : Cond.methodLink RX4 63 yX4_isAsleep ∈ lw_all := mq_ 782 (by decide +kernel) (by decide)
theorem q785 : Cond.code yX4_isAsleep cX4_isAsleep 4 (some .boolean) ∈ lw_all := mq_ 785 (by decide +kernel) (by decide)
theorem q65 : Cond.selects yX4_isAsleep.cls yX4_isAsleep yX4_isAsleep ∈ lw_all := mq_ 65 (by decide +kernel) (by decide)
theorem q784 : Cond.instanceMethod yX4_isAsleep ∈ lw_all := mq_ 784 (by decide +kernel) (by decide)
theorem q679 : Cond.methodLink RX4 66 yX4_put ∈ lw_all := mq_ 679 (by decide +kernel) (by decide)
theorem q682 : Cond.code yX4_put cX4_put 4 none ∈ lw_all := mq_ 682 (by decide +kernel) (by decide)
theorem q46 : Cond.selects yX4_put.cls yX4_put yX4_put ∈ lw_all := mq_ 46 (by decide +kernel) (by decide)
theorem q681 : Cond.instanceMethod yX4_put ∈ lw_all := mq_ 681 (by decide +kernel) (by decide)
theorem q763 : Cond.methodLink RX4 70 yX4_mends ∈ lw_all := mq_ 763 (by decide +kernel) (by decide)
theorem q766 : Cond.code yX4_mends cX4_mends 2 none ∈ lw_all := mq_ 766 (by decide +kernel) (by decide)
theorem q62 : Cond.selects yX4_mends.cls yX4_mends yX4_mends ∈ lw_all := mq_ 62 (by decide +kernel) (by decide)
theorem q765 : Cond.instanceMethod yX4_mends ∈ lw_all := mq_ 765 (by decide +kernel) (by decide)
theorem q670 : Cond.constantLong RX4 74 (365) ∈ lw_all := mq_ 670 (by decide +kernel) (by decide)
theorem q659 : Cond.constantLong RX4 76 (2) ∈ lw_all := mq_ 659 (by decide +kernel) (by decide)
theorem q672 : Cond.constant RX4 87 (-1000001) ∈ lw_all := mq_ 672 (by decide +kernel) (by decide)
theorem q663 : Cond.methodLink RX4 78 yX4_isStage ∈ lw_all := mq_ 663 (by decide +kernel) (by decide)
theorem q665 : Cond.code yX4_isStage cX4_isStage 1 (some .boolean) ∈ lw_all := mq_ 665 (by decide +kernel) (by decide)
theorem q664 : Cond.static yX4_isStage ∈ lw_all := mq_ 664 (by decide +kernel) (by decide)
theorem q667 : Cond.methodLink RX4 81 yX4_areDays ∈ lw_all := mq_ 667 (by decide +kernel) (by decide)
theorem q669 : Cond.code yX4_areDays cX4_areDays 2 (some .boolean) ∈ lw_all := mq_ 669 (by decide +kernel) (by decide)
theorem q668 : Cond.static yX4_areDays ∈ lw_all := mq_ 668 (by decide +kernel) (by decide)
theorem q671 : Cond.constantLong RX4 85 (6) ∈ lw_all := mq_ 671 (by decide +kernel) (by decide)
theorem q678 : Cond.constant RX4 89 (-1000003) ∈ lw_all := mq_ 678 (by decide +kernel) (by decide)
theorem q677 : Cond.constant RX4 88 (-1000002) ∈ lw_all := mq_ 677 (by decide +kernel) (by decide)
theorem q703 : Cond.methodLink RX4 90 yX4_mayBegin ∈ lw_all := mq_ 703 (by decide +kernel) (by decide)
theorem q706 : Cond.code yX4_mayBegin cX4_mayBegin 2 (some .boolean) ∈ lw_all := mq_ 706 (by decide +kernel) (by decide)
theorem q50 : Cond.selects yX4_mayBegin.cls yX4_mayBegin yX4_mayBegin ∈ lw_all := mq_ 50 (by decide +kernel) (by decide)
theorem q705 : Cond.instanceMethod yX4_mayBegin ∈ lw_all := mq_ 705 (by decide +kernel) (by decide)
theorem q707 : Cond.methodLink RX4 93 yX4_unmetAhead ∈ lw_all := mq_ 707 (by decide +kernel) (by decide)
theorem q710 : Cond.code yX4_unmetAhead cX4_unmetAhead 4 (some .int) ∈ lw_all := mq_ 710 (by decide +kernel) (by decide)
theorem q51 : Cond.selects yX4_unmetAhead.cls yX4_unmetAhead yX4_unmetAhead ∈ lw_all := mq_ 51 (by decide +kernel) (by decide)
theorem q709 : Cond.instanceMethod yX4_unmetAhead ∈ lw_all := mq_ 709 (by decide +kernel) (by decide)
theorem q723 : Cond.methodLink RX4 96 yX4_breaks ∈ lw_all := mq_ 723 (by decide +kernel) (by decide)
theorem q726 : Cond.code yX4_breaks cX4_breaks 2 none ∈ lw_all := mq_ 726 (by decide +kernel) (by decide)
theorem q55 : Cond.selects yX4_breaks.cls yX4_breaks yX4_breaks ∈ lw_all := mq_ 55 (by decide +kernel) (by decide)
theorem q725 : Cond.instanceMethod yX4_breaks ∈ lw_all := mq_ 725 (by decide +kernel) (by decide)
theorem q747 : Cond.methodLink RX4 99 yX4_isCondition ∈ lw_all := mq_ 747 (by decide +kernel) (by decide)
theorem q750 : Cond.code yX4_isCondition cX4_isCondition 2 (some .boolean) ∈ lw_all := mq_ 750 (by decide +kernel) (by decide)
theorem q59 : Cond.selects yX4_isCondition.cls yX4_isCondition yX4_isCondition ∈ lw_all := mq_ 59 (by decide +kernel) (by decide)
theorem q749 : Cond.instanceMethod yX4_isCondition ∈ lw_all := mq_ 749 (by decide +kernel) (by decide)
theorem q759 : Cond.methodLink RX4 102 yX4_approves ∈ lw_all := mq_ 759 (by decide +kernel) (by decide)
theorem q762 : Cond.code yX4_approves cX4_approves 3 none ∈ lw_all := mq_ 762 (by decide +kernel) (by decide)
theorem q61 : Cond.selects yX4_approves.cls yX4_approves yX4_approves ∈ lw_all := mq_ 61 (by decide +kernel) (by decide)
theorem q761 : Cond.instanceMethod yX4_approves ∈ lw_all := mq_ 761 (by decide +kernel) (by decide)
theorem q767 : Cond.methodLink RX4 106 yX4_bits ∈ lw_all := mq_ 767 (by decide +kernel) (by decide)
theorem q769 : Cond.code yX4_bits cX4_bits 3 (some .int) ∈ lw_all := mq_ 769 (by decide +kernel) (by decide)
theorem q768 : Cond.static yX4_bits ∈ lw_all := mq_ 768 (by decide +kernel) (by decide)
theorem q778 : Cond.methodLink RX4 109 yX4_stateOf ∈ lw_all := mq_ 778 (by decide +kernel) (by decide)
theorem q781 : Cond.code yX4_stateOf cX4_stateOf 2 (some .int) ∈ lw_all := mq_ 781 (by decide +kernel) (by decide)
theorem q64 : Cond.selects yX4_stateOf.cls yX4_stateOf yX4_stateOf ∈ lw_all := mq_ 64 (by decide +kernel) (by decide)
theorem q780 : Cond.instanceMethod yX4_stateOf ∈ lw_all := mq_ 780 (by decide +kernel) (by decide)
theorem q802 : Cond.constantLong RX4 112 (99) ∈ lw_all := mq_ 802 (by decide +kernel) (by decide)
theorem q811 : Cond.methodLink RX4 114 yX4_isValue ∈ lw_all := mq_ 811 (by decide +kernel) (by decide)
theorem q814 : Cond.code yX4_isValue cX4_isValue 4 (some .boolean) ∈ lw_all := mq_ 814 (by decide +kernel) (by decide)
theorem q69 : Cond.selects yX4_isValue.cls yX4_isValue yX4_isValue ∈ lw_all := mq_ 69 (by decide +kernel) (by decide)
theorem q813 : Cond.instanceMethod yX4_isValue ∈ lw_all := mq_ 813 (by decide +kernel) (by decide)
theorem q815 : Cond.methodLink RX4 118 yX4_mayVary ∈ lw_all := mq_ 815 (by decide +kernel) (by decide)
theorem q818 : Cond.code yX4_mayVary cX4_mayVary 5 (some .boolean) ∈ lw_all := mq_ 818 (by decide +kernel) (by decide)
theorem q70 : Cond.selects yX4_mayVary.cls yX4_mayVary yX4_mayVary ∈ lw_all := mq_ 70 (by decide +kernel) (by decide)
theorem q817 : Cond.instanceMethod yX4_mayVary ∈ lw_all := mq_ 817 (by decide +kernel) (by decide)
theorem q840 : Cond.methodLink RX4 127 yX4_ages ∈ lw_all := mq_ 840 (by decide +kernel) (by decide)
theorem q843 : Cond.code yX4_ages cX4_ages 3 none ∈ lw_all := mq_ 843 (by decide +kernel) (by decide)
theorem q75 : Cond.selects yX4_ages.cls yX4_ages yX4_ages ∈ lw_all := mq_ 75 (by decide +kernel) (by decide)
theorem q842 : Cond.instanceMethod yX4_ages ∈ lw_all := mq_ 842 (by decide +kernel) (by decide)
theorem q836 : Cond.methodLink RX4 124 yX4_runsOn ∈ lw_all := mq_ 836 (by decide +kernel) (by decide)
theorem q839 : Cond.code yX4_runsOn cX4_runsOn 4 none ∈ lw_all := mq_ 839 (by decide +kernel) (by decide)
theorem q74 : Cond.selects yX4_runsOn.cls yX4_runsOn yX4_runsOn ∈ lw_all := mq_ 74 (by decide +kernel) (by decide)
theorem q838 : Cond.instanceMethod yX4_runsOn ∈ lw_all := mq_ 838 (by decide +kernel) (by decide)
theorem q832 : Cond.methodLink RX4 121 yX4_waitsOn ∈ lw_all := mq_ 832 (by decide +kernel) (by decide)
theorem q835 : Cond.code yX4_waitsOn cX4_waitsOn 2 none ∈ lw_all := mq_ 835 (by decide +kernel) (by decide)
theorem q73 : Cond.selects yX4_waitsOn.cls yX4_waitsOn yX4_waitsOn ∈ lw_all := mq_ 73 (by decide +kernel) (by decide)
theorem q834 : Cond.instanceMethod yX4_waitsOn ∈ lw_all := mq_ 834 (by decide +kernel) (by decide)
theorem q827 : Cond.constantLong RX4 130 (400) ∈ lw_all := mq_ 827 (by decide +kernel) (by decide)
theorem q828 : Cond.methodLink RX4 132 yX4_passDay ∈ lw_all := mq_ 828 (by decide +kernel) (by decide)
theorem q831 : Cond.code yX4_passDay cX4_passDay 3 none ∈ lw_all := mq_ 831 (by decide +kernel) (by decide)
theorem q72 : Cond.selects yX4_passDay.cls yX4_passDay yX4_passDay ∈ lw_all := mq_ 72 (by decide +kernel) (by decide)
theorem q830 : Cond.instanceMethod yX4_passDay ∈ lw_all := mq_ 830 (by decide +kernel) (by decide)
theorem q652 : Cond.methodLink RX4 135 yX4_copy ∈ lw_all := mq_ 652 (by decide +kernel) (by decide)
theorem q654 : Cond.code yX4_copy cX4_copy 3 none ∈ lw_all := mq_ 654 (by decide +kernel) (by decide)
theorem q653 : Cond.static yX4_copy ∈ lw_all := mq_ 653 (by decide +kernel) (by decide)
theorem q655 : Cond.methodLink RX4 139 yX4_doCondition ∈ lw_all := mq_ 655 (by decide +kernel) (by decide)
theorem q658 : Cond.code yX4_doCondition cX4_doCondition 7 (some .int) ∈ lw_all := mq_ 658 (by decide +kernel) (by decide)
theorem q44 : Cond.selects yX4_doCondition.cls yX4_doCondition yX4_doCondition ∈ lw_all := mq_ 44 (by decide +kernel) (by decide)
theorem q657 : Cond.instanceMethod yX4_doCondition ∈ lw_all := mq_ 657 (by decide +kernel) (by decide)
theorem q683 : Cond.methodLink RX4 143 yX4_changed ∈ lw_all := mq_ 683 (by decide +kernel) (by decide)
theorem q686 : Cond.code yX4_changed cX4_changed 2 (some .int) ∈ lw_all := mq_ 686 (by decide +kernel) (by decide)
theorem q47 : Cond.selects yX4_changed.cls yX4_changed yX4_changed ∈ lw_all := mq_ 47 (by decide +kernel) (by decide)
theorem q685 : Cond.instanceMethod yX4_changed ∈ lw_all := mq_ 685 (by decide +kernel) (by decide)
theorem q699 : Cond.methodLink RX4 146 yX4_doBegin ∈ lw_all := mq_ 699 (by decide +kernel) (by decide)
theorem q702 : Cond.code yX4_doBegin cX4_doBegin 4 (some .int) ∈ lw_all := mq_ 702 (by decide +kernel) (by decide)
theorem q49 : Cond.selects yX4_doBegin.cls yX4_doBegin yX4_doBegin ∈ lw_all := mq_ 49 (by decide +kernel) (by decide)
theorem q701 : Cond.instanceMethod yX4_doBegin ∈ lw_all := mq_ 701 (by decide +kernel) (by decide)
theorem q731 : Cond.methodLink RX4 149 yX4_doFinish ∈ lw_all := mq_ 731 (by decide +kernel) (by decide)
theorem q734 : Cond.code yX4_doFinish cX4_doFinish 2 (some .int) ∈ lw_all := mq_ 734 (by decide +kernel) (by decide)
theorem q56 : Cond.selects yX4_doFinish.cls yX4_doFinish yX4_doFinish ∈ lw_all := mq_ 56 (by decide +kernel) (by decide)
theorem q733 : Cond.instanceMethod yX4_doFinish ∈ lw_all := mq_ 733 (by decide +kernel) (by decide)
theorem q743 : Cond.methodLink RX4 152 yX4_doApply ∈ lw_all := mq_ 743 (by decide +kernel) (by decide)
theorem q746 : Cond.code yX4_doApply cX4_doApply 3 (some .int) ∈ lw_all := mq_ 746 (by decide +kernel) (by decide)
theorem q58 : Cond.selects yX4_doApply.cls yX4_doApply yX4_doApply ∈ lw_all := mq_ 58 (by decide +kernel) (by decide)
theorem q745 : Cond.instanceMethod yX4_doApply ∈ lw_all := mq_ 745 (by decide +kernel) (by decide)
theorem q755 : Cond.methodLink RX4 155 yX4_doDecide ∈ lw_all := mq_ 755 (by decide +kernel) (by decide)
theorem q758 : Cond.code yX4_doDecide cX4_doDecide 3 (some .int) ∈ lw_all := mq_ 758 (by decide +kernel) (by decide)
theorem q60 : Cond.selects yX4_doDecide.cls yX4_doDecide yX4_doDecide ∈ lw_all := mq_ 60 (by decide +kernel) (by decide)
theorem q757 : Cond.instanceMethod yX4_doDecide ∈ lw_all := mq_ 757 (by decide +kernel) (by decide)
theorem q774 : Cond.methodLink RX4 158 yX4_doLapse ∈ lw_all := mq_ 774 (by decide +kernel) (by decide)
theorem q777 : Cond.code yX4_doLapse cX4_doLapse 2 (some .int) ∈ lw_all := mq_ 777 (by decide +kernel) (by decide)
theorem q63 : Cond.selects yX4_doLapse.cls yX4_doLapse yX4_doLapse ∈ lw_all := mq_ 63 (by decide +kernel) (by decide)
theorem q776 : Cond.instanceMethod yX4_doLapse ∈ lw_all := mq_ 776 (by decide +kernel) (by decide)
theorem q790 : Cond.methodLink RX4 161 yX4_doCure ∈ lw_all := mq_ 790 (by decide +kernel) (by decide)
theorem q793 : Cond.code yX4_doCure cX4_doCure 3 (some .int) ∈ lw_all := mq_ 793 (by decide +kernel) (by decide)
theorem q66 : Cond.selects yX4_doCure.cls yX4_doCure yX4_doCure ∈ lw_all := mq_ 66 (by decide +kernel) (by decide)
theorem q792 : Cond.instanceMethod yX4_doCure ∈ lw_all := mq_ 792 (by decide +kernel) (by decide)
theorem q798 : Cond.methodLink RX4 164 yX4_doServe ∈ lw_all := mq_ 798 (by decide +kernel) (by decide)
theorem q801 : Cond.code yX4_doServe cX4_doServe 3 (some .int) ∈ lw_all := mq_ 801 (by decide +kernel) (by decide)
theorem q67 : Cond.selects yX4_doServe.cls yX4_doServe yX4_doServe ∈ lw_all := mq_ 67 (by decide +kernel) (by decide)
theorem q800 : Cond.instanceMethod yX4_doServe ∈ lw_all := mq_ 800 (by decide +kernel) (by decide)
theorem q807 : Cond.methodLink RX4 167 yX4_doVary ∈ lw_all := mq_ 807 (by decide +kernel) (by decide)
theorem q810 : Cond.code yX4_doVary cX4_doVary 6 (some .int) ∈ lw_all := mq_ 810 (by decide +kernel) (by decide)
theorem q68 : Cond.selects yX4_doVary.cls yX4_doVary yX4_doVary ∈ lw_all := mq_ 68 (by decide +kernel) (by decide)
theorem q809 : Cond.instanceMethod yX4_doVary ∈ lw_all := mq_ 809 (by decide +kernel) (by decide)
theorem q823 : Cond.methodLink RX4 171 yX4_doPass ∈ lw_all := mq_ 823 (by decide +kernel) (by decide)
theorem q826 : Cond.code yX4_doPass cX4_doPass 3 (some .int) ∈ lw_all := mq_ 826 (by decide +kernel) (by decide)
theorem q71 : Cond.selects yX4_doPass.cls yX4_doPass yX4_doPass ∈ lw_all := mq_ 71 (by decide +kernel) (by decide)
theorem q825 : Cond.instanceMethod yX4_doPass ∈ lw_all := mq_ 825 (by decide +kernel) (by decide)
theorem q848 : Cond.methodLink RX4 174 yX4_doSet ∈ lw_all := mq_ 848 (by decide +kernel) (by decide)
theorem q851 : Cond.code yX4_doSet cX4_doSet 4 (some .int) ∈ lw_all := mq_ 851 (by decide +kernel) (by decide)
theorem q76 : Cond.selects yX4_doSet.cls yX4_doSet yX4_doSet ∈ lw_all := mq_ 76 (by decide +kernel) (by decide)
theorem q850 : Cond.instanceMethod yX4_doSet ∈ lw_all := mq_ 850 (by decide +kernel) (by decide)
theorem q856 : Cond.constantLong RX4 177 (11) ∈ lw_all := mq_ 856 (by decide +kernel) (by decide)
theorem q857 : Cond.constant RX4 179 (-1000004) ∈ lw_all := mq_ 857 (by decide +kernel) (by decide)
theorem q862 : Cond.constantLong RX4 180 (3) ∈ lw_all := mq_ 862 (by decide +kernel) (by decide)
theorem q867 : Cond.methodLink RX4 182 yX4_withState ∈ lw_all := mq_ 867 (by decide +kernel) (by decide)
theorem q870 : Cond.code yX4_withState cX4_withState 4 (some .int) ∈ lw_all := mq_ 870 (by decide +kernel) (by decide)
theorem q77 : Cond.selects yX4_withState.cls yX4_withState yX4_withState ∈ lw_all := mq_ 77 (by decide +kernel) (by decide)
theorem q869 : Cond.instanceMethod yX4_withState ∈ lw_all := mq_ 869 (by decide +kernel) (by decide)
theorem q884 : Cond.constantLong RX4 187 (-1000001) ∈ lw_all := mq_ 884 (by decide +kernel) (by decide)
theorem q883 : Cond.constantLong RX4 185 (1000000000000000) ∈ lw_all := mq_ 883 (by decide +kernel) (by decide)
theorem q885 : Cond.constantLong RX4 189 (9223372036854775807) ∈ lw_all := mq_ 885 (by decide +kernel) (by decide)
theorem q886 : Cond.constantLong RX4 191 (-1000003) ∈ lw_all := mq_ 886 (by decide +kernel) (by decide)
theorem q894 : Cond.constantLong RX4 193 (8388608) ∈ lw_all := mq_ 894 (by decide +kernel) (by decide)
theorem q895 : Cond.constantLong RX4 195 (16777216) ∈ lw_all := mq_ 895 (by decide +kernel) (by decide)
theorem q891 : Cond.methodLink RX4 197 yX4_shareBits ∈ lw_all := mq_ 891 (by decide +kernel) (by decide)
theorem q893 : Cond.code yX4_shareBits cX4_shareBits 12 (some .int) ∈ lw_all := mq_ 893 (by decide +kernel) (by decide)
theorem q892 : Cond.static yX4_shareBits ∈ lw_all := mq_ 892 (by decide +kernel) (by decide)
theorem q900 : Cond.methodLink RX4 200 yX4_partsOf ∈ lw_all := mq_ 900 (by decide +kernel) (by decide)
theorem q903 : Cond.code yX4_partsOf cX4_partsOf 4 (some .int) ∈ lw_all := mq_ 903 (by decide +kernel) (by decide)
theorem q78 : Cond.selects yX4_partsOf.cls yX4_partsOf yX4_partsOf ∈ lw_all := mq_ 78 (by decide +kernel) (by decide)
theorem q902 : Cond.instanceMethod yX4_partsOf ∈ lw_all := mq_ 902 (by decide +kernel) (by decide)
theorem q614 : Cond.fieldLink RX4 204 RX4 (TX4 6).2.1 (TX4 6).2.2.1 ∈ lw_all := mq_ 614 (by decide +kernel) (by decide)
theorem q912 : Cond.constantLong RX4 207 (32) ∈ lw_all := mq_ 912 (by decide +kernel) (by decide)
theorem q913 : Cond.constantLong RX4 209 (126) ∈ lw_all := mq_ 913 (by decide +kernel) (by decide)
theorem q616 : Cond.fieldLink RX4 211 RX4 (TX4 8).2.1 (TX4 8).2.2.1 ∈ lw_all := mq_ 616 (by decide +kernel) (by decide)
theorem q941 : Cond.constantLong RX4 214 (48) ∈ lw_all := mq_ 941 (by decide +kernel) (by decide)
theorem q942 : Cond.constantLong RX4 216 (57) ∈ lw_all := mq_ 942 (by decide +kernel) (by decide)
theorem q615 : Cond.fieldLink RX4 218 RX4 (TX4 7).2.1 (TX4 7).2.2.1 ∈ lw_all := mq_ 615 (by decide +kernel) (by decide)
theorem q930 : Cond.methodLink RX4 221 yX4_numbersOf ∈ lw_all := mq_ 930 (by decide +kernel) (by decide)
theorem q932 : Cond.code yX4_numbersOf cX4_numbersOf 1 (some .int) ∈ lw_all := mq_ 932 (by decide +kernel) (by decide)
theorem q931 : Cond.static yX4_numbersOf ∈ lw_all := mq_ 931 (by decide +kernel) (by decide)
theorem q933 : Cond.methodLink RX4 224 yX4_takes ∈ lw_all := mq_ 933 (by decide +kernel) (by decide)
theorem q936 : Cond.code yX4_takes cX4_takes 3 (some .boolean) ∈ lw_all := mq_ 936 (by decide +kernel) (by decide)
theorem q81 : Cond.selects yX4_takes.cls yX4_takes yX4_takes ∈ lw_all := mq_ 81 (by decide +kernel) (by decide)
theorem q935 : Cond.instanceMethod yX4_takes ∈ lw_all := mq_ 935 (by decide +kernel) (by decide)
theorem q937 : Cond.methodLink RX4 227 yX4_takesNumber ∈ lw_all := mq_ 937 (by decide +kernel) (by decide)
theorem q940 : Cond.code yX4_takesNumber cX4_takesNumber 3 (some .boolean) ∈ lw_all := mq_ 940 (by decide +kernel) (by decide)
theorem q82 : Cond.selects yX4_takesNumber.cls yX4_takesNumber yX4_takesNumber ∈ lw_all := mq_ 82 (by decide +kernel) (by decide)
theorem q939 : Cond.instanceMethod yX4_takesNumber ∈ lw_all := mq_ 939 (by decide +kernel) (by decide)
theorem q620 : Cond.fieldLink RX4 230 RX4 (TX4 12).2.1 (TX4 12).2.2.1 ∈ lw_all := mq_ 620 (by decide +kernel) (by decide)
theorem q926 : Cond.methodLink RX4 233 yX4_readsOrder ∈ lw_all := mq_ 926 (by decide +kernel) (by decide)
theorem q929 : Cond.code yX4_readsOrder cX4_readsOrder 3 (some .boolean) ∈ lw_all := mq_ 929 (by decide +kernel) (by decide)
theorem q80 : Cond.selects yX4_readsOrder.cls yX4_readsOrder yX4_readsOrder ∈ lw_all := mq_ 80 (by decide +kernel) (by decide)
theorem q928 : Cond.instanceMethod yX4_readsOrder ∈ lw_all := mq_ 928 (by decide +kernel) (by decide)
theorem q943 : Cond.methodLink RX4 243 yX4_doesOrder ∈ lw_all := mq_ 943 (by decide +kernel) (by decide)
theorem q946 : Cond.code yX4_doesOrder cX4_doesOrder 1 (some .int) ∈ lw_all := mq_ 946 (by decide +kernel) (by decide)
theorem q83 : Cond.selects yX4_doesOrder.cls yX4_doesOrder yX4_doesOrder ∈ lw_all := mq_ 83 (by decide +kernel) (by decide)
theorem q945 : Cond.instanceMethod yX4_doesOrder ∈ lw_all := mq_ 945 (by decide +kernel) (by decide)
theorem q618 : Cond.fieldLink RX4 237 RX4 (TX4 10).2.1 (TX4 10).2.2.1 ∈ lw_all := mq_ 618 (by decide +kernel) (by decide)
theorem q619 : Cond.fieldLink RX4 240 RX4 (TX4 11).2.1 (TX4 11).2.2.1 ∈ lw_all := mq_ 619 (by decide +kernel) (by decide)
theorem q922 : Cond.methodLink RX4 247 yX4_doesAll ∈ lw_all := mq_ 922 (by decide +kernel) (by decide)
theorem q925 : Cond.code yX4_doesAll cX4_doesAll 3 (some .boolean) ∈ lw_all := mq_ 925 (by decide +kernel) (by decide)
theorem q79 : Cond.selects yX4_doesAll.cls yX4_doesAll yX4_doesAll ∈ lw_all := mq_ 79 (by decide +kernel) (by decide)
theorem q924 : Cond.instanceMethod yX4_doesAll ∈ lw_all := mq_ 924 (by decide +kernel) (by decide)
section LK
variable {p : Program} {l : Launch} {e : Env} {R : Room} {s : State} {m : MethodId} {args : Array Value} {below : List Frame} {meth : Method} {c : Code} {H : Heap} {locs : List Loc} {cells slots : Nat} {Q : State → Prop}
variable {cc : ByteArray} {pc : Nat} {ls : Array Slot} {rest st0 : List Value} {D : va_G} {cy : Nat → ClassId} {z n a : Nat} {Y : mY} {V : mV} {G : mG} {H0 : Heap}
theorem pf_X0_9 (hx : p.tables.exec = Jvm.exec) (hb : c.code = cc) (hts : ∀ w ∈ lw_all, w.before args s = true) (hown : s.vm.findClass RX0 = some m.cls) (hE : En D cy s) (hW : Wd Y cy D z n V G H) (hS : va_S (zA z) H0 H locs) (hK : Y.1 a = 0) (x : Int32) (hdg : decode cc pc = .ok (.putfield 9, 3)) (kk : ∀ (H1 : Heap) (locs1 : List Loc), Wd Y cy D z n (up2 V a 0 x) G H1 → va_S (zA z) H0 H1 locs1 → W p l e R s m args below meth c H1 locs1 cells slots Q (F0 m (pc + 3) ls rest)) : W p l e R s m args below meth c H locs cells slots Q (F0 m pc ls (.int x :: .ref a :: rest)) :=
  wk_put hx hb hts hown hE hW hS (C := RX0) (T := TX0) (N := 14) (ci := 0) (k := 0) rfl inX0 (by decide) q113 rfl (by decide) tyX0 tyX0_ok nmX0 rfl (ty := .int) (by decide +kernel) rfl rfl (by decide) (by rw [up2_s]; exact fce_seti (k := 0) (by decide) x) (up2_o _ _ _ _) (fun _ _ => rfl) hK hdg kk
theorem pf_X0_15 (hx : p.tables.exec = Jvm.exec) (hb : c.code = cc) (hts : ∀ w ∈ lw_all, w.before args s = true) (hown : s.vm.findClass RX0 = some m.cls) (hE : En D cy s) (hW : Wd Y cy D z n V G H) (hS : va_S (zA z) H0 H locs) (hK : Y.1 a = 0) (x : Int32) (hdg : decode cc pc = .ok (.putfield 15, 3)) (kk : ∀ (H1 : Heap) (locs1 : List Loc), Wd Y cy D z n (up2 V a 1 x) G H1 → va_S (zA z) H0 H1 locs1 → W p l e R s m args below meth c H1 locs1 cells slots Q (F0 m (pc + 3) ls rest)) : W p l e R s m args below meth c H locs cells slots Q (F0 m pc ls (.int x :: .ref a :: rest)) :=
  wk_put hx hb hts hown hE hW hS (C := RX0) (T := TX0) (N := 14) (ci := 0) (k := 1) rfl inX0 (by decide) q116 rfl (by decide) tyX0 tyX0_ok nmX0 rfl (ty := .int) (by decide +kernel) rfl rfl (by decide) (by rw [up2_s]; exact fce_seti (k := 1) (by decide) x) (up2_o _ _ _ _) (fun _ _ => rfl) hK hdg kk
theorem pf_X0_18 (hx : p.tables.exec = Jvm.exec) (hb : c.code = cc) (hts : ∀ w ∈ lw_all, w.before args s = true) (hown : s.vm.findClass RX0 = some m.cls) (hE : En D cy s) (hW : Wd Y cy D z n V G H) (hS : va_S (zA z) H0 H locs) (hK : Y.1 a = 0) (x : Int32) (hdg : decode cc pc = .ok (.putfield 18, 3)) (kk : ∀ (H1 : Heap) (locs1 : List Loc), Wd Y cy D z n (up2 V a 2 x) G H1 → va_S (zA z) H0 H1 locs1 → W p l e R s m args below meth c H1 locs1 cells slots Q (F0 m (pc + 3) ls rest)) : W p l e R s m args below meth c H locs cells slots Q (F0 m pc ls (.int x :: .ref a :: rest)) :=
  wk_put hx hb hts hown hE hW hS (C := RX0) (T := TX0) (N := 14) (ci := 0) (k := 2) rfl inX0 (by decide) q119 rfl (by decide) tyX0 tyX0_ok nmX0 rfl (ty := .int) (by decide +kernel) rfl rfl (by decide) (by rw [up2_s]; exact fce_seti (k := 2) (by decide) x) (up2_o _ _ _ _) (fun _ _ => rfl) hK hdg kk
theorem pf_X0_21 (hx : p.tables.exec = Jvm.exec) (hb : c.code = cc) (hts : ∀ w ∈ lw_all, w.before args s = true) (hown : s.vm.findClass RX0 = some m.cls) (hE : En D cy s) (hW : Wd Y cy D z n V G H) (hS : va_S (zA z) H0 H locs) (hK : Y.1 a = 0) (x : Int32) (hdg : decode cc pc = .ok (.putfield 21, 3)) (kk : ∀ (H1 : Heap) (locs1 : List Loc), Wd Y cy D z n (up2 V a 3 x) G H1 → va_S (zA z) H0 H1 locs1 → W p l e R s m args below meth c H1 locs1 cells slots Q (F0 m (pc + 3) ls rest)) : W p l e R s m args below meth c H locs cells slots Q (F0 m pc ls (.int x :: .ref a :: rest)) :=
  wk_put hx hb hts hown hE hW hS (C := RX0) (T := TX0) (N := 14) (ci := 0) (k := 3) rfl inX0 (by decide) q122 rfl (by decide) tyX0 tyX0_ok nmX0 rfl (ty := .int) (by decide +kernel) rfl rfl (by decide) (by rw [up2_s]; exact fce_seti (k := 3) (by decide) x) (up2_o _ _ _ _) (fun _ _ => rfl) hK hdg kk
theorem pf_X0_24 (hx : p.tables.exec = Jvm.exec) (hb : c.code = cc) (hts : ∀ w ∈ lw_all, w.before args s = true) (hown : s.vm.findClass RX0 = some m.cls) (hE : En D cy s) (hW : Wd Y cy D z n V G H) (hS : va_S (zA z) H0 H locs) (hK : Y.1 a = 0) (x : Int32) (hdg : decode cc pc = .ok (.putfield 24, 3)) (kk : ∀ (H1 : Heap) (locs1 : List Loc), Wd Y cy D z n (up2 V a 4 x) G H1 → va_S (zA z) H0 H1 locs1 → W p l e R s m args below meth c H1 locs1 cells slots Q (F0 m (pc + 3) ls rest)) : W p l e R s m args below meth c H locs cells slots Q (F0 m pc ls (.int x :: .ref a :: rest)) :=
  wk_put hx hb hts hown hE hW hS (C := RX0) (T := TX0) (N := 14) (ci := 0) (k := 4) rfl inX0 (by decide) q125 rfl (by decide) tyX0 tyX0_ok nmX0 rfl (ty := .int) (by decide +kernel) rfl rfl (by decide) (by rw [up2_s]; exact fce_seti (k := 4) (by decide) x) (up2_o _ _ _ _) (fun _ _ => rfl) hK hdg kk
theorem pf_X0_27 (hx : p.tables.exec = Jvm.exec) (hb : c.code = cc) (hts : ∀ w ∈ lw_all, w.before args s = true) (hown : s.vm.findClass RX0 = some m.cls) (hE : En D cy s) (hW : Wd Y cy D z n V G H) (hS : va_S (zA z) H0 H locs) (hK : Y.1 a = 0) (x : Int32) (hdg : decode cc pc = .ok (.putfield 27, 3)) (kk : ∀ (H1 : Heap) (locs1 : List Loc), Wd Y cy D z n (up2 V a 5 x) G H1 → va_S (zA z) H0 H1 locs1 → W p l e R s m args below meth c H1 locs1 cells slots Q (F0 m (pc + 3) ls rest)) : W p l e R s m args below meth c H locs cells slots Q (F0 m pc ls (.int x :: .ref a :: rest)) :=
  wk_put hx hb hts hown hE hW hS (C := RX0) (T := TX0) (N := 14) (ci := 0) (k := 5) rfl inX0 (by decide) q128 rfl (by decide) tyX0 tyX0_ok nmX0 rfl (ty := .int) (by decide +kernel) rfl rfl (by decide) (by rw [up2_s]; exact fce_seti (k := 5) (by decide) x) (up2_o _ _ _ _) (fun _ _ => rfl) hK hdg kk
theorem pf_X0_30 (hx : p.tables.exec = Jvm.exec) (hb : c.code = cc) (hts : ∀ w ∈ lw_all, w.before args s = true) (hown : s.vm.findClass RX0 = some m.cls) (hE : En D cy s) (hW : Wd Y cy D z n V G H) (hS : va_S (zA z) H0 H locs) (hK : Y.1 a = 0) (x : Int32) (hdg : decode cc pc = .ok (.putfield 30, 3)) (kk : ∀ (H1 : Heap) (locs1 : List Loc), Wd Y cy D z n (up2 V a 6 x) G H1 → va_S (zA z) H0 H1 locs1 → W p l e R s m args below meth c H1 locs1 cells slots Q (F0 m (pc + 3) ls rest)) : W p l e R s m args below meth c H locs cells slots Q (F0 m pc ls (.int x :: .ref a :: rest)) :=
  wk_put hx hb hts hown hE hW hS (C := RX0) (T := TX0) (N := 14) (ci := 0) (k := 6) rfl inX0 (by decide) q131 rfl (by decide) tyX0 tyX0_ok nmX0 rfl (ty := .int) (by decide +kernel) rfl rfl (by decide) (by rw [up2_s]; exact fce_seti (k := 6) (by decide) x) (up2_o _ _ _ _) (fun _ _ => rfl) hK hdg kk
theorem pf_X0_33 (hx : p.tables.exec = Jvm.exec) (hb : c.code = cc) (hts : ∀ w ∈ lw_all, w.before args s = true) (hown : s.vm.findClass RX0 = some m.cls) (hE : En D cy s) (hW : Wd Y cy D z n V G H) (hS : va_S (zA z) H0 H locs) (hK : Y.1 a = 0) (x : Int32) (hdg : decode cc pc = .ok (.putfield 33, 3)) (kk : ∀ (H1 : Heap) (locs1 : List Loc), Wd Y cy D z n (up2 V a 7 x) G H1 → va_S (zA z) H0 H1 locs1 → W p l e R s m args below meth c H1 locs1 cells slots Q (F0 m (pc + 3) ls rest)) : W p l e R s m args below meth c H locs cells slots Q (F0 m pc ls (.int x :: .ref a :: rest)) :=
  wk_put hx hb hts hown hE hW hS (C := RX0) (T := TX0) (N := 14) (ci := 0) (k := 7) rfl inX0 (by decide) q134 rfl (by decide) tyX0 tyX0_ok nmX0 rfl (ty := .int) (by decide +kernel) rfl rfl (by decide) (by rw [up2_s]; exact fce_seti (k := 7) (by decide) x) (up2_o _ _ _ _) (fun _ _ => rfl) hK hdg kk
theorem pf_X0_36 (hx : p.tables.exec = Jvm.exec) (hb : c.code = cc) (hts : ∀ w ∈ lw_all, w.before args s = true) (hown : s.vm.findClass RX0 = some m.cls) (hE : En D cy s) (hW : Wd Y cy D z n V G H) (hS : va_S (zA z) H0 H locs) (hK : Y.1 a = 0) (x : Int32) (hz : x = 0 ∨ x = 1) (hdg : decode cc pc = .ok (.putfield 36, 3)) (kk : ∀ (H1 : Heap) (locs1 : List Loc), Wd Y cy D z n (up2 V a 8 x) G H1 → va_S (zA z) H0 H1 locs1 → W p l e R s m args below meth c H1 locs1 cells slots Q (F0 m (pc + 3) ls rest)) : W p l e R s m args below meth c H locs cells slots Q (F0 m pc ls (.int x :: .ref a :: rest)) :=
  wk_put hx hb hts hown hE hW hS (C := RX0) (T := TX0) (N := 14) (ci := 0) (k := 8) rfl inX0 (by decide) q137 rfl (by decide) tyX0 tyX0_ok nmX0 rfl (ty := .boolean) (by decide +kernel) (by rcases hz with rfl | rfl <;> rfl) (by rcases hz with rfl | rfl <;> rfl) (by decide) (by rw [up2_s]; exact fce_seti (k := 8) (by decide) x) (up2_o _ _ _ _) (fun _ _ => rfl) hK hdg kk
theorem pf_X0_40 (hx : p.tables.exec = Jvm.exec) (hb : c.code = cc) (hts : ∀ w ∈ lw_all, w.before args s = true) (hown : s.vm.findClass RX0 = some m.cls) (hE : En D cy s) (hW : Wd Y cy D z n V G H) (hS : va_S (zA z) H0 H locs) (hK : Y.1 a = 0) (x : Int32) (hz : x = 0 ∨ x = 1) (hdg : decode cc pc = .ok (.putfield 40, 3)) (kk : ∀ (H1 : Heap) (locs1 : List Loc), Wd Y cy D z n (up2 V a 9 x) G H1 → va_S (zA z) H0 H1 locs1 → W p l e R s m args below meth c H1 locs1 cells slots Q (F0 m (pc + 3) ls rest)) : W p l e R s m args below meth c H locs cells slots Q (F0 m pc ls (.int x :: .ref a :: rest)) :=
  wk_put hx hb hts hown hE hW hS (C := RX0) (T := TX0) (N := 14) (ci := 0) (k := 9) rfl inX0 (by decide) q140 rfl (by decide) tyX0 tyX0_ok nmX0 rfl (ty := .boolean) (by decide +kernel) (by rcases hz with rfl | rfl <;> rfl) (by rcases hz with rfl | rfl <;> rfl) (by decide) (by rw [up2_s]; exact fce_seti (k := 9) (by decide) x) (up2_o _ _ _ _) (fun _ _ => rfl) hK hdg kk
theorem pf_X0_43 (hx : p.tables.exec = Jvm.exec) (hb : c.code = cc) (hts : ∀ w ∈ lw_all, w.before args s = true) (hown : s.vm.findClass RX0 = some m.cls) (hE : En D cy s) (hW : Wd Y cy D z n V G H) (hS : va_S (zA z) H0 H locs) (hK : Y.1 a = 0) (x : Int32) (hdg : decode cc pc = .ok (.putfield 43, 3)) (kk : ∀ (H1 : Heap) (locs1 : List Loc), Wd Y cy D z n (up2 V a 10 x) G H1 → va_S (zA z) H0 H1 locs1 → W p l e R s m args below meth c H1 locs1 cells slots Q (F0 m (pc + 3) ls rest)) : W p l e R s m args below meth c H locs cells slots Q (F0 m pc ls (.int x :: .ref a :: rest)) :=
  wk_put hx hb hts hown hE hW hS (C := RX0) (T := TX0) (N := 14) (ci := 0) (k := 10) rfl inX0 (by decide) q142 rfl (by decide) tyX0 tyX0_ok nmX0 rfl (ty := .int) (by decide +kernel) rfl rfl (by decide) (by rw [up2_s]; exact fce_seti (k := 10) (by decide) x) (up2_o _ _ _ _) (fun _ _ => rfl) hK hdg kk
theorem pf_X0_46 (hx : p.tables.exec = Jvm.exec) (hb : c.code = cc) (hts : ∀ w ∈ lw_all, w.before args s = true) (hown : s.vm.findClass RX0 = some m.cls) (hE : En D cy s) (hW : Wd Y cy D z n V G H) (hS : va_S (zA z) H0 H locs) (hK : Y.1 a = 0) (x : Int32) (hz : x = 0 ∨ x = 1) (hdg : decode cc pc = .ok (.putfield 46, 3)) (kk : ∀ (H1 : Heap) (locs1 : List Loc), Wd Y cy D z n (up2 V a 11 x) G H1 → va_S (zA z) H0 H1 locs1 → W p l e R s m args below meth c H1 locs1 cells slots Q (F0 m (pc + 3) ls rest)) : W p l e R s m args below meth c H locs cells slots Q (F0 m pc ls (.int x :: .ref a :: rest)) :=
  wk_put hx hb hts hown hE hW hS (C := RX0) (T := TX0) (N := 14) (ci := 0) (k := 11) rfl inX0 (by decide) q145 rfl (by decide) tyX0 tyX0_ok nmX0 rfl (ty := .boolean) (by decide +kernel) (by rcases hz with rfl | rfl <;> rfl) (by rcases hz with rfl | rfl <;> rfl) (by decide) (by rw [up2_s]; exact fce_seti (k := 11) (by decide) x) (up2_o _ _ _ _) (fun _ _ => rfl) hK hdg kk
theorem pf_X0_49 (hx : p.tables.exec = Jvm.exec) (hb : c.code = cc) (hts : ∀ w ∈ lw_all, w.before args s = true) (hown : s.vm.findClass RX0 = some m.cls) (hE : En D cy s) (hW : Wd Y cy D z n V G H) (hS : va_S (zA z) H0 H locs) (hK : Y.1 a = 0) (x : Int32) (hdg : decode cc pc = .ok (.putfield 49, 3)) (kk : ∀ (H1 : Heap) (locs1 : List Loc), Wd Y cy D z n (up2 V a 12 x) G H1 → va_S (zA z) H0 H1 locs1 → W p l e R s m args below meth c H1 locs1 cells slots Q (F0 m (pc + 3) ls rest)) : W p l e R s m args below meth c H locs cells slots Q (F0 m pc ls (.int x :: .ref a :: rest)) :=
  wk_put hx hb hts hown hE hW hS (C := RX0) (T := TX0) (N := 14) (ci := 0) (k := 12) rfl inX0 (by decide) q148 rfl (by decide) tyX0 tyX0_ok nmX0 rfl (ty := .int) (by decide +kernel) rfl rfl (by decide) (by rw [up2_s]; exact fce_seti (k := 12) (by decide) x) (up2_o _ _ _ _) (fun _ _ => rfl) hK hdg kk
theorem pf_X0_52 (hx : p.tables.exec = Jvm.exec) (hb : c.code = cc) (hts : ∀ w ∈ lw_all, w.before args s = true) (hown : s.vm.findClass RX0 = some m.cls) (hE : En D cy s) (hW : Wd Y cy D z n V G H) (hS : va_S (zA z) H0 H locs) (hK : Y.1 a = 0) (x : Int32) (hdg : decode cc pc = .ok (.putfield 52, 3)) (kk : ∀ (H1 : Heap) (locs1 : List Loc), Wd Y cy D z n (up2 V a 13 x) G H1 → va_S (zA z) H0 H1 locs1 → W p l e R s m args below meth c H1 locs1 cells slots Q (F0 m (pc + 3) ls rest)) : W p l e R s m args below meth c H locs cells slots Q (F0 m pc ls (.int x :: .ref a :: rest)) :=
  wk_put hx hb hts hown hE hW hS (C := RX0) (T := TX0) (N := 14) (ci := 0) (k := 13) rfl inX0 (by decide) q151 rfl (by decide) tyX0 tyX0_ok nmX0 rfl (ty := .int) (by decide +kernel) rfl rfl (by decide) (by rw [up2_s]; exact fce_seti (k := 13) (by decide) x) (up2_o _ _ _ _) (fun _ _ => rfl) hK hdg kk
theorem pf_X1_9 (hx : p.tables.exec = Jvm.exec) (hb : c.code = cc) (hts : ∀ w ∈ lw_all, w.before args s = true) (hown : s.vm.findClass RX1 = some m.cls) (hE : En D cy s) (hW : Wd Y cy D z n V G H) (hS : va_S (zA z) H0 H locs) (hK : Y.1 a = 1) (x : Nat) (hin2 : meth.name = "<init>") (hdg : decode cc pc = .ok (.putfield 9, 3)) (kk : ∀ (H1 : Heap) (locs1 : List Loc), Wd Y cy D z n V (up2 G a 0 (some x)) H1 → va_S (zA z) H0 H1 locs1 → W p l e R s m args below meth c H1 locs1 cells slots Q (F0 m (pc + 3) ls rest)) : W p l e R s m args below meth c H locs cells slots Q (F0 m pc ls (.ref x :: .ref a :: rest)) :=
  wk_putF hx hb hts hown hE hW hS (C := RX1) (T := TX1) (N := 7) (ci := 1) (k := 0) rfl inX1 (by decide) q227 rfl rfl (by decide) tyX1 tyX1_ok nmX1 rfl (ty := .array .char) (by decide +kernel) rfl rfl (by decide) hin2 (by rw [up2_s]; exact fce_setr (k := 0) (by decide) (some x)) (fun _ _ => rfl) (up2_o _ _ _ _) hK hdg kk
theorem pf_X1_15 (hx : p.tables.exec = Jvm.exec) (hb : c.code = cc) (hts : ∀ w ∈ lw_all, w.before args s = true) (hown : s.vm.findClass RX1 = some m.cls) (hE : En D cy s) (hW : Wd Y cy D z n V G H) (hS : va_S (zA z) H0 H locs) (hK : Y.1 a = 1) (x : Nat) (hin2 : meth.name = "<init>") (hdg : decode cc pc = .ok (.putfield 15, 3)) (kk : ∀ (H1 : Heap) (locs1 : List Loc), Wd Y cy D z n V (up2 G a 1 (some x)) H1 → va_S (zA z) H0 H1 locs1 → W p l e R s m args below meth c H1 locs1 cells slots Q (F0 m (pc + 3) ls rest)) : W p l e R s m args below meth c H locs cells slots Q (F0 m pc ls (.ref x :: .ref a :: rest)) :=
  wk_putF hx hb hts hown hE hW hS (C := RX1) (T := TX1) (N := 7) (ci := 1) (k := 1) rfl inX1 (by decide) q228 rfl rfl (by decide) tyX1 tyX1_ok nmX1 rfl (ty := .array .int) (by decide +kernel) rfl rfl (by decide) hin2 (by rw [up2_s]; exact fce_setr (k := 1) (by decide) (some x)) (fun _ _ => rfl) (up2_o _ _ _ _) hK hdg kk
theorem pf_X1_19 (hx : p.tables.exec = Jvm.exec) (hb : c.code = cc) (hts : ∀ w ∈ lw_all, w.before args s = true) (hown : s.vm.findClass RX1 = some m.cls) (hE : En D cy s) (hW : Wd Y cy D z n V G H) (hS : va_S (zA z) H0 H locs) (hK : Y.1 a = 1) (x : Int32) (hdg : decode cc pc = .ok (.putfield 19, 3)) (kk : ∀ (H1 : Heap) (locs1 : List Loc), Wd Y cy D z n (up2 V a 2 x) G H1 → va_S (zA z) H0 H1 locs1 → W p l e R s m args below meth c H1 locs1 cells slots Q (F0 m (pc + 3) ls rest)) : W p l e R s m args below meth c H locs cells slots Q (F0 m pc ls (.int x :: .ref a :: rest)) :=
  wk_put hx hb hts hown hE hW hS (C := RX1) (T := TX1) (N := 7) (ci := 1) (k := 2) rfl inX1 (by decide) q229 rfl (by decide) tyX1 tyX1_ok nmX1 rfl (ty := .int) (by decide +kernel) rfl rfl (by decide) (by rw [up2_s]; exact fce_seti (k := 2) (by decide) x) (up2_o _ _ _ _) (fun _ _ => rfl) hK hdg kk
theorem pf_X1_23 (hx : p.tables.exec = Jvm.exec) (hb : c.code = cc) (hts : ∀ w ∈ lw_all, w.before args s = true) (hown : s.vm.findClass RX1 = some m.cls) (hE : En D cy s) (hW : Wd Y cy D z n V G H) (hS : va_S (zA z) H0 H locs) (hK : Y.1 a = 1) (x : Int32) (hdg : decode cc pc = .ok (.putfield 23, 3)) (kk : ∀ (H1 : Heap) (locs1 : List Loc), Wd Y cy D z n (up2 V a 3 x) G H1 → va_S (zA z) H0 H1 locs1 → W p l e R s m args below meth c H1 locs1 cells slots Q (F0 m (pc + 3) ls rest)) : W p l e R s m args below meth c H locs cells slots Q (F0 m pc ls (.int x :: .ref a :: rest)) :=
  wk_put hx hb hts hown hE hW hS (C := RX1) (T := TX1) (N := 7) (ci := 1) (k := 3) rfl inX1 (by decide) q231 rfl (by decide) tyX1 tyX1_ok nmX1 rfl (ty := .int) (by decide +kernel) rfl rfl (by decide) (by rw [up2_s]; exact fce_seti (k := 3) (by decide) x) (up2_o _ _ _ _) (fun _ _ => rfl) hK hdg kk
theorem pf_X1_26 (hx : p.tables.exec = Jvm.exec) (hb : c.code = cc) (hts : ∀ w ∈ lw_all, w.before args s = true) (hown : s.vm.findClass RX1 = some m.cls) (hE : En D cy s) (hW : Wd Y cy D z n V G H) (hS : va_S (zA z) H0 H locs) (hK : Y.1 a = 1) (x : Int32) (hdg : decode cc pc = .ok (.putfield 26, 3)) (kk : ∀ (H1 : Heap) (locs1 : List Loc), Wd Y cy D z n (up2 V a 4 x) G H1 → va_S (zA z) H0 H1 locs1 → W p l e R s m args below meth c H1 locs1 cells slots Q (F0 m (pc + 3) ls rest)) : W p l e R s m args below meth c H locs cells slots Q (F0 m pc ls (.int x :: .ref a :: rest)) :=
  wk_put hx hb hts hown hE hW hS (C := RX1) (T := TX1) (N := 7) (ci := 1) (k := 4) rfl inX1 (by decide) q233 rfl (by decide) tyX1 tyX1_ok nmX1 rfl (ty := .int) (by decide +kernel) rfl rfl (by decide) (by rw [up2_s]; exact fce_seti (k := 4) (by decide) x) (up2_o _ _ _ _) (fun _ _ => rfl) hK hdg kk
theorem pf_X1_29 (hx : p.tables.exec = Jvm.exec) (hb : c.code = cc) (hts : ∀ w ∈ lw_all, w.before args s = true) (hown : s.vm.findClass RX1 = some m.cls) (hE : En D cy s) (hW : Wd Y cy D z n V G H) (hS : va_S (zA z) H0 H locs) (hK : Y.1 a = 1) (x : Int32) (hdg : decode cc pc = .ok (.putfield 29, 3)) (kk : ∀ (H1 : Heap) (locs1 : List Loc), Wd Y cy D z n (up2 V a 5 x) G H1 → va_S (zA z) H0 H1 locs1 → W p l e R s m args below meth c H1 locs1 cells slots Q (F0 m (pc + 3) ls rest)) : W p l e R s m args below meth c H locs cells slots Q (F0 m pc ls (.int x :: .ref a :: rest)) :=
  wk_put hx hb hts hown hE hW hS (C := RX1) (T := TX1) (N := 7) (ci := 1) (k := 5) rfl inX1 (by decide) q234 rfl (by decide) tyX1 tyX1_ok nmX1 rfl (ty := .int) (by decide +kernel) rfl rfl (by decide) (by rw [up2_s]; exact fce_seti (k := 5) (by decide) x) (up2_o _ _ _ _) (fun _ _ => rfl) hK hdg kk
theorem pf_X1_32 (hx : p.tables.exec = Jvm.exec) (hb : c.code = cc) (hts : ∀ w ∈ lw_all, w.before args s = true) (hown : s.vm.findClass RX1 = some m.cls) (hE : En D cy s) (hW : Wd Y cy D z n V G H) (hS : va_S (zA z) H0 H locs) (hK : Y.1 a = 1) (x : Int32) (hdg : decode cc pc = .ok (.putfield 32, 3)) (kk : ∀ (H1 : Heap) (locs1 : List Loc), Wd Y cy D z n (up2 V a 6 x) G H1 → va_S (zA z) H0 H1 locs1 → W p l e R s m args below meth c H1 locs1 cells slots Q (F0 m (pc + 3) ls rest)) : W p l e R s m args below meth c H locs cells slots Q (F0 m pc ls (.int x :: .ref a :: rest)) :=
  wk_put hx hb hts hown hE hW hS (C := RX1) (T := TX1) (N := 7) (ci := 1) (k := 6) rfl inX1 (by decide) q236 rfl (by decide) tyX1 tyX1_ok nmX1 rfl (ty := .int) (by decide +kernel) rfl rfl (by decide) (by rw [up2_s]; exact fce_seti (k := 6) (by decide) x) (up2_o _ _ _ _) (fun _ _ => rfl) hK hdg kk
theorem pf_X2_11 (hx : p.tables.exec = Jvm.exec) (hb : c.code = cc) (hts : ∀ w ∈ lw_all, w.before args s = true) (hown : s.vm.findClass RX2 = some m.cls) (hE : En D cy s) (hW : Wd Y cy D z n V G H) (hS : va_S (zA z) H0 H locs) (hK : Y.1 a = 2) (x : Nat) (hin2 : meth.name = "<init>") (hdg : decode cc pc = .ok (.putfield 11, 3)) (kk : ∀ (H1 : Heap) (locs1 : List Loc), Wd Y cy D z n V (up2 G a 0 (some x)) H1 → va_S (zA z) H0 H1 locs1 → W p l e R s m args below meth c H1 locs1 cells slots Q (F0 m (pc + 3) ls rest)) : W p l e R s m args below meth c H locs cells slots Q (F0 m pc ls (.ref x :: .ref a :: rest)) :=
  wk_putF hx hb hts hown hE hW hS (C := RX2) (T := TX2) (N := 9) (ci := 2) (k := 0) rfl inX2 (by decide) q183 rfl rfl (by decide) tyX2 tyX2_ok nmX2 rfl (ty := .array (.object "TriggerConditions$Condition")) (by decide +kernel) rfl rfl (by decide) hin2 (by rw [up2_s]; exact fce_setr (k := 0) (by decide) (some x)) (fun _ _ => rfl) (up2_o _ _ _ _) hK hdg kk
theorem pf_X2_17 (hx : p.tables.exec = Jvm.exec) (hb : c.code = cc) (hts : ∀ w ∈ lw_all, w.before args s = true) (hown : s.vm.findClass RX2 = some m.cls) (hE : En D cy s) (hW : Wd Y cy D z n V G H) (hS : va_S (zA z) H0 H locs) (hK : Y.1 a = 2) (x : Nat) (hin2 : meth.name = "<init>") (hdg : decode cc pc = .ok (.putfield 17, 3)) (kk : ∀ (H1 : Heap) (locs1 : List Loc), Wd Y cy D z n V (up2 G a 1 (some x)) H1 → va_S (zA z) H0 H1 locs1 → W p l e R s m args below meth c H1 locs1 cells slots Q (F0 m (pc + 3) ls rest)) : W p l e R s m args below meth c H locs cells slots Q (F0 m pc ls (.ref x :: .ref a :: rest)) :=
  wk_putF hx hb hts hown hE hW hS (C := RX2) (T := TX2) (N := 9) (ci := 2) (k := 1) rfl inX2 (by decide) q185 rfl rfl (by decide) tyX2 tyX2_ok nmX2 rfl (ty := .array .int) (by decide +kernel) rfl rfl (by decide) hin2 (by rw [up2_s]; exact fce_setr (k := 1) (by decide) (some x)) (fun _ _ => rfl) (up2_o _ _ _ _) hK hdg kk
theorem pf_X2_21 (hx : p.tables.exec = Jvm.exec) (hb : c.code = cc) (hts : ∀ w ∈ lw_all, w.before args s = true) (hown : s.vm.findClass RX2 = some m.cls) (hE : En D cy s) (hW : Wd Y cy D z n V G H) (hS : va_S (zA z) H0 H locs) (hK : Y.1 a = 2) (x : Nat) (hin2 : meth.name = "<init>") (hdg : decode cc pc = .ok (.putfield 21, 3)) (kk : ∀ (H1 : Heap) (locs1 : List Loc), Wd Y cy D z n V (up2 G a 2 (some x)) H1 → va_S (zA z) H0 H1 locs1 → W p l e R s m args below meth c H1 locs1 cells slots Q (F0 m (pc + 3) ls rest)) : W p l e R s m args below meth c H locs cells slots Q (F0 m pc ls (.ref x :: .ref a :: rest)) :=
  wk_putF hx hb hts hown hE hW hS (C := RX2) (T := TX2) (N := 9) (ci := 2) (k := 2) rfl inX2 (by decide) q187 rfl rfl (by decide) tyX2 tyX2_ok nmX2 rfl (ty := .array .int) (by decide +kernel) rfl rfl (by decide) hin2 (by rw [up2_s]; exact fce_setr (k := 2) (by decide) (some x)) (fun _ _ => rfl) (up2_o _ _ _ _) hK hdg kk
theorem pf_X2_24 (hx : p.tables.exec = Jvm.exec) (hb : c.code = cc) (hts : ∀ w ∈ lw_all, w.before args s = true) (hown : s.vm.findClass RX2 = some m.cls) (hE : En D cy s) (hW : Wd Y cy D z n V G H) (hS : va_S (zA z) H0 H locs) (hK : Y.1 a = 2) (x : Int32) (hdg : decode cc pc = .ok (.putfield 24, 3)) (kk : ∀ (H1 : Heap) (locs1 : List Loc), Wd Y cy D z n (up2 V a 3 x) G H1 → va_S (zA z) H0 H1 locs1 → W p l e R s m args below meth c H1 locs1 cells slots Q (F0 m (pc + 3) ls rest)) : W p l e R s m args below meth c H locs cells slots Q (F0 m pc ls (.int x :: .ref a :: rest)) :=
  wk_put hx hb hts hown hE hW hS (C := RX2) (T := TX2) (N := 9) (ci := 2) (k := 3) rfl inX2 (by decide) q189 rfl (by decide) tyX2 tyX2_ok nmX2 rfl (ty := .int) (by decide +kernel) rfl rfl (by decide) (by rw [up2_s]; exact fce_seti (k := 3) (by decide) x) (up2_o _ _ _ _) (fun _ _ => rfl) hK hdg kk
theorem pf_X2_28 (hx : p.tables.exec = Jvm.exec) (hb : c.code = cc) (hts : ∀ w ∈ lw_all, w.before args s = true) (hown : s.vm.findClass RX2 = some m.cls) (hE : En D cy s) (hW : Wd Y cy D z n V G H) (hS : va_S (zA z) H0 H locs) (hK : Y.1 a = 2) (x : Int32) (hdg : decode cc pc = .ok (.putfield 28, 3)) (kk : ∀ (H1 : Heap) (locs1 : List Loc), Wd Y cy D z n (up2 V a 4 x) G H1 → va_S (zA z) H0 H1 locs1 → W p l e R s m args below meth c H1 locs1 cells slots Q (F0 m (pc + 3) ls rest)) : W p l e R s m args below meth c H locs cells slots Q (F0 m pc ls (.int x :: .ref a :: rest)) :=
  wk_put hx hb hts hown hE hW hS (C := RX2) (T := TX2) (N := 9) (ci := 2) (k := 4) rfl inX2 (by decide) q191 rfl (by decide) tyX2 tyX2_ok nmX2 rfl (ty := .int) (by decide +kernel) rfl rfl (by decide) (by rw [up2_s]; exact fce_seti (k := 4) (by decide) x) (up2_o _ _ _ _) (fun _ _ => rfl) hK hdg kk
theorem pf_X2_31 (hx : p.tables.exec = Jvm.exec) (hb : c.code = cc) (hts : ∀ w ∈ lw_all, w.before args s = true) (hown : s.vm.findClass RX2 = some m.cls) (hE : En D cy s) (hW : Wd Y cy D z n V G H) (hS : va_S (zA z) H0 H locs) (hK : Y.1 a = 2) (x : Int32) (hdg : decode cc pc = .ok (.putfield 31, 3)) (kk : ∀ (H1 : Heap) (locs1 : List Loc), Wd Y cy D z n (up2 V a 5 x) G H1 → va_S (zA z) H0 H1 locs1 → W p l e R s m args below meth c H1 locs1 cells slots Q (F0 m (pc + 3) ls rest)) : W p l e R s m args below meth c H locs cells slots Q (F0 m pc ls (.int x :: .ref a :: rest)) :=
  wk_put hx hb hts hown hE hW hS (C := RX2) (T := TX2) (N := 9) (ci := 2) (k := 5) rfl inX2 (by decide) q193 rfl (by decide) tyX2 tyX2_ok nmX2 rfl (ty := .int) (by decide +kernel) rfl rfl (by decide) (by rw [up2_s]; exact fce_seti (k := 5) (by decide) x) (up2_o _ _ _ _) (fun _ _ => rfl) hK hdg kk
theorem pf_X2_34 (hx : p.tables.exec = Jvm.exec) (hb : c.code = cc) (hts : ∀ w ∈ lw_all, w.before args s = true) (hown : s.vm.findClass RX2 = some m.cls) (hE : En D cy s) (hW : Wd Y cy D z n V G H) (hS : va_S (zA z) H0 H locs) (hK : Y.1 a = 2) (x : Int32) (hdg : decode cc pc = .ok (.putfield 34, 3)) (kk : ∀ (H1 : Heap) (locs1 : List Loc), Wd Y cy D z n (up2 V a 6 x) G H1 → va_S (zA z) H0 H1 locs1 → W p l e R s m args below meth c H1 locs1 cells slots Q (F0 m (pc + 3) ls rest)) : W p l e R s m args below meth c H locs cells slots Q (F0 m pc ls (.int x :: .ref a :: rest)) :=
  wk_put hx hb hts hown hE hW hS (C := RX2) (T := TX2) (N := 9) (ci := 2) (k := 6) rfl inX2 (by decide) q195 rfl (by decide) tyX2 tyX2_ok nmX2 rfl (ty := .int) (by decide +kernel) rfl rfl (by decide) (by rw [up2_s]; exact fce_seti (k := 6) (by decide) x) (up2_o _ _ _ _) (fun _ _ => rfl) hK hdg kk
theorem pf_X2_37 (hx : p.tables.exec = Jvm.exec) (hb : c.code = cc) (hts : ∀ w ∈ lw_all, w.before args s = true) (hown : s.vm.findClass RX2 = some m.cls) (hE : En D cy s) (hW : Wd Y cy D z n V G H) (hS : va_S (zA z) H0 H locs) (hK : Y.1 a = 2) (x : Int32) (hdg : decode cc pc = .ok (.putfield 37, 3)) (kk : ∀ (H1 : Heap) (locs1 : List Loc), Wd Y cy D z n (up2 V a 7 x) G H1 → va_S (zA z) H0 H1 locs1 → W p l e R s m args below meth c H1 locs1 cells slots Q (F0 m (pc + 3) ls rest)) : W p l e R s m args below meth c H locs cells slots Q (F0 m pc ls (.int x :: .ref a :: rest)) :=
  wk_put hx hb hts hown hE hW hS (C := RX2) (T := TX2) (N := 9) (ci := 2) (k := 7) rfl inX2 (by decide) q197 rfl (by decide) tyX2 tyX2_ok nmX2 rfl (ty := .int) (by decide +kernel) rfl rfl (by decide) (by rw [up2_s]; exact fce_seti (k := 7) (by decide) x) (up2_o _ _ _ _) (fun _ _ => rfl) hK hdg kk
theorem pf_X2_40 (hx : p.tables.exec = Jvm.exec) (hb : c.code = cc) (hts : ∀ w ∈ lw_all, w.before args s = true) (hown : s.vm.findClass RX2 = some m.cls) (hE : En D cy s) (hW : Wd Y cy D z n V G H) (hS : va_S (zA z) H0 H locs) (hK : Y.1 a = 2) (x : Int32) (hdg : decode cc pc = .ok (.putfield 40, 3)) (kk : ∀ (H1 : Heap) (locs1 : List Loc), Wd Y cy D z n (up2 V a 8 x) G H1 → va_S (zA z) H0 H1 locs1 → W p l e R s m args below meth c H1 locs1 cells slots Q (F0 m (pc + 3) ls rest)) : W p l e R s m args below meth c H locs cells slots Q (F0 m pc ls (.int x :: .ref a :: rest)) :=
  wk_put hx hb hts hown hE hW hS (C := RX2) (T := TX2) (N := 9) (ci := 2) (k := 8) rfl inX2 (by decide) q199 rfl (by decide) tyX2 tyX2_ok nmX2 rfl (ty := .int) (by decide +kernel) rfl rfl (by decide) (by rw [up2_s]; exact fce_seti (k := 8) (by decide) x) (up2_o _ _ _ _) (fun _ _ => rfl) hK hdg kk
theorem gf_X2_17 (hx : p.tables.exec = Jvm.exec) (hb : c.code = cc) (hts : ∀ w ∈ lw_all, w.before args s = true) (hown : s.vm.findClass RX2 = some m.cls) (hE : En D cy s) (hW : Wd Y cy D z n V G H) (hK : Y.1 a = 2) {q : Nat} (hG : G a 1 = some q) (hdg : decode cc pc = .ok (.getfield 17, 3)) (kk : W p l e R s m args below meth c H locs cells slots Q (F0 m (pc + 3) ls (.ref q :: rest))) : W p l e R s m args below meth c H locs cells slots Q (F0 m pc ls (.ref a :: rest)) :=
  wk_get hx hb hts hown hE hW (C := RX2) (T := TX2) (N := 9) (ci := 2) (k := 1) rfl inX2 (by decide) q185 rfl (by decide) (by show some (va_rf (G a 1)) = _; rw [hG]; rfl) hK hdg kk
theorem gf_X2_21 (hx : p.tables.exec = Jvm.exec) (hb : c.code = cc) (hts : ∀ w ∈ lw_all, w.before args s = true) (hown : s.vm.findClass RX2 = some m.cls) (hE : En D cy s) (hW : Wd Y cy D z n V G H) (hK : Y.1 a = 2) {q : Nat} (hG : G a 2 = some q) (hdg : decode cc pc = .ok (.getfield 21, 3)) (kk : W p l e R s m args below meth c H locs cells slots Q (F0 m (pc + 3) ls (.ref q :: rest))) : W p l e R s m args below meth c H locs cells slots Q (F0 m pc ls (.ref a :: rest)) :=
  wk_get hx hb hts hown hE hW (C := RX2) (T := TX2) (N := 9) (ci := 2) (k := 2) rfl inX2 (by decide) q187 rfl (by decide) (by show some (va_rf (G a 2)) = _; rw [hG]; rfl) hK hdg kk
theorem gf_X2_11 (hx : p.tables.exec = Jvm.exec) (hb : c.code = cc) (hts : ∀ w ∈ lw_all, w.before args s = true) (hown : s.vm.findClass RX2 = some m.cls) (hE : En D cy s) (hW : Wd Y cy D z n V G H) (hK : Y.1 a = 2) {q : Nat} (hG : G a 0 = some q) (hdg : decode cc pc = .ok (.getfield 11, 3)) (kk : W p l e R s m args below meth c H locs cells slots Q (F0 m (pc + 3) ls (.ref q :: rest))) : W p l e R s m args below meth c H locs cells slots Q (F0 m pc ls (.ref a :: rest)) :=
  wk_get hx hb hts hown hE hW (C := RX2) (T := TX2) (N := 9) (ci := 2) (k := 0) rfl inX2 (by decide) q183 rfl (by decide) (by show some (va_rf (G a 0)) = _; rw [hG]; rfl) hK hdg kk
theorem iv_X2_43 (hx : p.tables.exec = Jvm.exec) (hb : c.code = cc) {nL : Nat} (hml : c.maxLocals = nL) (hown : s.vm.findClass RX2 = some m.cls) (hts : ∀ w ∈ lw_all, w.before args s = true) (hE : En D cy s) {rm : Room} {As : List Value} {b : Nat} {Y1 : mY} {n1 : Nat} {V1 : mV} {G1 : mG} (hM : CT l yX0_init cX0_init 1 none rm D cy z (.ref b :: As) Y n V G none Y1 n1 V1 G1) (hW : Wd Y cy D z n V G H) (hS : va_S (zA z) H0 H locs) (hk : As.length = 0) (hst : st0 = As.reverse ++ .ref b :: rest) (hsize : ls.size = nL) (hrest : (rest.map fun v => v.category).sum ≤ 8) (hR : rm.frames + 1 ≤ R.frames ∧ 8 + (1 + 11) + rm.locals ≤ R.locals) (hdg : decode cc pc = .ok (.invokespecial 43, 3)) (hf : cells + rm.cells ≤ R.cells ∧ slots + rm.slots ≤ R.slots) (kk : ∀ (H1 : Heap) (locs1 : List Loc), Wd Y1 cy D z n1 V1 G1 H1 → va_S (zA z) H0 H1 locs1 → W p l e R s m args below meth c H1 locs1 (cells + rm.cells) (slots + rm.slots) Q (F0 m (pc + 3) ls rest)) : W p l e R s m args below meth c H locs cells slots Q (F0 m pc ls st0) :=
  wk_IN hx hb hml hown hts hE q111 q87 nq109 q110 rfl (by decide +kernel) hM hW hS hk hst hsize hrest hR hdg hf kk
theorem iv_X3_9 (hx : p.tables.exec = Jvm.exec) (hb : c.code = cc) {nL : Nat} (hml : c.maxLocals = nL) (hown : s.vm.findClass RX3 = some m.cls) (hts : ∀ w ∈ lw_all, w.before args s = true) (hE : En D cy s) {rm : Room} {As : List Value} {b : Nat} {Y1 : mY} {n1 : Nat} {V1 : mV} {G1 : mG} (hM : CT l yX2_init cX2_init 2 none rm D cy z (.ref b :: As) Y n V G none Y1 n1 V1 G1) (hW : Wd Y cy D z n V G H) (hS : va_S (zA z) H0 H locs) (hk : As.length = 0) (hst : st0 = As.reverse ++ .ref b :: rest) (hsize : ls.size = nL) (hrest : (rest.map fun v => v.category).sum ≤ 8) (hR : rm.frames + 1 ≤ R.frames ∧ 8 + (2 + 11) + rm.locals ≤ R.locals) (hdg : decode cc pc = .ok (.invokespecial 9, 3)) (hf : cells + rm.cells ≤ R.cells ∧ slots + rm.slots ≤ R.slots) (kk : ∀ (H1 : Heap) (locs1 : List Loc), Wd Y1 cy D z n1 V1 G1 H1 → va_S (zA z) H0 H1 locs1 → W p l e R s m args below meth c H1 locs1 (cells + rm.cells) (slots + rm.slots) Q (F0 m (pc + 3) ls rest)) : W p l e R s m args below meth c H locs cells slots Q (F0 m pc ls st0) :=
  wk_IN hx hb hml hown hts hE q104 q86 nq102 q103 rfl (by decide +kernel) hM hW hS hk hst hsize hrest hR hdg hf kk
theorem pf_X3_10 (hx : p.tables.exec = Jvm.exec) (hb : c.code = cc) (hts : ∀ w ∈ lw_all, w.before args s = true) (hown : s.vm.findClass RX3 = some m.cls) (hE : En D cy s) (hW : Wd Y cy D z n V G H) (hS : va_S (zA z) H0 H locs) (hK : Y.1 a = 3) (x : Nat) (hin2 : meth.name = "<init>") (hdg : decode cc pc = .ok (.putfield 10, 3)) (kk : ∀ (H1 : Heap) (locs1 : List Loc), Wd Y cy D z n V (up2 G a 0 (some x)) H1 → va_S (zA z) H0 H1 locs1 → W p l e R s m args below meth c H1 locs1 cells slots Q (F0 m (pc + 3) ls rest)) : W p l e R s m args below meth c H locs cells slots Q (F0 m pc ls (.ref x :: .ref a :: rest)) :=
  wk_putF hx hb hts hown hE hW hS (C := RX3) (T := TX3) (N := 6) (ci := 3) (k := 0) rfl inX3 (by decide) q254 rfl rfl (by decide) tyX3 tyX3_ok nmX3 rfl (ty := .object "TriggerConditions$Permission") (by decide +kernel) rfl rfl (by decide) hin2 (by rw [up2_s]; exact fce_setr (k := 0) (by decide) (some x)) (fun _ _ => rfl) (up2_o _ _ _ _) hK hdg kk
theorem pf_X3_16 (hx : p.tables.exec = Jvm.exec) (hb : c.code = cc) (hts : ∀ w ∈ lw_all, w.before args s = true) (hown : s.vm.findClass RX3 = some m.cls) (hE : En D cy s) (hW : Wd Y cy D z n V G H) (hS : va_S (zA z) H0 H locs) (hK : Y.1 a = 3) (x : Nat) (hin2 : meth.name = "<init>") (hdg : decode cc pc = .ok (.putfield 16, 3)) (kk : ∀ (H1 : Heap) (locs1 : List Loc), Wd Y cy D z n V (up2 G a 1 (some x)) H1 → va_S (zA z) H0 H1 locs1 → W p l e R s m args below meth c H1 locs1 cells slots Q (F0 m (pc + 3) ls rest)) : W p l e R s m args below meth c H locs cells slots Q (F0 m pc ls (.ref x :: .ref a :: rest)) :=
  wk_putF hx hb hts hown hE hW hS (C := RX3) (T := TX3) (N := 6) (ci := 3) (k := 1) rfl inX3 (by decide) q255 rfl rfl (by decide) tyX3 tyX3_ok nmX3 rfl (ty := .object "TriggerConditions$Permission") (by decide +kernel) rfl rfl (by decide) hin2 (by rw [up2_s]; exact fce_setr (k := 1) (by decide) (some x)) (fun _ _ => rfl) (up2_o _ _ _ _) hK hdg kk
theorem pf_X3_19 (hx : p.tables.exec = Jvm.exec) (hb : c.code = cc) (hts : ∀ w ∈ lw_all, w.before args s = true) (hown : s.vm.findClass RX3 = some m.cls) (hE : En D cy s) (hW : Wd Y cy D z n V G H) (hS : va_S (zA z) H0 H locs) (hK : Y.1 a = 3) (x : Nat) (hin2 : meth.name = "<init>") (hdg : decode cc pc = .ok (.putfield 19, 3)) (kk : ∀ (H1 : Heap) (locs1 : List Loc), Wd Y cy D z n V (up2 G a 2 (some x)) H1 → va_S (zA z) H0 H1 locs1 → W p l e R s m args below meth c H1 locs1 cells slots Q (F0 m (pc + 3) ls rest)) : W p l e R s m args below meth c H locs cells slots Q (F0 m pc ls (.ref x :: .ref a :: rest)) :=
  wk_putF hx hb hts hown hE hW hS (C := RX3) (T := TX3) (N := 6) (ci := 3) (k := 2) rfl inX3 (by decide) q256 rfl rfl (by decide) tyX3 tyX3_ok nmX3 rfl (ty := .array (.object "TriggerConditions$Permission")) (by decide +kernel) rfl rfl (by decide) hin2 (by rw [up2_s]; exact fce_setr (k := 2) (by decide) (some x)) (fun _ _ => rfl) (up2_o _ _ _ _) hK hdg kk
theorem iv_X3_25 (hx : p.tables.exec = Jvm.exec) (hb : c.code = cc) {nL : Nat} (hml : c.maxLocals = nL) (hown : s.vm.findClass RX3 = some m.cls) (hts : ∀ w ∈ lw_all, w.before args s = true) (hE : En D cy s) {rm : Room} {As : List Value} {b : Nat} {Y1 : mY} {n1 : Nat} {V1 : mV} {G1 : mG} (hM : CT l yX1_init cX1_init 1 none rm D cy z (.ref b :: As) Y n V G none Y1 n1 V1 G1) (hW : Wd Y cy D z n V G H) (hS : va_S (zA z) H0 H locs) (hk : As.length = 0) (hst : st0 = As.reverse ++ .ref b :: rest) (hsize : ls.size = nL) (hrest : (rest.map fun v => v.category).sum ≤ 8) (hR : rm.frames + 1 ≤ R.frames ∧ 8 + (1 + 11) + rm.locals ≤ R.locals) (hdg : decode cc pc = .ok (.invokespecial 25, 3)) (hf : cells + rm.cells ≤ R.cells ∧ slots + rm.slots ≤ R.slots) (kk : ∀ (H1 : Heap) (locs1 : List Loc), Wd Y1 cy D z n1 V1 G1 H1 → va_S (zA z) H0 H1 locs1 → W p l e R s m args below meth c H1 locs1 (cells + rm.cells) (slots + rm.slots) Q (F0 m (pc + 3) ls rest)) : W p l e R s m args below meth c H locs cells slots Q (F0 m pc ls st0) :=
  wk_IN hx hb hml hown hts hE q225 q88 nq223 q224 rfl (by decide +kernel) hM hW hS hk hst hsize hrest hR hdg hf kk
theorem pf_X3_26 (hx : p.tables.exec = Jvm.exec) (hb : c.code = cc) (hts : ∀ w ∈ lw_all, w.before args s = true) (hown : s.vm.findClass RX3 = some m.cls) (hE : En D cy s) (hW : Wd Y cy D z n V G H) (hS : va_S (zA z) H0 H locs) (hK : Y.1 a = 3) (x : Nat) (hin2 : meth.name = "<init>") (hdg : decode cc pc = .ok (.putfield 26, 3)) (kk : ∀ (H1 : Heap) (locs1 : List Loc), Wd Y cy D z n V (up2 G a 3 (some x)) H1 → va_S (zA z) H0 H1 locs1 → W p l e R s m args below meth c H1 locs1 cells slots Q (F0 m (pc + 3) ls rest)) : W p l e R s m args below meth c H locs cells slots Q (F0 m pc ls (.ref x :: .ref a :: rest)) :=
  wk_putF hx hb hts hown hE hW hS (C := RX3) (T := TX3) (N := 6) (ci := 3) (k := 3) rfl inX3 (by decide) q257 rfl rfl (by decide) tyX3 tyX3_ok nmX3 rfl (ty := .object "TriggerConditions$Orders") (by decide +kernel) rfl rfl (by decide) hin2 (by rw [up2_s]; exact fce_setr (k := 3) (by decide) (some x)) (fun _ _ => rfl) (up2_o _ _ _ _) hK hdg kk
theorem pf_X3_30 (hx : p.tables.exec = Jvm.exec) (hb : c.code = cc) (hts : ∀ w ∈ lw_all, w.before args s = true) (hown : s.vm.findClass RX3 = some m.cls) (hE : En D cy s) (hW : Wd Y cy D z n V G H) (hS : va_S (zA z) H0 H locs) (hK : Y.1 a = 3) (x : Nat) (hdg : decode cc pc = .ok (.putfield 30, 3)) (kk : ∀ (H1 : Heap) (locs1 : List Loc), Wd Y cy D z n V (up2 G a 4 (some x)) H1 → va_S (zA z) H0 H1 locs1 → W p l e R s m args below meth c H1 locs1 cells slots Q (F0 m (pc + 3) ls rest)) : W p l e R s m args below meth c H locs cells slots Q (F0 m pc ls (.ref x :: .ref a :: rest)) :=
  wk_put hx hb hts hown hE hW hS (C := RX3) (T := TX3) (N := 6) (ci := 3) (k := 4) rfl inX3 (by decide) q258 rfl (by decide) tyX3 tyX3_ok nmX3 rfl (ty := .object "TriggerConditions$Permission") (by decide +kernel) rfl rfl (by decide) (by rw [up2_s]; exact fce_setr (k := 4) (by decide) (some x)) (fun _ _ => rfl) (up2_o _ _ _ _) hK hdg kk
theorem pf_X3_33 (hx : p.tables.exec = Jvm.exec) (hb : c.code = cc) (hts : ∀ w ∈ lw_all, w.before args s = true) (hown : s.vm.findClass RX3 = some m.cls) (hE : En D cy s) (hW : Wd Y cy D z n V G H) (hS : va_S (zA z) H0 H locs) (hK : Y.1 a = 3) (x : Int32) (hdg : decode cc pc = .ok (.putfield 33, 3)) (kk : ∀ (H1 : Heap) (locs1 : List Loc), Wd Y cy D z n (up2 V a 5 x) G H1 → va_S (zA z) H0 H1 locs1 → W p l e R s m args below meth c H1 locs1 cells slots Q (F0 m (pc + 3) ls rest)) : W p l e R s m args below meth c H locs cells slots Q (F0 m pc ls (.int x :: .ref a :: rest)) :=
  wk_put hx hb hts hown hE hW hS (C := RX3) (T := TX3) (N := 6) (ci := 3) (k := 5) rfl inX3 (by decide) q259 rfl (by decide) tyX3 tyX3_ok nmX3 rfl (ty := .int) (by decide +kernel) rfl rfl (by decide) (by rw [up2_s]; exact fce_seti (k := 5) (by decide) x) (up2_o _ _ _ _) (fun _ _ => rfl) hK hdg kk
theorem gf_X3_19 (hx : p.tables.exec = Jvm.exec) (hb : c.code = cc) (hts : ∀ w ∈ lw_all, w.before args s = true) (hown : s.vm.findClass RX3 = some m.cls) (hE : En D cy s) (hW : Wd Y cy D z n V G H) (hK : Y.1 a = 3) {q : Nat} (hG : G a 2 = some q) (hdg : decode cc pc = .ok (.getfield 19, 3)) (kk : W p l e R s m args below meth c H locs cells slots Q (F0 m (pc + 3) ls (.ref q :: rest))) : W p l e R s m args below meth c H locs cells slots Q (F0 m pc ls (.ref a :: rest)) :=
  wk_get hx hb hts hown hE hW (C := RX3) (T := TX3) (N := 6) (ci := 3) (k := 2) rfl inX3 (by decide) q256 rfl (by decide) (by show some (va_rf (G a 2)) = _; rw [hG]; rfl) hK hdg kk
theorem pf_X4_7 (hx : p.tables.exec = Jvm.exec) (hb : c.code = cc) (hts : ∀ w ∈ lw_all, w.before args s = true) (hown : s.vm.findClass RX4 = some m.cls) (hE : En D cy s) (hW : Wd Y cy D z n V G H) (hS : va_S (zA z) H0 H locs) (hK : Y.1 a = 4) (x : Nat) (hin2 : meth.name = "<init>") (hdg : decode cc pc = .ok (.putfield 7, 3)) (kk : ∀ (H1 : Heap) (locs1 : List Loc), Wd Y cy D z n V (up2 G a 0 (some x)) H1 → va_S (zA z) H0 H1 locs1 → W p l e R s m args below meth c H1 locs1 cells slots Q (F0 m (pc + 3) ls rest)) : W p l e R s m args below meth c H locs cells slots Q (F0 m pc ls (.ref x :: .ref a :: rest)) :=
  wk_putF hx hb hts hown hE hW hS (C := RX4) (T := TX4) (N := 13) (ci := 4) (k := 0) rfl inX4 (by decide) q608 rfl rfl (by decide) tyX4 tyX4_ok nmX4 rfl (ty := .array .int) (by decide +kernel) rfl rfl (by decide) hin2 (by rw [up2_s]; exact fce_setr (k := 0) (by decide) (some x)) (fun _ _ => rfl) (up2_o _ _ _ _) hK hdg kk
theorem pf_X4_13 (hx : p.tables.exec = Jvm.exec) (hb : c.code = cc) (hts : ∀ w ∈ lw_all, w.before args s = true) (hown : s.vm.findClass RX4 = some m.cls) (hE : En D cy s) (hW : Wd Y cy D z n V G H) (hS : va_S (zA z) H0 H locs) (hK : Y.1 a = 4) (x : Nat) (hin2 : meth.name = "<init>") (hdg : decode cc pc = .ok (.putfield 13, 3)) (kk : ∀ (H1 : Heap) (locs1 : List Loc), Wd Y cy D z n V (up2 G a 1 (some x)) H1 → va_S (zA z) H0 H1 locs1 → W p l e R s m args below meth c H1 locs1 cells slots Q (F0 m (pc + 3) ls rest)) : W p l e R s m args below meth c H locs cells slots Q (F0 m pc ls (.ref x :: .ref a :: rest)) :=
  wk_putF hx hb hts hown hE hW hS (C := RX4) (T := TX4) (N := 13) (ci := 4) (k := 1) rfl inX4 (by decide) q609 rfl rfl (by decide) tyX4 tyX4_ok nmX4 rfl (ty := .array .int) (by decide +kernel) rfl rfl (by decide) hin2 (by rw [up2_s]; exact fce_setr (k := 1) (by decide) (some x)) (fun _ _ => rfl) (up2_o _ _ _ _) hK hdg kk
theorem pf_X4_16 (hx : p.tables.exec = Jvm.exec) (hb : c.code = cc) (hts : ∀ w ∈ lw_all, w.before args s = true) (hown : s.vm.findClass RX4 = some m.cls) (hE : En D cy s) (hW : Wd Y cy D z n V G H) (hS : va_S (zA z) H0 H locs) (hK : Y.1 a = 4) (x : Nat) (hin2 : meth.name = "<init>") (hdg : decode cc pc = .ok (.putfield 16, 3)) (kk : ∀ (H1 : Heap) (locs1 : List Loc), Wd Y cy D z n V (up2 G a 2 (some x)) H1 → va_S (zA z) H0 H1 locs1 → W p l e R s m args below meth c H1 locs1 cells slots Q (F0 m (pc + 3) ls rest)) : W p l e R s m args below meth c H locs cells slots Q (F0 m pc ls (.ref x :: .ref a :: rest)) :=
  wk_putF hx hb hts hown hE hW hS (C := RX4) (T := TX4) (N := 13) (ci := 4) (k := 2) rfl inX4 (by decide) q610 rfl rfl (by decide) tyX4 tyX4_ok nmX4 rfl (ty := .array .int) (by decide +kernel) rfl rfl (by decide) hin2 (by rw [up2_s]; exact fce_setr (k := 2) (by decide) (some x)) (fun _ _ => rfl) (up2_o _ _ _ _) hK hdg kk
theorem pf_X4_19 (hx : p.tables.exec = Jvm.exec) (hb : c.code = cc) (hts : ∀ w ∈ lw_all, w.before args s = true) (hown : s.vm.findClass RX4 = some m.cls) (hE : En D cy s) (hW : Wd Y cy D z n V G H) (hS : va_S (zA z) H0 H locs) (hK : Y.1 a = 4) (x : Nat) (hin2 : meth.name = "<init>") (hdg : decode cc pc = .ok (.putfield 19, 3)) (kk : ∀ (H1 : Heap) (locs1 : List Loc), Wd Y cy D z n V (up2 G a 3 (some x)) H1 → va_S (zA z) H0 H1 locs1 → W p l e R s m args below meth c H1 locs1 cells slots Q (F0 m (pc + 3) ls rest)) : W p l e R s m args below meth c H locs cells slots Q (F0 m pc ls (.ref x :: .ref a :: rest)) :=
  wk_putF hx hb hts hown hE hW hS (C := RX4) (T := TX4) (N := 13) (ci := 4) (k := 3) rfl inX4 (by decide) q611 rfl rfl (by decide) tyX4 tyX4_ok nmX4 rfl (ty := .array .int) (by decide +kernel) rfl rfl (by decide) hin2 (by rw [up2_s]; exact fce_setr (k := 3) (by decide) (some x)) (fun _ _ => rfl) (up2_o _ _ _ _) hK hdg kk
theorem pf_X4_22 (hx : p.tables.exec = Jvm.exec) (hb : c.code = cc) (hts : ∀ w ∈ lw_all, w.before args s = true) (hown : s.vm.findClass RX4 = some m.cls) (hE : En D cy s) (hW : Wd Y cy D z n V G H) (hS : va_S (zA z) H0 H locs) (hK : Y.1 a = 4) (x : Nat) (hin2 : meth.name = "<init>") (hdg : decode cc pc = .ok (.putfield 22, 3)) (kk : ∀ (H1 : Heap) (locs1 : List Loc), Wd Y cy D z n V (up2 G a 5 (some x)) H1 → va_S (zA z) H0 H1 locs1 → W p l e R s m args below meth c H1 locs1 cells slots Q (F0 m (pc + 3) ls rest)) : W p l e R s m args below meth c H locs cells slots Q (F0 m pc ls (.ref x :: .ref a :: rest)) :=
  wk_putF hx hb hts hown hE hW hS (C := RX4) (T := TX4) (N := 13) (ci := 4) (k := 5) rfl inX4 (by decide) q613 rfl rfl (by decide) tyX4 tyX4_ok nmX4 rfl (ty := .array .int) (by decide +kernel) rfl rfl (by decide) hin2 (by rw [up2_s]; exact fce_setr (k := 5) (by decide) (some x)) (fun _ _ => rfl) (up2_o _ _ _ _) hK hdg kk
theorem pf_X4_25 (hx : p.tables.exec = Jvm.exec) (hb : c.code = cc) (hts : ∀ w ∈ lw_all, w.before args s = true) (hown : s.vm.findClass RX4 = some m.cls) (hE : En D cy s) (hW : Wd Y cy D z n V G H) (hS : va_S (zA z) H0 H locs) (hK : Y.1 a = 4) (x : Nat) (hin2 : meth.name = "<init>") (hdg : decode cc pc = .ok (.putfield 25, 3)) (kk : ∀ (H1 : Heap) (locs1 : List Loc), Wd Y cy D z n V (up2 G a 9 (some x)) H1 → va_S (zA z) H0 H1 locs1 → W p l e R s m args below meth c H1 locs1 cells slots Q (F0 m (pc + 3) ls rest)) : W p l e R s m args below meth c H locs cells slots Q (F0 m pc ls (.ref x :: .ref a :: rest)) :=
  wk_putF hx hb hts hown hE hW hS (C := RX4) (T := TX4) (N := 13) (ci := 4) (k := 9) rfl inX4 (by decide) q617 rfl rfl (by decide) tyX4 tyX4_ok nmX4 rfl (ty := .array .int) (by decide +kernel) rfl rfl (by decide) hin2 (by rw [up2_s]; exact fce_setr (k := 9) (by decide) (some x)) (fun _ _ => rfl) (up2_o _ _ _ _) hK hdg kk
theorem gf_X4_7 (hx : p.tables.exec = Jvm.exec) (hb : c.code = cc) (hts : ∀ w ∈ lw_all, w.before args s = true) (hown : s.vm.findClass RX4 = some m.cls) (hE : En D cy s) (hW : Wd Y cy D z n V G H) (hK : Y.1 a = 4) {q : Nat} (hG : G a 0 = some q) (hdg : decode cc pc = .ok (.getfield 7, 3)) (kk : W p l e R s m args below meth c H locs cells slots Q (F0 m (pc + 3) ls (.ref q :: rest))) : W p l e R s m args below meth c H locs cells slots Q (F0 m pc ls (.ref a :: rest)) :=
  wk_get hx hb hts hown hE hW (C := RX4) (T := TX4) (N := 13) (ci := 4) (k := 0) rfl inX4 (by decide) q608 rfl (by decide) (by show some (va_rf (G a 0)) = _; rw [hG]; rfl) hK hdg kk
theorem iv_X0_55 (hx : p.tables.exec = Jvm.exec) (hb : c.code = cc) {nL : Nat} (hml : c.maxLocals = nL) (hown : s.vm.findClass RX0 = some m.cls) (hts : ∀ w ∈ lw_all, w.before args s = true) (hE : En D cy s) {d : Nat} {As : List Value} {b : Nat} {Y1 : mY} {n1 : Nat} {V1 : mV} {G1 : mG} (hM : CT l yX0_endBreach cX0_endBreach 1 none (rmd d) D cy z (.ref b :: As) Y n V G none Y1 n1 V1 G1) (hW : Wd Y cy D z n V G H) (hS : va_S (zA z) H0 H locs) (hK : Y.1 b = 0) (hk : As.length = 0) (hst : st0 = As.reverse ++ .ref b :: rest) (hsize : ls.size = nL) (hrest : (rest.map fun v => v.category).sum ≤ 8) (hR : (rmd d).frames + 1 ≤ R.frames ∧ 8 + (1 + 11) + (rmd d).locals ≤ R.locals) (hdg : decode cc pc = .ok (.invokevirtual 55, 3)) (hf : cells ≤ R.cells ∧ slots ≤ R.slots) (kk : ∀ (H1 : Heap) (locs1 : List Loc), Wd Y1 cy D z n1 V1 G1 H1 → va_S (zA z) H0 H1 locs1 → W p l e R s m args below meth c H1 locs1 cells slots Q (F0 m (pc + 3) ls rest)) : W p l e R s m args below meth c H locs cells slots Q (F0 m pc ls st0) :=
  wk_V hx hb hml hown hts hE (ci := 0) (by decide) rfl rfl q309 q87 q306 q308 q5 (by decide +kernel) hM hW hS hK hk hst hsize hrest hR hdg hf kk
theorem gf_X0_9 (hx : p.tables.exec = Jvm.exec) (hb : c.code = cc) (hts : ∀ w ∈ lw_all, w.before args s = true) (hown : s.vm.findClass RX0 = some m.cls) (hE : En D cy s) (hW : Wd Y cy D z n V G H) (hK : Y.1 a = 0) (hdg : decode cc pc = .ok (.getfield 9, 3)) (kk : W p l e R s m args below meth c H locs cells slots Q (F0 m (pc + 3) ls (.int (V a 0) :: rest))) : W p l e R s m args below meth c H locs cells slots Q (F0 m pc ls (.ref a :: rest)) :=
  wk_get hx hb hts hown hE hW (C := RX0) (T := TX0) (N := 14) (ci := 0) (k := 0) rfl inX0 (by decide) q113 rfl (by decide) rfl hK hdg kk
theorem gf_X0_15 (hx : p.tables.exec = Jvm.exec) (hb : c.code = cc) (hts : ∀ w ∈ lw_all, w.before args s = true) (hown : s.vm.findClass RX0 = some m.cls) (hE : En D cy s) (hW : Wd Y cy D z n V G H) (hK : Y.1 a = 0) (hdg : decode cc pc = .ok (.getfield 15, 3)) (kk : W p l e R s m args below meth c H locs cells slots Q (F0 m (pc + 3) ls (.int (V a 1) :: rest))) : W p l e R s m args below meth c H locs cells slots Q (F0 m pc ls (.ref a :: rest)) :=
  wk_get hx hb hts hown hE hW (C := RX0) (T := TX0) (N := 14) (ci := 0) (k := 1) rfl inX0 (by decide) q116 rfl (by decide) rfl hK hdg kk
theorem gf_X0_18 (hx : p.tables.exec = Jvm.exec) (hb : c.code = cc) (hts : ∀ w ∈ lw_all, w.before args s = true) (hown : s.vm.findClass RX0 = some m.cls) (hE : En D cy s) (hW : Wd Y cy D z n V G H) (hK : Y.1 a = 0) (hdg : decode cc pc = .ok (.getfield 18, 3)) (kk : W p l e R s m args below meth c H locs cells slots Q (F0 m (pc + 3) ls (.int (V a 2) :: rest))) : W p l e R s m args below meth c H locs cells slots Q (F0 m pc ls (.ref a :: rest)) :=
  wk_get hx hb hts hown hE hW (C := RX0) (T := TX0) (N := 14) (ci := 0) (k := 2) rfl inX0 (by decide) q119 rfl (by decide) rfl hK hdg kk
theorem gf_X0_21 (hx : p.tables.exec = Jvm.exec) (hb : c.code = cc) (hts : ∀ w ∈ lw_all, w.before args s = true) (hown : s.vm.findClass RX0 = some m.cls) (hE : En D cy s) (hW : Wd Y cy D z n V G H) (hK : Y.1 a = 0) (hdg : decode cc pc = .ok (.getfield 21, 3)) (kk : W p l e R s m args below meth c H locs cells slots Q (F0 m (pc + 3) ls (.int (V a 3) :: rest))) : W p l e R s m args below meth c H locs cells slots Q (F0 m pc ls (.ref a :: rest)) :=
  wk_get hx hb hts hown hE hW (C := RX0) (T := TX0) (N := 14) (ci := 0) (k := 3) rfl inX0 (by decide) q122 rfl (by decide) rfl hK hdg kk
theorem gf_X0_24 (hx : p.tables.exec = Jvm.exec) (hb : c.code = cc) (hts : ∀ w ∈ lw_all, w.before args s = true) (hown : s.vm.findClass RX0 = some m.cls) (hE : En D cy s) (hW : Wd Y cy D z n V G H) (hK : Y.1 a = 0) (hdg : decode cc pc = .ok (.getfield 24, 3)) (kk : W p l e R s m args below meth c H locs cells slots Q (F0 m (pc + 3) ls (.int (V a 4) :: rest))) : W p l e R s m args below meth c H locs cells slots Q (F0 m pc ls (.ref a :: rest)) :=
  wk_get hx hb hts hown hE hW (C := RX0) (T := TX0) (N := 14) (ci := 0) (k := 4) rfl inX0 (by decide) q125 rfl (by decide) rfl hK hdg kk
theorem gf_X0_27 (hx : p.tables.exec = Jvm.exec) (hb : c.code = cc) (hts : ∀ w ∈ lw_all, w.before args s = true) (hown : s.vm.findClass RX0 = some m.cls) (hE : En D cy s) (hW : Wd Y cy D z n V G H) (hK : Y.1 a = 0) (hdg : decode cc pc = .ok (.getfield 27, 3)) (kk : W p l e R s m args below meth c H locs cells slots Q (F0 m (pc + 3) ls (.int (V a 5) :: rest))) : W p l e R s m args below meth c H locs cells slots Q (F0 m pc ls (.ref a :: rest)) :=
  wk_get hx hb hts hown hE hW (C := RX0) (T := TX0) (N := 14) (ci := 0) (k := 5) rfl inX0 (by decide) q128 rfl (by decide) rfl hK hdg kk
theorem gf_X0_30 (hx : p.tables.exec = Jvm.exec) (hb : c.code = cc) (hts : ∀ w ∈ lw_all, w.before args s = true) (hown : s.vm.findClass RX0 = some m.cls) (hE : En D cy s) (hW : Wd Y cy D z n V G H) (hK : Y.1 a = 0) (hdg : decode cc pc = .ok (.getfield 30, 3)) (kk : W p l e R s m args below meth c H locs cells slots Q (F0 m (pc + 3) ls (.int (V a 6) :: rest))) : W p l e R s m args below meth c H locs cells slots Q (F0 m pc ls (.ref a :: rest)) :=
  wk_get hx hb hts hown hE hW (C := RX0) (T := TX0) (N := 14) (ci := 0) (k := 6) rfl inX0 (by decide) q131 rfl (by decide) rfl hK hdg kk
theorem gf_X0_33 (hx : p.tables.exec = Jvm.exec) (hb : c.code = cc) (hts : ∀ w ∈ lw_all, w.before args s = true) (hown : s.vm.findClass RX0 = some m.cls) (hE : En D cy s) (hW : Wd Y cy D z n V G H) (hK : Y.1 a = 0) (hdg : decode cc pc = .ok (.getfield 33, 3)) (kk : W p l e R s m args below meth c H locs cells slots Q (F0 m (pc + 3) ls (.int (V a 7) :: rest))) : W p l e R s m args below meth c H locs cells slots Q (F0 m pc ls (.ref a :: rest)) :=
  wk_get hx hb hts hown hE hW (C := RX0) (T := TX0) (N := 14) (ci := 0) (k := 7) rfl inX0 (by decide) q134 rfl (by decide) rfl hK hdg kk
theorem gf_X0_36 (hx : p.tables.exec = Jvm.exec) (hb : c.code = cc) (hts : ∀ w ∈ lw_all, w.before args s = true) (hown : s.vm.findClass RX0 = some m.cls) (hE : En D cy s) (hW : Wd Y cy D z n V G H) (hK : Y.1 a = 0) (hdg : decode cc pc = .ok (.getfield 36, 3)) (kk : W p l e R s m args below meth c H locs cells slots Q (F0 m (pc + 3) ls (.int (V a 8) :: rest))) : W p l e R s m args below meth c H locs cells slots Q (F0 m pc ls (.ref a :: rest)) :=
  wk_get hx hb hts hown hE hW (C := RX0) (T := TX0) (N := 14) (ci := 0) (k := 8) rfl inX0 (by decide) q137 rfl (by decide) rfl hK hdg kk
theorem gf_X0_40 (hx : p.tables.exec = Jvm.exec) (hb : c.code = cc) (hts : ∀ w ∈ lw_all, w.before args s = true) (hown : s.vm.findClass RX0 = some m.cls) (hE : En D cy s) (hW : Wd Y cy D z n V G H) (hK : Y.1 a = 0) (hdg : decode cc pc = .ok (.getfield 40, 3)) (kk : W p l e R s m args below meth c H locs cells slots Q (F0 m (pc + 3) ls (.int (V a 9) :: rest))) : W p l e R s m args below meth c H locs cells slots Q (F0 m pc ls (.ref a :: rest)) :=
  wk_get hx hb hts hown hE hW (C := RX0) (T := TX0) (N := 14) (ci := 0) (k := 9) rfl inX0 (by decide) q140 rfl (by decide) rfl hK hdg kk
theorem gf_X0_43 (hx : p.tables.exec = Jvm.exec) (hb : c.code = cc) (hts : ∀ w ∈ lw_all, w.before args s = true) (hown : s.vm.findClass RX0 = some m.cls) (hE : En D cy s) (hW : Wd Y cy D z n V G H) (hK : Y.1 a = 0) (hdg : decode cc pc = .ok (.getfield 43, 3)) (kk : W p l e R s m args below meth c H locs cells slots Q (F0 m (pc + 3) ls (.int (V a 10) :: rest))) : W p l e R s m args below meth c H locs cells slots Q (F0 m pc ls (.ref a :: rest)) :=
  wk_get hx hb hts hown hE hW (C := RX0) (T := TX0) (N := 14) (ci := 0) (k := 10) rfl inX0 (by decide) q142 rfl (by decide) rfl hK hdg kk
theorem gf_X0_46 (hx : p.tables.exec = Jvm.exec) (hb : c.code = cc) (hts : ∀ w ∈ lw_all, w.before args s = true) (hown : s.vm.findClass RX0 = some m.cls) (hE : En D cy s) (hW : Wd Y cy D z n V G H) (hK : Y.1 a = 0) (hdg : decode cc pc = .ok (.getfield 46, 3)) (kk : W p l e R s m args below meth c H locs cells slots Q (F0 m (pc + 3) ls (.int (V a 11) :: rest))) : W p l e R s m args below meth c H locs cells slots Q (F0 m pc ls (.ref a :: rest)) :=
  wk_get hx hb hts hown hE hW (C := RX0) (T := TX0) (N := 14) (ci := 0) (k := 11) rfl inX0 (by decide) q145 rfl (by decide) rfl hK hdg kk
theorem gf_X0_49 (hx : p.tables.exec = Jvm.exec) (hb : c.code = cc) (hts : ∀ w ∈ lw_all, w.before args s = true) (hown : s.vm.findClass RX0 = some m.cls) (hE : En D cy s) (hW : Wd Y cy D z n V G H) (hK : Y.1 a = 0) (hdg : decode cc pc = .ok (.getfield 49, 3)) (kk : W p l e R s m args below meth c H locs cells slots Q (F0 m (pc + 3) ls (.int (V a 12) :: rest))) : W p l e R s m args below meth c H locs cells slots Q (F0 m pc ls (.ref a :: rest)) :=
  wk_get hx hb hts hown hE hW (C := RX0) (T := TX0) (N := 14) (ci := 0) (k := 12) rfl inX0 (by decide) q148 rfl (by decide) rfl hK hdg kk
theorem gf_X0_52 (hx : p.tables.exec = Jvm.exec) (hb : c.code = cc) (hts : ∀ w ∈ lw_all, w.before args s = true) (hown : s.vm.findClass RX0 = some m.cls) (hE : En D cy s) (hW : Wd Y cy D z n V G H) (hK : Y.1 a = 0) (hdg : decode cc pc = .ok (.getfield 52, 3)) (kk : W p l e R s m args below meth c H locs cells slots Q (F0 m (pc + 3) ls (.int (V a 13) :: rest))) : W p l e R s m args below meth c H locs cells slots Q (F0 m pc ls (.ref a :: rest)) :=
  wk_get hx hb hts hown hE hW (C := RX0) (T := TX0) (N := 14) (ci := 0) (k := 13) rfl inX0 (by decide) q151 rfl (by decide) rfl hK hdg kk
theorem iv_X0_58 (hx : p.tables.exec = Jvm.exec) (hb : c.code = cc) {nL : Nat} (hml : c.maxLocals = nL) (hown : s.vm.findClass RX0 = some m.cls) (hts : ∀ w ∈ lw_all, w.before args s = true) (hE : En D cy s) {d : Nat} {x : Int32} {As : List Value} {b : Nat} {Y1 : mY} {n1 : Nat} {V1 : mV} {G1 : mG} (hM : CT l yX0_isMet cX0_isMet 1 (some .boolean) (rmd d) D cy z (.ref b :: As) Y n V G (some (.int x)) Y1 n1 V1 G1) (hW : Wd Y cy D z n V G H) (hS : va_S (zA z) H0 H locs) (hK : Y.1 b = 0) (hk : As.length = 0) (hst : st0 = As.reverse ++ .ref b :: rest) (hsize : ls.size = nL) (hrest : (rest.map fun v => v.category).sum ≤ 8) (hR : (rmd d).frames + 1 ≤ R.frames ∧ 8 + (1 + 11) + (rmd d).locals ≤ R.locals) (hdg : decode cc pc = .ok (.invokevirtual 58, 3)) (hf : cells ≤ R.cells ∧ slots ≤ R.slots) (kk : ∀ (H1 : Heap) (locs1 : List Loc), Wd Y1 cy D z n1 V1 G1 H1 → va_S (zA z) H0 H1 locs1 → W p l e R s m args below meth c H1 locs1 cells slots Q (F0 m (pc + 3) ls (.int x :: rest))) : W p l e R s m args below meth c H locs cells slots Q (F0 m pc ls st0) :=
  wk_V hx hb hml hown hts hE (ci := 0) (by decide) rfl rfl q337 q87 q382 q336 q11 (by decide +kernel) hM hW hS hK hk hst hsize hrest hR hdg hf kk
theorem gf_X1_19 (hx : p.tables.exec = Jvm.exec) (hb : c.code = cc) (hts : ∀ w ∈ lw_all, w.before args s = true) (hown : s.vm.findClass RX1 = some m.cls) (hE : En D cy s) (hW : Wd Y cy D z n V G H) (hK : Y.1 a = 1) (hdg : decode cc pc = .ok (.getfield 19, 3)) (kk : W p l e R s m args below meth c H locs cells slots Q (F0 m (pc + 3) ls (.int (V a 2) :: rest))) : W p l e R s m args below meth c H locs cells slots Q (F0 m pc ls (.ref a :: rest)) :=
  wk_get hx hb hts hown hE hW (C := RX1) (T := TX1) (N := 7) (ci := 1) (k := 2) rfl inX1 (by decide) q229 rfl (by decide) rfl hK hdg kk
theorem gf_X1_9 (hx : p.tables.exec = Jvm.exec) (hb : c.code = cc) (hts : ∀ w ∈ lw_all, w.before args s = true) (hown : s.vm.findClass RX1 = some m.cls) (hE : En D cy s) (hW : Wd Y cy D z n V G H) (hK : Y.1 a = 1) {q : Nat} (hG : G a 0 = some q) (hdg : decode cc pc = .ok (.getfield 9, 3)) (kk : W p l e R s m args below meth c H locs cells slots Q (F0 m (pc + 3) ls (.ref q :: rest))) : W p l e R s m args below meth c H locs cells slots Q (F0 m pc ls (.ref a :: rest)) :=
  wk_get hx hb hts hown hE hW (C := RX1) (T := TX1) (N := 7) (ci := 1) (k := 0) rfl inX1 (by decide) q227 rfl (by decide) (by show some (va_rf (G a 0)) = _; rw [hG]; rfl) hK hdg kk
theorem gf_X1_15 (hx : p.tables.exec = Jvm.exec) (hb : c.code = cc) (hts : ∀ w ∈ lw_all, w.before args s = true) (hown : s.vm.findClass RX1 = some m.cls) (hE : En D cy s) (hW : Wd Y cy D z n V G H) (hK : Y.1 a = 1) {q : Nat} (hG : G a 1 = some q) (hdg : decode cc pc = .ok (.getfield 15, 3)) (kk : W p l e R s m args below meth c H locs cells slots Q (F0 m (pc + 3) ls (.ref q :: rest))) : W p l e R s m args below meth c H locs cells slots Q (F0 m pc ls (.ref a :: rest)) :=
  wk_get hx hb hts hown hE hW (C := RX1) (T := TX1) (N := 7) (ci := 1) (k := 1) rfl inX1 (by decide) q228 rfl (by decide) (by show some (va_rf (G a 1)) = _; rw [hG]; rfl) hK hdg kk
theorem gf_X1_26 (hx : p.tables.exec = Jvm.exec) (hb : c.code = cc) (hts : ∀ w ∈ lw_all, w.before args s = true) (hown : s.vm.findClass RX1 = some m.cls) (hE : En D cy s) (hW : Wd Y cy D z n V G H) (hK : Y.1 a = 1) (hdg : decode cc pc = .ok (.getfield 26, 3)) (kk : W p l e R s m args below meth c H locs cells slots Q (F0 m (pc + 3) ls (.int (V a 4) :: rest))) : W p l e R s m args below meth c H locs cells slots Q (F0 m pc ls (.ref a :: rest)) :=
  wk_get hx hb hts hown hE hW (C := RX1) (T := TX1) (N := 7) (ci := 1) (k := 4) rfl inX1 (by decide) q233 rfl (by decide) rfl hK hdg kk
theorem iv_X1_56 (hx : p.tables.exec = Jvm.exec) (hb : c.code = cc) {nL : Nat} (hml : c.maxLocals = nL) (hown : s.vm.findClass RX1 = some m.cls) (hts : ∀ w ∈ lw_all, w.before args s = true) (hE : En D cy s) {d : Nat} {x : Int32} {As : List Value} {b : Nat} {Y1 : mY} {n1 : Nat} {V1 : mV} {G1 : mG} (hM : CT l yX1_isDigit cX1_isDigit 1 (some .boolean) (rmd d) D cy z As Y n V G (some (.int x)) Y1 n1 V1 G1) (hW : Wd Y cy D z n V G H) (hS : va_S (zA z) H0 H locs) (hk : As.length = 1) (hst : st0 = As.reverse ++ rest) (hsize : ls.size = nL) (hrest : (rest.map fun v => v.category).sum ≤ 8) (hR : (rmd d).frames + 1 ≤ R.frames ∧ 8 + (1 + 11) + (rmd d).locals ≤ R.locals) (hdg : decode cc pc = .ok (.invokestatic 56, 3)) (hf : cells ≤ R.cells ∧ slots ≤ R.slots) (kk : ∀ (H1 : Heap) (locs1 : List Loc), Wd Y1 cy D z n1 V1 G1 H1 → va_S (zA z) H0 H1 locs1 → W p l e R s m args below meth c H1 locs1 cells slots Q (F0 m (pc + 3) ls (.int x :: rest))) : W p l e R s m args below meth c H locs cells slots Q (F0 m pc ls st0) :=
  wk_S hx hb hml hown hts hE q583 q88 q581 q582 (by decide +kernel) hM hW hS hk hst hsize hrest hR hdg hf kk
theorem iv_X1_48 (hx : p.tables.exec = Jvm.exec) (hb : c.code = cc) {nL : Nat} (hml : c.maxLocals = nL) (hown : s.vm.findClass RX1 = some m.cls) (hts : ∀ w ∈ lw_all, w.before args s = true) (hE : En D cy s) {d : Nat} {x : Int32} {As : List Value} {b : Nat} {Y1 : mY} {n1 : Nat} {V1 : mV} {G1 : mG} (hM : CT l yX1_readNumber cX1_readNumber 4 (some .boolean) (rmd d) D cy z (.ref b :: As) Y n V G (some (.int x)) Y1 n1 V1 G1) (hW : Wd Y cy D z n V G H) (hS : va_S (zA z) H0 H locs) (hK : Y.1 b = 1) (hk : As.length = 1) (hst : st0 = As.reverse ++ .ref b :: rest) (hsize : ls.size = nL) (hrest : (rest.map fun v => v.category).sum ≤ 8) (hR : (rmd d).frames + 1 ≤ R.frames ∧ 8 + (4 + 11) + (rmd d).locals ≤ R.locals) (hdg : decode cc pc = .ok (.invokevirtual 48, 3)) (hf : cells ≤ R.cells ∧ slots ≤ R.slots) (kk : ∀ (H1 : Heap) (locs1 : List Loc), Wd Y1 cy D z n1 V1 G1 H1 → va_S (zA z) H0 H1 locs1 → W p l e R s m args below meth c H1 locs1 cells slots Q (F0 m (pc + 3) ls (.int x :: rest))) : W p l e R s m args below meth c H locs cells slots Q (F0 m pc ls st0) :=
  wk_V hx hb hml hown hts hE (ci := 1) (by decide) rfl rfl q580 q88 q577 q579 q41 (by decide +kernel) hM hW hS hK hk hst hsize hrest hR hdg hf kk
theorem iv_X1_52 (hx : p.tables.exec = Jvm.exec) (hb : c.code = cc) {nL : Nat} (hml : c.maxLocals = nL) (hown : s.vm.findClass RX1 = some m.cls) (hts : ∀ w ∈ lw_all, w.before args s = true) (hE : En D cy s) {d : Nat} {x : Int32} {As : List Value} {b : Nat} {Y1 : mY} {n1 : Nat} {V1 : mV} {G1 : mG} (hM : CT l yX1_readSign cX1_readSign 2 (some .boolean) (rmd d) D cy z (.ref b :: As) Y n V G (some (.int x)) Y1 n1 V1 G1) (hW : Wd Y cy D z n V G H) (hS : va_S (zA z) H0 H locs) (hK : Y.1 b = 1) (hk : As.length = 1) (hst : st0 = As.reverse ++ .ref b :: rest) (hsize : ls.size = nL) (hrest : (rest.map fun v => v.category).sum ≤ 8) (hR : (rmd d).frames + 1 ≤ R.frames ∧ 8 + (2 + 11) + (rmd d).locals ≤ R.locals) (hdg : decode cc pc = .ok (.invokevirtual 52, 3)) (hf : cells ≤ R.cells ∧ slots ≤ R.slots) (kk : ∀ (H1 : Heap) (locs1 : List Loc), Wd Y1 cy D z n1 V1 G1 H1 → va_S (zA z) H0 H1 locs1 → W p l e R s m args below meth c H1 locs1 cells slots Q (F0 m (pc + 3) ls (.int x :: rest))) : W p l e R s m args below meth c H locs cells slots Q (F0 m pc ls st0) :=
  wk_V hx hb hml hown hts hE (ci := 1) (by decide) rfl rfl q587 q88 q584 q586 q42 (by decide +kernel) hM hW hS hK hk hst hsize hrest hR hdg hf kk
theorem iv_X1_44 (hx : p.tables.exec = Jvm.exec) (hb : c.code = cc) {nL : Nat} (hml : c.maxLocals = nL) (hown : s.vm.findClass RX1 = some m.cls) (hts : ∀ w ∈ lw_all, w.before args s = true) (hE : En D cy s) {d : Nat} {x : Int32} {As : List Value} {b : Nat} {Y1 : mY} {n1 : Nat} {V1 : mV} {G1 : mG} (hM : CT l yX1_numbersBehind cX1_numbersBehind 1 (some .int) (rmd d) D cy z As Y n V G (some (.int x)) Y1 n1 V1 G1) (hW : Wd Y cy D z n V G H) (hS : va_S (zA z) H0 H locs) (hk : As.length = 1) (hst : st0 = As.reverse ++ rest) (hsize : ls.size = nL) (hrest : (rest.map fun v => v.category).sum ≤ 8) (hR : (rmd d).frames + 1 ≤ R.frames ∧ 8 + (1 + 11) + (rmd d).locals ≤ R.locals) (hdg : decode cc pc = .ok (.invokestatic 44, 3)) (hf : cells ≤ R.cells ∧ slots ≤ R.slots) (kk : ∀ (H1 : Heap) (locs1 : List Loc), Wd Y1 cy D z n1 V1 G1 H1 → va_S (zA z) H0 H1 locs1 → W p l e R s m args below meth c H1 locs1 cells slots Q (F0 m (pc + 3) ls (.int x :: rest))) : W p l e R s m args below meth c H locs cells slots Q (F0 m pc ls st0) :=
  wk_S hx hb hml hown hts hE q576 q88 q574 q575 (by decide +kernel) hM hW hS hk hst hsize hrest hR hdg hf kk
theorem gf_X1_23 (hx : p.tables.exec = Jvm.exec) (hb : c.code = cc) (hts : ∀ w ∈ lw_all, w.before args s = true) (hown : s.vm.findClass RX1 = some m.cls) (hE : En D cy s) (hW : Wd Y cy D z n V G H) (hK : Y.1 a = 1) (hdg : decode cc pc = .ok (.getfield 23, 3)) (kk : W p l e R s m args below meth c H locs cells slots Q (F0 m (pc + 3) ls (.int (V a 3) :: rest))) : W p l e R s m args below meth c H locs cells slots Q (F0 m pc ls (.ref a :: rest)) :=
  wk_get hx hb hts hown hE hW (C := RX1) (T := TX1) (N := 7) (ci := 1) (k := 3) rfl inX1 (by decide) q231 rfl (by decide) rfl hK hdg kk
theorem iv_X1_72 (hx : p.tables.exec = Jvm.exec) (hb : c.code = cc) {nL : Nat} (hml : c.maxLocals = nL) (hown : s.vm.findClass RX1 = some m.cls) (hts : ∀ w ∈ lw_all, w.before args s = true) (hE : En D cy s) {d : Nat} {x : Int32} {As : List Value} {b : Nat} {Y1 : mY} {n1 : Nat} {V1 : mV} {G1 : mG} (hM : CT l yX2_applyFor cX2_applyFor 4 (some .int) (rmd d) D cy z (.ref b :: As) Y n V G (some (.int x)) Y1 n1 V1 G1) (hW : Wd Y cy D z n V G H) (hS : va_S (zA z) H0 H locs) (hK : Y.1 b = 2) (hk : As.length = 2) (hst : st0 = As.reverse ++ .ref b :: rest) (hsize : ls.size = nL) (hrest : (rest.map fun v => v.category).sum ≤ 8) (hR : (rmd d).frames + 1 ≤ R.frames ∧ 8 + (4 + 11) + (rmd d).locals ≤ R.locals) (hdg : decode cc pc = .ok (.invokevirtual 72, 3)) (hf : cells ≤ R.cells ∧ slots ≤ R.slots) (kk : ∀ (H1 : Heap) (locs1 : List Loc), Wd Y1 cy D z n1 V1 G1 H1 → va_S (zA z) H0 H1 locs1 → W p l e R s m args below meth c H1 locs1 cells slots Q (F0 m (pc + 3) ls (.int x :: rest))) : W p l e R s m args below meth c H locs cells slots Q (F0 m pc ls st0) :=
  wk_VN hx hb hml hown hts hE (ci := 2) (by decide) rfl rfl q361 q86 nq595 q360 q15 (by decide +kernel) hM hW hS hK hk hst hsize hrest hR hdg hf kk
theorem iv_X1_65 (hx : p.tables.exec = Jvm.exec) (hb : c.code = cc) {nL : Nat} (hml : c.maxLocals = nL) (hown : s.vm.findClass RX1 = some m.cls) (hts : ∀ w ∈ lw_all, w.before args s = true) (hE : En D cy s) {d : Nat} {x : Int32} {As : List Value} {b : Nat} {Y1 : mY} {n1 : Nat} {V1 : mV} {G1 : mG} (hM : CT l yX2_beginStage cX2_beginStage 4 (some .int) (rmd d) D cy z (.ref b :: As) Y n V G (some (.int x)) Y1 n1 V1 G1) (hW : Wd Y cy D z n V G H) (hS : va_S (zA z) H0 H locs) (hK : Y.1 b = 2) (hk : As.length = 1) (hst : st0 = As.reverse ++ .ref b :: rest) (hsize : ls.size = nL) (hrest : (rest.map fun v => v.category).sum ≤ 8) (hR : (rmd d).frames + 1 ≤ R.frames ∧ 8 + (4 + 11) + (rmd d).locals ≤ R.locals) (hdg : decode cc pc = .ok (.invokevirtual 65, 3)) (hf : cells ≤ R.cells ∧ slots ≤ R.slots) (kk : ∀ (H1 : Heap) (locs1 : List Loc), Wd Y1 cy D z n1 V1 G1 H1 → va_S (zA z) H0 H1 locs1 → W p l e R s m args below meth c H1 locs1 cells slots Q (F0 m (pc + 3) ls (.int x :: rest))) : W p l e R s m args below meth c H locs cells slots Q (F0 m pc ls st0) :=
  wk_VN hx hb hml hown hts hE (ci := 2) (by decide) rfl rfl q325 q86 nq593 q324 q8 (by decide +kernel) hM hW hS hK hk hst hsize hrest hR hdg hf kk
theorem iv_X1_59 (hx : p.tables.exec = Jvm.exec) (hb : c.code = cc) {nL : Nat} (hml : c.maxLocals = nL) (hown : s.vm.findClass RX1 = some m.cls) (hts : ∀ w ∈ lw_all, w.before args s = true) (hE : En D cy s) {d : Nat} {x : Int32} {As : List Value} {b : Nat} {Y1 : mY} {n1 : Nat} {V1 : mV} {G1 : mG} (hM : CT l yX2_addCondition cX2_addCondition 5 (some .int) (rmd d) D cy z (.ref b :: As) Y n V G (some (.int x)) Y1 n1 V1 G1) (hW : Wd Y cy D z n V G H) (hS : va_S (zA z) H0 H locs) (hK : Y.1 b = 2) (hk : As.length = 4) (hst : st0 = As.reverse ++ .ref b :: rest) (hsize : ls.size = nL) (hrest : (rest.map fun v => v.category).sum ≤ 8) (hR : (rmd d).frames + 1 ≤ R.frames ∧ 8 + (5 + 11) + (rmd d).locals ≤ R.locals) (hdg : decode cc pc = .ok (.invokevirtual 59, 3)) (hf : cells ≤ R.cells ∧ slots ≤ R.slots) (kk : ∀ (H1 : Heap) (locs1 : List Loc), Wd Y1 cy D z n1 V1 G1 H1 → va_S (zA z) H0 H1 locs1 → W p l e R s m args below meth c H1 locs1 cells slots Q (F0 m (pc + 3) ls (.int x :: rest))) : W p l e R s m args below meth c H locs cells slots Q (F0 m pc ls st0) :=
  wk_VN hx hb hml hown hts hE (ci := 2) (by decide) rfl rfl q288 q86 nq592 q287 q2 (by decide +kernel) hM hW hS hK hk hst hsize hrest hR hdg hf kk
theorem iv_X1_76 (hx : p.tables.exec = Jvm.exec) (hb : c.code = cc) {nL : Nat} (hml : c.maxLocals = nL) (hown : s.vm.findClass RX1 = some m.cls) (hts : ∀ w ∈ lw_all, w.before args s = true) (hE : En D cy s) {d : Nat} {x : Int32} {As : List Value} {b : Nat} {Y1 : mY} {n1 : Nat} {V1 : mV} {G1 : mG} (hM : CT l yX2_decideOn cX2_decideOn 4 (some .int) (rmd d) D cy z (.ref b :: As) Y n V G (some (.int x)) Y1 n1 V1 G1) (hW : Wd Y cy D z n V G H) (hS : va_S (zA z) H0 H locs) (hK : Y.1 b = 2) (hk : As.length = 2) (hst : st0 = As.reverse ++ .ref b :: rest) (hsize : ls.size = nL) (hrest : (rest.map fun v => v.category).sum ≤ 8) (hR : (rmd d).frames + 1 ≤ R.frames ∧ 8 + (4 + 11) + (rmd d).locals ≤ R.locals) (hdg : decode cc pc = .ok (.invokevirtual 76, 3)) (hf : cells ≤ R.cells ∧ slots ≤ R.slots) (kk : ∀ (H1 : Heap) (locs1 : List Loc), Wd Y1 cy D z n1 V1 G1 H1 → va_S (zA z) H0 H1 locs1 → W p l e R s m args below meth c H1 locs1 cells slots Q (F0 m (pc + 3) ls (.int x :: rest))) : W p l e R s m args below meth c H locs cells slots Q (F0 m pc ls st0) :=
  wk_VN hx hb hml hown hts hE (ci := 2) (by decide) rfl rfl q377 q86 nq596 q376 q18 (by decide +kernel) hM hW hS hK hk hst hsize hrest hR hdg hf kk
theorem iv_X1_69 (hx : p.tables.exec = Jvm.exec) (hb : c.code = cc) {nL : Nat} (hml : c.maxLocals = nL) (hown : s.vm.findClass RX1 = some m.cls) (hts : ∀ w ∈ lw_all, w.before args s = true) (hE : En D cy s) {d : Nat} {x : Int32} {As : List Value} {b : Nat} {Y1 : mY} {n1 : Nat} {V1 : mV} {G1 : mG} (hM : CT l yX2_finishStage cX2_finishStage 2 (some .int) (rmd d) D cy z (.ref b :: As) Y n V G (some (.int x)) Y1 n1 V1 G1) (hW : Wd Y cy D z n V G H) (hS : va_S (zA z) H0 H locs) (hK : Y.1 b = 2) (hk : As.length = 1) (hst : st0 = As.reverse ++ .ref b :: rest) (hsize : ls.size = nL) (hrest : (rest.map fun v => v.category).sum ≤ 8) (hR : (rmd d).frames + 1 ≤ R.frames ∧ 8 + (2 + 11) + (rmd d).locals ≤ R.locals) (hdg : decode cc pc = .ok (.invokevirtual 69, 3)) (hf : cells ≤ R.cells ∧ slots ≤ R.slots) (kk : ∀ (H1 : Heap) (locs1 : List Loc), Wd Y1 cy D z n1 V1 G1 H1 → va_S (zA z) H0 H1 locs1 → W p l e R s m args below meth c H1 locs1 cells slots Q (F0 m (pc + 3) ls (.int x :: rest))) : W p l e R s m args below meth c H locs cells slots Q (F0 m pc ls st0) :=
  wk_VN hx hb hml hown hts hE (ci := 2) (by decide) rfl rfl q349 q86 nq594 q348 q13 (by decide +kernel) hM hW hS hK hk hst hsize hrest hR hdg hf kk
theorem iv_X1_79 (hx : p.tables.exec = Jvm.exec) (hb : c.code = cc) {nL : Nat} (hml : c.maxLocals = nL) (hown : s.vm.findClass RX1 = some m.cls) (hts : ∀ w ∈ lw_all, w.before args s = true) (hE : En D cy s) {d : Nat} {x : Int32} {As : List Value} {b : Nat} {Y1 : mY} {n1 : Nat} {V1 : mV} {G1 : mG} (hM : CT l yX2_passDays cX2_passDays 4 (some .int) (rmd d) D cy z (.ref b :: As) Y n V G (some (.int x)) Y1 n1 V1 G1) (hW : Wd Y cy D z n V G H) (hS : va_S (zA z) H0 H locs) (hK : Y.1 b = 2) (hk : As.length = 1) (hst : st0 = As.reverse ++ .ref b :: rest) (hsize : ls.size = nL) (hrest : (rest.map fun v => v.category).sum ≤ 8) (hR : (rmd d).frames + 1 ≤ R.frames ∧ 8 + (4 + 11) + (rmd d).locals ≤ R.locals) (hdg : decode cc pc = .ok (.invokevirtual 79, 3)) (hf : cells ≤ R.cells ∧ slots ≤ R.slots) (kk : ∀ (H1 : Heap) (locs1 : List Loc), Wd Y1 cy D z n1 V1 G1 H1 → va_S (zA z) H0 H1 locs1 → W p l e R s m args below meth c H1 locs1 cells slots Q (F0 m (pc + 3) ls (.int x :: rest))) : W p l e R s m args below meth c H locs cells slots Q (F0 m pc ls st0) :=
  wk_VN hx hb hml hown hts hE (ci := 2) (by decide) rfl rfl q440 q86 nq597 q439 q26 (by decide +kernel) hM hW hS hK hk hst hsize hrest hR hdg hf kk
theorem iv_X1_36 (hx : p.tables.exec = Jvm.exec) (hb : c.code = cc) {nL : Nat} (hml : c.maxLocals = nL) (hown : s.vm.findClass RX1 = some m.cls) (hts : ∀ w ∈ lw_all, w.before args s = true) (hE : En D cy s) {d : Nat} {x : Int32} {As : List Value} {b : Nat} {Y1 : mY} {n1 : Nat} {V1 : mV} {G1 : mG} (hM : CT l yX1_readOrder cX1_readOrder 4 (some .boolean) (rmd d) D cy z (.ref b :: As) Y n V G (some (.int x)) Y1 n1 V1 G1) (hW : Wd Y cy D z n V G H) (hS : va_S (zA z) H0 H locs) (hK : Y.1 b = 1) (hk : As.length = 0) (hst : st0 = As.reverse ++ .ref b :: rest) (hsize : ls.size = nL) (hrest : (rest.map fun v => v.category).sum ≤ 8) (hR : (rmd d).frames + 1 ≤ R.frames ∧ 8 + (4 + 11) + (rmd d).locals ≤ R.locals) (hdg : decode cc pc = .ok (.invokevirtual 36, 3)) (hf : cells ≤ R.cells ∧ slots ≤ R.slots) (kk : ∀ (H1 : Heap) (locs1 : List Loc), Wd Y1 cy D z n1 V1 G1 H1 → va_S (zA z) H0 H1 locs1 → W p l e R s m args below meth c H1 locs1 cells slots Q (F0 m (pc + 3) ls (.int x :: rest))) : W p l e R s m args below meth c H locs cells slots Q (F0 m pc ls st0) :=
  wk_V hx hb hml hown hts hE (ci := 1) (by decide) rfl rfl q573 q88 q570 q572 q40 (by decide +kernel) hM hW hS hK hk hst hsize hrest hR hdg hf kk
theorem iv_X1_40 (hx : p.tables.exec = Jvm.exec) (hb : c.code = cc) {nL : Nat} (hml : c.maxLocals = nL) (hown : s.vm.findClass RX1 = some m.cls) (hts : ∀ w ∈ lw_all, w.before args s = true) (hE : En D cy s) {d : Nat} {x : Int32} {As : List Value} {b : Nat} {Y1 : mY} {n1 : Nat} {V1 : mV} {G1 : mG} (hM : CT l yX1_doOrder cX1_doOrder 2 (some .int) (rmd d) D cy z (.ref b :: As) Y n V G (some (.int x)) Y1 n1 V1 G1) (hW : Wd Y cy D z n V G H) (hS : va_S (zA z) H0 H locs) (hK : Y.1 b = 1) (hk : As.length = 1) (hst : st0 = As.reverse ++ .ref b :: rest) (hsize : ls.size = nL) (hrest : (rest.map fun v => v.category).sum ≤ 8) (hR : (rmd d).frames + 1 ≤ R.frames ∧ 8 + (2 + 11) + (rmd d).locals ≤ R.locals) (hdg : decode cc pc = .ok (.invokevirtual 40, 3)) (hf : cells ≤ R.cells ∧ slots ≤ R.slots) (kk : ∀ (H1 : Heap) (locs1 : List Loc), Wd Y1 cy D z n1 V1 G1 H1 → va_S (zA z) H0 H1 locs1 → W p l e R s m args below meth c H1 locs1 cells slots Q (F0 m (pc + 3) ls (.int x :: rest))) : W p l e R s m args below meth c H locs cells slots Q (F0 m pc ls st0) :=
  wk_V hx hb hml hown hts hE (ci := 1) (by decide) rfl rfl q591 q88 q588 q590 q43 (by decide +kernel) hM hW hS hK hk hst hsize hrest hR hdg hf kk
theorem gf_X3_33 (hx : p.tables.exec = Jvm.exec) (hb : c.code = cc) (hts : ∀ w ∈ lw_all, w.before args s = true) (hown : s.vm.findClass RX3 = some m.cls) (hE : En D cy s) (hW : Wd Y cy D z n V G H) (hK : Y.1 a = 3) (hdg : decode cc pc = .ok (.getfield 33, 3)) (kk : W p l e R s m args below meth c H locs cells slots Q (F0 m (pc + 3) ls (.int (V a 5) :: rest))) : W p l e R s m args below meth c H locs cells slots Q (F0 m pc ls (.ref a :: rest)) :=
  wk_get hx hb hts hown hE hW (C := RX3) (T := TX3) (N := 6) (ci := 3) (k := 5) rfl inX3 (by decide) q259 rfl (by decide) rfl hK hdg kk
theorem gf_X3_30 (hx : p.tables.exec = Jvm.exec) (hb : c.code = cc) (hts : ∀ w ∈ lw_all, w.before args s = true) (hown : s.vm.findClass RX3 = some m.cls) (hE : En D cy s) (hW : Wd Y cy D z n V G H) (hK : Y.1 a = 3) {q : Nat} (hG : G a 4 = some q) (hdg : decode cc pc = .ok (.getfield 30, 3)) (kk : W p l e R s m args below meth c H locs cells slots Q (F0 m (pc + 3) ls (.ref q :: rest))) : W p l e R s m args below meth c H locs cells slots Q (F0 m pc ls (.ref a :: rest)) :=
  wk_get hx hb hts hown hE hW (C := RX3) (T := TX3) (N := 6) (ci := 3) (k := 4) rfl inX3 (by decide) q258 rfl (by decide) (by show some (va_rf (G a 4)) = _; rw [hG]; rfl) hK hdg kk
theorem iv_X3_238 (hx : p.tables.exec = Jvm.exec) (hb : c.code = cc) {nL : Nat} (hml : c.maxLocals = nL) (hown : s.vm.findClass RX3 = some m.cls) (hts : ∀ w ∈ lw_all, w.before args s = true) (hE : En D cy s) {d : Nat} {As : List Value} {b : Nat} {Y1 : mY} {n1 : Nat} {V1 : mV} {G1 : mG} (hM : CT l yX3_rotateHistory cX3_rotateHistory 3 none (rmd d) D cy z (.ref b :: As) Y n V G none Y1 n1 V1 G1) (hW : Wd Y cy D z n V G H) (hS : va_S (zA z) H0 H locs) (hK : Y.1 b = 3) (hk : As.length = 0) (hst : st0 = As.reverse ++ .ref b :: rest) (hsize : ls.size = nL) (hrest : (rest.map fun v => v.category).sum ≤ 8) (hR : (rmd d).frames + 1 ≤ R.frames ∧ 8 + (3 + 11) + (rmd d).locals ≤ R.locals) (hdg : decode cc pc = .ok (.invokevirtual 238, 3)) (hf : cells ≤ R.cells ∧ slots ≤ R.slots) (kk : ∀ (H1 : Heap) (locs1 : List Loc), Wd Y1 cy D z n1 V1 G1 H1 → va_S (zA z) H0 H1 locs1 → W p l e R s m args below meth c H1 locs1 cells slots Q (F0 m (pc + 3) ls rest)) : W p l e R s m args below meth c H locs cells slots Q (F0 m pc ls st0) :=
  wk_V hx hb hml hown hts hE (ci := 3) (by decide) rfl rfl q317 q85 q314 q316 q7 (by decide +kernel) hM hW hS hK hk hst hsize hrest hR hdg hf kk
theorem gf_X3_10 (hx : p.tables.exec = Jvm.exec) (hb : c.code = cc) (hts : ∀ w ∈ lw_all, w.before args s = true) (hown : s.vm.findClass RX3 = some m.cls) (hE : En D cy s) (hW : Wd Y cy D z n V G H) (hK : Y.1 a = 3) {q : Nat} (hG : G a 0 = some q) (hdg : decode cc pc = .ok (.getfield 10, 3)) (kk : W p l e R s m args below meth c H locs cells slots Q (F0 m (pc + 3) ls (.ref q :: rest))) : W p l e R s m args below meth c H locs cells slots Q (F0 m pc ls (.ref a :: rest)) :=
  wk_get hx hb hts hown hE hW (C := RX3) (T := TX3) (N := 6) (ci := 3) (k := 0) rfl inX3 (by decide) q254 rfl (by decide) (by show some (va_rf (G a 0)) = _; rw [hG]; rfl) hK hdg kk
theorem iv_X3_37 (hx : p.tables.exec = Jvm.exec) (hb : c.code = cc) {nL : Nat} (hml : c.maxLocals = nL) (hown : s.vm.findClass RX3 = some m.cls) (hts : ∀ w ∈ lw_all, w.before args s = true) (hE : En D cy s) {d : Nat} {As : List Value} {b : Nat} {Y1 : mY} {n1 : Nat} {V1 : mV} {G1 : mG} (hM : CT l yX2_copyFrom cX2_copyFrom 3 none (rmd d) D cy z (.ref b :: As) Y n V G none Y1 n1 V1 G1) (hW : Wd Y cy D z n V G H) (hS : va_S (zA z) H0 H locs) (hK : Y.1 b = 2) (hk : As.length = 1) (hst : st0 = As.reverse ++ .ref b :: rest) (hsize : ls.size = nL) (hrest : (rest.map fun v => v.category).sum ≤ 8) (hR : (rmd d).frames + 1 ≤ R.frames ∧ 8 + (3 + 11) + (rmd d).locals ≤ R.locals) (hdg : decode cc pc = .ok (.invokevirtual 37, 3)) (hf : cells ≤ R.cells ∧ slots ≤ R.slots) (kk : ∀ (H1 : Heap) (locs1 : List Loc), Wd Y1 cy D z n1 V1 G1 H1 → va_S (zA z) H0 H1 locs1 → W p l e R s m args below meth c H1 locs1 cells slots Q (F0 m (pc + 3) ls rest)) : W p l e R s m args below meth c H locs cells slots Q (F0 m pc ls st0) :=
  wk_VN hx hb hml hown hts hE (ci := 2) (by decide) rfl rfl q280 q86 nq277 q279 q0 (by decide +kernel) hM hW hS hK hk hst hsize hrest hR hdg hf kk
theorem iv_X3_41 (hx : p.tables.exec = Jvm.exec) (hb : c.code = cc) {nL : Nat} (hml : c.maxLocals = nL) (hown : s.vm.findClass RX3 = some m.cls) (hts : ∀ w ∈ lw_all, w.before args s = true) (hE : En D cy s) {d : Nat} {x : Int32} {As : List Value} {b : Nat} {Y1 : mY} {n1 : Nat} {V1 : mV} {G1 : mG} (hM : CT l yX2_addCondition cX2_addCondition 5 (some .int) (rmd d) D cy z (.ref b :: As) Y n V G (some (.int x)) Y1 n1 V1 G1) (hW : Wd Y cy D z n V G H) (hS : va_S (zA z) H0 H locs) (hK : Y.1 b = 2) (hk : As.length = 4) (hst : st0 = As.reverse ++ .ref b :: rest) (hsize : ls.size = nL) (hrest : (rest.map fun v => v.category).sum ≤ 8) (hR : (rmd d).frames + 1 ≤ R.frames ∧ 8 + (5 + 11) + (rmd d).locals ≤ R.locals) (hdg : decode cc pc = .ok (.invokevirtual 41, 3)) (hf : cells ≤ R.cells ∧ slots ≤ R.slots) (kk : ∀ (H1 : Heap) (locs1 : List Loc), Wd Y1 cy D z n1 V1 G1 H1 → va_S (zA z) H0 H1 locs1 → W p l e R s m args below meth c H1 locs1 cells slots Q (F0 m (pc + 3) ls (.int x :: rest))) : W p l e R s m args below meth c H locs cells slots Q (F0 m pc ls st0) :=
  wk_VN hx hb hml hown hts hE (ci := 2) (by decide) rfl rfl q288 q86 nq285 q287 q2 (by decide +kernel) hM hW hS hK hk hst hsize hrest hR hdg hf kk
theorem iv_X3_45 (hx : p.tables.exec = Jvm.exec) (hb : c.code = cc) {nL : Nat} (hml : c.maxLocals = nL) (hown : s.vm.findClass RX3 = some m.cls) (hts : ∀ w ∈ lw_all, w.before args s = true) (hE : En D cy s) {d : Nat} {x : Int32} {As : List Value} {b : Nat} {Y1 : mY} {n1 : Nat} {V1 : mV} {G1 : mG} (hM : CT l yX3_recorded cX3_recorded 3 (some .int) (rmd d) D cy z (.ref b :: As) Y n V G (some (.int x)) Y1 n1 V1 G1) (hW : Wd Y cy D z n V G H) (hS : va_S (zA z) H0 H locs) (hK : Y.1 b = 3) (hk : As.length = 1) (hst : st0 = As.reverse ++ .ref b :: rest) (hsize : ls.size = nL) (hrest : (rest.map fun v => v.category).sum ≤ 8) (hR : (rmd d).frames + 1 ≤ R.frames ∧ 8 + (3 + 11) + (rmd d).locals ≤ R.locals) (hdg : decode cc pc = .ok (.invokevirtual 45, 3)) (hf : cells ≤ R.cells ∧ slots ≤ R.slots) (kk : ∀ (H1 : Heap) (locs1 : List Loc), Wd Y1 cy D z n1 V1 G1 H1 → va_S (zA z) H0 H1 locs1 → W p l e R s m args below meth c H1 locs1 cells slots Q (F0 m (pc + 3) ls (.int x :: rest))) : W p l e R s m args below meth c H locs cells slots Q (F0 m pc ls st0) :=
  wk_V hx hb hml hown hts hE (ci := 3) (by decide) rfl rfl q313 q85 q310 q312 q6 (by decide +kernel) hM hW hS hK hk hst hsize hrest hR hdg hf kk
theorem iv_X3_49 (hx : p.tables.exec = Jvm.exec) (hb : c.code = cc) {nL : Nat} (hml : c.maxLocals = nL) (hown : s.vm.findClass RX3 = some m.cls) (hts : ∀ w ∈ lw_all, w.before args s = true) (hE : En D cy s) {d : Nat} {x : Int32} {As : List Value} {b : Nat} {Y1 : mY} {n1 : Nat} {V1 : mV} {G1 : mG} (hM : CT l yX2_beginStage cX2_beginStage 4 (some .int) (rmd d) D cy z (.ref b :: As) Y n V G (some (.int x)) Y1 n1 V1 G1) (hW : Wd Y cy D z n V G H) (hS : va_S (zA z) H0 H locs) (hK : Y.1 b = 2) (hk : As.length = 1) (hst : st0 = As.reverse ++ .ref b :: rest) (hsize : ls.size = nL) (hrest : (rest.map fun v => v.category).sum ≤ 8) (hR : (rmd d).frames + 1 ≤ R.frames ∧ 8 + (4 + 11) + (rmd d).locals ≤ R.locals) (hdg : decode cc pc = .ok (.invokevirtual 49, 3)) (hf : cells ≤ R.cells ∧ slots ≤ R.slots) (kk : ∀ (H1 : Heap) (locs1 : List Loc), Wd Y1 cy D z n1 V1 G1 H1 → va_S (zA z) H0 H1 locs1 → W p l e R s m args below meth c H1 locs1 cells slots Q (F0 m (pc + 3) ls (.int x :: rest))) : W p l e R s m args below meth c H locs cells slots Q (F0 m pc ls st0) :=
  wk_VN hx hb hml hown hts hE (ci := 2) (by decide) rfl rfl q325 q86 nq322 q324 q8 (by decide +kernel) hM hW hS hK hk hst hsize hrest hR hdg hf kk
theorem iv_X3_52 (hx : p.tables.exec = Jvm.exec) (hb : c.code = cc) {nL : Nat} (hml : c.maxLocals = nL) (hown : s.vm.findClass RX3 = some m.cls) (hts : ∀ w ∈ lw_all, w.before args s = true) (hE : En D cy s) {d : Nat} {x : Int32} {As : List Value} {b : Nat} {Y1 : mY} {n1 : Nat} {V1 : mV} {G1 : mG} (hM : CT l yX2_finishStage cX2_finishStage 2 (some .int) (rmd d) D cy z (.ref b :: As) Y n V G (some (.int x)) Y1 n1 V1 G1) (hW : Wd Y cy D z n V G H) (hS : va_S (zA z) H0 H locs) (hK : Y.1 b = 2) (hk : As.length = 1) (hst : st0 = As.reverse ++ .ref b :: rest) (hsize : ls.size = nL) (hrest : (rest.map fun v => v.category).sum ≤ 8) (hR : (rmd d).frames + 1 ≤ R.frames ∧ 8 + (2 + 11) + (rmd d).locals ≤ R.locals) (hdg : decode cc pc = .ok (.invokevirtual 52, 3)) (hf : cells ≤ R.cells ∧ slots ≤ R.slots) (kk : ∀ (H1 : Heap) (locs1 : List Loc), Wd Y1 cy D z n1 V1 G1 H1 → va_S (zA z) H0 H1 locs1 → W p l e R s m args below meth c H1 locs1 cells slots Q (F0 m (pc + 3) ls (.int x :: rest))) : W p l e R s m args below meth c H locs cells slots Q (F0 m pc ls st0) :=
  wk_VN hx hb hml hown hts hE (ci := 2) (by decide) rfl rfl q349 q86 nq346 q348 q13 (by decide +kernel) hM hW hS hK hk hst hsize hrest hR hdg hf kk
theorem iv_X3_55 (hx : p.tables.exec = Jvm.exec) (hb : c.code = cc) {nL : Nat} (hml : c.maxLocals = nL) (hown : s.vm.findClass RX3 = some m.cls) (hts : ∀ w ∈ lw_all, w.before args s = true) (hE : En D cy s) {d : Nat} {x : Int32} {As : List Value} {b : Nat} {Y1 : mY} {n1 : Nat} {V1 : mV} {G1 : mG} (hM : CT l yX2_applyFor cX2_applyFor 4 (some .int) (rmd d) D cy z (.ref b :: As) Y n V G (some (.int x)) Y1 n1 V1 G1) (hW : Wd Y cy D z n V G H) (hS : va_S (zA z) H0 H locs) (hK : Y.1 b = 2) (hk : As.length = 2) (hst : st0 = As.reverse ++ .ref b :: rest) (hsize : ls.size = nL) (hrest : (rest.map fun v => v.category).sum ≤ 8) (hR : (rmd d).frames + 1 ≤ R.frames ∧ 8 + (4 + 11) + (rmd d).locals ≤ R.locals) (hdg : decode cc pc = .ok (.invokevirtual 55, 3)) (hf : cells ≤ R.cells ∧ slots ≤ R.slots) (kk : ∀ (H1 : Heap) (locs1 : List Loc), Wd Y1 cy D z n1 V1 G1 H1 → va_S (zA z) H0 H1 locs1 → W p l e R s m args below meth c H1 locs1 cells slots Q (F0 m (pc + 3) ls (.int x :: rest))) : W p l e R s m args below meth c H locs cells slots Q (F0 m pc ls st0) :=
  wk_VN hx hb hml hown hts hE (ci := 2) (by decide) rfl rfl q361 q86 nq358 q360 q15 (by decide +kernel) hM hW hS hK hk hst hsize hrest hR hdg hf kk
theorem iv_X3_59 (hx : p.tables.exec = Jvm.exec) (hb : c.code = cc) {nL : Nat} (hml : c.maxLocals = nL) (hown : s.vm.findClass RX3 = some m.cls) (hts : ∀ w ∈ lw_all, w.before args s = true) (hE : En D cy s) {d : Nat} {x : Int32} {As : List Value} {b : Nat} {Y1 : mY} {n1 : Nat} {V1 : mV} {G1 : mG} (hM : CT l yX2_decideOn cX2_decideOn 4 (some .int) (rmd d) D cy z (.ref b :: As) Y n V G (some (.int x)) Y1 n1 V1 G1) (hW : Wd Y cy D z n V G H) (hS : va_S (zA z) H0 H locs) (hK : Y.1 b = 2) (hk : As.length = 2) (hst : st0 = As.reverse ++ .ref b :: rest) (hsize : ls.size = nL) (hrest : (rest.map fun v => v.category).sum ≤ 8) (hR : (rmd d).frames + 1 ≤ R.frames ∧ 8 + (4 + 11) + (rmd d).locals ≤ R.locals) (hdg : decode cc pc = .ok (.invokevirtual 59, 3)) (hf : cells ≤ R.cells ∧ slots ≤ R.slots) (kk : ∀ (H1 : Heap) (locs1 : List Loc), Wd Y1 cy D z n1 V1 G1 H1 → va_S (zA z) H0 H1 locs1 → W p l e R s m args below meth c H1 locs1 cells slots Q (F0 m (pc + 3) ls (.int x :: rest))) : W p l e R s m args below meth c H locs cells slots Q (F0 m pc ls st0) :=
  wk_VN hx hb hml hown hts hE (ci := 2) (by decide) rfl rfl q377 q86 nq374 q376 q18 (by decide +kernel) hM hW hS hK hk hst hsize hrest hR hdg hf kk
theorem iv_X3_62 (hx : p.tables.exec = Jvm.exec) (hb : c.code = cc) {nL : Nat} (hml : c.maxLocals = nL) (hown : s.vm.findClass RX3 = some m.cls) (hts : ∀ w ∈ lw_all, w.before args s = true) (hE : En D cy s) {d : Nat} {x : Int32} {As : List Value} {b : Nat} {Y1 : mY} {n1 : Nat} {V1 : mV} {G1 : mG} (hM : CT l yX2_lapseOf cX2_lapseOf 3 (some .int) (rmd d) D cy z (.ref b :: As) Y n V G (some (.int x)) Y1 n1 V1 G1) (hW : Wd Y cy D z n V G H) (hS : va_S (zA z) H0 H locs) (hK : Y.1 b = 2) (hk : As.length = 1) (hst : st0 = As.reverse ++ .ref b :: rest) (hsize : ls.size = nL) (hrest : (rest.map fun v => v.category).sum ≤ 8) (hR : (rmd d).frames + 1 ≤ R.frames ∧ 8 + (3 + 11) + (rmd d).locals ≤ R.locals) (hdg : decode cc pc = .ok (.invokevirtual 62, 3)) (hf : cells ≤ R.cells ∧ slots ≤ R.slots) (kk : ∀ (H1 : Heap) (locs1 : List Loc), Wd Y1 cy D z n1 V1 G1 H1 → va_S (zA z) H0 H1 locs1 → W p l e R s m args below meth c H1 locs1 cells slots Q (F0 m (pc + 3) ls (.int x :: rest))) : W p l e R s m args below meth c H locs cells slots Q (F0 m pc ls st0) :=
  wk_VN hx hb hml hown hts hE (ci := 2) (by decide) rfl rfl q396 q86 nq393 q395 q20 (by decide +kernel) hM hW hS hK hk hst hsize hrest hR hdg hf kk
theorem iv_X3_65 (hx : p.tables.exec = Jvm.exec) (hb : c.code = cc) {nL : Nat} (hml : c.maxLocals = nL) (hown : s.vm.findClass RX3 = some m.cls) (hts : ∀ w ∈ lw_all, w.before args s = true) (hE : En D cy s) {d : Nat} {x : Int32} {As : List Value} {b : Nat} {Y1 : mY} {n1 : Nat} {V1 : mV} {G1 : mG} (hM : CT l yX2_cureOf cX2_cureOf 4 (some .int) (rmd d) D cy z (.ref b :: As) Y n V G (some (.int x)) Y1 n1 V1 G1) (hW : Wd Y cy D z n V G H) (hS : va_S (zA z) H0 H locs) (hK : Y.1 b = 2) (hk : As.length = 1) (hst : st0 = As.reverse ++ .ref b :: rest) (hsize : ls.size = nL) (hrest : (rest.map fun v => v.category).sum ≤ 8) (hR : (rmd d).frames + 1 ≤ R.frames ∧ 8 + (4 + 11) + (rmd d).locals ≤ R.locals) (hdg : decode cc pc = .ok (.invokevirtual 65, 3)) (hf : cells ≤ R.cells ∧ slots ≤ R.slots) (kk : ∀ (H1 : Heap) (locs1 : List Loc), Wd Y1 cy D z n1 V1 G1 H1 → va_S (zA z) H0 H1 locs1 → W p l e R s m args below meth c H1 locs1 cells slots Q (F0 m (pc + 3) ls (.int x :: rest))) : W p l e R s m args below meth c H locs cells slots Q (F0 m pc ls st0) :=
  wk_VN hx hb hml hown hts hE (ci := 2) (by decide) rfl rfl q408 q86 nq405 q407 q22 (by decide +kernel) hM hW hS hK hk hst hsize hrest hR hdg hf kk
theorem iv_X3_68 (hx : p.tables.exec = Jvm.exec) (hb : c.code = cc) {nL : Nat} (hml : c.maxLocals = nL) (hown : s.vm.findClass RX3 = some m.cls) (hts : ∀ w ∈ lw_all, w.before args s = true) (hE : En D cy s) {d : Nat} {x : Int32} {As : List Value} {b : Nat} {Y1 : mY} {n1 : Nat} {V1 : mV} {G1 : mG} (hM : CT l yX2_serveOn cX2_serveOn 4 (some .int) (rmd d) D cy z (.ref b :: As) Y n V G (some (.int x)) Y1 n1 V1 G1) (hW : Wd Y cy D z n V G H) (hS : va_S (zA z) H0 H locs) (hK : Y.1 b = 2) (hk : As.length = 2) (hst : st0 = As.reverse ++ .ref b :: rest) (hsize : ls.size = nL) (hrest : (rest.map fun v => v.category).sum ≤ 8) (hR : (rmd d).frames + 1 ≤ R.frames ∧ 8 + (4 + 11) + (rmd d).locals ≤ R.locals) (hdg : decode cc pc = .ok (.invokevirtual 68, 3)) (hf : cells ≤ R.cells ∧ slots ≤ R.slots) (kk : ∀ (H1 : Heap) (locs1 : List Loc), Wd Y1 cy D z n1 V1 G1 H1 → va_S (zA z) H0 H1 locs1 → W p l e R s m args below meth c H1 locs1 cells slots Q (F0 m (pc + 3) ls (.int x :: rest))) : W p l e R s m args below meth c H locs cells slots Q (F0 m pc ls st0) :=
  wk_VN hx hb hml hown hts hE (ci := 2) (by decide) rfl rfl q417 q86 nq414 q416 q23 (by decide +kernel) hM hW hS hK hk hst hsize hrest hR hdg hf kk
theorem iv_X3_71 (hx : p.tables.exec = Jvm.exec) (hb : c.code = cc) {nL : Nat} (hml : c.maxLocals = nL) (hown : s.vm.findClass RX3 = some m.cls) (hts : ∀ w ∈ lw_all, w.before args s = true) (hE : En D cy s) {d : Nat} {x : Int32} {As : List Value} {b : Nat} {Y1 : mY} {n1 : Nat} {V1 : mV} {G1 : mG} (hM : CT l yX2_varyTo cX2_varyTo 6 (some .int) (rmd d) D cy z (.ref b :: As) Y n V G (some (.int x)) Y1 n1 V1 G1) (hW : Wd Y cy D z n V G H) (hS : va_S (zA z) H0 H locs) (hK : Y.1 b = 2) (hk : As.length = 3) (hst : st0 = As.reverse ++ .ref b :: rest) (hsize : ls.size = nL) (hrest : (rest.map fun v => v.category).sum ≤ 8) (hR : (rmd d).frames + 1 ≤ R.frames ∧ 8 + (6 + 11) + (rmd d).locals ≤ R.locals) (hdg : decode cc pc = .ok (.invokevirtual 71, 3)) (hf : cells ≤ R.cells ∧ slots ≤ R.slots) (kk : ∀ (H1 : Heap) (locs1 : List Loc), Wd Y1 cy D z n1 V1 G1 H1 → va_S (zA z) H0 H1 locs1 → W p l e R s m args below meth c H1 locs1 cells slots Q (F0 m (pc + 3) ls (.int x :: rest))) : W p l e R s m args below meth c H locs cells slots Q (F0 m pc ls st0) :=
  wk_VN hx hb hml hown hts hE (ci := 2) (by decide) rfl rfl q425 q86 nq422 q424 q24 (by decide +kernel) hM hW hS hK hk hst hsize hrest hR hdg hf kk
theorem iv_X3_75 (hx : p.tables.exec = Jvm.exec) (hb : c.code = cc) {nL : Nat} (hml : c.maxLocals = nL) (hown : s.vm.findClass RX3 = some m.cls) (hts : ∀ w ∈ lw_all, w.before args s = true) (hE : En D cy s) {d : Nat} {x : Int32} {As : List Value} {b : Nat} {Y1 : mY} {n1 : Nat} {V1 : mV} {G1 : mG} (hM : CT l yX2_passDays cX2_passDays 4 (some .int) (rmd d) D cy z (.ref b :: As) Y n V G (some (.int x)) Y1 n1 V1 G1) (hW : Wd Y cy D z n V G H) (hS : va_S (zA z) H0 H locs) (hK : Y.1 b = 2) (hk : As.length = 1) (hst : st0 = As.reverse ++ .ref b :: rest) (hsize : ls.size = nL) (hrest : (rest.map fun v => v.category).sum ≤ 8) (hR : (rmd d).frames + 1 ≤ R.frames ∧ 8 + (4 + 11) + (rmd d).locals ≤ R.locals) (hdg : decode cc pc = .ok (.invokevirtual 75, 3)) (hf : cells ≤ R.cells ∧ slots ≤ R.slots) (kk : ∀ (H1 : Heap) (locs1 : List Loc), Wd Y1 cy D z n1 V1 G1 H1 → va_S (zA z) H0 H1 locs1 → W p l e R s m args below meth c H1 locs1 cells slots Q (F0 m (pc + 3) ls (.int x :: rest))) : W p l e R s m args below meth c H locs cells slots Q (F0 m pc ls st0) :=
  wk_VN hx hb hml hown hts hE (ci := 2) (by decide) rfl rfl q440 q86 nq437 q439 q26 (by decide +kernel) hM hW hS hK hk hst hsize hrest hR hdg hf kk
theorem iv_X3_78 (hx : p.tables.exec = Jvm.exec) (hb : c.code = cc) {nL : Nat} (hml : c.maxLocals = nL) (hown : s.vm.findClass RX3 = some m.cls) (hts : ∀ w ∈ lw_all, w.before args s = true) (hE : En D cy s) {d : Nat} {x : Int32} {As : List Value} {b : Nat} {Y1 : mY} {n1 : Nat} {V1 : mV} {G1 : mG} (hM : CT l yX2_putSetting cX2_putSetting 4 (some .int) (rmd d) D cy z (.ref b :: As) Y n V G (some (.int x)) Y1 n1 V1 G1) (hW : Wd Y cy D z n V G H) (hS : va_S (zA z) H0 H locs) (hK : Y.1 b = 2) (hk : As.length = 2) (hst : st0 = As.reverse ++ .ref b :: rest) (hsize : ls.size = nL) (hrest : (rest.map fun v => v.category).sum ≤ 8) (hR : (rmd d).frames + 1 ≤ R.frames ∧ 8 + (4 + 11) + (rmd d).locals ≤ R.locals) (hdg : decode cc pc = .ok (.invokevirtual 78, 3)) (hf : cells ≤ R.cells ∧ slots ≤ R.slots) (kk : ∀ (H1 : Heap) (locs1 : List Loc), Wd Y1 cy D z n1 V1 G1 H1 → va_S (zA z) H0 H1 locs1 → W p l e R s m args below meth c H1 locs1 cells slots Q (F0 m (pc + 3) ls (.int x :: rest))) : W p l e R s m args below meth c H locs cells slots Q (F0 m pc ls st0) :=
  wk_VN hx hb hml hown hts hE (ci := 2) (by decide) rfl rfl q460 q86 nq457 q459 q30 (by decide +kernel) hM hW hS hK hk hst hsize hrest hR hdg hf kk
theorem iv_X3_81 (hx : p.tables.exec = Jvm.exec) (hb : c.code = cc) {nL : Nat} (hml : c.maxLocals = nL) (hown : s.vm.findClass RX3 = some m.cls) (hts : ∀ w ∈ lw_all, w.before args s = true) (hE : En D cy s) {d : Nat} {x : Int32} {As : List Value} {b : Nat} {Y1 : mY} {n1 : Nat} {V1 : mV} {G1 : mG} (hM : CT l yX2_hasCondition cX2_hasCondition 2 (some .boolean) (rmd d) D cy z (.ref b :: As) Y n V G (some (.int x)) Y1 n1 V1 G1) (hW : Wd Y cy D z n V G H) (hS : va_S (zA z) H0 H locs) (hK : Y.1 b = 2) (hk : As.length = 1) (hst : st0 = As.reverse ++ .ref b :: rest) (hsize : ls.size = nL) (hrest : (rest.map fun v => v.category).sum ≤ 8) (hR : (rmd d).frames + 1 ≤ R.frames ∧ 8 + (2 + 11) + (rmd d).locals ≤ R.locals) (hdg : decode cc pc = .ok (.invokevirtual 81, 3)) (hf : cells ≤ R.cells ∧ slots ≤ R.slots) (kk : ∀ (H1 : Heap) (locs1 : List Loc), Wd Y1 cy D z n1 V1 G1 H1 → va_S (zA z) H0 H1 locs1 → W p l e R s m args below meth c H1 locs1 cells slots Q (F0 m (pc + 3) ls (.int x :: rest))) : W p l e R s m args below meth c H locs cells slots Q (F0 m pc ls st0) :=
  wk_VN hx hb hml hown hts hE (ci := 2) (by decide) rfl rfl q365 q86 nq465 q364 q16 (by decide +kernel) hM hW hS hK hk hst hsize hrest hR hdg hf kk
theorem gf_X3_86 (hx : p.tables.exec = Jvm.exec) (hb : c.code = cc) (hts : ∀ w ∈ lw_all, w.before args s = true) (hown : s.vm.findClass RX3 = some m.cls) (hE : En D cy s) (hW : Wd Y cy D z n V G H) (hK : Y.1 a = 2) {q : Nat} (hG : G a 0 = some q) (hdg : decode cc pc = .ok (.getfield 86, 3)) (kk : W p l e R s m args below meth c H locs cells slots Q (F0 m (pc + 3) ls (.ref q :: rest))) : W p l e R s m args below meth c H locs cells slots Q (F0 m pc ls (.ref a :: rest)) :=
  wk_getN hx hb hts hown hE hW (C := RX2) (T := TX2) (N := 9) (ci := 2) (k := 0) rfl inX2 (by decide) nq184 rfl (by decide) (by show some (va_rf (G a 0)) = _; rw [hG]; rfl) hK hdg kk
theorem gf_X3_90 (hx : p.tables.exec = Jvm.exec) (hb : c.code = cc) (hts : ∀ w ∈ lw_all, w.before args s = true) (hown : s.vm.findClass RX3 = some m.cls) (hE : En D cy s) (hW : Wd Y cy D z n V G H) (hK : Y.1 a = 0) (hdg : decode cc pc = .ok (.getfield 90, 3)) (kk : W p l e R s m args below meth c H locs cells slots Q (F0 m (pc + 3) ls (.int (V a 0) :: rest))) : W p l e R s m args below meth c H locs cells slots Q (F0 m pc ls (.ref a :: rest)) :=
  wk_getN hx hb hts hown hE hW (C := RX0) (T := TX0) (N := 14) (ci := 0) (k := 0) rfl inX0 (by decide) nq115 rfl (by decide) rfl hK hdg kk
theorem gf_X3_95 (hx : p.tables.exec = Jvm.exec) (hb : c.code = cc) (hts : ∀ w ∈ lw_all, w.before args s = true) (hown : s.vm.findClass RX3 = some m.cls) (hE : En D cy s) (hW : Wd Y cy D z n V G H) (hK : Y.1 a = 0) (hdg : decode cc pc = .ok (.getfield 95, 3)) (kk : W p l e R s m args below meth c H locs cells slots Q (F0 m (pc + 3) ls (.int (V a 1) :: rest))) : W p l e R s m args below meth c H locs cells slots Q (F0 m pc ls (.ref a :: rest)) :=
  wk_getN hx hb hts hown hE hW (C := RX0) (T := TX0) (N := 14) (ci := 0) (k := 1) rfl inX0 (by decide) nq118 rfl (by decide) rfl hK hdg kk
theorem gf_X3_98 (hx : p.tables.exec = Jvm.exec) (hb : c.code = cc) (hts : ∀ w ∈ lw_all, w.before args s = true) (hown : s.vm.findClass RX3 = some m.cls) (hE : En D cy s) (hW : Wd Y cy D z n V G H) (hK : Y.1 a = 0) (hdg : decode cc pc = .ok (.getfield 98, 3)) (kk : W p l e R s m args below meth c H locs cells slots Q (F0 m (pc + 3) ls (.int (V a 2) :: rest))) : W p l e R s m args below meth c H locs cells slots Q (F0 m pc ls (.ref a :: rest)) :=
  wk_getN hx hb hts hown hE hW (C := RX0) (T := TX0) (N := 14) (ci := 0) (k := 2) rfl inX0 (by decide) nq120 rfl (by decide) rfl hK hdg kk
theorem gf_X3_101 (hx : p.tables.exec = Jvm.exec) (hb : c.code = cc) (hts : ∀ w ∈ lw_all, w.before args s = true) (hown : s.vm.findClass RX3 = some m.cls) (hE : En D cy s) (hW : Wd Y cy D z n V G H) (hK : Y.1 a = 0) (hdg : decode cc pc = .ok (.getfield 101, 3)) (kk : W p l e R s m args below meth c H locs cells slots Q (F0 m (pc + 3) ls (.int (V a 3) :: rest))) : W p l e R s m args below meth c H locs cells slots Q (F0 m pc ls (.ref a :: rest)) :=
  wk_getN hx hb hts hown hE hW (C := RX0) (T := TX0) (N := 14) (ci := 0) (k := 3) rfl inX0 (by decide) nq124 rfl (by decide) rfl hK hdg kk
theorem iv_X3_104 (hx : p.tables.exec = Jvm.exec) (hb : c.code = cc) {nL : Nat} (hml : c.maxLocals = nL) (hown : s.vm.findClass RX3 = some m.cls) (hts : ∀ w ∈ lw_all, w.before args s = true) (hE : En D cy s) {d : Nat} {x : Int32} {As : List Value} {b : Nat} {Y1 : mY} {n1 : Nat} {V1 : mV} {G1 : mG} (hM : CT l yX2_stateOf cX2_stateOf 2 (some .int) (rmd d) D cy z (.ref b :: As) Y n V G (some (.int x)) Y1 n1 V1 G1) (hW : Wd Y cy D z n V G H) (hS : va_S (zA z) H0 H locs) (hK : Y.1 b = 2) (hk : As.length = 1) (hst : st0 = As.reverse ++ .ref b :: rest) (hsize : ls.size = nL) (hrest : (rest.map fun v => v.category).sum ≤ 8) (hR : (rmd d).frames + 1 ≤ R.frames ∧ 8 + (2 + 11) + (rmd d).locals ≤ R.locals) (hdg : decode cc pc = .ok (.invokevirtual 104, 3)) (hf : cells ≤ R.cells ∧ slots ≤ R.slots) (kk : ∀ (H1 : Heap) (locs1 : List Loc), Wd Y1 cy D z n1 V1 G1 H1 → va_S (zA z) H0 H1 locs1 → W p l e R s m args below meth c H1 locs1 cells slots Q (F0 m (pc + 3) ls (.int x :: rest))) : W p l e R s m args below meth c H locs cells slots Q (F0 m pc ls st0) :=
  wk_VN hx hb hml hown hts hE (ci := 2) (by decide) rfl rfl q400 q86 nq467 q399 q21 (by decide +kernel) hM hW hS hK hk hst hsize hrest hR hdg hf kk
theorem gf_X3_108 (hx : p.tables.exec = Jvm.exec) (hb : c.code = cc) (hts : ∀ w ∈ lw_all, w.before args s = true) (hown : s.vm.findClass RX3 = some m.cls) (hE : En D cy s) (hW : Wd Y cy D z n V G H) (hK : Y.1 a = 0) (hdg : decode cc pc = .ok (.getfield 108, 3)) (kk : W p l e R s m args below meth c H locs cells slots Q (F0 m (pc + 3) ls (.int (V a 4) :: rest))) : W p l e R s m args below meth c H locs cells slots Q (F0 m pc ls (.ref a :: rest)) :=
  wk_getN hx hb hts hown hE hW (C := RX0) (T := TX0) (N := 14) (ci := 0) (k := 4) rfl inX0 (by decide) nq127 rfl (by decide) rfl hK hdg kk
theorem gf_X3_111 (hx : p.tables.exec = Jvm.exec) (hb : c.code = cc) (hts : ∀ w ∈ lw_all, w.before args s = true) (hown : s.vm.findClass RX3 = some m.cls) (hE : En D cy s) (hW : Wd Y cy D z n V G H) (hK : Y.1 a = 0) (hdg : decode cc pc = .ok (.getfield 111, 3)) (kk : W p l e R s m args below meth c H locs cells slots Q (F0 m (pc + 3) ls (.int (V a 5) :: rest))) : W p l e R s m args below meth c H locs cells slots Q (F0 m pc ls (.ref a :: rest)) :=
  wk_getN hx hb hts hown hE hW (C := RX0) (T := TX0) (N := 14) (ci := 0) (k := 5) rfl inX0 (by decide) nq129 rfl (by decide) rfl hK hdg kk
theorem gf_X3_114 (hx : p.tables.exec = Jvm.exec) (hb : c.code = cc) (hts : ∀ w ∈ lw_all, w.before args s = true) (hown : s.vm.findClass RX3 = some m.cls) (hE : En D cy s) (hW : Wd Y cy D z n V G H) (hK : Y.1 a = 0) (hdg : decode cc pc = .ok (.getfield 114, 3)) (kk : W p l e R s m args below meth c H locs cells slots Q (F0 m (pc + 3) ls (.int (V a 6) :: rest))) : W p l e R s m args below meth c H locs cells slots Q (F0 m pc ls (.ref a :: rest)) :=
  wk_getN hx hb hts hown hE hW (C := RX0) (T := TX0) (N := 14) (ci := 0) (k := 6) rfl inX0 (by decide) nq132 rfl (by decide) rfl hK hdg kk
theorem gf_X3_118 (hx : p.tables.exec = Jvm.exec) (hb : c.code = cc) (hts : ∀ w ∈ lw_all, w.before args s = true) (hown : s.vm.findClass RX3 = some m.cls) (hE : En D cy s) (hW : Wd Y cy D z n V G H) (hK : Y.1 a = 0) (hdg : decode cc pc = .ok (.getfield 118, 3)) (kk : W p l e R s m args below meth c H locs cells slots Q (F0 m (pc + 3) ls (.int (V a 7) :: rest))) : W p l e R s m args below meth c H locs cells slots Q (F0 m pc ls (.ref a :: rest)) :=
  wk_getN hx hb hts hown hE hW (C := RX0) (T := TX0) (N := 14) (ci := 0) (k := 7) rfl inX0 (by decide) nq135 rfl (by decide) rfl hK hdg kk
theorem gf_X3_121 (hx : p.tables.exec = Jvm.exec) (hb : c.code = cc) (hts : ∀ w ∈ lw_all, w.before args s = true) (hown : s.vm.findClass RX3 = some m.cls) (hE : En D cy s) (hW : Wd Y cy D z n V G H) (hK : Y.1 a = 0) (hdg : decode cc pc = .ok (.getfield 121, 3)) (kk : W p l e R s m args below meth c H locs cells slots Q (F0 m (pc + 3) ls (.int (V a 8) :: rest))) : W p l e R s m args below meth c H locs cells slots Q (F0 m pc ls (.ref a :: rest)) :=
  wk_getN hx hb hts hown hE hW (C := RX0) (T := TX0) (N := 14) (ci := 0) (k := 8) rfl inX0 (by decide) nq139 rfl (by decide) rfl hK hdg kk
theorem gf_X3_125 (hx : p.tables.exec = Jvm.exec) (hb : c.code = cc) (hts : ∀ w ∈ lw_all, w.before args s = true) (hown : s.vm.findClass RX3 = some m.cls) (hE : En D cy s) (hW : Wd Y cy D z n V G H) (hK : Y.1 a = 0) (hdg : decode cc pc = .ok (.getfield 125, 3)) (kk : W p l e R s m args below meth c H locs cells slots Q (F0 m (pc + 3) ls (.int (V a 10) :: rest))) : W p l e R s m args below meth c H locs cells slots Q (F0 m pc ls (.ref a :: rest)) :=
  wk_getN hx hb hts hown hE hW (C := RX0) (T := TX0) (N := 14) (ci := 0) (k := 10) rfl inX0 (by decide) nq143 rfl (by decide) rfl hK hdg kk
theorem gf_X3_128 (hx : p.tables.exec = Jvm.exec) (hb : c.code = cc) (hts : ∀ w ∈ lw_all, w.before args s = true) (hown : s.vm.findClass RX3 = some m.cls) (hE : En D cy s) (hW : Wd Y cy D z n V G H) (hK : Y.1 a = 0) (hdg : decode cc pc = .ok (.getfield 128, 3)) (kk : W p l e R s m args below meth c H locs cells slots Q (F0 m (pc + 3) ls (.int (V a 11) :: rest))) : W p l e R s m args below meth c H locs cells slots Q (F0 m pc ls (.ref a :: rest)) :=
  wk_getN hx hb hts hown hE hW (C := RX0) (T := TX0) (N := 14) (ci := 0) (k := 11) rfl inX0 (by decide) nq146 rfl (by decide) rfl hK hdg kk
theorem gf_X3_131 (hx : p.tables.exec = Jvm.exec) (hb : c.code = cc) (hts : ∀ w ∈ lw_all, w.before args s = true) (hown : s.vm.findClass RX3 = some m.cls) (hE : En D cy s) (hW : Wd Y cy D z n V G H) (hK : Y.1 a = 0) (hdg : decode cc pc = .ok (.getfield 131, 3)) (kk : W p l e R s m args below meth c H locs cells slots Q (F0 m (pc + 3) ls (.int (V a 12) :: rest))) : W p l e R s m args below meth c H locs cells slots Q (F0 m pc ls (.ref a :: rest)) :=
  wk_getN hx hb hts hown hE hW (C := RX0) (T := TX0) (N := 14) (ci := 0) (k := 12) rfl inX0 (by decide) nq149 rfl (by decide) rfl hK hdg kk
theorem gf_X3_134 (hx : p.tables.exec = Jvm.exec) (hb : c.code = cc) (hts : ∀ w ∈ lw_all, w.before args s = true) (hown : s.vm.findClass RX3 = some m.cls) (hE : En D cy s) (hW : Wd Y cy D z n V G H) (hK : Y.1 a = 0) (hdg : decode cc pc = .ok (.getfield 134, 3)) (kk : W p l e R s m args below meth c H locs cells slots Q (F0 m (pc + 3) ls (.int (V a 13) :: rest))) : W p l e R s m args below meth c H locs cells slots Q (F0 m pc ls (.ref a :: rest)) :=
  wk_getN hx hb hts hown hE hW (C := RX0) (T := TX0) (N := 14) (ci := 0) (k := 13) rfl inX0 (by decide) nq152 rfl (by decide) rfl hK hdg kk
theorem iv_X3_137 (hx : p.tables.exec = Jvm.exec) (hb : c.code = cc) {nL : Nat} (hml : c.maxLocals = nL) (hown : s.vm.findClass RX3 = some m.cls) (hts : ∀ w ∈ lw_all, w.before args s = true) (hE : En D cy s) {d : Nat} {x : Int32} {As : List Value} {b : Nat} {Y1 : mY} {n1 : Nat} {V1 : mV} {G1 : mG} (hM : CT l yX3_isWithin cX3_isWithin 3 (some .boolean) (rmd d) D cy z As Y n V G (some (.int x)) Y1 n1 V1 G1) (hW : Wd Y cy D z n V G H) (hS : va_S (zA z) H0 H locs) (hk : As.length = 3) (hst : st0 = As.reverse ++ rest) (hsize : ls.size = nL) (hrest : (rest.map fun v => v.category).sum ≤ 8) (hR : (rmd d).frames + 1 ≤ R.frames ∧ 8 + (3 + 11) + (rmd d).locals ≤ R.locals) (hdg : decode cc pc = .ok (.invokestatic 137, 3)) (hf : cells ≤ R.cells ∧ slots ≤ R.slots) (kk : ∀ (H1 : Heap) (locs1 : List Loc), Wd Y1 cy D z n1 V1 G1 H1 → va_S (zA z) H0 H1 locs1 → W p l e R s m args below meth c H1 locs1 cells slots Q (F0 m (pc + 3) ls (.int x :: rest))) : W p l e R s m args below meth c H locs cells slots Q (F0 m pc ls st0) :=
  wk_S hx hb hml hown hts hE q291 q85 q473 q290 (by decide +kernel) hM hW hS hk hst hsize hrest hR hdg hf kk
theorem iv_X3_141 (hx : p.tables.exec = Jvm.exec) (hb : c.code = cc) {nL : Nat} (hml : c.maxLocals = nL) (hown : s.vm.findClass RX3 = some m.cls) (hts : ∀ w ∈ lw_all, w.before args s = true) (hE : En D cy s) {d : Nat} {x : Int32} {As : List Value} {b : Nat} {Y1 : mY} {n1 : Nat} {V1 : mV} {G1 : mG} (hM : CT l yX2_progressOf cX2_progressOf 2 (some .int) (rmd d) D cy z (.ref b :: As) Y n V G (some (.int x)) Y1 n1 V1 G1) (hW : Wd Y cy D z n V G H) (hS : va_S (zA z) H0 H locs) (hK : Y.1 b = 2) (hk : As.length = 1) (hst : st0 = As.reverse ++ .ref b :: rest) (hsize : ls.size = nL) (hrest : (rest.map fun v => v.category).sum ≤ 8) (hR : (rmd d).frames + 1 ≤ R.frames ∧ 8 + (2 + 11) + (rmd d).locals ≤ R.locals) (hdg : decode cc pc = .ok (.invokevirtual 141, 3)) (hf : cells ≤ R.cells ∧ slots ≤ R.slots) (kk : ∀ (H1 : Heap) (locs1 : List Loc), Wd Y1 cy D z n1 V1 G1 H1 → va_S (zA z) H0 H1 locs1 → W p l e R s m args below meth c H1 locs1 cells slots Q (F0 m (pc + 3) ls (.int x :: rest))) : W p l e R s m args below meth c H locs cells slots Q (F0 m pc ls st0) :=
  wk_VN hx hb hml hown hts hE (ci := 2) (by decide) rfl rfl q477 q86 nq474 q476 q31 (by decide +kernel) hM hW hS hK hk hst hsize hrest hR hdg hf kk
theorem iv_X3_144 (hx : p.tables.exec = Jvm.exec) (hb : c.code = cc) {nL : Nat} (hml : c.maxLocals = nL) (hown : s.vm.findClass RX3 = some m.cls) (hts : ∀ w ∈ lw_all, w.before args s = true) (hE : En D cy s) {d : Nat} {x : Int32} {As : List Value} {b : Nat} {Y1 : mY} {n1 : Nat} {V1 : mV} {G1 : mG} (hM : CT l yX2_isBegun cX2_isBegun 2 (some .boolean) (rmd d) D cy z (.ref b :: As) Y n V G (some (.int x)) Y1 n1 V1 G1) (hW : Wd Y cy D z n V G H) (hS : va_S (zA z) H0 H locs) (hK : Y.1 b = 2) (hk : As.length = 1) (hst : st0 = As.reverse ++ .ref b :: rest) (hsize : ls.size = nL) (hrest : (rest.map fun v => v.category).sum ≤ 8) (hR : (rmd d).frames + 1 ≤ R.frames ∧ 8 + (2 + 11) + (rmd d).locals ≤ R.locals) (hdg : decode cc pc = .ok (.invokevirtual 144, 3)) (hf : cells ≤ R.cells ∧ slots ≤ R.slots) (kk : ∀ (H1 : Heap) (locs1 : List Loc), Wd Y1 cy D z n1 V1 G1 H1 → va_S (zA z) H0 H1 locs1 → W p l e R s m args below meth c H1 locs1 cells slots Q (F0 m (pc + 3) ls (.int x :: rest))) : W p l e R s m args below meth c H locs cells slots Q (F0 m pc ls st0) :=
  wk_VN hx hb hml hown hts hE (ci := 2) (by decide) rfl rfl q299 q86 nq478 q298 q3 (by decide +kernel) hM hW hS hK hk hst hsize hrest hR hdg hf kk
theorem gf_X3_147 (hx : p.tables.exec = Jvm.exec) (hb : c.code = cc) (hts : ∀ w ∈ lw_all, w.before args s = true) (hown : s.vm.findClass RX3 = some m.cls) (hE : En D cy s) (hW : Wd Y cy D z n V G H) (hK : Y.1 a = 2) {q : Nat} (hG : G a 1 = some q) (hdg : decode cc pc = .ok (.getfield 147, 3)) (kk : W p l e R s m args below meth c H locs cells slots Q (F0 m (pc + 3) ls (.ref q :: rest))) : W p l e R s m args below meth c H locs cells slots Q (F0 m pc ls (.ref a :: rest)) :=
  wk_getN hx hb hts hown hE hW (C := RX2) (T := TX2) (N := 9) (ci := 2) (k := 1) rfl inX2 (by decide) nq186 rfl (by decide) (by show some (va_rf (G a 1)) = _; rw [hG]; rfl) hK hdg kk
theorem iv_X3_151 (hx : p.tables.exec = Jvm.exec) (hb : c.code = cc) {nL : Nat} (hml : c.maxLocals = nL) (hown : s.vm.findClass RX3 = some m.cls) (hts : ∀ w ∈ lw_all, w.before args s = true) (hE : En D cy s) {d : Nat} {x : Int32} {As : List Value} {b : Nat} {Y1 : mY} {n1 : Nat} {V1 : mV} {G1 : mG} (hM : CT l yX2_isFinished cX2_isFinished 2 (some .boolean) (rmd d) D cy z (.ref b :: As) Y n V G (some (.int x)) Y1 n1 V1 G1) (hW : Wd Y cy D z n V G H) (hS : va_S (zA z) H0 H locs) (hK : Y.1 b = 2) (hk : As.length = 1) (hst : st0 = As.reverse ++ .ref b :: rest) (hsize : ls.size = nL) (hrest : (rest.map fun v => v.category).sum ≤ 8) (hR : (rmd d).frames + 1 ≤ R.frames ∧ 8 + (2 + 11) + (rmd d).locals ≤ R.locals) (hdg : decode cc pc = .ok (.invokevirtual 151, 3)) (hf : cells ≤ R.cells ∧ slots ≤ R.slots) (kk : ∀ (H1 : Heap) (locs1 : List Loc), Wd Y1 cy D z n1 V1 G1 H1 → va_S (zA z) H0 H1 locs1 → W p l e R s m args below meth c H1 locs1 cells slots Q (F0 m (pc + 3) ls (.int x :: rest))) : W p l e R s m args below meth c H locs cells slots Q (F0 m pc ls st0) :=
  wk_VN hx hb hml hown hts hE (ci := 2) (by decide) rfl rfl q353 q86 nq479 q352 q14 (by decide +kernel) hM hW hS hK hk hst hsize hrest hR hdg hf kk
theorem gf_X3_154 (hx : p.tables.exec = Jvm.exec) (hb : c.code = cc) (hts : ∀ w ∈ lw_all, w.before args s = true) (hown : s.vm.findClass RX3 = some m.cls) (hE : En D cy s) (hW : Wd Y cy D z n V G H) (hK : Y.1 a = 2) {q : Nat} (hG : G a 2 = some q) (hdg : decode cc pc = .ok (.getfield 154, 3)) (kk : W p l e R s m args below meth c H locs cells slots Q (F0 m (pc + 3) ls (.ref q :: rest))) : W p l e R s m args below meth c H locs cells slots Q (F0 m pc ls (.ref a :: rest)) :=
  wk_getN hx hb hts hown hE hW (C := RX2) (T := TX2) (N := 9) (ci := 2) (k := 2) rfl inX2 (by decide) nq188 rfl (by decide) (by show some (va_rf (G a 2)) = _; rw [hG]; rfl) hK hdg kk
theorem iv_X3_157 (hx : p.tables.exec = Jvm.exec) (hb : c.code = cc) {nL : Nat} (hml : c.maxLocals = nL) (hown : s.vm.findClass RX3 = some m.cls) (hts : ∀ w ∈ lw_all, w.before args s = true) (hE : En D cy s) {d : Nat} {x : Int32} {As : List Value} {b : Nat} {Y1 : mY} {n1 : Nat} {V1 : mV} {G1 : mG} (hM : CT l yX2_unmetAhead cX2_unmetAhead 5 (some .int) (rmd d) D cy z (.ref b :: As) Y n V G (some (.int x)) Y1 n1 V1 G1) (hW : Wd Y cy D z n V G H) (hS : va_S (zA z) H0 H locs) (hK : Y.1 b = 2) (hk : As.length = 1) (hst : st0 = As.reverse ++ .ref b :: rest) (hsize : ls.size = nL) (hrest : (rest.map fun v => v.category).sum ≤ 8) (hR : (rmd d).frames + 1 ≤ R.frames ∧ 8 + (5 + 11) + (rmd d).locals ≤ R.locals) (hdg : decode cc pc = .ok (.invokevirtual 157, 3)) (hf : cells ≤ R.cells ∧ slots ≤ R.slots) (kk : ∀ (H1 : Heap) (locs1 : List Loc), Wd Y1 cy D z n1 V1 G1 H1 → va_S (zA z) H0 H1 locs1 → W p l e R s m args below meth c H1 locs1 cells slots Q (F0 m (pc + 3) ls (.int x :: rest))) : W p l e R s m args below meth c H locs cells slots Q (F0 m pc ls st0) :=
  wk_VN hx hb hml hown hts hE (ci := 2) (by decide) rfl rfl q333 q86 nq480 q332 q10 (by decide +kernel) hM hW hS hK hk hst hsize hrest hR hdg hf kk
theorem iv_X3_160 (hx : p.tables.exec = Jvm.exec) (hb : c.code = cc) {nL : Nat} (hml : c.maxLocals = nL) (hown : s.vm.findClass RX3 = some m.cls) (hts : ∀ w ∈ lw_all, w.before args s = true) (hE : En D cy s) {d : Nat} {x : Int32} {As : List Value} {b : Nat} {Y1 : mY} {n1 : Nat} {V1 : mV} {G1 : mG} (hM : CT l yX2_withState cX2_withState 4 (some .int) (rmd d) D cy z (.ref b :: As) Y n V G (some (.int x)) Y1 n1 V1 G1) (hW : Wd Y cy D z n V G H) (hS : va_S (zA z) H0 H locs) (hK : Y.1 b = 2) (hk : As.length = 1) (hst : st0 = As.reverse ++ .ref b :: rest) (hsize : ls.size = nL) (hrest : (rest.map fun v => v.category).sum ≤ 8) (hR : (rmd d).frames + 1 ≤ R.frames ∧ 8 + (4 + 11) + (rmd d).locals ≤ R.locals) (hdg : decode cc pc = .ok (.invokevirtual 160, 3)) (hf : cells ≤ R.cells ∧ slots ≤ R.slots) (kk : ∀ (H1 : Heap) (locs1 : List Loc), Wd Y1 cy D z n1 V1 G1 H1 → va_S (zA z) H0 H1 locs1 → W p l e R s m args below meth c H1 locs1 cells slots Q (F0 m (pc + 3) ls (.int x :: rest))) : W p l e R s m args below meth c H locs cells slots Q (F0 m pc ls st0) :=
  wk_VN hx hb hml hown hts hE (ci := 2) (by decide) rfl rfl q488 q86 nq485 q487 q32 (by decide +kernel) hM hW hS hK hk hst hsize hrest hR hdg hf kk
theorem gf_X3_16 (hx : p.tables.exec = Jvm.exec) (hb : c.code = cc) (hts : ∀ w ∈ lw_all, w.before args s = true) (hown : s.vm.findClass RX3 = some m.cls) (hE : En D cy s) (hW : Wd Y cy D z n V G H) (hK : Y.1 a = 3) {q : Nat} (hG : G a 1 = some q) (hdg : decode cc pc = .ok (.getfield 16, 3)) (kk : W p l e R s m args below meth c H locs cells slots Q (F0 m (pc + 3) ls (.ref q :: rest))) : W p l e R s m args below meth c H locs cells slots Q (F0 m pc ls (.ref a :: rest)) :=
  wk_get hx hb hts hown hE hW (C := RX3) (T := TX3) (N := 6) (ci := 3) (k := 1) rfl inX3 (by decide) q255 rfl (by decide) (by show some (va_rf (G a 1)) = _; rw [hG]; rfl) hK hdg kk
theorem iv_X3_163 (hx : p.tables.exec = Jvm.exec) (hb : c.code = cc) {nL : Nat} (hml : c.maxLocals = nL) (hown : s.vm.findClass RX3 = some m.cls) (hts : ∀ w ∈ lw_all, w.before args s = true) (hE : En D cy s) {d : Nat} {x : Int32} {As : List Value} {b : Nat} {Y1 : mY} {n1 : Nat} {V1 : mV} {G1 : mG} (hM : CT l yX2_daysUntil cX2_daysUntil 5 (some .int) (rmd d) D cy z (.ref b :: As) Y n V G (some (.int x)) Y1 n1 V1 G1) (hW : Wd Y cy D z n V G H) (hS : va_S (zA z) H0 H locs) (hK : Y.1 b = 2) (hk : As.length = 2) (hst : st0 = As.reverse ++ .ref b :: rest) (hsize : ls.size = nL) (hrest : (rest.map fun v => v.category).sum ≤ 8) (hR : (rmd d).frames + 1 ≤ R.frames ∧ 8 + (5 + 11) + (rmd d).locals ≤ R.locals) (hdg : decode cc pc = .ok (.invokevirtual 163, 3)) (hf : cells ≤ R.cells ∧ slots ≤ R.slots) (kk : ∀ (H1 : Heap) (locs1 : List Loc), Wd Y1 cy D z n1 V1 G1 H1 → va_S (zA z) H0 H1 locs1 → W p l e R s m args below meth c H1 locs1 cells slots Q (F0 m (pc + 3) ls (.int x :: rest))) : W p l e R s m args below meth c H locs cells slots Q (F0 m pc ls st0) :=
  wk_VN hx hb hml hown hts hE (ci := 2) (by decide) rfl rfl q496 q86 nq493 q495 q33 (by decide +kernel) hM hW hS hK hk hst hsize hrest hR hdg hf kk
theorem iv_X3_166 (hx : p.tables.exec = Jvm.exec) (hb : c.code = cc) {nL : Nat} (hml : c.maxLocals = nL) (hown : s.vm.findClass RX3 = some m.cls) (hts : ∀ w ∈ lw_all, w.before args s = true) (hE : En D cy s) {d : Nat} {x : Int32} {As : List Value} {b : Nat} {Y1 : mY} {n1 : Nat} {V1 : mV} {G1 : mG} (hM : CT l yX2_canBegin cX2_canBegin 2 (some .boolean) (rmd d) D cy z (.ref b :: As) Y n V G (some (.int x)) Y1 n1 V1 G1) (hW : Wd Y cy D z n V G H) (hS : va_S (zA z) H0 H locs) (hK : Y.1 b = 2) (hk : As.length = 1) (hst : st0 = As.reverse ++ .ref b :: rest) (hsize : ls.size = nL) (hrest : (rest.map fun v => v.category).sum ≤ 8) (hR : (rmd d).frames + 1 ≤ R.frames ∧ 8 + (2 + 11) + (rmd d).locals ≤ R.locals) (hdg : decode cc pc = .ok (.invokevirtual 166, 3)) (hf : cells ≤ R.cells ∧ slots ≤ R.slots) (kk : ∀ (H1 : Heap) (locs1 : List Loc), Wd Y1 cy D z n1 V1 G1 H1 → va_S (zA z) H0 H1 locs1 → W p l e R s m args below meth c H1 locs1 cells slots Q (F0 m (pc + 3) ls (.int x :: rest))) : W p l e R s m args below meth c H locs cells slots Q (F0 m pc ls st0) :=
  wk_VN hx hb hml hown hts hE (ci := 2) (by decide) rfl rfl q329 q86 nq502 q328 q9 (by decide +kernel) hM hW hS hK hk hst hsize hrest hR hdg hf kk
theorem iv_X3_170 (hx : p.tables.exec = Jvm.exec) (hb : c.code = cc) {nL : Nat} (hml : c.maxLocals = nL) (hown : s.vm.findClass RX3 = some m.cls) (hts : ∀ w ∈ lw_all, w.before args s = true) (hE : En D cy s) {d : Nat} {x : Int32} {As : List Value} {b : Nat} {Y1 : mY} {n1 : Nat} {V1 : mV} {G1 : mG} (hM : CT l yX2_daysUntilLawful cX2_daysUntilLawful 6 (some .int) (rmd d) D cy z (.ref b :: As) Y n V G (some (.int x)) Y1 n1 V1 G1) (hW : Wd Y cy D z n V G H) (hS : va_S (zA z) H0 H locs) (hK : Y.1 b = 2) (hk : As.length = 1) (hst : st0 = As.reverse ++ .ref b :: rest) (hsize : ls.size = nL) (hrest : (rest.map fun v => v.category).sum ≤ 8) (hR : (rmd d).frames + 1 ≤ R.frames ∧ 8 + (6 + 11) + (rmd d).locals ≤ R.locals) (hdg : decode cc pc = .ok (.invokevirtual 170, 3)) (hf : cells ≤ R.cells ∧ slots ≤ R.slots) (kk : ∀ (H1 : Heap) (locs1 : List Loc), Wd Y1 cy D z n1 V1 G1 H1 → va_S (zA z) H0 H1 locs1 → W p l e R s m args below meth c H1 locs1 cells slots Q (F0 m (pc + 3) ls (.int x :: rest))) : W p l e R s m args below meth c H locs cells slots Q (F0 m pc ls st0) :=
  wk_VN hx hb hml hown hts hE (ci := 2) (by decide) rfl rfl q507 q86 nq504 q506 q34 (by decide +kernel) hM hW hS hK hk hst hsize hrest hR hdg hf kk
theorem gf_X3_181 (hx : p.tables.exec = Jvm.exec) (hb : c.code = cc) (hts : ∀ w ∈ lw_all, w.before args s = true) (hown : s.vm.findClass RX3 = some m.cls) (hE : En D cy s) (hW : Wd Y cy D z n V G H) (hK : Y.1 a = 2) (hdg : decode cc pc = .ok (.getfield 181, 3)) (kk : W p l e R s m args below meth c H locs cells slots Q (F0 m (pc + 3) ls (.int (V a 3) :: rest))) : W p l e R s m args below meth c H locs cells slots Q (F0 m pc ls (.ref a :: rest)) :=
  wk_getN hx hb hts hown hE hW (C := RX2) (T := TX2) (N := 9) (ci := 2) (k := 3) rfl inX2 (by decide) nq190 rfl (by decide) rfl hK hdg kk
theorem iv_X3_184 (hx : p.tables.exec = Jvm.exec) (hb : c.code = cc) {nL : Nat} (hml : c.maxLocals = nL) (hown : s.vm.findClass RX3 = some m.cls) (hts : ∀ w ∈ lw_all, w.before args s = true) (hE : En D cy s) {d : Nat} {x : Int32} {As : List Value} {b : Nat} {Y1 : mY} {n1 : Nat} {V1 : mV} {G1 : mG} (hM : CT l yJ6_bitCount_0f7a4 cJ6_bitCount_0f7a4 1 (some .int) (rmd d) D cy z As Y n V G (some (.int x)) Y1 n1 V1 G1) (hW : Wd Y cy D z n V G H) (hS : va_S (zA z) H0 H locs) (hk : As.length = 1) (hst : st0 = As.reverse ++ rest) (hsize : ls.size = nL) (hrest : (rest.map fun v => v.category).sum ≤ 8) (hR : (rmd d).frames + 1 ≤ R.frames ∧ 8 + (1 + 11) + (rmd d).locals ≤ R.locals) (hdg : decode cc pc = .ok (.invokestatic 184, 3)) (hf : cells ≤ R.cells ∧ slots ≤ R.slots) (kk : ∀ (H1 : Heap) (locs1 : List Loc), Wd Y1 cy D z n1 V1 G1 H1 → va_S (zA z) H0 H1 locs1 → W p l e R s m args below meth c H1 locs1 cells slots Q (F0 m (pc + 3) ls (.int x :: rest))) : W p l e R s m args below meth c H locs cells slots Q (F0 m pc ls st0) :=
  wk_S hx hb hml hown hts hE q385 q90 q524 q384 (by decide +kernel) hM hW hS hk hst hsize hrest hR hdg hf kk
theorem iv_X3_189 (hx : p.tables.exec = Jvm.exec) (hb : c.code = cc) {nL : Nat} (hml : c.maxLocals = nL) (hown : s.vm.findClass RX3 = some m.cls) (hts : ∀ w ∈ lw_all, w.before args s = true) (hE : En D cy s) {d : Nat} {x : Int32} {As : List Value} {b : Nat} {Y1 : mY} {n1 : Nat} {V1 : mV} {G1 : mG} (hM : CT l yX3_bitsOf cX3_bitsOf 3 (some .int) (rmd d) D cy z As Y n V G (some (.int x)) Y1 n1 V1 G1) (hW : Wd Y cy D z n V G H) (hS : va_S (zA z) H0 H locs) (hk : As.length = 1) (hst : st0 = As.reverse ++ rest) (hsize : ls.size = nL) (hrest : (rest.map fun v => v.category).sum ≤ 8) (hR : (rmd d).frames + 1 ≤ R.frames ∧ 8 + (3 + 11) + (rmd d).locals ≤ R.locals) (hdg : decode cc pc = .ok (.invokestatic 189, 3)) (hf : cells ≤ R.cells ∧ slots ≤ R.slots) (kk : ∀ (H1 : Heap) (locs1 : List Loc), Wd Y1 cy D z n1 V1 G1 H1 → va_S (zA z) H0 H1 locs1 → W p l e R s m args below meth c H1 locs1 cells slots Q (F0 m (pc + 3) ls (.int x :: rest))) : W p l e R s m args below meth c H locs cells slots Q (F0 m pc ls st0) :=
  wk_S hx hb hml hown hts hE q527 q85 q525 q526 (by decide +kernel) hM hW hS hk hst hsize hrest hR hdg hf kk
theorem gf_X3_193 (hx : p.tables.exec = Jvm.exec) (hb : c.code = cc) (hts : ∀ w ∈ lw_all, w.before args s = true) (hown : s.vm.findClass RX3 = some m.cls) (hE : En D cy s) (hW : Wd Y cy D z n V G H) (hK : Y.1 a = 2) (hdg : decode cc pc = .ok (.getfield 193, 3)) (kk : W p l e R s m args below meth c H locs cells slots Q (F0 m (pc + 3) ls (.int (V a 4) :: rest))) : W p l e R s m args below meth c H locs cells slots Q (F0 m pc ls (.ref a :: rest)) :=
  wk_getN hx hb hts hown hE hW (C := RX2) (T := TX2) (N := 9) (ci := 2) (k := 4) rfl inX2 (by decide) nq192 rfl (by decide) rfl hK hdg kk
theorem iv_X3_196 (hx : p.tables.exec = Jvm.exec) (hb : c.code = cc) {nL : Nat} (hml : c.maxLocals = nL) (hown : s.vm.findClass RX3 = some m.cls) (hts : ∀ w ∈ lw_all, w.before args s = true) (hE : En D cy s) {d : Nat} {x : Int32} {As : List Value} {b : Nat} {Y1 : mY} {n1 : Nat} {V1 : mV} {G1 : mG} (hM : CT l yX2_partsOfAll cX2_partsOfAll 3 (some .int) (rmd d) D cy z (.ref b :: As) Y n V G (some (.int x)) Y1 n1 V1 G1) (hW : Wd Y cy D z n V G H) (hS : va_S (zA z) H0 H locs) (hK : Y.1 b = 2) (hk : As.length = 0) (hst : st0 = As.reverse ++ .ref b :: rest) (hsize : ls.size = nL) (hrest : (rest.map fun v => v.category).sum ≤ 8) (hR : (rmd d).frames + 1 ≤ R.frames ∧ 8 + (3 + 11) + (rmd d).locals ≤ R.locals) (hdg : decode cc pc = .ok (.invokevirtual 196, 3)) (hf : cells ≤ R.cells ∧ slots ≤ R.slots) (kk : ∀ (H1 : Heap) (locs1 : List Loc), Wd Y1 cy D z n1 V1 G1 H1 → va_S (zA z) H0 H1 locs1 → W p l e R s m args below meth c H1 locs1 cells slots Q (F0 m (pc + 3) ls (.int x :: rest))) : W p l e R s m args below meth c H locs cells slots Q (F0 m pc ls st0) :=
  wk_VN hx hb hml hown hts hE (ci := 2) (by decide) rfl rfl q536 q86 nq533 q535 q35 (by decide +kernel) hM hW hS hK hk hst hsize hrest hR hdg hf kk
theorem iv_X3_200 (hx : p.tables.exec = Jvm.exec) (hb : c.code = cc) {nL : Nat} (hml : c.maxLocals = nL) (hown : s.vm.findClass RX3 = some m.cls) (hts : ∀ w ∈ lw_all, w.before args s = true) (hE : En D cy s) {d : Nat} {x : Int32} {As : List Value} {b : Nat} {Y1 : mY} {n1 : Nat} {V1 : mV} {G1 : mG} (hM : CT l yX2_approvedOfAll cX2_approvedOfAll 3 (some .int) (rmd d) D cy z (.ref b :: As) Y n V G (some (.int x)) Y1 n1 V1 G1) (hW : Wd Y cy D z n V G H) (hS : va_S (zA z) H0 H locs) (hK : Y.1 b = 2) (hk : As.length = 0) (hst : st0 = As.reverse ++ .ref b :: rest) (hsize : ls.size = nL) (hrest : (rest.map fun v => v.category).sum ≤ 8) (hR : (rmd d).frames + 1 ≤ R.frames ∧ 8 + (3 + 11) + (rmd d).locals ≤ R.locals) (hdg : decode cc pc = .ok (.invokevirtual 200, 3)) (hf : cells ≤ R.cells ∧ slots ≤ R.slots) (kk : ∀ (H1 : Heap) (locs1 : List Loc), Wd Y1 cy D z n1 V1 G1 H1 → va_S (zA z) H0 H1 locs1 → W p l e R s m args below meth c H1 locs1 cells slots Q (F0 m (pc + 3) ls (.int x :: rest))) : W p l e R s m args below meth c H locs cells slots Q (F0 m pc ls st0) :=
  wk_VN hx hb hml hown hts hE (ci := 2) (by decide) rfl rfl q540 q86 nq537 q539 q36 (by decide +kernel) hM hW hS hK hk hst hsize hrest hR hdg hf kk
theorem gf_X3_203 (hx : p.tables.exec = Jvm.exec) (hb : c.code = cc) (hts : ∀ w ∈ lw_all, w.before args s = true) (hown : s.vm.findClass RX3 = some m.cls) (hE : En D cy s) (hW : Wd Y cy D z n V G H) (hK : Y.1 a = 2) (hdg : decode cc pc = .ok (.getfield 203, 3)) (kk : W p l e R s m args below meth c H locs cells slots Q (F0 m (pc + 3) ls (.int (V a 5) :: rest))) : W p l e R s m args below meth c H locs cells slots Q (F0 m pc ls (.ref a :: rest)) :=
  wk_getN hx hb hts hown hE hW (C := RX2) (T := TX2) (N := 9) (ci := 2) (k := 5) rfl inX2 (by decide) nq194 rfl (by decide) rfl hK hdg kk
theorem gf_X3_206 (hx : p.tables.exec = Jvm.exec) (hb : c.code = cc) (hts : ∀ w ∈ lw_all, w.before args s = true) (hown : s.vm.findClass RX3 = some m.cls) (hE : En D cy s) (hW : Wd Y cy D z n V G H) (hK : Y.1 a = 2) (hdg : decode cc pc = .ok (.getfield 206, 3)) (kk : W p l e R s m args below meth c H locs cells slots Q (F0 m (pc + 3) ls (.int (V a 6) :: rest))) : W p l e R s m args below meth c H locs cells slots Q (F0 m pc ls (.ref a :: rest)) :=
  wk_getN hx hb hts hown hE hW (C := RX2) (T := TX2) (N := 9) (ci := 2) (k := 6) rfl inX2 (by decide) nq196 rfl (by decide) rfl hK hdg kk
theorem gf_X3_26 (hx : p.tables.exec = Jvm.exec) (hb : c.code = cc) (hts : ∀ w ∈ lw_all, w.before args s = true) (hown : s.vm.findClass RX3 = some m.cls) (hE : En D cy s) (hW : Wd Y cy D z n V G H) (hK : Y.1 a = 3) {q : Nat} (hG : G a 3 = some q) (hdg : decode cc pc = .ok (.getfield 26, 3)) (kk : W p l e R s m args below meth c H locs cells slots Q (F0 m (pc + 3) ls (.ref q :: rest))) : W p l e R s m args below meth c H locs cells slots Q (F0 m pc ls (.ref a :: rest)) :=
  wk_get hx hb hts hown hE hW (C := RX3) (T := TX3) (N := 6) (ci := 3) (k := 3) rfl inX3 (by decide) q257 rfl (by decide) (by show some (va_rf (G a 3)) = _; rw [hG]; rfl) hK hdg kk
theorem gf_X3_209 (hx : p.tables.exec = Jvm.exec) (hb : c.code = cc) (hts : ∀ w ∈ lw_all, w.before args s = true) (hown : s.vm.findClass RX3 = some m.cls) (hE : En D cy s) (hW : Wd Y cy D z n V G H) (hK : Y.1 a = 1) (hdg : decode cc pc = .ok (.getfield 209, 3)) (kk : W p l e R s m args below meth c H locs cells slots Q (F0 m (pc + 3) ls (.int (V a 2) :: rest))) : W p l e R s m args below meth c H locs cells slots Q (F0 m pc ls (.ref a :: rest)) :=
  wk_getN hx hb hts hown hE hW (C := RX1) (T := TX1) (N := 7) (ci := 1) (k := 2) rfl inX1 (by decide) nq230 rfl (by decide) rfl hK hdg kk
theorem gf_X3_212 (hx : p.tables.exec = Jvm.exec) (hb : c.code = cc) (hts : ∀ w ∈ lw_all, w.before args s = true) (hown : s.vm.findClass RX3 = some m.cls) (hE : En D cy s) (hW : Wd Y cy D z n V G H) (hK : Y.1 a = 2) (hdg : decode cc pc = .ok (.getfield 212, 3)) (kk : W p l e R s m args below meth c H locs cells slots Q (F0 m (pc + 3) ls (.int (V a 7) :: rest))) : W p l e R s m args below meth c H locs cells slots Q (F0 m pc ls (.ref a :: rest)) :=
  wk_getN hx hb hts hown hE hW (C := RX2) (T := TX2) (N := 9) (ci := 2) (k := 7) rfl inX2 (by decide) nq198 rfl (by decide) rfl hK hdg kk
theorem gf_X3_215 (hx : p.tables.exec = Jvm.exec) (hb : c.code = cc) (hts : ∀ w ∈ lw_all, w.before args s = true) (hown : s.vm.findClass RX3 = some m.cls) (hE : En D cy s) (hW : Wd Y cy D z n V G H) (hK : Y.1 a = 2) (hdg : decode cc pc = .ok (.getfield 215, 3)) (kk : W p l e R s m args below meth c H locs cells slots Q (F0 m (pc + 3) ls (.int (V a 8) :: rest))) : W p l e R s m args below meth c H locs cells slots Q (F0 m pc ls (.ref a :: rest)) :=
  wk_getN hx hb hts hown hE hW (C := RX2) (T := TX2) (N := 9) (ci := 2) (k := 8) rfl inX2 (by decide) nq200 rfl (by decide) rfl hK hdg kk
theorem iv_X3_218 (hx : p.tables.exec = Jvm.exec) (hb : c.code = cc) {nL : Nat} (hml : c.maxLocals = nL) (hown : s.vm.findClass RX3 = some m.cls) (hts : ∀ w ∈ lw_all, w.before args s = true) (hE : En D cy s) {d : Nat} {x : Int32} {As : List Value} {b : Nat} {Y1 : mY} {n1 : Nat} {V1 : mV} {G1 : mG} (hM : CT l yX1_append cX1_append 2 (some .int) (rmd d) D cy z (.ref b :: As) Y n V G (some (.int x)) Y1 n1 V1 G1) (hW : Wd Y cy D z n V G H) (hS : va_S (zA z) H0 H locs) (hK : Y.1 b = 1) (hk : As.length = 1) (hst : st0 = As.reverse ++ .ref b :: rest) (hsize : ls.size = nL) (hrest : (rest.map fun v => v.category).sum ≤ 8) (hR : (rmd d).frames + 1 ≤ R.frames ∧ 8 + (2 + 11) + (rmd d).locals ≤ R.locals) (hdg : decode cc pc = .ok (.invokevirtual 218, 3)) (hf : cells ≤ R.cells ∧ slots ≤ R.slots) (kk : ∀ (H1 : Heap) (locs1 : List Loc), Wd Y1 cy D z n1 V1 G1 H1 → va_S (zA z) H0 H1 locs1 → W p l e R s m args below meth c H1 locs1 cells slots Q (F0 m (pc + 3) ls (.int x :: rest))) : W p l e R s m args below meth c H locs cells slots Q (F0 m pc ls st0) :=
  wk_VN hx hb hml hown hts hE (ci := 1) (by decide) rfl rfl q552 q88 nq549 q551 q37 (by decide +kernel) hM hW hS hK hk hst hsize hrest hR hdg hf kk
theorem iv_X3_222 (hx : p.tables.exec = Jvm.exec) (hb : c.code = cc) {nL : Nat} (hml : c.maxLocals = nL) (hown : s.vm.findClass RX3 = some m.cls) (hts : ∀ w ∈ lw_all, w.before args s = true) (hE : En D cy s) {d : Nat} {x : Int32} {As : List Value} {b : Nat} {Y1 : mY} {n1 : Nat} {V1 : mV} {G1 : mG} (hM : CT l yX1_empty cX1_empty 2 (some .int) (rmd d) D cy z (.ref b :: As) Y n V G (some (.int x)) Y1 n1 V1 G1) (hW : Wd Y cy D z n V G H) (hS : va_S (zA z) H0 H locs) (hK : Y.1 b = 1) (hk : As.length = 0) (hst : st0 = As.reverse ++ .ref b :: rest) (hsize : ls.size = nL) (hrest : (rest.map fun v => v.category).sum ≤ 8) (hR : (rmd d).frames + 1 ≤ R.frames ∧ 8 + (2 + 11) + (rmd d).locals ≤ R.locals) (hdg : decode cc pc = .ok (.invokevirtual 222, 3)) (hf : cells ≤ R.cells ∧ slots ≤ R.slots) (kk : ∀ (H1 : Heap) (locs1 : List Loc), Wd Y1 cy D z n1 V1 G1 H1 → va_S (zA z) H0 H1 locs1 → W p l e R s m args below meth c H1 locs1 cells slots Q (F0 m (pc + 3) ls (.int x :: rest))) : W p l e R s m args below meth c H locs cells slots Q (F0 m pc ls st0) :=
  wk_VN hx hb hml hown hts hE (ci := 1) (by decide) rfl rfl q561 q88 nq558 q560 q38 (by decide +kernel) hM hW hS hK hk hst hsize hrest hR hdg hf kk
theorem iv_X3_225 (hx : p.tables.exec = Jvm.exec) (hb : c.code = cc) {nL : Nat} (hml : c.maxLocals = nL) (hown : s.vm.findClass RX3 = some m.cls) (hts : ∀ w ∈ lw_all, w.before args s = true) (hE : En D cy s) {d : Nat} {x : Int32} {As : List Value} {b : Nat} {Y1 : mY} {n1 : Nat} {V1 : mV} {G1 : mG} (hM : CT l yX1_doAll cX1_doAll 4 (some .int) (rmd d) D cy z (.ref b :: As) Y n V G (some (.int x)) Y1 n1 V1 G1) (hW : Wd Y cy D z n V G H) (hS : va_S (zA z) H0 H locs) (hK : Y.1 b = 1) (hk : As.length = 1) (hst : st0 = As.reverse ++ .ref b :: rest) (hsize : ls.size = nL) (hrest : (rest.map fun v => v.category).sum ≤ 8) (hR : (rmd d).frames + 1 ≤ R.frames ∧ 8 + (4 + 11) + (rmd d).locals ≤ R.locals) (hdg : decode cc pc = .ok (.invokevirtual 225, 3)) (hf : cells ≤ R.cells ∧ slots ≤ R.slots) (kk : ∀ (H1 : Heap) (locs1 : List Loc), Wd Y1 cy D z n1 V1 G1 H1 → va_S (zA z) H0 H1 locs1 → W p l e R s m args below meth c H1 locs1 cells slots Q (F0 m (pc + 3) ls (.int x :: rest))) : W p l e R s m args below meth c H locs cells slots Q (F0 m pc ls st0) :=
  wk_VN hx hb hml hown hts hE (ci := 1) (by decide) rfl rfl q569 q88 nq566 q568 q39 (by decide +kernel) hM hW hS hK hk hst hsize hrest hR hdg hf kk
theorem gf_X3_229 (hx : p.tables.exec = Jvm.exec) (hb : c.code = cc) (hts : ∀ w ∈ lw_all, w.before args s = true) (hown : s.vm.findClass RX3 = some m.cls) (hE : En D cy s) (hW : Wd Y cy D z n V G H) (hK : Y.1 a = 1) (hdg : decode cc pc = .ok (.getfield 229, 3)) (kk : W p l e R s m args below meth c H locs cells slots Q (F0 m (pc + 3) ls (.int (V a 5) :: rest))) : W p l e R s m args below meth c H locs cells slots Q (F0 m pc ls (.ref a :: rest)) :=
  wk_getN hx hb hts hown hE hW (C := RX1) (T := TX1) (N := 7) (ci := 1) (k := 5) rfl inX1 (by decide) nq235 rfl (by decide) rfl hK hdg kk
theorem gf_X3_232 (hx : p.tables.exec = Jvm.exec) (hb : c.code = cc) (hts : ∀ w ∈ lw_all, w.before args s = true) (hown : s.vm.findClass RX3 = some m.cls) (hE : En D cy s) (hW : Wd Y cy D z n V G H) (hK : Y.1 a = 1) (hdg : decode cc pc = .ok (.getfield 232, 3)) (kk : W p l e R s m args below meth c H locs cells slots Q (F0 m (pc + 3) ls (.int (V a 3) :: rest))) : W p l e R s m args below meth c H locs cells slots Q (F0 m pc ls (.ref a :: rest)) :=
  wk_getN hx hb hts hown hE hW (C := RX1) (T := TX1) (N := 7) (ci := 1) (k := 3) rfl inX1 (by decide) nq232 rfl (by decide) rfl hK hdg kk
theorem gf_X3_235 (hx : p.tables.exec = Jvm.exec) (hb : c.code = cc) (hts : ∀ w ∈ lw_all, w.before args s = true) (hown : s.vm.findClass RX3 = some m.cls) (hE : En D cy s) (hW : Wd Y cy D z n V G H) (hK : Y.1 a = 1) (hdg : decode cc pc = .ok (.getfield 235, 3)) (kk : W p l e R s m args below meth c H locs cells slots Q (F0 m (pc + 3) ls (.int (V a 6) :: rest))) : W p l e R s m args below meth c H locs cells slots Q (F0 m pc ls (.ref a :: rest)) :=
  wk_getN hx hb hts hown hE hW (C := RX1) (T := TX1) (N := 7) (ci := 1) (k := 6) rfl inX1 (by decide) nq237 rfl (by decide) rfl hK hdg kk
theorem iv_X2_88 (hx : p.tables.exec = Jvm.exec) (hb : c.code = cc) {nL : Nat} (hml : c.maxLocals = nL) (hown : s.vm.findClass RX2 = some m.cls) (hts : ∀ w ∈ lw_all, w.before args s = true) (hE : En D cy s) {d : Nat} {x : Int32} {As : List Value} {b : Nat} {Y1 : mY} {n1 : Nat} {V1 : mV} {G1 : mG} (hM : CT l yX3_isWithin cX3_isWithin 3 (some .boolean) (rmd d) D cy z As Y n V G (some (.int x)) Y1 n1 V1 G1) (hW : Wd Y cy D z n V G H) (hS : va_S (zA z) H0 H locs) (hk : As.length = 3) (hst : st0 = As.reverse ++ rest) (hsize : ls.size = nL) (hrest : (rest.map fun v => v.category).sum ≤ 8) (hR : (rmd d).frames + 1 ≤ R.frames ∧ 8 + (3 + 11) + (rmd d).locals ≤ R.locals) (hdg : decode cc pc = .ok (.invokestatic 88, 3)) (hf : cells ≤ R.cells ∧ slots ≤ R.slots) (kk : ∀ (H1 : Heap) (locs1 : List Loc), Wd Y1 cy D z n1 V1 G1 H1 → va_S (zA z) H0 H1 locs1 → W p l e R s m args below meth c H1 locs1 cells slots Q (F0 m (pc + 3) ls (.int x :: rest))) : W p l e R s m args below meth c H locs cells slots Q (F0 m pc ls st0) :=
  wk_SN hx hb hml hown hts hE q291 q85 nq289 q290 (by decide +kernel) hM hW hS hk hst hsize hrest hR hdg hf kk
theorem iv_X2_92 (hx : p.tables.exec = Jvm.exec) (hb : c.code = cc) {nL : Nat} (hml : c.maxLocals = nL) (hown : s.vm.findClass RX2 = some m.cls) (hts : ∀ w ∈ lw_all, w.before args s = true) (hE : En D cy s) {d : Nat} {x : Int32} {As : List Value} {b : Nat} {Y1 : mY} {n1 : Nat} {V1 : mV} {G1 : mG} (hM : CT l yX2_leastDays cX2_leastDays 1 (some .int) (rmd d) D cy z As Y n V G (some (.int x)) Y1 n1 V1 G1) (hW : Wd Y cy D z n V G H) (hS : va_S (zA z) H0 H locs) (hk : As.length = 1) (hst : st0 = As.reverse ++ rest) (hsize : ls.size = nL) (hrest : (rest.map fun v => v.category).sum ≤ 8) (hR : (rmd d).frames + 1 ≤ R.frames ∧ 8 + (1 + 11) + (rmd d).locals ≤ R.locals) (hdg : decode cc pc = .ok (.invokestatic 92, 3)) (hf : cells ≤ R.cells ∧ slots ≤ R.slots) (kk : ∀ (H1 : Heap) (locs1 : List Loc), Wd Y1 cy D z n1 V1 G1 H1 → va_S (zA z) H0 H1 locs1 → W p l e R s m args below meth c H1 locs1 cells slots Q (F0 m (pc + 3) ls (.int x :: rest))) : W p l e R s m args below meth c H locs cells slots Q (F0 m pc ls st0) :=
  wk_S hx hb hml hown hts hE q294 q86 q292 q293 (by decide +kernel) hM hW hS hk hst hsize hrest hR hdg hf kk
theorem iv_X2_48 (hx : p.tables.exec = Jvm.exec) (hb : c.code = cc) {nL : Nat} (hml : c.maxLocals = nL) (hown : s.vm.findClass RX2 = some m.cls) (hts : ∀ w ∈ lw_all, w.before args s = true) (hE : En D cy s) {d : Nat} {x : Int32} {As : List Value} {b : Nat} {Y1 : mY} {n1 : Nat} {V1 : mV} {G1 : mG} (hM : CT l yX2_isBegun cX2_isBegun 2 (some .boolean) (rmd d) D cy z (.ref b :: As) Y n V G (some (.int x)) Y1 n1 V1 G1) (hW : Wd Y cy D z n V G H) (hS : va_S (zA z) H0 H locs) (hK : Y.1 b = 2) (hk : As.length = 1) (hst : st0 = As.reverse ++ .ref b :: rest) (hsize : ls.size = nL) (hrest : (rest.map fun v => v.category).sum ≤ 8) (hR : (rmd d).frames + 1 ≤ R.frames ∧ 8 + (2 + 11) + (rmd d).locals ≤ R.locals) (hdg : decode cc pc = .ok (.invokevirtual 48, 3)) (hf : cells ≤ R.cells ∧ slots ≤ R.slots) (kk : ∀ (H1 : Heap) (locs1 : List Loc), Wd Y1 cy D z n1 V1 G1 H1 → va_S (zA z) H0 H1 locs1 → W p l e R s m args below meth c H1 locs1 cells slots Q (F0 m (pc + 3) ls (.int x :: rest))) : W p l e R s m args below meth c H locs cells slots Q (F0 m pc ls st0) :=
  wk_V hx hb hml hown hts hE (ci := 2) (by decide) rfl rfl q299 q86 q296 q298 q3 (by decide +kernel) hM hW hS hK hk hst hsize hrest hR hdg hf kk
theorem gf_X2_24 (hx : p.tables.exec = Jvm.exec) (hb : c.code = cc) (hts : ∀ w ∈ lw_all, w.before args s = true) (hown : s.vm.findClass RX2 = some m.cls) (hE : En D cy s) (hW : Wd Y cy D z n V G H) (hK : Y.1 a = 2) (hdg : decode cc pc = .ok (.getfield 24, 3)) (kk : W p l e R s m args below meth c H locs cells slots Q (F0 m (pc + 3) ls (.int (V a 3) :: rest))) : W p l e R s m args below meth c H locs cells slots Q (F0 m pc ls (.ref a :: rest)) :=
  wk_get hx hb hts hown hE hW (C := RX2) (T := TX2) (N := 9) (ci := 2) (k := 3) rfl inX2 (by decide) q189 rfl (by decide) rfl hK hdg kk
theorem iv_X2_98 (hx : p.tables.exec = Jvm.exec) (hb : c.code = cc) {nL : Nat} (hml : c.maxLocals = nL) (hown : s.vm.findClass RX2 = some m.cls) (hts : ∀ w ∈ lw_all, w.before args s = true) (hE : En D cy s) {d : Nat} {As : List Value} {b : Nat} {Y1 : mY} {n1 : Nat} {V1 : mV} {G1 : mG} (hM : CT l yX0_startAs cX0_startAs 5 none (rmd d) D cy z (.ref b :: As) Y n V G none Y1 n1 V1 G1) (hW : Wd Y cy D z n V G H) (hS : va_S (zA z) H0 H locs) (hK : Y.1 b = 0) (hk : As.length = 4) (hst : st0 = As.reverse ++ .ref b :: rest) (hsize : ls.size = nL) (hrest : (rest.map fun v => v.category).sum ≤ 8) (hR : (rmd d).frames + 1 ≤ R.frames ∧ 8 + (5 + 11) + (rmd d).locals ≤ R.locals) (hdg : decode cc pc = .ok (.invokevirtual 98, 3)) (hf : cells ≤ R.cells ∧ slots ≤ R.slots) (kk : ∀ (H1 : Heap) (locs1 : List Loc), Wd Y1 cy D z n1 V1 G1 H1 → va_S (zA z) H0 H1 locs1 → W p l e R s m args below meth c H1 locs1 cells slots Q (F0 m (pc + 3) ls rest)) : W p l e R s m args below meth c H locs cells slots Q (F0 m pc ls st0) :=
  wk_VN hx hb hml hown hts hE (ci := 0) (by decide) rfl rfl q305 q87 nq302 q304 q4 (by decide +kernel) hM hW hS hK hk hst hsize hrest hR hdg hf kk
theorem gf_X2_66 (hx : p.tables.exec = Jvm.exec) (hb : c.code = cc) (hts : ∀ w ∈ lw_all, w.before args s = true) (hown : s.vm.findClass RX2 = some m.cls) (hE : En D cy s) (hW : Wd Y cy D z n V G H) (hK : Y.1 a = 0) (hdg : decode cc pc = .ok (.getfield 66, 3)) (kk : W p l e R s m args below meth c H locs cells slots Q (F0 m (pc + 3) ls (.int (V a 0) :: rest))) : W p l e R s m args below meth c H locs cells slots Q (F0 m pc ls (.ref a :: rest)) :=
  wk_getN hx hb hts hown hE hW (C := RX0) (T := TX0) (N := 14) (ci := 0) (k := 0) rfl inX0 (by decide) nq114 rfl (by decide) rfl hK hdg kk
theorem gf_X2_69 (hx : p.tables.exec = Jvm.exec) (hb : c.code = cc) (hts : ∀ w ∈ lw_all, w.before args s = true) (hown : s.vm.findClass RX2 = some m.cls) (hE : En D cy s) (hW : Wd Y cy D z n V G H) (hK : Y.1 a = 0) (hdg : decode cc pc = .ok (.getfield 69, 3)) (kk : W p l e R s m args below meth c H locs cells slots Q (F0 m (pc + 3) ls (.int (V a 1) :: rest))) : W p l e R s m args below meth c H locs cells slots Q (F0 m pc ls (.ref a :: rest)) :=
  wk_getN hx hb hts hown hE hW (C := RX0) (T := TX0) (N := 14) (ci := 0) (k := 1) rfl inX0 (by decide) nq117 rfl (by decide) rfl hK hdg kk
theorem iv_X2_62 (hx : p.tables.exec = Jvm.exec) (hb : c.code = cc) {nL : Nat} (hml : c.maxLocals = nL) (hown : s.vm.findClass RX2 = some m.cls) (hts : ∀ w ∈ lw_all, w.before args s = true) (hE : En D cy s) {d : Nat} {x : Int32} {As : List Value} {b : Nat} {Y1 : mY} {n1 : Nat} {V1 : mV} {G1 : mG} (hM : CT l yX0_isMet cX0_isMet 1 (some .boolean) (rmd d) D cy z (.ref b :: As) Y n V G (some (.int x)) Y1 n1 V1 G1) (hW : Wd Y cy D z n V G H) (hS : va_S (zA z) H0 H locs) (hK : Y.1 b = 0) (hk : As.length = 0) (hst : st0 = As.reverse ++ .ref b :: rest) (hsize : ls.size = nL) (hrest : (rest.map fun v => v.category).sum ≤ 8) (hR : (rmd d).frames + 1 ≤ R.frames ∧ 8 + (1 + 11) + (rmd d).locals ≤ R.locals) (hdg : decode cc pc = .ok (.invokevirtual 62, 3)) (hf : cells ≤ R.cells ∧ slots ≤ R.slots) (kk : ∀ (H1 : Heap) (locs1 : List Loc), Wd Y1 cy D z n1 V1 G1 H1 → va_S (zA z) H0 H1 locs1 → W p l e R s m args below meth c H1 locs1 cells slots Q (F0 m (pc + 3) ls (.int x :: rest))) : W p l e R s m args below meth c H locs cells slots Q (F0 m pc ls st0) :=
  wk_VN hx hb hml hown hts hE (ci := 0) (by decide) rfl rfl q337 q87 nq334 q336 q11 (by decide +kernel) hM hW hS hK hk hst hsize hrest hR hdg hf kk
theorem pf_X2_59 (hx : p.tables.exec = Jvm.exec) (hb : c.code = cc) (hts : ∀ w ∈ lw_all, w.before args s = true) (hown : s.vm.findClass RX2 = some m.cls) (hE : En D cy s) (hW : Wd Y cy D z n V G H) (hS : va_S (zA z) H0 H locs) (hK : Y.1 a = 0) (x : Int32) (hz : x = 0 ∨ x = 1) (hdg : decode cc pc = .ok (.putfield 59, 3)) (kk : ∀ (H1 : Heap) (locs1 : List Loc), Wd Y cy D z n (up2 V a 8 x) G H1 → va_S (zA z) H0 H1 locs1 → W p l e R s m args below meth c H1 locs1 cells slots Q (F0 m (pc + 3) ls rest)) : W p l e R s m args below meth c H locs cells slots Q (F0 m pc ls (.int x :: .ref a :: rest)) :=
  wk_putN hx hb hts hown hE hW hS (C := RX0) (T := TX0) (N := 14) (ci := 0) (k := 8) rfl inX0 (by decide) nq138 rfl (by decide) tyX0 tyX0_ok nmX0 rfl (ty := .boolean) (by decide +kernel) (by rcases hz with rfl | rfl <;> rfl) (by rcases hz with rfl | rfl <;> rfl) (by decide) (by rw [up2_s]; exact fce_seti (k := 8) (by decide) x) (up2_o _ _ _ _) (fun _ _ => rfl) hK hdg kk
theorem gf_X2_31 (hx : p.tables.exec = Jvm.exec) (hb : c.code = cc) (hts : ∀ w ∈ lw_all, w.before args s = true) (hown : s.vm.findClass RX2 = some m.cls) (hE : En D cy s) (hW : Wd Y cy D z n V G H) (hK : Y.1 a = 2) (hdg : decode cc pc = .ok (.getfield 31, 3)) (kk : W p l e R s m args below meth c H locs cells slots Q (F0 m (pc + 3) ls (.int (V a 5) :: rest))) : W p l e R s m args below meth c H locs cells slots Q (F0 m pc ls (.ref a :: rest)) :=
  wk_get hx hb hts hown hE hW (C := RX2) (T := TX2) (N := 9) (ci := 2) (k := 5) rfl inX2 (by decide) q193 rfl (by decide) rfl hK hdg kk
theorem iv_X2_102 (hx : p.tables.exec = Jvm.exec) (hb : c.code = cc) {nL : Nat} (hml : c.maxLocals = nL) (hown : s.vm.findClass RX2 = some m.cls) (hts : ∀ w ∈ lw_all, w.before args s = true) (hE : En D cy s) {d : Nat} {x : Int32} {As : List Value} {b : Nat} {Y1 : mY} {n1 : Nat} {V1 : mV} {G1 : mG} (hM : CT l yX2_canBegin cX2_canBegin 2 (some .boolean) (rmd d) D cy z (.ref b :: As) Y n V G (some (.int x)) Y1 n1 V1 G1) (hW : Wd Y cy D z n V G H) (hS : va_S (zA z) H0 H locs) (hK : Y.1 b = 2) (hk : As.length = 1) (hst : st0 = As.reverse ++ .ref b :: rest) (hsize : ls.size = nL) (hrest : (rest.map fun v => v.category).sum ≤ 8) (hR : (rmd d).frames + 1 ≤ R.frames ∧ 8 + (2 + 11) + (rmd d).locals ≤ R.locals) (hdg : decode cc pc = .ok (.invokevirtual 102, 3)) (hf : cells ≤ R.cells ∧ slots ≤ R.slots) (kk : ∀ (H1 : Heap) (locs1 : List Loc), Wd Y1 cy D z n1 V1 G1 H1 → va_S (zA z) H0 H1 locs1 → W p l e R s m args below meth c H1 locs1 cells slots Q (F0 m (pc + 3) ls (.int x :: rest))) : W p l e R s m args below meth c H locs cells slots Q (F0 m pc ls st0) :=
  wk_V hx hb hml hown hts hE (ci := 2) (by decide) rfl rfl q329 q86 q326 q328 q9 (by decide +kernel) hM hW hS hK hk hst hsize hrest hR hdg hf kk
theorem gf_X2_28 (hx : p.tables.exec = Jvm.exec) (hb : c.code = cc) (hts : ∀ w ∈ lw_all, w.before args s = true) (hown : s.vm.findClass RX2 = some m.cls) (hE : En D cy s) (hW : Wd Y cy D z n V G H) (hK : Y.1 a = 2) (hdg : decode cc pc = .ok (.getfield 28, 3)) (kk : W p l e R s m args below meth c H locs cells slots Q (F0 m (pc + 3) ls (.int (V a 4) :: rest))) : W p l e R s m args below meth c H locs cells slots Q (F0 m pc ls (.ref a :: rest)) :=
  wk_get hx hb hts hown hE hW (C := RX2) (T := TX2) (N := 9) (ci := 2) (k := 4) rfl inX2 (by decide) q191 rfl (by decide) rfl hK hdg kk
theorem iv_X2_105 (hx : p.tables.exec = Jvm.exec) (hb : c.code = cc) {nL : Nat} (hml : c.maxLocals = nL) (hown : s.vm.findClass RX2 = some m.cls) (hts : ∀ w ∈ lw_all, w.before args s = true) (hE : En D cy s) {d : Nat} {x : Int32} {As : List Value} {b : Nat} {Y1 : mY} {n1 : Nat} {V1 : mV} {G1 : mG} (hM : CT l yX2_unmetAhead cX2_unmetAhead 5 (some .int) (rmd d) D cy z (.ref b :: As) Y n V G (some (.int x)) Y1 n1 V1 G1) (hW : Wd Y cy D z n V G H) (hS : va_S (zA z) H0 H locs) (hK : Y.1 b = 2) (hk : As.length = 1) (hst : st0 = As.reverse ++ .ref b :: rest) (hsize : ls.size = nL) (hrest : (rest.map fun v => v.category).sum ≤ 8) (hR : (rmd d).frames + 1 ≤ R.frames ∧ 8 + (5 + 11) + (rmd d).locals ≤ R.locals) (hdg : decode cc pc = .ok (.invokevirtual 105, 3)) (hf : cells ≤ R.cells ∧ slots ≤ R.slots) (kk : ∀ (H1 : Heap) (locs1 : List Loc), Wd Y1 cy D z n1 V1 G1 H1 → va_S (zA z) H0 H1 locs1 → W p l e R s m args below meth c H1 locs1 cells slots Q (F0 m (pc + 3) ls (.int x :: rest))) : W p l e R s m args below meth c H locs cells slots Q (F0 m pc ls st0) :=
  wk_V hx hb hml hown hts hE (ci := 2) (by decide) rfl rfl q333 q86 q330 q332 q10 (by decide +kernel) hM hW hS hK hk hst hsize hrest hR hdg hf kk
theorem iv_X2_108 (hx : p.tables.exec = Jvm.exec) (hb : c.code = cc) {nL : Nat} (hml : c.maxLocals = nL) (hown : s.vm.findClass RX2 = some m.cls) (hts : ∀ w ∈ lw_all, w.before args s = true) (hE : En D cy s) {d : Nat} {As : List Value} {b : Nat} {Y1 : mY} {n1 : Nat} {V1 : mV} {G1 : mG} (hM : CT l yX2_startBreach cX2_startBreach 2 none (rmd d) D cy z (.ref b :: As) Y n V G none Y1 n1 V1 G1) (hW : Wd Y cy D z n V G H) (hS : va_S (zA z) H0 H locs) (hK : Y.1 b = 2) (hk : As.length = 1) (hst : st0 = As.reverse ++ .ref b :: rest) (hsize : ls.size = nL) (hrest : (rest.map fun v => v.category).sum ≤ 8) (hR : (rmd d).frames + 1 ≤ R.frames ∧ 8 + (2 + 11) + (rmd d).locals ≤ R.locals) (hdg : decode cc pc = .ok (.invokevirtual 108, 3)) (hf : cells ≤ R.cells ∧ slots ≤ R.slots) (kk : ∀ (H1 : Heap) (locs1 : List Loc), Wd Y1 cy D z n1 V1 G1 H1 → va_S (zA z) H0 H1 locs1 → W p l e R s m args below meth c H1 locs1 cells slots Q (F0 m (pc + 3) ls rest)) : W p l e R s m args below meth c H locs cells slots Q (F0 m pc ls st0) :=
  wk_V hx hb hml hown hts hE (ci := 2) (by decide) rfl rfl q341 q86 q338 q340 q12 (by decide +kernel) hM hW hS hK hk hst hsize hrest hR hdg hf kk
theorem iv_X2_52 (hx : p.tables.exec = Jvm.exec) (hb : c.code = cc) {nL : Nat} (hml : c.maxLocals = nL) (hown : s.vm.findClass RX2 = some m.cls) (hts : ∀ w ∈ lw_all, w.before args s = true) (hE : En D cy s) {d : Nat} {x : Int32} {As : List Value} {b : Nat} {Y1 : mY} {n1 : Nat} {V1 : mV} {G1 : mG} (hM : CT l yX2_isFinished cX2_isFinished 2 (some .boolean) (rmd d) D cy z (.ref b :: As) Y n V G (some (.int x)) Y1 n1 V1 G1) (hW : Wd Y cy D z n V G H) (hS : va_S (zA z) H0 H locs) (hK : Y.1 b = 2) (hk : As.length = 1) (hst : st0 = As.reverse ++ .ref b :: rest) (hsize : ls.size = nL) (hrest : (rest.map fun v => v.category).sum ≤ 8) (hR : (rmd d).frames + 1 ≤ R.frames ∧ 8 + (2 + 11) + (rmd d).locals ≤ R.locals) (hdg : decode cc pc = .ok (.invokevirtual 52, 3)) (hf : cells ≤ R.cells ∧ slots ≤ R.slots) (kk : ∀ (H1 : Heap) (locs1 : List Loc), Wd Y1 cy D z n1 V1 G1 H1 → va_S (zA z) H0 H1 locs1 → W p l e R s m args below meth c H1 locs1 cells slots Q (F0 m (pc + 3) ls (.int x :: rest))) : W p l e R s m args below meth c H locs cells slots Q (F0 m pc ls st0) :=
  wk_V hx hb hml hown hts hE (ci := 2) (by decide) rfl rfl q353 q86 q350 q352 q14 (by decide +kernel) hM hW hS hK hk hst hsize hrest hR hdg hf kk
theorem iv_X2_111 (hx : p.tables.exec = Jvm.exec) (hb : c.code = cc) {nL : Nat} (hml : c.maxLocals = nL) (hown : s.vm.findClass RX2 = some m.cls) (hts : ∀ w ∈ lw_all, w.before args s = true) (hE : En D cy s) {d : Nat} {x : Int32} {As : List Value} {b : Nat} {Y1 : mY} {n1 : Nat} {V1 : mV} {G1 : mG} (hM : CT l yX2_hasCondition cX2_hasCondition 2 (some .boolean) (rmd d) D cy z (.ref b :: As) Y n V G (some (.int x)) Y1 n1 V1 G1) (hW : Wd Y cy D z n V G H) (hS : va_S (zA z) H0 H locs) (hK : Y.1 b = 2) (hk : As.length = 1) (hst : st0 = As.reverse ++ .ref b :: rest) (hsize : ls.size = nL) (hrest : (rest.map fun v => v.category).sum ≤ 8) (hR : (rmd d).frames + 1 ≤ R.frames ∧ 8 + (2 + 11) + (rmd d).locals ≤ R.locals) (hdg : decode cc pc = .ok (.invokevirtual 111, 3)) (hf : cells ≤ R.cells ∧ slots ≤ R.slots) (kk : ∀ (H1 : Heap) (locs1 : List Loc), Wd Y1 cy D z n1 V1 G1 H1 → va_S (zA z) H0 H1 locs1 → W p l e R s m args below meth c H1 locs1 cells slots Q (F0 m (pc + 3) ls (.int x :: rest))) : W p l e R s m args below meth c H locs cells slots Q (F0 m pc ls st0) :=
  wk_V hx hb hml hown hts hE (ci := 2) (by decide) rfl rfl q365 q86 q362 q364 q16 (by decide +kernel) hM hW hS hK hk hst hsize hrest hR hdg hf kk
theorem iv_X2_114 (hx : p.tables.exec = Jvm.exec) (hb : c.code = cc) {nL : Nat} (hml : c.maxLocals = nL) (hown : s.vm.findClass RX2 = some m.cls) (hts : ∀ w ∈ lw_all, w.before args s = true) (hE : En D cy s) {d : Nat} {x : Int32} {As : List Value} {b : Nat} {Y1 : mY} {n1 : Nat} {V1 : mV} {G1 : mG} (hM : CT l yX0_isPartsSet cX0_isPartsSet 2 (some .boolean) (rmd d) D cy z (.ref b :: As) Y n V G (some (.int x)) Y1 n1 V1 G1) (hW : Wd Y cy D z n V G H) (hS : va_S (zA z) H0 H locs) (hK : Y.1 b = 0) (hk : As.length = 1) (hst : st0 = As.reverse ++ .ref b :: rest) (hsize : ls.size = nL) (hrest : (rest.map fun v => v.category).sum ≤ 8) (hR : (rmd d).frames + 1 ≤ R.frames ∧ 8 + (2 + 11) + (rmd d).locals ≤ R.locals) (hdg : decode cc pc = .ok (.invokevirtual 114, 3)) (hf : cells ≤ R.cells ∧ slots ≤ R.slots) (kk : ∀ (H1 : Heap) (locs1 : List Loc), Wd Y1 cy D z n1 V1 G1 H1 → va_S (zA z) H0 H1 locs1 → W p l e R s m args below meth c H1 locs1 cells slots Q (F0 m (pc + 3) ls (.int x :: rest))) : W p l e R s m args below meth c H locs cells slots Q (F0 m pc ls st0) :=
  wk_VN hx hb hml hown hts hE (ci := 0) (by decide) rfl rfl q369 q87 nq366 q368 q17 (by decide +kernel) hM hW hS hK hk hst hsize hrest hR hdg hf kk
theorem gf_X2_117 (hx : p.tables.exec = Jvm.exec) (hb : c.code = cc) (hts : ∀ w ∈ lw_all, w.before args s = true) (hown : s.vm.findClass RX2 = some m.cls) (hE : En D cy s) (hW : Wd Y cy D z n V G H) (hK : Y.1 a = 0) (hdg : decode cc pc = .ok (.getfield 117, 3)) (kk : W p l e R s m args below meth c H locs cells slots Q (F0 m (pc + 3) ls (.int (V a 5) :: rest))) : W p l e R s m args below meth c H locs cells slots Q (F0 m pc ls (.ref a :: rest)) :=
  wk_getN hx hb hts hown hE hW (C := RX0) (T := TX0) (N := 14) (ci := 0) (k := 5) rfl inX0 (by decide) nq130 rfl (by decide) rfl hK hdg kk
theorem gf_X2_79 (hx : p.tables.exec = Jvm.exec) (hb : c.code = cc) (hts : ∀ w ∈ lw_all, w.before args s = true) (hown : s.vm.findClass RX2 = some m.cls) (hE : En D cy s) (hW : Wd Y cy D z n V G H) (hK : Y.1 a = 0) (hdg : decode cc pc = .ok (.getfield 79, 3)) (kk : W p l e R s m args below meth c H locs cells slots Q (F0 m (pc + 3) ls (.int (V a 4) :: rest))) : W p l e R s m args below meth c H locs cells slots Q (F0 m pc ls (.ref a :: rest)) :=
  wk_getN hx hb hts hown hE hW (C := RX0) (T := TX0) (N := 14) (ci := 0) (k := 4) rfl inX0 (by decide) nq126 rfl (by decide) rfl hK hdg kk
theorem pf_X2_117 (hx : p.tables.exec = Jvm.exec) (hb : c.code = cc) (hts : ∀ w ∈ lw_all, w.before args s = true) (hown : s.vm.findClass RX2 = some m.cls) (hE : En D cy s) (hW : Wd Y cy D z n V G H) (hS : va_S (zA z) H0 H locs) (hK : Y.1 a = 0) (x : Int32) (hdg : decode cc pc = .ok (.putfield 117, 3)) (kk : ∀ (H1 : Heap) (locs1 : List Loc), Wd Y cy D z n (up2 V a 5 x) G H1 → va_S (zA z) H0 H1 locs1 → W p l e R s m args below meth c H1 locs1 cells slots Q (F0 m (pc + 3) ls rest)) : W p l e R s m args below meth c H locs cells slots Q (F0 m pc ls (.int x :: .ref a :: rest)) :=
  wk_putN hx hb hts hown hE hW hS (C := RX0) (T := TX0) (N := 14) (ci := 0) (k := 5) rfl inX0 (by decide) nq130 rfl (by decide) tyX0 tyX0_ok nmX0 rfl (ty := .int) (by decide +kernel) rfl rfl (by decide) (by rw [up2_s]; exact fce_seti (k := 5) (by decide) x) (up2_o _ _ _ _) (fun _ _ => rfl) hK hdg kk
theorem pf_X2_120 (hx : p.tables.exec = Jvm.exec) (hb : c.code = cc) (hts : ∀ w ∈ lw_all, w.before args s = true) (hown : s.vm.findClass RX2 = some m.cls) (hE : En D cy s) (hW : Wd Y cy D z n V G H) (hS : va_S (zA z) H0 H locs) (hK : Y.1 a = 0) (x : Int32) (hdg : decode cc pc = .ok (.putfield 120, 3)) (kk : ∀ (H1 : Heap) (locs1 : List Loc), Wd Y cy D z n (up2 V a 6 x) G H1 → va_S (zA z) H0 H1 locs1 → W p l e R s m args below meth c H1 locs1 cells slots Q (F0 m (pc + 3) ls rest)) : W p l e R s m args below meth c H locs cells slots Q (F0 m pc ls (.int x :: .ref a :: rest)) :=
  wk_putN hx hb hts hown hE hW hS (C := RX0) (T := TX0) (N := 14) (ci := 0) (k := 6) rfl inX0 (by decide) nq133 rfl (by decide) tyX0 tyX0_ok nmX0 rfl (ty := .int) (by decide +kernel) rfl rfl (by decide) (by rw [up2_s]; exact fce_seti (k := 6) (by decide) x) (up2_o _ _ _ _) (fun _ _ => rfl) hK hdg kk
theorem gf_X2_37 (hx : p.tables.exec = Jvm.exec) (hb : c.code = cc) (hts : ∀ w ∈ lw_all, w.before args s = true) (hown : s.vm.findClass RX2 = some m.cls) (hE : En D cy s) (hW : Wd Y cy D z n V G H) (hK : Y.1 a = 2) (hdg : decode cc pc = .ok (.getfield 37, 3)) (kk : W p l e R s m args below meth c H locs cells slots Q (F0 m (pc + 3) ls (.int (V a 7) :: rest))) : W p l e R s m args below meth c H locs cells slots Q (F0 m pc ls (.ref a :: rest)) :=
  wk_get hx hb hts hown hE hW (C := RX2) (T := TX2) (N := 9) (ci := 2) (k := 7) rfl inX2 (by decide) q197 rfl (by decide) rfl hK hdg kk
theorem iv_X2_123 (hx : p.tables.exec = Jvm.exec) (hb : c.code = cc) {nL : Nat} (hml : c.maxLocals = nL) (hown : s.vm.findClass RX2 = some m.cls) (hts : ∀ w ∈ lw_all, w.before args s = true) (hE : En D cy s) {d : Nat} {As : List Value} {b : Nat} {Y1 : mY} {n1 : Nat} {V1 : mV} {G1 : mG} (hM : CT l yX0_approve cX0_approve 2 none (rmd d) D cy z (.ref b :: As) Y n V G none Y1 n1 V1 G1) (hW : Wd Y cy D z n V G H) (hS : va_S (zA z) H0 H locs) (hK : Y.1 b = 0) (hk : As.length = 1) (hst : st0 = As.reverse ++ .ref b :: rest) (hsize : ls.size = nL) (hrest : (rest.map fun v => v.category).sum ≤ 8) (hR : (rmd d).frames + 1 ≤ R.frames ∧ 8 + (2 + 11) + (rmd d).locals ≤ R.locals) (hdg : decode cc pc = .ok (.invokevirtual 123, 3)) (hf : cells ≤ R.cells ∧ slots ≤ R.slots) (kk : ∀ (H1 : Heap) (locs1 : List Loc), Wd Y1 cy D z n1 V1 G1 H1 → va_S (zA z) H0 H1 locs1 → W p l e R s m args below meth c H1 locs1 cells slots Q (F0 m (pc + 3) ls rest)) : W p l e R s m args below meth c H locs cells slots Q (F0 m pc ls st0) :=
  wk_VN hx hb hml hown hts hE (ci := 0) (by decide) rfl rfl q381 q87 nq378 q380 q19 (by decide +kernel) hM hW hS hK hk hst hsize hrest hR hdg hf kk
theorem gf_X2_76 (hx : p.tables.exec = Jvm.exec) (hb : c.code = cc) (hts : ∀ w ∈ lw_all, w.before args s = true) (hown : s.vm.findClass RX2 = some m.cls) (hE : En D cy s) (hW : Wd Y cy D z n V G H) (hK : Y.1 a = 0) (hdg : decode cc pc = .ok (.getfield 76, 3)) (kk : W p l e R s m args below meth c H locs cells slots Q (F0 m (pc + 3) ls (.int (V a 3) :: rest))) : W p l e R s m args below meth c H locs cells slots Q (F0 m pc ls (.ref a :: rest)) :=
  wk_getN hx hb hts hown hE hW (C := RX0) (T := TX0) (N := 14) (ci := 0) (k := 3) rfl inX0 (by decide) nq123 rfl (by decide) rfl hK hdg kk
theorem iv_X2_82 (hx : p.tables.exec = Jvm.exec) (hb : c.code = cc) {nL : Nat} (hml : c.maxLocals = nL) (hown : s.vm.findClass RX2 = some m.cls) (hts : ∀ w ∈ lw_all, w.before args s = true) (hE : En D cy s) {d : Nat} {x : Int32} {As : List Value} {b : Nat} {Y1 : mY} {n1 : Nat} {V1 : mV} {G1 : mG} (hM : CT l yJ6_bitCount_0f7a4 cJ6_bitCount_0f7a4 1 (some .int) (rmd d) D cy z As Y n V G (some (.int x)) Y1 n1 V1 G1) (hW : Wd Y cy D z n V G H) (hS : va_S (zA z) H0 H locs) (hk : As.length = 1) (hst : st0 = As.reverse ++ rest) (hsize : ls.size = nL) (hrest : (rest.map fun v => v.category).sum ≤ 8) (hR : (rmd d).frames + 1 ≤ R.frames ∧ 8 + (1 + 11) + (rmd d).locals ≤ R.locals) (hdg : decode cc pc = .ok (.invokestatic 82, 3)) (hf : cells ≤ R.cells ∧ slots ≤ R.slots) (kk : ∀ (H1 : Heap) (locs1 : List Loc), Wd Y1 cy D z n1 V1 G1 H1 → va_S (zA z) H0 H1 locs1 → W p l e R s m args below meth c H1 locs1 cells slots Q (F0 m (pc + 3) ls (.int x :: rest))) : W p l e R s m args below meth c H locs cells slots Q (F0 m pc ls st0) :=
  wk_S hx hb hml hown hts hE q385 q90 q383 q384 (by decide +kernel) hM hW hS hk hst hsize hrest hR hdg hf kk
theorem gf_X2_55 (hx : p.tables.exec = Jvm.exec) (hb : c.code = cc) (hts : ∀ w ∈ lw_all, w.before args s = true) (hown : s.vm.findClass RX2 = some m.cls) (hE : En D cy s) (hW : Wd Y cy D z n V G H) (hK : Y.1 a = 0) (hdg : decode cc pc = .ok (.getfield 55, 3)) (kk : W p l e R s m args below meth c H locs cells slots Q (F0 m (pc + 3) ls (.int (V a 9) :: rest))) : W p l e R s m args below meth c H locs cells slots Q (F0 m pc ls (.ref a :: rest)) :=
  wk_getN hx hb hts hown hE hW (C := RX0) (T := TX0) (N := 14) (ci := 0) (k := 9) rfl inX0 (by decide) nq141 rfl (by decide) rfl hK hdg kk
theorem gf_X2_59 (hx : p.tables.exec = Jvm.exec) (hb : c.code = cc) (hts : ∀ w ∈ lw_all, w.before args s = true) (hown : s.vm.findClass RX2 = some m.cls) (hE : En D cy s) (hW : Wd Y cy D z n V G H) (hK : Y.1 a = 0) (hdg : decode cc pc = .ok (.getfield 59, 3)) (kk : W p l e R s m args below meth c H locs cells slots Q (F0 m (pc + 3) ls (.int (V a 8) :: rest))) : W p l e R s m args below meth c H locs cells slots Q (F0 m pc ls (.ref a :: rest)) :=
  wk_getN hx hb hts hown hE hW (C := RX0) (T := TX0) (N := 14) (ci := 0) (k := 8) rfl inX0 (by decide) nq138 rfl (by decide) rfl hK hdg kk
theorem gf_X2_127 (hx : p.tables.exec = Jvm.exec) (hb : c.code = cc) (hts : ∀ w ∈ lw_all, w.before args s = true) (hown : s.vm.findClass RX2 = some m.cls) (hE : En D cy s) (hW : Wd Y cy D z n V G H) (hK : Y.1 a = 0) (hdg : decode cc pc = .ok (.getfield 127, 3)) (kk : W p l e R s m args below meth c H locs cells slots Q (F0 m (pc + 3) ls (.int (V a 7) :: rest))) : W p l e R s m args below meth c H locs cells slots Q (F0 m pc ls (.ref a :: rest)) :=
  wk_getN hx hb hts hown hE hW (C := RX0) (T := TX0) (N := 14) (ci := 0) (k := 7) rfl inX0 (by decide) nq136 rfl (by decide) rfl hK hdg kk
theorem pf_X2_127 (hx : p.tables.exec = Jvm.exec) (hb : c.code = cc) (hts : ∀ w ∈ lw_all, w.before args s = true) (hown : s.vm.findClass RX2 = some m.cls) (hE : En D cy s) (hW : Wd Y cy D z n V G H) (hS : va_S (zA z) H0 H locs) (hK : Y.1 a = 0) (x : Int32) (hdg : decode cc pc = .ok (.putfield 127, 3)) (kk : ∀ (H1 : Heap) (locs1 : List Loc), Wd Y cy D z n (up2 V a 7 x) G H1 → va_S (zA z) H0 H1 locs1 → W p l e R s m args below meth c H1 locs1 cells slots Q (F0 m (pc + 3) ls rest)) : W p l e R s m args below meth c H locs cells slots Q (F0 m pc ls (.int x :: .ref a :: rest)) :=
  wk_putN hx hb hts hown hE hW hS (C := RX0) (T := TX0) (N := 14) (ci := 0) (k := 7) rfl inX0 (by decide) nq136 rfl (by decide) tyX0 tyX0_ok nmX0 rfl (ty := .int) (by decide +kernel) rfl rfl (by decide) (by rw [up2_s]; exact fce_seti (k := 7) (by decide) x) (up2_o _ _ _ _) (fun _ _ => rfl) hK hdg kk
theorem gf_X2_149 (hx : p.tables.exec = Jvm.exec) (hb : c.code = cc) (hts : ∀ w ∈ lw_all, w.before args s = true) (hown : s.vm.findClass RX2 = some m.cls) (hE : En D cy s) (hW : Wd Y cy D z n V G H) (hK : Y.1 a = 0) (hdg : decode cc pc = .ok (.getfield 149, 3)) (kk : W p l e R s m args below meth c H locs cells slots Q (F0 m (pc + 3) ls (.int (V a 2) :: rest))) : W p l e R s m args below meth c H locs cells slots Q (F0 m pc ls (.ref a :: rest)) :=
  wk_getN hx hb hts hown hE hW (C := RX0) (T := TX0) (N := 14) (ci := 0) (k := 2) rfl inX0 (by decide) nq121 rfl (by decide) rfl hK hdg kk
theorem iv_X2_155 (hx : p.tables.exec = Jvm.exec) (hb : c.code = cc) {nL : Nat} (hml : c.maxLocals = nL) (hown : s.vm.findClass RX2 = some m.cls) (hts : ∀ w ∈ lw_all, w.before args s = true) (hE : En D cy s) {d : Nat} {As : List Value} {b : Nat} {Y1 : mY} {n1 : Nat} {V1 : mV} {G1 : mG} (hM : CT l yX2_passClock cX2_passClock 2 none (rmd d) D cy z (.ref b :: As) Y n V G none Y1 n1 V1 G1) (hW : Wd Y cy D z n V G H) (hS : va_S (zA z) H0 H locs) (hK : Y.1 b = 2) (hk : As.length = 1) (hst : st0 = As.reverse ++ .ref b :: rest) (hsize : ls.size = nL) (hrest : (rest.map fun v => v.category).sum ≤ 8) (hR : (rmd d).frames + 1 ≤ R.frames ∧ 8 + (2 + 11) + (rmd d).locals ≤ R.locals) (hdg : decode cc pc = .ok (.invokevirtual 155, 3)) (hf : cells ≤ R.cells ∧ slots ≤ R.slots) (kk : ∀ (H1 : Heap) (locs1 : List Loc), Wd Y1 cy D z n1 V1 G1 H1 → va_S (zA z) H0 H1 locs1 → W p l e R s m args below meth c H1 locs1 cells slots Q (F0 m (pc + 3) ls rest)) : W p l e R s m args below meth c H locs cells slots Q (F0 m pc ls st0) :=
  wk_V hx hb hml hown hts hE (ci := 2) (by decide) rfl rfl q448 q86 q445 q447 q28 (by decide +kernel) hM hW hS hK hk hst hsize hrest hR hdg hf kk
theorem gf_X2_40 (hx : p.tables.exec = Jvm.exec) (hb : c.code = cc) (hts : ∀ w ∈ lw_all, w.before args s = true) (hown : s.vm.findClass RX2 = some m.cls) (hE : En D cy s) (hW : Wd Y cy D z n V G H) (hK : Y.1 a = 2) (hdg : decode cc pc = .ok (.getfield 40, 3)) (kk : W p l e R s m args below meth c H locs cells slots Q (F0 m (pc + 3) ls (.int (V a 8) :: rest))) : W p l e R s m args below meth c H locs cells slots Q (F0 m pc ls (.ref a :: rest)) :=
  wk_get hx hb hts hown hE hW (C := RX2) (T := TX2) (N := 9) (ci := 2) (k := 8) rfl inX2 (by decide) q199 rfl (by decide) rfl hK hdg kk
theorem iv_X2_158 (hx : p.tables.exec = Jvm.exec) (hb : c.code = cc) {nL : Nat} (hml : c.maxLocals = nL) (hown : s.vm.findClass RX2 = some m.cls) (hts : ∀ w ∈ lw_all, w.before args s = true) (hE : En D cy s) {d : Nat} {As : List Value} {b : Nat} {Y1 : mY} {n1 : Nat} {V1 : mV} {G1 : mG} (hM : CT l yX0_ageBreach cX0_ageBreach 2 none (rmd d) D cy z (.ref b :: As) Y n V G none Y1 n1 V1 G1) (hW : Wd Y cy D z n V G H) (hS : va_S (zA z) H0 H locs) (hK : Y.1 b = 0) (hk : As.length = 1) (hst : st0 = As.reverse ++ .ref b :: rest) (hsize : ls.size = nL) (hrest : (rest.map fun v => v.category).sum ≤ 8) (hR : (rmd d).frames + 1 ≤ R.frames ∧ 8 + (2 + 11) + (rmd d).locals ≤ R.locals) (hdg : decode cc pc = .ok (.invokevirtual 158, 3)) (hf : cells ≤ R.cells ∧ slots ≤ R.slots) (kk : ∀ (H1 : Heap) (locs1 : List Loc), Wd Y1 cy D z n1 V1 G1 H1 → va_S (zA z) H0 H1 locs1 → W p l e R s m args below meth c H1 locs1 cells slots Q (F0 m (pc + 3) ls rest)) : W p l e R s m args below meth c H locs cells slots Q (F0 m pc ls st0) :=
  wk_VN hx hb hml hown hts hE (ci := 0) (by decide) rfl rfl q452 q87 nq449 q451 q29 (by decide +kernel) hM hW hS hK hk hst hsize hrest hR hdg hf kk
theorem gf_X2_120 (hx : p.tables.exec = Jvm.exec) (hb : c.code = cc) (hts : ∀ w ∈ lw_all, w.before args s = true) (hown : s.vm.findClass RX2 = some m.cls) (hE : En D cy s) (hW : Wd Y cy D z n V G H) (hK : Y.1 a = 0) (hdg : decode cc pc = .ok (.getfield 120, 3)) (kk : W p l e R s m args below meth c H locs cells slots Q (F0 m (pc + 3) ls (.int (V a 6) :: rest))) : W p l e R s m args below meth c H locs cells slots Q (F0 m pc ls (.ref a :: rest)) :=
  wk_getN hx hb hts hown hE hW (C := RX0) (T := TX0) (N := 14) (ci := 0) (k := 6) rfl inX0 (by decide) nq133 rfl (by decide) rfl hK hdg kk
theorem gf_X2_34 (hx : p.tables.exec = Jvm.exec) (hb : c.code = cc) (hts : ∀ w ∈ lw_all, w.before args s = true) (hown : s.vm.findClass RX2 = some m.cls) (hE : En D cy s) (hW : Wd Y cy D z n V G H) (hK : Y.1 a = 2) (hdg : decode cc pc = .ok (.getfield 34, 3)) (kk : W p l e R s m args below meth c H locs cells slots Q (F0 m (pc + 3) ls (.int (V a 6) :: rest))) : W p l e R s m args below meth c H locs cells slots Q (F0 m pc ls (.ref a :: rest)) :=
  wk_get hx hb hts hown hE hW (C := RX2) (T := TX2) (N := 9) (ci := 2) (k := 6) rfl inX2 (by decide) q195 rfl (by decide) rfl hK hdg kk
theorem iv_X2_152 (hx : p.tables.exec = Jvm.exec) (hb : c.code = cc) {nL : Nat} (hml : c.maxLocals = nL) (hown : s.vm.findClass RX2 = some m.cls) (hts : ∀ w ∈ lw_all, w.before args s = true) (hE : En D cy s) {d : Nat} {As : List Value} {b : Nat} {Y1 : mY} {n1 : Nat} {V1 : mV} {G1 : mG} (hM : CT l yX2_passDayOf cX2_passDayOf 3 none (rmd d) D cy z (.ref b :: As) Y n V G none Y1 n1 V1 G1) (hW : Wd Y cy D z n V G H) (hS : va_S (zA z) H0 H locs) (hK : Y.1 b = 2) (hk : As.length = 1) (hst : st0 = As.reverse ++ .ref b :: rest) (hsize : ls.size = nL) (hrest : (rest.map fun v => v.category).sum ≤ 8) (hR : (rmd d).frames + 1 ≤ R.frames ∧ 8 + (3 + 11) + (rmd d).locals ≤ R.locals) (hdg : decode cc pc = .ok (.invokevirtual 152, 3)) (hf : cells ≤ R.cells ∧ slots ≤ R.slots) (kk : ∀ (H1 : Heap) (locs1 : List Loc), Wd Y1 cy D z n1 V1 G1 H1 → va_S (zA z) H0 H1 locs1 → W p l e R s m args below meth c H1 locs1 cells slots Q (F0 m (pc + 3) ls rest)) : W p l e R s m args below meth c H locs cells slots Q (F0 m pc ls st0) :=
  wk_V hx hb hml hown hts hE (ci := 2) (by decide) rfl rfl q444 q86 q441 q443 q27 (by decide +kernel) hM hW hS hK hk hst hsize hrest hR hdg hf kk
theorem iv_X2_44 (hx : p.tables.exec = Jvm.exec) (hb : c.code = cc) {nL : Nat} (hml : c.maxLocals = nL) (hown : s.vm.findClass RX2 = some m.cls) (hts : ∀ w ∈ lw_all, w.before args s = true) (hE : En D cy s) {d : Nat} {As : List Value} {b : Nat} {Y1 : mY} {n1 : Nat} {V1 : mV} {G1 : mG} (hM : CT l yX0_copyFrom cX0_copyFrom 2 none (rmd d) D cy z (.ref b :: As) Y n V G none Y1 n1 V1 G1) (hW : Wd Y cy D z n V G H) (hS : va_S (zA z) H0 H locs) (hK : Y.1 b = 0) (hk : As.length = 1) (hst : st0 = As.reverse ++ .ref b :: rest) (hsize : ls.size = nL) (hrest : (rest.map fun v => v.category).sum ≤ 8) (hR : (rmd d).frames + 1 ≤ R.frames ∧ 8 + (2 + 11) + (rmd d).locals ≤ R.locals) (hdg : decode cc pc = .ok (.invokevirtual 44, 3)) (hf : cells ≤ R.cells ∧ slots ≤ R.slots) (kk : ∀ (H1 : Heap) (locs1 : List Loc), Wd Y1 cy D z n1 V1 G1 H1 → va_S (zA z) H0 H1 locs1 → W p l e R s m args below meth c H1 locs1 cells slots Q (F0 m (pc + 3) ls rest)) : W p l e R s m args below meth c H locs cells slots Q (F0 m pc ls st0) :=
  wk_VN hx hb hml hown hts hE (ci := 0) (by decide) rfl rfl q284 q87 nq281 q283 q1 (by decide +kernel) hM hW hS hK hk hst hsize hrest hR hdg hf kk
theorem iv_X2_72 (hx : p.tables.exec = Jvm.exec) (hb : c.code = cc) {nL : Nat} (hml : c.maxLocals = nL) (hown : s.vm.findClass RX2 = some m.cls) (hts : ∀ w ∈ lw_all, w.before args s = true) (hE : En D cy s) {d : Nat} {x : Int32} {As : List Value} {b : Nat} {Y1 : mY} {n1 : Nat} {V1 : mV} {G1 : mG} (hM : CT l yX2_stateOf cX2_stateOf 2 (some .int) (rmd d) D cy z (.ref b :: As) Y n V G (some (.int x)) Y1 n1 V1 G1) (hW : Wd Y cy D z n V G H) (hS : va_S (zA z) H0 H locs) (hK : Y.1 b = 2) (hk : As.length = 1) (hst : st0 = As.reverse ++ .ref b :: rest) (hsize : ls.size = nL) (hrest : (rest.map fun v => v.category).sum ≤ 8) (hR : (rmd d).frames + 1 ≤ R.frames ∧ 8 + (2 + 11) + (rmd d).locals ≤ R.locals) (hdg : decode cc pc = .ok (.invokevirtual 72, 3)) (hf : cells ≤ R.cells ∧ slots ≤ R.slots) (kk : ∀ (H1 : Heap) (locs1 : List Loc), Wd Y1 cy D z n1 V1 G1 H1 → va_S (zA z) H0 H1 locs1 → W p l e R s m args below meth c H1 locs1 cells slots Q (F0 m (pc + 3) ls (.int x :: rest))) : W p l e R s m args below meth c H locs cells slots Q (F0 m pc ls st0) :=
  wk_V hx hb hml hown hts hE (ci := 2) (by decide) rfl rfl q400 q86 q397 q399 q21 (by decide +kernel) hM hW hS hK hk hst hsize hrest hR hdg hf kk
theorem gf_X2_130 (hx : p.tables.exec = Jvm.exec) (hb : c.code = cc) (hts : ∀ w ∈ lw_all, w.before args s = true) (hown : s.vm.findClass RX2 = some m.cls) (hE : En D cy s) (hW : Wd Y cy D z n V G H) (hK : Y.1 a = 0) (hdg : decode cc pc = .ok (.getfield 130, 3)) (kk : W p l e R s m args below meth c H locs cells slots Q (F0 m (pc + 3) ls (.int (V a 10) :: rest))) : W p l e R s m args below meth c H locs cells slots Q (F0 m pc ls (.ref a :: rest)) :=
  wk_getN hx hb hts hown hE hW (C := RX0) (T := TX0) (N := 14) (ci := 0) (k := 10) rfl inX0 (by decide) nq144 rfl (by decide) rfl hK hdg kk
theorem iv_X2_133 (hx : p.tables.exec = Jvm.exec) (hb : c.code = cc) {nL : Nat} (hml : c.maxLocals = nL) (hown : s.vm.findClass RX2 = some m.cls) (hts : ∀ w ∈ lw_all, w.before args s = true) (hE : En D cy s) {d : Nat} {As : List Value} {b : Nat} {Y1 : mY} {n1 : Nat} {V1 : mV} {G1 : mG} (hM : CT l yX0_endBreach cX0_endBreach 1 none (rmd d) D cy z (.ref b :: As) Y n V G none Y1 n1 V1 G1) (hW : Wd Y cy D z n V G H) (hS : va_S (zA z) H0 H locs) (hK : Y.1 b = 0) (hk : As.length = 0) (hst : st0 = As.reverse ++ .ref b :: rest) (hsize : ls.size = nL) (hrest : (rest.map fun v => v.category).sum ≤ 8) (hR : (rmd d).frames + 1 ≤ R.frames ∧ 8 + (1 + 11) + (rmd d).locals ≤ R.locals) (hdg : decode cc pc = .ok (.invokevirtual 133, 3)) (hf : cells ≤ R.cells ∧ slots ≤ R.slots) (kk : ∀ (H1 : Heap) (locs1 : List Loc), Wd Y1 cy D z n1 V1 G1 H1 → va_S (zA z) H0 H1 locs1 → W p l e R s m args below meth c H1 locs1 cells slots Q (F0 m (pc + 3) ls rest)) : W p l e R s m args below meth c H locs cells slots Q (F0 m pc ls st0) :=
  wk_VN hx hb hml hown hts hE (ci := 0) (by decide) rfl rfl q309 q87 nq409 q308 q5 (by decide +kernel) hM hW hS hK hk hst hsize hrest hR hdg hf kk
theorem pf_X2_136 (hx : p.tables.exec = Jvm.exec) (hb : c.code = cc) (hts : ∀ w ∈ lw_all, w.before args s = true) (hown : s.vm.findClass RX2 = some m.cls) (hE : En D cy s) (hW : Wd Y cy D z n V G H) (hS : va_S (zA z) H0 H locs) (hK : Y.1 a = 0) (x : Int32) (hz : x = 0 ∨ x = 1) (hdg : decode cc pc = .ok (.putfield 136, 3)) (kk : ∀ (H1 : Heap) (locs1 : List Loc), Wd Y cy D z n (up2 V a 11 x) G H1 → va_S (zA z) H0 H1 locs1 → W p l e R s m args below meth c H1 locs1 cells slots Q (F0 m (pc + 3) ls rest)) : W p l e R s m args below meth c H locs cells slots Q (F0 m pc ls (.int x :: .ref a :: rest)) :=
  wk_putN hx hb hts hown hE hW hS (C := RX0) (T := TX0) (N := 14) (ci := 0) (k := 11) rfl inX0 (by decide) nq147 rfl (by decide) tyX0 tyX0_ok nmX0 rfl (ty := .boolean) (by decide +kernel) (by rcases hz with rfl | rfl <;> rfl) (by rcases hz with rfl | rfl <;> rfl) (by decide) (by rw [up2_s]; exact fce_seti (k := 11) (by decide) x) (up2_o _ _ _ _) (fun _ _ => rfl) hK hdg kk
theorem pf_X2_139 (hx : p.tables.exec = Jvm.exec) (hb : c.code = cc) (hts : ∀ w ∈ lw_all, w.before args s = true) (hown : s.vm.findClass RX2 = some m.cls) (hE : En D cy s) (hW : Wd Y cy D z n V G H) (hS : va_S (zA z) H0 H locs) (hK : Y.1 a = 0) (x : Int32) (hdg : decode cc pc = .ok (.putfield 139, 3)) (kk : ∀ (H1 : Heap) (locs1 : List Loc), Wd Y cy D z n (up2 V a 12 x) G H1 → va_S (zA z) H0 H1 locs1 → W p l e R s m args below meth c H1 locs1 cells slots Q (F0 m (pc + 3) ls rest)) : W p l e R s m args below meth c H locs cells slots Q (F0 m pc ls (.int x :: .ref a :: rest)) :=
  wk_putN hx hb hts hown hE hW hS (C := RX0) (T := TX0) (N := 14) (ci := 0) (k := 12) rfl inX0 (by decide) nq150 rfl (by decide) tyX0 tyX0_ok nmX0 rfl (ty := .int) (by decide +kernel) rfl rfl (by decide) (by rw [up2_s]; exact fce_seti (k := 12) (by decide) x) (up2_o _ _ _ _) (fun _ _ => rfl) hK hdg kk
theorem iv_X2_142 (hx : p.tables.exec = Jvm.exec) (hb : c.code = cc) {nL : Nat} (hml : c.maxLocals = nL) (hown : s.vm.findClass RX2 = some m.cls) (hts : ∀ w ∈ lw_all, w.before args s = true) (hE : En D cy s) {d : Nat} {x : Int32} {As : List Value} {b : Nat} {Y1 : mY} {n1 : Nat} {V1 : mV} {G1 : mG} (hM : CT l yX2_isVariation cX2_isVariation 3 (some .boolean) (rmd d) D cy z As Y n V G (some (.int x)) Y1 n1 V1 G1) (hW : Wd Y cy D z n V G H) (hS : va_S (zA z) H0 H locs) (hk : As.length = 3) (hst : st0 = As.reverse ++ rest) (hsize : ls.size = nL) (hrest : (rest.map fun v => v.category).sum ≤ 8) (hR : (rmd d).frames + 1 ≤ R.frames ∧ 8 + (3 + 11) + (rmd d).locals ≤ R.locals) (hdg : decode cc pc = .ok (.invokestatic 142, 3)) (hf : cells ≤ R.cells ∧ slots ≤ R.slots) (kk : ∀ (H1 : Heap) (locs1 : List Loc), Wd Y1 cy D z n1 V1 G1 H1 → va_S (zA z) H0 H1 locs1 → W p l e R s m args below meth c H1 locs1 cells slots Q (F0 m (pc + 3) ls (.int x :: rest))) : W p l e R s m args below meth c H locs cells slots Q (F0 m pc ls st0) :=
  wk_S hx hb hml hown hts hE q428 q86 q426 q427 (by decide +kernel) hM hW hS hk hst hsize hrest hR hdg hf kk
theorem iv_X2_145 (hx : p.tables.exec = Jvm.exec) (hb : c.code = cc) {nL : Nat} (hml : c.maxLocals = nL) (hown : s.vm.findClass RX2 = some m.cls) (hts : ∀ w ∈ lw_all, w.before args s = true) (hE : En D cy s) {d : Nat} {x : Int32} {As : List Value} {b : Nat} {Y1 : mY} {n1 : Nat} {V1 : mV} {G1 : mG} (hM : CT l yX2_canVary cX2_canVary 5 (some .boolean) (rmd d) D cy z (.ref b :: As) Y n V G (some (.int x)) Y1 n1 V1 G1) (hW : Wd Y cy D z n V G H) (hS : va_S (zA z) H0 H locs) (hK : Y.1 b = 2) (hk : As.length = 3) (hst : st0 = As.reverse ++ .ref b :: rest) (hsize : ls.size = nL) (hrest : (rest.map fun v => v.category).sum ≤ 8) (hR : (rmd d).frames + 1 ≤ R.frames ∧ 8 + (5 + 11) + (rmd d).locals ≤ R.locals) (hdg : decode cc pc = .ok (.invokevirtual 145, 3)) (hf : cells ≤ R.cells ∧ slots ≤ R.slots) (kk : ∀ (H1 : Heap) (locs1 : List Loc), Wd Y1 cy D z n1 V1 G1 H1 → va_S (zA z) H0 H1 locs1 → W p l e R s m args below meth c H1 locs1 cells slots Q (F0 m (pc + 3) ls (.int x :: rest))) : W p l e R s m args below meth c H locs cells slots Q (F0 m pc ls st0) :=
  wk_V hx hb hml hown hts hE (ci := 2) (by decide) rfl rfl q432 q86 q429 q431 q25 (by decide +kernel) hM hW hS hK hk hst hsize hrest hR hdg hf kk
theorem pf_X2_149 (hx : p.tables.exec = Jvm.exec) (hb : c.code = cc) (hts : ∀ w ∈ lw_all, w.before args s = true) (hown : s.vm.findClass RX2 = some m.cls) (hE : En D cy s) (hW : Wd Y cy D z n V G H) (hS : va_S (zA z) H0 H locs) (hK : Y.1 a = 0) (x : Int32) (hdg : decode cc pc = .ok (.putfield 149, 3)) (kk : ∀ (H1 : Heap) (locs1 : List Loc), Wd Y cy D z n (up2 V a 2 x) G H1 → va_S (zA z) H0 H1 locs1 → W p l e R s m args below meth c H1 locs1 cells slots Q (F0 m (pc + 3) ls rest)) : W p l e R s m args below meth c H locs cells slots Q (F0 m pc ls (.int x :: .ref a :: rest)) :=
  wk_putN hx hb hts hown hE hW hS (C := RX0) (T := TX0) (N := 14) (ci := 0) (k := 2) rfl inX0 (by decide) nq121 rfl (by decide) tyX0 tyX0_ok nmX0 rfl (ty := .int) (by decide +kernel) rfl rfl (by decide) (by rw [up2_s]; exact fce_seti (k := 2) (by decide) x) (up2_o _ _ _ _) (fun _ _ => rfl) hK hdg kk
theorem pf_X2_76 (hx : p.tables.exec = Jvm.exec) (hb : c.code = cc) (hts : ∀ w ∈ lw_all, w.before args s = true) (hown : s.vm.findClass RX2 = some m.cls) (hE : En D cy s) (hW : Wd Y cy D z n V G H) (hS : va_S (zA z) H0 H locs) (hK : Y.1 a = 0) (x : Int32) (hdg : decode cc pc = .ok (.putfield 76, 3)) (kk : ∀ (H1 : Heap) (locs1 : List Loc), Wd Y cy D z n (up2 V a 3 x) G H1 → va_S (zA z) H0 H1 locs1 → W p l e R s m args below meth c H1 locs1 cells slots Q (F0 m (pc + 3) ls rest)) : W p l e R s m args below meth c H locs cells slots Q (F0 m pc ls (.int x :: .ref a :: rest)) :=
  wk_putN hx hb hts hown hE hW hS (C := RX0) (T := TX0) (N := 14) (ci := 0) (k := 3) rfl inX0 (by decide) nq123 rfl (by decide) tyX0 tyX0_ok nmX0 rfl (ty := .int) (by decide +kernel) rfl rfl (by decide) (by rw [up2_s]; exact fce_seti (k := 3) (by decide) x) (up2_o _ _ _ _) (fun _ _ => rfl) hK hdg kk
theorem pf_X2_69 (hx : p.tables.exec = Jvm.exec) (hb : c.code = cc) (hts : ∀ w ∈ lw_all, w.before args s = true) (hown : s.vm.findClass RX2 = some m.cls) (hE : En D cy s) (hW : Wd Y cy D z n V G H) (hS : va_S (zA z) H0 H locs) (hK : Y.1 a = 0) (x : Int32) (hdg : decode cc pc = .ok (.putfield 69, 3)) (kk : ∀ (H1 : Heap) (locs1 : List Loc), Wd Y cy D z n (up2 V a 1 x) G H1 → va_S (zA z) H0 H1 locs1 → W p l e R s m args below meth c H1 locs1 cells slots Q (F0 m (pc + 3) ls rest)) : W p l e R s m args below meth c H locs cells slots Q (F0 m pc ls (.int x :: .ref a :: rest)) :=
  wk_putN hx hb hts hown hE hW hS (C := RX0) (T := TX0) (N := 14) (ci := 0) (k := 1) rfl inX0 (by decide) nq117 rfl (by decide) tyX0 tyX0_ok nmX0 rfl (ty := .int) (by decide +kernel) rfl rfl (by decide) (by rw [up2_s]; exact fce_seti (k := 1) (by decide) x) (up2_o _ _ _ _) (fun _ _ => rfl) hK hdg kk
theorem iv_X2_162 (hx : p.tables.exec = Jvm.exec) (hb : c.code = cc) {nL : Nat} (hml : c.maxLocals = nL) (hown : s.vm.findClass RX2 = some m.cls) (hts : ∀ w ∈ lw_all, w.before args s = true) (hE : En D cy s) {d : Nat} {x : Int32} {As : List Value} {b : Nat} {Y1 : mY} {n1 : Nat} {V1 : mV} {G1 : mG} (hM : CT l yX2_daysUntil cX2_daysUntil 5 (some .int) (rmd d) D cy z (.ref b :: As) Y n V G (some (.int x)) Y1 n1 V1 G1) (hW : Wd Y cy D z n V G H) (hS : va_S (zA z) H0 H locs) (hK : Y.1 b = 2) (hk : As.length = 2) (hst : st0 = As.reverse ++ .ref b :: rest) (hsize : ls.size = nL) (hrest : (rest.map fun v => v.category).sum ≤ 8) (hR : (rmd d).frames + 1 ≤ R.frames ∧ 8 + (5 + 11) + (rmd d).locals ≤ R.locals) (hdg : decode cc pc = .ok (.invokevirtual 162, 3)) (hf : cells ≤ R.cells ∧ slots ≤ R.slots) (kk : ∀ (H1 : Heap) (locs1 : List Loc), Wd Y1 cy D z n1 V1 G1 H1 → va_S (zA z) H0 H1 locs1 → W p l e R s m args below meth c H1 locs1 cells slots Q (F0 m (pc + 3) ls (.int x :: rest))) : W p l e R s m args below meth c H locs cells slots Q (F0 m pc ls st0) :=
  wk_V hx hb hml hown hts hE (ci := 2) (by decide) rfl rfl q496 q86 q508 q495 q33 (by decide +kernel) hM hW hS hK hk hst hsize hrest hR hdg hf kk
theorem gf_X4_29 (hx : p.tables.exec = Jvm.exec) (hb : c.code = cc) (hts : ∀ w ∈ lw_all, w.before args s = true) (hown : s.vm.findClass RX4 = some m.cls) (hE : En D cy s) (hW : Wd Y cy D z n V G H) (hK : Y.1 a = 4) (hdg : decode cc pc = .ok (.getfield 29, 3)) (kk : W p l e R s m args below meth c H locs cells slots Q (F0 m (pc + 3) ls (.int (V a 4) :: rest))) : W p l e R s m args below meth c H locs cells slots Q (F0 m pc ls (.ref a :: rest)) :=
  wk_get hx hb hts hown hE hW (C := RX4) (T := TX4) (N := 13) (ci := 4) (k := 4) rfl inX4 (by decide) q612 rfl (by decide) rfl hK hdg kk
theorem pf_X4_29 (hx : p.tables.exec = Jvm.exec) (hb : c.code = cc) (hts : ∀ w ∈ lw_all, w.before args s = true) (hown : s.vm.findClass RX4 = some m.cls) (hE : En D cy s) (hW : Wd Y cy D z n V G H) (hS : va_S (zA z) H0 H locs) (hK : Y.1 a = 4) (x : Int32) (hdg : decode cc pc = .ok (.putfield 29, 3)) (kk : ∀ (H1 : Heap) (locs1 : List Loc), Wd Y cy D z n (up2 V a 4 x) G H1 → va_S (zA z) H0 H1 locs1 → W p l e R s m args below meth c H1 locs1 cells slots Q (F0 m (pc + 3) ls rest)) : W p l e R s m args below meth c H locs cells slots Q (F0 m pc ls (.int x :: .ref a :: rest)) :=
  wk_put hx hb hts hown hE hW hS (C := RX4) (T := TX4) (N := 13) (ci := 4) (k := 4) rfl inX4 (by decide) q612 rfl (by decide) tyX4 tyX4_ok nmX4 rfl (ty := .int) (by decide +kernel) rfl rfl (by decide) (by rw [up2_s]; exact fce_seti (k := 4) (by decide) x) (up2_o _ _ _ _) (fun _ _ => rfl) hK hdg kk
theorem gf_X4_19 (hx : p.tables.exec = Jvm.exec) (hb : c.code = cc) (hts : ∀ w ∈ lw_all, w.before args s = true) (hown : s.vm.findClass RX4 = some m.cls) (hE : En D cy s) (hW : Wd Y cy D z n V G H) (hK : Y.1 a = 4) {q : Nat} (hG : G a 3 = some q) (hdg : decode cc pc = .ok (.getfield 19, 3)) (kk : W p l e R s m args below meth c H locs cells slots Q (F0 m (pc + 3) ls (.ref q :: rest))) : W p l e R s m args below meth c H locs cells slots Q (F0 m pc ls (.ref a :: rest)) :=
  wk_get hx hb hts hown hE hW (C := RX4) (T := TX4) (N := 13) (ci := 4) (k := 3) rfl inX4 (by decide) q611 rfl (by decide) (by show some (va_rf (G a 3)) = _; rw [hG]; rfl) hK hdg kk
theorem gf_X4_13 (hx : p.tables.exec = Jvm.exec) (hb : c.code = cc) (hts : ∀ w ∈ lw_all, w.before args s = true) (hown : s.vm.findClass RX4 = some m.cls) (hE : En D cy s) (hW : Wd Y cy D z n V G H) (hK : Y.1 a = 4) {q : Nat} (hG : G a 1 = some q) (hdg : decode cc pc = .ok (.getfield 13, 3)) (kk : W p l e R s m args below meth c H locs cells slots Q (F0 m (pc + 3) ls (.ref q :: rest))) : W p l e R s m args below meth c H locs cells slots Q (F0 m pc ls (.ref a :: rest)) :=
  wk_get hx hb hts hown hE hW (C := RX4) (T := TX4) (N := 13) (ci := 4) (k := 1) rfl inX4 (by decide) q609 rfl (by decide) (by show some (va_rf (G a 1)) = _; rw [hG]; rfl) hK hdg kk
theorem iv_X4_33 (hx : p.tables.exec = Jvm.exec) (hb : c.code = cc) {nL : Nat} (hml : c.maxLocals = nL) (hown : s.vm.findClass RX4 = some m.cls) (hts : ∀ w ∈ lw_all, w.before args s = true) (hE : En D cy s) {d : Nat} {x : Int32} {As : List Value} {b : Nat} {Y1 : mY} {n1 : Nat} {V1 : mV} {G1 : mG} (hM : CT l yX4_isError cX4_isError 1 (some .boolean) (rmd d) D cy z As Y n V G (some (.int x)) Y1 n1 V1 G1) (hW : Wd Y cy D z n V G H) (hS : va_S (zA z) H0 H locs) (hk : As.length = 1) (hst : st0 = As.reverse ++ rest) (hsize : ls.size = nL) (hrest : (rest.map fun v => v.category).sum ≤ 8) (hR : (rmd d).frames + 1 ≤ R.frames ∧ 8 + (1 + 11) + (rmd d).locals ≤ R.locals) (hdg : decode cc pc = .ok (.invokestatic 33, 3)) (hf : cells ≤ R.cells ∧ slots ≤ R.slots) (kk : ∀ (H1 : Heap) (locs1 : List Loc), Wd Y1 cy D z n1 V1 G1 H1 → va_S (zA z) H0 H1 locs1 → W p l e R s m args below meth c H1 locs1 cells slots Q (F0 m (pc + 3) ls (.int x :: rest))) : W p l e R s m args below meth c H locs cells slots Q (F0 m pc ls st0) :=
  wk_S hx hb hml hown hts hE q689 q89 q687 q688 (by decide +kernel) hM hW hS hk hst hsize hrest hR hdg hf kk
theorem iv_X4_37 (hx : p.tables.exec = Jvm.exec) (hb : c.code = cc) {nL : Nat} (hml : c.maxLocals = nL) (hown : s.vm.findClass RX4 = some m.cls) (hts : ∀ w ∈ lw_all, w.before args s = true) (hE : En D cy s) {d : Nat} {As : List Value} {b : Nat} {Y1 : mY} {n1 : Nat} {V1 : mV} {G1 : mG} (hM : CT l yX4_record cX4_record 2 none (rmd d) D cy z (.ref b :: As) Y n V G none Y1 n1 V1 G1) (hW : Wd Y cy D z n V G H) (hS : va_S (zA z) H0 H locs) (hK : Y.1 b = 4) (hk : As.length = 0) (hst : st0 = As.reverse ++ .ref b :: rest) (hsize : ls.size = nL) (hrest : (rest.map fun v => v.category).sum ≤ 8) (hR : (rmd d).frames + 1 ≤ R.frames ∧ 8 + (2 + 11) + (rmd d).locals ≤ R.locals) (hdg : decode cc pc = .ok (.invokevirtual 37, 3)) (hf : cells ≤ R.cells ∧ slots ≤ R.slots) (kk : ∀ (H1 : Heap) (locs1 : List Loc), Wd Y1 cy D z n1 V1 G1 H1 → va_S (zA z) H0 H1 locs1 → W p l e R s m args below meth c H1 locs1 cells slots Q (F0 m (pc + 3) ls rest)) : W p l e R s m args below meth c H locs cells slots Q (F0 m pc ls st0) :=
  wk_V hx hb hml hown hts hE (ci := 4) (by decide) rfl rfl q694 q89 q691 q693 q48 (by decide +kernel) hM hW hS hK hk hst hsize hrest hR hdg hf kk
theorem iv_X4_40 (hx : p.tables.exec = Jvm.exec) (hb : c.code = cc) {nL : Nat} (hml : c.maxLocals = nL) (hown : s.vm.findClass RX4 = some m.cls) (hts : ∀ w ∈ lw_all, w.before args s = true) (hE : En D cy s) {d : Nat} {x : Int32} {As : List Value} {b : Nat} {Y1 : mY} {n1 : Nat} {V1 : mV} {G1 : mG} (hM : CT l yX4_in cX4_in 6 (some .boolean) (rmd d) D cy z As Y n V G (some (.int x)) Y1 n1 V1 G1) (hW : Wd Y cy D z n V G H) (hS : va_S (zA z) H0 H locs) (hk : As.length = 3) (hst : st0 = As.reverse ++ rest) (hsize : ls.size = nL) (hrest : (rest.map fun v => v.category).sum ≤ 8) (hR : (rmd d).frames + 1 ≤ R.frames ∧ 8 + (6 + 11) + (rmd d).locals ≤ R.locals) (hdg : decode cc pc = .ok (.invokestatic 40, 3)) (hf : cells ≤ R.cells ∧ slots ≤ R.slots) (kk : ∀ (H1 : Heap) (locs1 : List Loc), Wd Y1 cy D z n1 V1 G1 H1 → va_S (zA z) H0 H1 locs1 → W p l e R s m args below meth c H1 locs1 cells slots Q (F0 m (pc + 3) ls (.int x :: rest))) : W p l e R s m args below meth c H locs cells slots Q (F0 m pc ls st0) :=
  wk_S hx hb hml hown hts hE q662 q89 q660 q661 (by decide +kernel) hM hW hS hk hst hsize hrest hR hdg hf kk
theorem iv_X4_46 (hx : p.tables.exec = Jvm.exec) (hb : c.code = cc) {nL : Nat} (hml : c.maxLocals = nL) (hown : s.vm.findClass RX4 = some m.cls) (hts : ∀ w ∈ lw_all, w.before args s = true) (hE : En D cy s) {d : Nat} {x : Int32} {As : List Value} {b : Nat} {Y1 : mY} {n1 : Nat} {V1 : mV} {G1 : mG} (hM : CT l yX4_get cX4_get 3 (some .int) (rmd d) D cy z (.ref b :: As) Y n V G (some (.int x)) Y1 n1 V1 G1) (hW : Wd Y cy D z n V G H) (hS : va_S (zA z) H0 H locs) (hK : Y.1 b = 4) (hk : As.length = 2) (hst : st0 = As.reverse ++ .ref b :: rest) (hsize : ls.size = nL) (hrest : (rest.map fun v => v.category).sum ≤ 8) (hR : (rmd d).frames + 1 ≤ R.frames ∧ 8 + (3 + 11) + (rmd d).locals ≤ R.locals) (hdg : decode cc pc = .ok (.invokevirtual 46, 3)) (hf : cells ≤ R.cells ∧ slots ≤ R.slots) (kk : ∀ (H1 : Heap) (locs1 : List Loc), Wd Y1 cy D z n1 V1 G1 H1 → va_S (zA z) H0 H1 locs1 → W p l e R s m args below meth c H1 locs1 cells slots Q (F0 m (pc + 3) ls (.int x :: rest))) : W p l e R s m args below meth c H locs cells slots Q (F0 m pc ls st0) :=
  wk_V hx hb hml hown hts hE (ci := 4) (by decide) rfl rfl q714 q89 q711 q713 q52 (by decide +kernel) hM hW hS hK hk hst hsize hrest hR hdg hf kk
theorem iv_X4_50 (hx : p.tables.exec = Jvm.exec) (hb : c.code = cc) {nL : Nat} (hml : c.maxLocals = nL) (hown : s.vm.findClass RX4 = some m.cls) (hts : ∀ w ∈ lw_all, w.before args s = true) (hE : En D cy s) {d : Nat} {x : Int32} {As : List Value} {b : Nat} {Y1 : mY} {n1 : Nat} {V1 : mV} {G1 : mG} (hM : CT l yX4_allParts cX4_allParts 2 (some .int) (rmd d) D cy z (.ref b :: As) Y n V G (some (.int x)) Y1 n1 V1 G1) (hW : Wd Y cy D z n V G H) (hS : va_S (zA z) H0 H locs) (hK : Y.1 b = 4) (hk : As.length = 1) (hst : st0 = As.reverse ++ .ref b :: rest) (hsize : ls.size = nL) (hrest : (rest.map fun v => v.category).sum ≤ 8) (hR : (rmd d).frames + 1 ≤ R.frames ∧ 8 + (2 + 11) + (rmd d).locals ≤ R.locals) (hdg : decode cc pc = .ok (.invokevirtual 50, 3)) (hf : cells ≤ R.cells ∧ slots ≤ R.slots) (kk : ∀ (H1 : Heap) (locs1 : List Loc), Wd Y1 cy D z n1 V1 G1 H1 → va_S (zA z) H0 H1 locs1 → W p l e R s m args below meth c H1 locs1 cells slots Q (F0 m (pc + 3) ls (.int x :: rest))) : W p l e R s m args below meth c H locs cells slots Q (F0 m pc ls st0) :=
  wk_V hx hb hml hown hts hE (ci := 4) (by decide) rfl rfl q722 q89 q719 q721 q54 (by decide +kernel) hM hW hS hK hk hst hsize hrest hR hdg hf kk
theorem iv_X4_57 (hx : p.tables.exec = Jvm.exec) (hb : c.code = cc) {nL : Nat} (hml : c.maxLocals = nL) (hown : s.vm.findClass RX4 = some m.cls) (hts : ∀ w ∈ lw_all, w.before args s = true) (hE : En D cy s) {d : Nat} {x : Int32} {As : List Value} {b : Nat} {Y1 : mY} {n1 : Nat} {V1 : mV} {G1 : mG} (hM : CT l yX4_isFinished cX4_isFinished 2 (some .boolean) (rmd d) D cy z (.ref b :: As) Y n V G (some (.int x)) Y1 n1 V1 G1) (hW : Wd Y cy D z n V G H) (hS : va_S (zA z) H0 H locs) (hK : Y.1 b = 4) (hk : As.length = 1) (hst : st0 = As.reverse ++ .ref b :: rest) (hsize : ls.size = nL) (hrest : (rest.map fun v => v.category).sum ≤ 8) (hR : (rmd d).frames + 1 ≤ R.frames ∧ 8 + (2 + 11) + (rmd d).locals ≤ R.locals) (hdg : decode cc pc = .ok (.invokevirtual 57, 3)) (hf : cells ≤ R.cells ∧ slots ≤ R.slots) (kk : ∀ (H1 : Heap) (locs1 : List Loc), Wd Y1 cy D z n1 V1 G1 H1 → va_S (zA z) H0 H1 locs1 → W p l e R s m args below meth c H1 locs1 cells slots Q (F0 m (pc + 3) ls (.int x :: rest))) : W p l e R s m args below meth c H locs cells slots Q (F0 m pc ls st0) :=
  wk_V hx hb hml hown hts hE (ci := 4) (by decide) rfl rfl q738 q89 q735 q737 q57 (by decide +kernel) hM hW hS hK hk hst hsize hrest hR hdg hf kk
theorem iv_X4_54 (hx : p.tables.exec = Jvm.exec) (hb : c.code = cc) {nL : Nat} (hml : c.maxLocals = nL) (hown : s.vm.findClass RX4 = some m.cls) (hts : ∀ w ∈ lw_all, w.before args s = true) (hE : En D cy s) {d : Nat} {x : Int32} {As : List Value} {b : Nat} {Y1 : mY} {n1 : Nat} {V1 : mV} {G1 : mG} (hM : CT l yX4_hasBegun cX4_hasBegun 2 (some .boolean) (rmd d) D cy z (.ref b :: As) Y n V G (some (.int x)) Y1 n1 V1 G1) (hW : Wd Y cy D z n V G H) (hS : va_S (zA z) H0 H locs) (hK : Y.1 b = 4) (hk : As.length = 1) (hst : st0 = As.reverse ++ .ref b :: rest) (hsize : ls.size = nL) (hrest : (rest.map fun v => v.category).sum ≤ 8) (hR : (rmd d).frames + 1 ≤ R.frames ∧ 8 + (2 + 11) + (rmd d).locals ≤ R.locals) (hdg : decode cc pc = .ok (.invokevirtual 54, 3)) (hf : cells ≤ R.cells ∧ slots ≤ R.slots) (kk : ∀ (H1 : Heap) (locs1 : List Loc), Wd Y1 cy D z n1 V1 G1 H1 → va_S (zA z) H0 H1 locs1 → W p l e R s m args below meth c H1 locs1 cells slots Q (F0 m (pc + 3) ls (.int x :: rest))) : W p l e R s m args below meth c H locs cells slots Q (F0 m pc ls st0) :=
  wk_V hx hb hml hown hts hE (ci := 4) (by decide) rfl rfl q676 q89 q673 q675 q45 (by decide +kernel) hM hW hS hK hk hst hsize hrest hR hdg hf kk
theorem iv_X4_60 (hx : p.tables.exec = Jvm.exec) (hb : c.code = cc) {nL : Nat} (hml : c.maxLocals = nL) (hown : s.vm.findClass RX4 = some m.cls) (hts : ∀ w ∈ lw_all, w.before args s = true) (hE : En D cy s) {d : Nat} {x : Int32} {As : List Value} {b : Nat} {Y1 : mY} {n1 : Nat} {V1 : mV} {G1 : mG} (hM : CT l yX4_isMet cX4_isMet 2 (some .boolean) (rmd d) D cy z (.ref b :: As) Y n V G (some (.int x)) Y1 n1 V1 G1) (hW : Wd Y cy D z n V G H) (hS : va_S (zA z) H0 H locs) (hK : Y.1 b = 4) (hk : As.length = 1) (hst : st0 = As.reverse ++ .ref b :: rest) (hsize : ls.size = nL) (hrest : (rest.map fun v => v.category).sum ≤ 8) (hR : (rmd d).frames + 1 ≤ R.frames ∧ 8 + (2 + 11) + (rmd d).locals ≤ R.locals) (hdg : decode cc pc = .ok (.invokevirtual 60, 3)) (hf : cells ≤ R.cells ∧ slots ≤ R.slots) (kk : ∀ (H1 : Heap) (locs1 : List Loc), Wd Y1 cy D z n1 V1 G1 H1 → va_S (zA z) H0 H1 locs1 → W p l e R s m args below meth c H1 locs1 cells slots Q (F0 m (pc + 3) ls (.int x :: rest))) : W p l e R s m args below meth c H locs cells slots Q (F0 m pc ls st0) :=
  wk_V hx hb hml hown hts hE (ci := 4) (by decide) rfl rfl q718 q89 q715 q717 q53 (by decide +kernel) hM hW hS hK hk hst hsize hrest hR hdg hf kk
theorem iv_X4_63 (hx : p.tables.exec = Jvm.exec) (hb : c.code = cc) {nL : Nat} (hml : c.maxLocals = nL) (hown : s.vm.findClass RX4 = some m.cls) (hts : ∀ w ∈ lw_all, w.before args s = true) (hE : En D cy s) {d : Nat} {x : Int32} {As : List Value} {b : Nat} {Y1 : mY} {n1 : Nat} {V1 : mV} {G1 : mG} (hM : CT l yX4_isAsleep cX4_isAsleep 4 (some .boolean) (rmd d) D cy z (.ref b :: As) Y n V G (some (.int x)) Y1 n1 V1 G1) (hW : Wd Y cy D z n V G H) (hS : va_S (zA z) H0 H locs) (hK : Y.1 b = 4) (hk : As.length = 1) (hst : st0 = As.reverse ++ .ref b :: rest) (hsize : ls.size = nL) (hrest : (rest.map fun v => v.category).sum ≤ 8) (hR : (rmd d).frames + 1 ≤ R.frames ∧ 8 + (4 + 11) + (rmd d).locals ≤ R.locals) (hdg : decode cc pc = .ok (.invokevirtual 63, 3)) (hf : cells ≤ R.cells ∧ slots ≤ R.slots) (kk : ∀ (H1 : Heap) (locs1 : List Loc), Wd Y1 cy D z n1 V1 G1 H1 → va_S (zA z) H0 H1 locs1 → W p l e R s m args below meth c H1 locs1 cells slots Q (F0 m (pc + 3) ls (.int x :: rest))) : W p l e R s m args below meth c H locs cells slots Q (F0 m pc ls st0) :=
  wk_V hx hb hml hown hts hE (ci := 4) (by decide) rfl rfl q785 q89 q782 q784 q65 (by decide +kernel) hM hW hS hK hk hst hsize hrest hR hdg hf kk
theorem iv_X4_66 (hx : p.tables.exec = Jvm.exec) (hb : c.code = cc) {nL : Nat} (hml : c.maxLocals = nL) (hown : s.vm.findClass RX4 = some m.cls) (hts : ∀ w ∈ lw_all, w.before args s = true) (hE : En D cy s) {d : Nat} {As : List Value} {b : Nat} {Y1 : mY} {n1 : Nat} {V1 : mV} {G1 : mG} (hM : CT l yX4_put cX4_put 4 none (rmd d) D cy z (.ref b :: As) Y n V G none Y1 n1 V1 G1) (hW : Wd Y cy D z n V G H) (hS : va_S (zA z) H0 H locs) (hK : Y.1 b = 4) (hk : As.length = 3) (hst : st0 = As.reverse ++ .ref b :: rest) (hsize : ls.size = nL) (hrest : (rest.map fun v => v.category).sum ≤ 8) (hR : (rmd d).frames + 1 ≤ R.frames ∧ 8 + (4 + 11) + (rmd d).locals ≤ R.locals) (hdg : decode cc pc = .ok (.invokevirtual 66, 3)) (hf : cells ≤ R.cells ∧ slots ≤ R.slots) (kk : ∀ (H1 : Heap) (locs1 : List Loc), Wd Y1 cy D z n1 V1 G1 H1 → va_S (zA z) H0 H1 locs1 → W p l e R s m args below meth c H1 locs1 cells slots Q (F0 m (pc + 3) ls rest)) : W p l e R s m args below meth c H locs cells slots Q (F0 m pc ls st0) :=
  wk_V hx hb hml hown hts hE (ci := 4) (by decide) rfl rfl q682 q89 q679 q681 q46 (by decide +kernel) hM hW hS hK hk hst hsize hrest hR hdg hf kk
theorem iv_X4_70 (hx : p.tables.exec = Jvm.exec) (hb : c.code = cc) {nL : Nat} (hml : c.maxLocals = nL) (hown : s.vm.findClass RX4 = some m.cls) (hts : ∀ w ∈ lw_all, w.before args s = true) (hE : En D cy s) {d : Nat} {As : List Value} {b : Nat} {Y1 : mY} {n1 : Nat} {V1 : mV} {G1 : mG} (hM : CT l yX4_mends cX4_mends 2 none (rmd d) D cy z (.ref b :: As) Y n V G none Y1 n1 V1 G1) (hW : Wd Y cy D z n V G H) (hS : va_S (zA z) H0 H locs) (hK : Y.1 b = 4) (hk : As.length = 1) (hst : st0 = As.reverse ++ .ref b :: rest) (hsize : ls.size = nL) (hrest : (rest.map fun v => v.category).sum ≤ 8) (hR : (rmd d).frames + 1 ≤ R.frames ∧ 8 + (2 + 11) + (rmd d).locals ≤ R.locals) (hdg : decode cc pc = .ok (.invokevirtual 70, 3)) (hf : cells ≤ R.cells ∧ slots ≤ R.slots) (kk : ∀ (H1 : Heap) (locs1 : List Loc), Wd Y1 cy D z n1 V1 G1 H1 → va_S (zA z) H0 H1 locs1 → W p l e R s m args below meth c H1 locs1 cells slots Q (F0 m (pc + 3) ls rest)) : W p l e R s m args below meth c H locs cells slots Q (F0 m pc ls st0) :=
  wk_V hx hb hml hown hts hE (ci := 4) (by decide) rfl rfl q766 q89 q763 q765 q62 (by decide +kernel) hM hW hS hK hk hst hsize hrest hR hdg hf kk
theorem iv_X4_78 (hx : p.tables.exec = Jvm.exec) (hb : c.code = cc) {nL : Nat} (hml : c.maxLocals = nL) (hown : s.vm.findClass RX4 = some m.cls) (hts : ∀ w ∈ lw_all, w.before args s = true) (hE : En D cy s) {d : Nat} {x : Int32} {As : List Value} {b : Nat} {Y1 : mY} {n1 : Nat} {V1 : mV} {G1 : mG} (hM : CT l yX4_isStage cX4_isStage 1 (some .boolean) (rmd d) D cy z As Y n V G (some (.int x)) Y1 n1 V1 G1) (hW : Wd Y cy D z n V G H) (hS : va_S (zA z) H0 H locs) (hk : As.length = 1) (hst : st0 = As.reverse ++ rest) (hsize : ls.size = nL) (hrest : (rest.map fun v => v.category).sum ≤ 8) (hR : (rmd d).frames + 1 ≤ R.frames ∧ 8 + (1 + 11) + (rmd d).locals ≤ R.locals) (hdg : decode cc pc = .ok (.invokestatic 78, 3)) (hf : cells ≤ R.cells ∧ slots ≤ R.slots) (kk : ∀ (H1 : Heap) (locs1 : List Loc), Wd Y1 cy D z n1 V1 G1 H1 → va_S (zA z) H0 H1 locs1 → W p l e R s m args below meth c H1 locs1 cells slots Q (F0 m (pc + 3) ls (.int x :: rest))) : W p l e R s m args below meth c H locs cells slots Q (F0 m pc ls st0) :=
  wk_S hx hb hml hown hts hE q665 q89 q663 q664 (by decide +kernel) hM hW hS hk hst hsize hrest hR hdg hf kk
theorem iv_X4_81 (hx : p.tables.exec = Jvm.exec) (hb : c.code = cc) {nL : Nat} (hml : c.maxLocals = nL) (hown : s.vm.findClass RX4 = some m.cls) (hts : ∀ w ∈ lw_all, w.before args s = true) (hE : En D cy s) {d : Nat} {x : Int32} {As : List Value} {b : Nat} {Y1 : mY} {n1 : Nat} {V1 : mV} {G1 : mG} (hM : CT l yX4_areDays cX4_areDays 2 (some .boolean) (rmd d) D cy z As Y n V G (some (.int x)) Y1 n1 V1 G1) (hW : Wd Y cy D z n V G H) (hS : va_S (zA z) H0 H locs) (hk : As.length = 2) (hst : st0 = As.reverse ++ rest) (hsize : ls.size = nL) (hrest : (rest.map fun v => v.category).sum ≤ 8) (hR : (rmd d).frames + 1 ≤ R.frames ∧ 8 + (2 + 11) + (rmd d).locals ≤ R.locals) (hdg : decode cc pc = .ok (.invokestatic 81, 3)) (hf : cells ≤ R.cells ∧ slots ≤ R.slots) (kk : ∀ (H1 : Heap) (locs1 : List Loc), Wd Y1 cy D z n1 V1 G1 H1 → va_S (zA z) H0 H1 locs1 → W p l e R s m args below meth c H1 locs1 cells slots Q (F0 m (pc + 3) ls (.int x :: rest))) : W p l e R s m args below meth c H locs cells slots Q (F0 m pc ls st0) :=
  wk_S hx hb hml hown hts hE q669 q89 q667 q668 (by decide +kernel) hM hW hS hk hst hsize hrest hR hdg hf kk
theorem iv_X4_90 (hx : p.tables.exec = Jvm.exec) (hb : c.code = cc) {nL : Nat} (hml : c.maxLocals = nL) (hown : s.vm.findClass RX4 = some m.cls) (hts : ∀ w ∈ lw_all, w.before args s = true) (hE : En D cy s) {d : Nat} {x : Int32} {As : List Value} {b : Nat} {Y1 : mY} {n1 : Nat} {V1 : mV} {G1 : mG} (hM : CT l yX4_mayBegin cX4_mayBegin 2 (some .boolean) (rmd d) D cy z (.ref b :: As) Y n V G (some (.int x)) Y1 n1 V1 G1) (hW : Wd Y cy D z n V G H) (hS : va_S (zA z) H0 H locs) (hK : Y.1 b = 4) (hk : As.length = 1) (hst : st0 = As.reverse ++ .ref b :: rest) (hsize : ls.size = nL) (hrest : (rest.map fun v => v.category).sum ≤ 8) (hR : (rmd d).frames + 1 ≤ R.frames ∧ 8 + (2 + 11) + (rmd d).locals ≤ R.locals) (hdg : decode cc pc = .ok (.invokevirtual 90, 3)) (hf : cells ≤ R.cells ∧ slots ≤ R.slots) (kk : ∀ (H1 : Heap) (locs1 : List Loc), Wd Y1 cy D z n1 V1 G1 H1 → va_S (zA z) H0 H1 locs1 → W p l e R s m args below meth c H1 locs1 cells slots Q (F0 m (pc + 3) ls (.int x :: rest))) : W p l e R s m args below meth c H locs cells slots Q (F0 m pc ls st0) :=
  wk_V hx hb hml hown hts hE (ci := 4) (by decide) rfl rfl q706 q89 q703 q705 q50 (by decide +kernel) hM hW hS hK hk hst hsize hrest hR hdg hf kk
theorem iv_X4_93 (hx : p.tables.exec = Jvm.exec) (hb : c.code = cc) {nL : Nat} (hml : c.maxLocals = nL) (hown : s.vm.findClass RX4 = some m.cls) (hts : ∀ w ∈ lw_all, w.before args s = true) (hE : En D cy s) {d : Nat} {x : Int32} {As : List Value} {b : Nat} {Y1 : mY} {n1 : Nat} {V1 : mV} {G1 : mG} (hM : CT l yX4_unmetAhead cX4_unmetAhead 4 (some .int) (rmd d) D cy z (.ref b :: As) Y n V G (some (.int x)) Y1 n1 V1 G1) (hW : Wd Y cy D z n V G H) (hS : va_S (zA z) H0 H locs) (hK : Y.1 b = 4) (hk : As.length = 1) (hst : st0 = As.reverse ++ .ref b :: rest) (hsize : ls.size = nL) (hrest : (rest.map fun v => v.category).sum ≤ 8) (hR : (rmd d).frames + 1 ≤ R.frames ∧ 8 + (4 + 11) + (rmd d).locals ≤ R.locals) (hdg : decode cc pc = .ok (.invokevirtual 93, 3)) (hf : cells ≤ R.cells ∧ slots ≤ R.slots) (kk : ∀ (H1 : Heap) (locs1 : List Loc), Wd Y1 cy D z n1 V1 G1 H1 → va_S (zA z) H0 H1 locs1 → W p l e R s m args below meth c H1 locs1 cells slots Q (F0 m (pc + 3) ls (.int x :: rest))) : W p l e R s m args below meth c H locs cells slots Q (F0 m pc ls st0) :=
  wk_V hx hb hml hown hts hE (ci := 4) (by decide) rfl rfl q710 q89 q707 q709 q51 (by decide +kernel) hM hW hS hK hk hst hsize hrest hR hdg hf kk
theorem iv_X4_96 (hx : p.tables.exec = Jvm.exec) (hb : c.code = cc) {nL : Nat} (hml : c.maxLocals = nL) (hown : s.vm.findClass RX4 = some m.cls) (hts : ∀ w ∈ lw_all, w.before args s = true) (hE : En D cy s) {d : Nat} {As : List Value} {b : Nat} {Y1 : mY} {n1 : Nat} {V1 : mV} {G1 : mG} (hM : CT l yX4_breaks cX4_breaks 2 none (rmd d) D cy z (.ref b :: As) Y n V G none Y1 n1 V1 G1) (hW : Wd Y cy D z n V G H) (hS : va_S (zA z) H0 H locs) (hK : Y.1 b = 4) (hk : As.length = 1) (hst : st0 = As.reverse ++ .ref b :: rest) (hsize : ls.size = nL) (hrest : (rest.map fun v => v.category).sum ≤ 8) (hR : (rmd d).frames + 1 ≤ R.frames ∧ 8 + (2 + 11) + (rmd d).locals ≤ R.locals) (hdg : decode cc pc = .ok (.invokevirtual 96, 3)) (hf : cells ≤ R.cells ∧ slots ≤ R.slots) (kk : ∀ (H1 : Heap) (locs1 : List Loc), Wd Y1 cy D z n1 V1 G1 H1 → va_S (zA z) H0 H1 locs1 → W p l e R s m args below meth c H1 locs1 cells slots Q (F0 m (pc + 3) ls rest)) : W p l e R s m args below meth c H locs cells slots Q (F0 m pc ls st0) :=
  wk_V hx hb hml hown hts hE (ci := 4) (by decide) rfl rfl q726 q89 q723 q725 q55 (by decide +kernel) hM hW hS hK hk hst hsize hrest hR hdg hf kk
theorem iv_X4_99 (hx : p.tables.exec = Jvm.exec) (hb : c.code = cc) {nL : Nat} (hml : c.maxLocals = nL) (hown : s.vm.findClass RX4 = some m.cls) (hts : ∀ w ∈ lw_all, w.before args s = true) (hE : En D cy s) {d : Nat} {x : Int32} {As : List Value} {b : Nat} {Y1 : mY} {n1 : Nat} {V1 : mV} {G1 : mG} (hM : CT l yX4_isCondition cX4_isCondition 2 (some .boolean) (rmd d) D cy z (.ref b :: As) Y n V G (some (.int x)) Y1 n1 V1 G1) (hW : Wd Y cy D z n V G H) (hS : va_S (zA z) H0 H locs) (hK : Y.1 b = 4) (hk : As.length = 1) (hst : st0 = As.reverse ++ .ref b :: rest) (hsize : ls.size = nL) (hrest : (rest.map fun v => v.category).sum ≤ 8) (hR : (rmd d).frames + 1 ≤ R.frames ∧ 8 + (2 + 11) + (rmd d).locals ≤ R.locals) (hdg : decode cc pc = .ok (.invokevirtual 99, 3)) (hf : cells ≤ R.cells ∧ slots ≤ R.slots) (kk : ∀ (H1 : Heap) (locs1 : List Loc), Wd Y1 cy D z n1 V1 G1 H1 → va_S (zA z) H0 H1 locs1 → W p l e R s m args below meth c H1 locs1 cells slots Q (F0 m (pc + 3) ls (.int x :: rest))) : W p l e R s m args below meth c H locs cells slots Q (F0 m pc ls st0) :=
  wk_V hx hb hml hown hts hE (ci := 4) (by decide) rfl rfl q750 q89 q747 q749 q59 (by decide +kernel) hM hW hS hK hk hst hsize hrest hR hdg hf kk
theorem iv_X4_102 (hx : p.tables.exec = Jvm.exec) (hb : c.code = cc) {nL : Nat} (hml : c.maxLocals = nL) (hown : s.vm.findClass RX4 = some m.cls) (hts : ∀ w ∈ lw_all, w.before args s = true) (hE : En D cy s) {d : Nat} {As : List Value} {b : Nat} {Y1 : mY} {n1 : Nat} {V1 : mV} {G1 : mG} (hM : CT l yX4_approves cX4_approves 3 none (rmd d) D cy z (.ref b :: As) Y n V G none Y1 n1 V1 G1) (hW : Wd Y cy D z n V G H) (hS : va_S (zA z) H0 H locs) (hK : Y.1 b = 4) (hk : As.length = 2) (hst : st0 = As.reverse ++ .ref b :: rest) (hsize : ls.size = nL) (hrest : (rest.map fun v => v.category).sum ≤ 8) (hR : (rmd d).frames + 1 ≤ R.frames ∧ 8 + (3 + 11) + (rmd d).locals ≤ R.locals) (hdg : decode cc pc = .ok (.invokevirtual 102, 3)) (hf : cells ≤ R.cells ∧ slots ≤ R.slots) (kk : ∀ (H1 : Heap) (locs1 : List Loc), Wd Y1 cy D z n1 V1 G1 H1 → va_S (zA z) H0 H1 locs1 → W p l e R s m args below meth c H1 locs1 cells slots Q (F0 m (pc + 3) ls rest)) : W p l e R s m args below meth c H locs cells slots Q (F0 m pc ls st0) :=
  wk_V hx hb hml hown hts hE (ci := 4) (by decide) rfl rfl q762 q89 q759 q761 q61 (by decide +kernel) hM hW hS hK hk hst hsize hrest hR hdg hf kk
theorem iv_X4_106 (hx : p.tables.exec = Jvm.exec) (hb : c.code = cc) {nL : Nat} (hml : c.maxLocals = nL) (hown : s.vm.findClass RX4 = some m.cls) (hts : ∀ w ∈ lw_all, w.before args s = true) (hE : En D cy s) {d : Nat} {x : Int32} {As : List Value} {b : Nat} {Y1 : mY} {n1 : Nat} {V1 : mV} {G1 : mG} (hM : CT l yX4_bits cX4_bits 3 (some .int) (rmd d) D cy z As Y n V G (some (.int x)) Y1 n1 V1 G1) (hW : Wd Y cy D z n V G H) (hS : va_S (zA z) H0 H locs) (hk : As.length = 1) (hst : st0 = As.reverse ++ rest) (hsize : ls.size = nL) (hrest : (rest.map fun v => v.category).sum ≤ 8) (hR : (rmd d).frames + 1 ≤ R.frames ∧ 8 + (3 + 11) + (rmd d).locals ≤ R.locals) (hdg : decode cc pc = .ok (.invokestatic 106, 3)) (hf : cells ≤ R.cells ∧ slots ≤ R.slots) (kk : ∀ (H1 : Heap) (locs1 : List Loc), Wd Y1 cy D z n1 V1 G1 H1 → va_S (zA z) H0 H1 locs1 → W p l e R s m args below meth c H1 locs1 cells slots Q (F0 m (pc + 3) ls (.int x :: rest))) : W p l e R s m args below meth c H locs cells slots Q (F0 m pc ls st0) :=
  wk_S hx hb hml hown hts hE q769 q89 q767 q768 (by decide +kernel) hM hW hS hk hst hsize hrest hR hdg hf kk
theorem iv_X4_109 (hx : p.tables.exec = Jvm.exec) (hb : c.code = cc) {nL : Nat} (hml : c.maxLocals = nL) (hown : s.vm.findClass RX4 = some m.cls) (hts : ∀ w ∈ lw_all, w.before args s = true) (hE : En D cy s) {d : Nat} {x : Int32} {As : List Value} {b : Nat} {Y1 : mY} {n1 : Nat} {V1 : mV} {G1 : mG} (hM : CT l yX4_stateOf cX4_stateOf 2 (some .int) (rmd d) D cy z (.ref b :: As) Y n V G (some (.int x)) Y1 n1 V1 G1) (hW : Wd Y cy D z n V G H) (hS : va_S (zA z) H0 H locs) (hK : Y.1 b = 4) (hk : As.length = 1) (hst : st0 = As.reverse ++ .ref b :: rest) (hsize : ls.size = nL) (hrest : (rest.map fun v => v.category).sum ≤ 8) (hR : (rmd d).frames + 1 ≤ R.frames ∧ 8 + (2 + 11) + (rmd d).locals ≤ R.locals) (hdg : decode cc pc = .ok (.invokevirtual 109, 3)) (hf : cells ≤ R.cells ∧ slots ≤ R.slots) (kk : ∀ (H1 : Heap) (locs1 : List Loc), Wd Y1 cy D z n1 V1 G1 H1 → va_S (zA z) H0 H1 locs1 → W p l e R s m args below meth c H1 locs1 cells slots Q (F0 m (pc + 3) ls (.int x :: rest))) : W p l e R s m args below meth c H locs cells slots Q (F0 m pc ls st0) :=
  wk_V hx hb hml hown hts hE (ci := 4) (by decide) rfl rfl q781 q89 q778 q780 q64 (by decide +kernel) hM hW hS hK hk hst hsize hrest hR hdg hf kk
theorem iv_X4_114 (hx : p.tables.exec = Jvm.exec) (hb : c.code = cc) {nL : Nat} (hml : c.maxLocals = nL) (hown : s.vm.findClass RX4 = some m.cls) (hts : ∀ w ∈ lw_all, w.before args s = true) (hE : En D cy s) {d : Nat} {x : Int32} {As : List Value} {b : Nat} {Y1 : mY} {n1 : Nat} {V1 : mV} {G1 : mG} (hM : CT l yX4_isValue cX4_isValue 4 (some .boolean) (rmd d) D cy z (.ref b :: As) Y n V G (some (.int x)) Y1 n1 V1 G1) (hW : Wd Y cy D z n V G H) (hS : va_S (zA z) H0 H locs) (hK : Y.1 b = 4) (hk : As.length = 3) (hst : st0 = As.reverse ++ .ref b :: rest) (hsize : ls.size = nL) (hrest : (rest.map fun v => v.category).sum ≤ 8) (hR : (rmd d).frames + 1 ≤ R.frames ∧ 8 + (4 + 11) + (rmd d).locals ≤ R.locals) (hdg : decode cc pc = .ok (.invokevirtual 114, 3)) (hf : cells ≤ R.cells ∧ slots ≤ R.slots) (kk : ∀ (H1 : Heap) (locs1 : List Loc), Wd Y1 cy D z n1 V1 G1 H1 → va_S (zA z) H0 H1 locs1 → W p l e R s m args below meth c H1 locs1 cells slots Q (F0 m (pc + 3) ls (.int x :: rest))) : W p l e R s m args below meth c H locs cells slots Q (F0 m pc ls st0) :=
  wk_V hx hb hml hown hts hE (ci := 4) (by decide) rfl rfl q814 q89 q811 q813 q69 (by decide +kernel) hM hW hS hK hk hst hsize hrest hR hdg hf kk
theorem iv_X4_118 (hx : p.tables.exec = Jvm.exec) (hb : c.code = cc) {nL : Nat} (hml : c.maxLocals = nL) (hown : s.vm.findClass RX4 = some m.cls) (hts : ∀ w ∈ lw_all, w.before args s = true) (hE : En D cy s) {d : Nat} {x : Int32} {As : List Value} {b : Nat} {Y1 : mY} {n1 : Nat} {V1 : mV} {G1 : mG} (hM : CT l yX4_mayVary cX4_mayVary 5 (some .boolean) (rmd d) D cy z (.ref b :: As) Y n V G (some (.int x)) Y1 n1 V1 G1) (hW : Wd Y cy D z n V G H) (hS : va_S (zA z) H0 H locs) (hK : Y.1 b = 4) (hk : As.length = 3) (hst : st0 = As.reverse ++ .ref b :: rest) (hsize : ls.size = nL) (hrest : (rest.map fun v => v.category).sum ≤ 8) (hR : (rmd d).frames + 1 ≤ R.frames ∧ 8 + (5 + 11) + (rmd d).locals ≤ R.locals) (hdg : decode cc pc = .ok (.invokevirtual 118, 3)) (hf : cells ≤ R.cells ∧ slots ≤ R.slots) (kk : ∀ (H1 : Heap) (locs1 : List Loc), Wd Y1 cy D z n1 V1 G1 H1 → va_S (zA z) H0 H1 locs1 → W p l e R s m args below meth c H1 locs1 cells slots Q (F0 m (pc + 3) ls (.int x :: rest))) : W p l e R s m args below meth c H locs cells slots Q (F0 m pc ls st0) :=
  wk_V hx hb hml hown hts hE (ci := 4) (by decide) rfl rfl q818 q89 q815 q817 q70 (by decide +kernel) hM hW hS hK hk hst hsize hrest hR hdg hf kk
theorem iv_X4_127 (hx : p.tables.exec = Jvm.exec) (hb : c.code = cc) {nL : Nat} (hml : c.maxLocals = nL) (hown : s.vm.findClass RX4 = some m.cls) (hts : ∀ w ∈ lw_all, w.before args s = true) (hE : En D cy s) {d : Nat} {As : List Value} {b : Nat} {Y1 : mY} {n1 : Nat} {V1 : mV} {G1 : mG} (hM : CT l yX4_ages cX4_ages 3 none (rmd d) D cy z (.ref b :: As) Y n V G none Y1 n1 V1 G1) (hW : Wd Y cy D z n V G H) (hS : va_S (zA z) H0 H locs) (hK : Y.1 b = 4) (hk : As.length = 1) (hst : st0 = As.reverse ++ .ref b :: rest) (hsize : ls.size = nL) (hrest : (rest.map fun v => v.category).sum ≤ 8) (hR : (rmd d).frames + 1 ≤ R.frames ∧ 8 + (3 + 11) + (rmd d).locals ≤ R.locals) (hdg : decode cc pc = .ok (.invokevirtual 127, 3)) (hf : cells ≤ R.cells ∧ slots ≤ R.slots) (kk : ∀ (H1 : Heap) (locs1 : List Loc), Wd Y1 cy D z n1 V1 G1 H1 → va_S (zA z) H0 H1 locs1 → W p l e R s m args below meth c H1 locs1 cells slots Q (F0 m (pc + 3) ls rest)) : W p l e R s m args below meth c H locs cells slots Q (F0 m pc ls st0) :=
  wk_V hx hb hml hown hts hE (ci := 4) (by decide) rfl rfl q843 q89 q840 q842 q75 (by decide +kernel) hM hW hS hK hk hst hsize hrest hR hdg hf kk
theorem iv_X4_124 (hx : p.tables.exec = Jvm.exec) (hb : c.code = cc) {nL : Nat} (hml : c.maxLocals = nL) (hown : s.vm.findClass RX4 = some m.cls) (hts : ∀ w ∈ lw_all, w.before args s = true) (hE : En D cy s) {d : Nat} {As : List Value} {b : Nat} {Y1 : mY} {n1 : Nat} {V1 : mV} {G1 : mG} (hM : CT l yX4_runsOn cX4_runsOn 4 none (rmd d) D cy z (.ref b :: As) Y n V G none Y1 n1 V1 G1) (hW : Wd Y cy D z n V G H) (hS : va_S (zA z) H0 H locs) (hK : Y.1 b = 4) (hk : As.length = 1) (hst : st0 = As.reverse ++ .ref b :: rest) (hsize : ls.size = nL) (hrest : (rest.map fun v => v.category).sum ≤ 8) (hR : (rmd d).frames + 1 ≤ R.frames ∧ 8 + (4 + 11) + (rmd d).locals ≤ R.locals) (hdg : decode cc pc = .ok (.invokevirtual 124, 3)) (hf : cells ≤ R.cells ∧ slots ≤ R.slots) (kk : ∀ (H1 : Heap) (locs1 : List Loc), Wd Y1 cy D z n1 V1 G1 H1 → va_S (zA z) H0 H1 locs1 → W p l e R s m args below meth c H1 locs1 cells slots Q (F0 m (pc + 3) ls rest)) : W p l e R s m args below meth c H locs cells slots Q (F0 m pc ls st0) :=
  wk_V hx hb hml hown hts hE (ci := 4) (by decide) rfl rfl q839 q89 q836 q838 q74 (by decide +kernel) hM hW hS hK hk hst hsize hrest hR hdg hf kk
theorem iv_X4_121 (hx : p.tables.exec = Jvm.exec) (hb : c.code = cc) {nL : Nat} (hml : c.maxLocals = nL) (hown : s.vm.findClass RX4 = some m.cls) (hts : ∀ w ∈ lw_all, w.before args s = true) (hE : En D cy s) {d : Nat} {As : List Value} {b : Nat} {Y1 : mY} {n1 : Nat} {V1 : mV} {G1 : mG} (hM : CT l yX4_waitsOn cX4_waitsOn 2 none (rmd d) D cy z (.ref b :: As) Y n V G none Y1 n1 V1 G1) (hW : Wd Y cy D z n V G H) (hS : va_S (zA z) H0 H locs) (hK : Y.1 b = 4) (hk : As.length = 1) (hst : st0 = As.reverse ++ .ref b :: rest) (hsize : ls.size = nL) (hrest : (rest.map fun v => v.category).sum ≤ 8) (hR : (rmd d).frames + 1 ≤ R.frames ∧ 8 + (2 + 11) + (rmd d).locals ≤ R.locals) (hdg : decode cc pc = .ok (.invokevirtual 121, 3)) (hf : cells ≤ R.cells ∧ slots ≤ R.slots) (kk : ∀ (H1 : Heap) (locs1 : List Loc), Wd Y1 cy D z n1 V1 G1 H1 → va_S (zA z) H0 H1 locs1 → W p l e R s m args below meth c H1 locs1 cells slots Q (F0 m (pc + 3) ls rest)) : W p l e R s m args below meth c H locs cells slots Q (F0 m pc ls st0) :=
  wk_V hx hb hml hown hts hE (ci := 4) (by decide) rfl rfl q835 q89 q832 q834 q73 (by decide +kernel) hM hW hS hK hk hst hsize hrest hR hdg hf kk
theorem iv_X4_132 (hx : p.tables.exec = Jvm.exec) (hb : c.code = cc) {nL : Nat} (hml : c.maxLocals = nL) (hown : s.vm.findClass RX4 = some m.cls) (hts : ∀ w ∈ lw_all, w.before args s = true) (hE : En D cy s) {d : Nat} {As : List Value} {b : Nat} {Y1 : mY} {n1 : Nat} {V1 : mV} {G1 : mG} (hM : CT l yX4_passDay cX4_passDay 3 none (rmd d) D cy z (.ref b :: As) Y n V G none Y1 n1 V1 G1) (hW : Wd Y cy D z n V G H) (hS : va_S (zA z) H0 H locs) (hK : Y.1 b = 4) (hk : As.length = 0) (hst : st0 = As.reverse ++ .ref b :: rest) (hsize : ls.size = nL) (hrest : (rest.map fun v => v.category).sum ≤ 8) (hR : (rmd d).frames + 1 ≤ R.frames ∧ 8 + (3 + 11) + (rmd d).locals ≤ R.locals) (hdg : decode cc pc = .ok (.invokevirtual 132, 3)) (hf : cells ≤ R.cells ∧ slots ≤ R.slots) (kk : ∀ (H1 : Heap) (locs1 : List Loc), Wd Y1 cy D z n1 V1 G1 H1 → va_S (zA z) H0 H1 locs1 → W p l e R s m args below meth c H1 locs1 cells slots Q (F0 m (pc + 3) ls rest)) : W p l e R s m args below meth c H locs cells slots Q (F0 m pc ls st0) :=
  wk_V hx hb hml hown hts hE (ci := 4) (by decide) rfl rfl q831 q89 q828 q830 q72 (by decide +kernel) hM hW hS hK hk hst hsize hrest hR hdg hf kk
theorem iv_X4_135 (hx : p.tables.exec = Jvm.exec) (hb : c.code = cc) {nL : Nat} (hml : c.maxLocals = nL) (hown : s.vm.findClass RX4 = some m.cls) (hts : ∀ w ∈ lw_all, w.before args s = true) (hE : En D cy s) {d : Nat} {As : List Value} {b : Nat} {Y1 : mY} {n1 : Nat} {V1 : mV} {G1 : mG} (hM : CT l yX4_copy cX4_copy 3 none (rmd d) D cy z As Y n V G none Y1 n1 V1 G1) (hW : Wd Y cy D z n V G H) (hS : va_S (zA z) H0 H locs) (hk : As.length = 2) (hst : st0 = As.reverse ++ rest) (hsize : ls.size = nL) (hrest : (rest.map fun v => v.category).sum ≤ 8) (hR : (rmd d).frames + 1 ≤ R.frames ∧ 8 + (3 + 11) + (rmd d).locals ≤ R.locals) (hdg : decode cc pc = .ok (.invokestatic 135, 3)) (hf : cells ≤ R.cells ∧ slots ≤ R.slots) (kk : ∀ (H1 : Heap) (locs1 : List Loc), Wd Y1 cy D z n1 V1 G1 H1 → va_S (zA z) H0 H1 locs1 → W p l e R s m args below meth c H1 locs1 cells slots Q (F0 m (pc + 3) ls rest)) : W p l e R s m args below meth c H locs cells slots Q (F0 m pc ls st0) :=
  wk_S hx hb hml hown hts hE q654 q89 q652 q653 (by decide +kernel) hM hW hS hk hst hsize hrest hR hdg hf kk
theorem iv_X4_139 (hx : p.tables.exec = Jvm.exec) (hb : c.code = cc) {nL : Nat} (hml : c.maxLocals = nL) (hown : s.vm.findClass RX4 = some m.cls) (hts : ∀ w ∈ lw_all, w.before args s = true) (hE : En D cy s) {d : Nat} {x : Int32} {As : List Value} {b : Nat} {Y1 : mY} {n1 : Nat} {V1 : mV} {G1 : mG} (hM : CT l yX4_doCondition cX4_doCondition 7 (some .int) (rmd d) D cy z (.ref b :: As) Y n V G (some (.int x)) Y1 n1 V1 G1) (hW : Wd Y cy D z n V G H) (hS : va_S (zA z) H0 H locs) (hK : Y.1 b = 4) (hk : As.length = 4) (hst : st0 = As.reverse ++ .ref b :: rest) (hsize : ls.size = nL) (hrest : (rest.map fun v => v.category).sum ≤ 8) (hR : (rmd d).frames + 1 ≤ R.frames ∧ 8 + (7 + 11) + (rmd d).locals ≤ R.locals) (hdg : decode cc pc = .ok (.invokevirtual 139, 3)) (hf : cells ≤ R.cells ∧ slots ≤ R.slots) (kk : ∀ (H1 : Heap) (locs1 : List Loc), Wd Y1 cy D z n1 V1 G1 H1 → va_S (zA z) H0 H1 locs1 → W p l e R s m args below meth c H1 locs1 cells slots Q (F0 m (pc + 3) ls (.int x :: rest))) : W p l e R s m args below meth c H locs cells slots Q (F0 m pc ls st0) :=
  wk_V hx hb hml hown hts hE (ci := 4) (by decide) rfl rfl q658 q89 q655 q657 q44 (by decide +kernel) hM hW hS hK hk hst hsize hrest hR hdg hf kk
theorem iv_X4_143 (hx : p.tables.exec = Jvm.exec) (hb : c.code = cc) {nL : Nat} (hml : c.maxLocals = nL) (hown : s.vm.findClass RX4 = some m.cls) (hts : ∀ w ∈ lw_all, w.before args s = true) (hE : En D cy s) {d : Nat} {x : Int32} {As : List Value} {b : Nat} {Y1 : mY} {n1 : Nat} {V1 : mV} {G1 : mG} (hM : CT l yX4_changed cX4_changed 2 (some .int) (rmd d) D cy z (.ref b :: As) Y n V G (some (.int x)) Y1 n1 V1 G1) (hW : Wd Y cy D z n V G H) (hS : va_S (zA z) H0 H locs) (hK : Y.1 b = 4) (hk : As.length = 1) (hst : st0 = As.reverse ++ .ref b :: rest) (hsize : ls.size = nL) (hrest : (rest.map fun v => v.category).sum ≤ 8) (hR : (rmd d).frames + 1 ≤ R.frames ∧ 8 + (2 + 11) + (rmd d).locals ≤ R.locals) (hdg : decode cc pc = .ok (.invokevirtual 143, 3)) (hf : cells ≤ R.cells ∧ slots ≤ R.slots) (kk : ∀ (H1 : Heap) (locs1 : List Loc), Wd Y1 cy D z n1 V1 G1 H1 → va_S (zA z) H0 H1 locs1 → W p l e R s m args below meth c H1 locs1 cells slots Q (F0 m (pc + 3) ls (.int x :: rest))) : W p l e R s m args below meth c H locs cells slots Q (F0 m pc ls st0) :=
  wk_V hx hb hml hown hts hE (ci := 4) (by decide) rfl rfl q686 q89 q683 q685 q47 (by decide +kernel) hM hW hS hK hk hst hsize hrest hR hdg hf kk
theorem iv_X4_146 (hx : p.tables.exec = Jvm.exec) (hb : c.code = cc) {nL : Nat} (hml : c.maxLocals = nL) (hown : s.vm.findClass RX4 = some m.cls) (hts : ∀ w ∈ lw_all, w.before args s = true) (hE : En D cy s) {d : Nat} {x : Int32} {As : List Value} {b : Nat} {Y1 : mY} {n1 : Nat} {V1 : mV} {G1 : mG} (hM : CT l yX4_doBegin cX4_doBegin 4 (some .int) (rmd d) D cy z (.ref b :: As) Y n V G (some (.int x)) Y1 n1 V1 G1) (hW : Wd Y cy D z n V G H) (hS : va_S (zA z) H0 H locs) (hK : Y.1 b = 4) (hk : As.length = 1) (hst : st0 = As.reverse ++ .ref b :: rest) (hsize : ls.size = nL) (hrest : (rest.map fun v => v.category).sum ≤ 8) (hR : (rmd d).frames + 1 ≤ R.frames ∧ 8 + (4 + 11) + (rmd d).locals ≤ R.locals) (hdg : decode cc pc = .ok (.invokevirtual 146, 3)) (hf : cells ≤ R.cells ∧ slots ≤ R.slots) (kk : ∀ (H1 : Heap) (locs1 : List Loc), Wd Y1 cy D z n1 V1 G1 H1 → va_S (zA z) H0 H1 locs1 → W p l e R s m args below meth c H1 locs1 cells slots Q (F0 m (pc + 3) ls (.int x :: rest))) : W p l e R s m args below meth c H locs cells slots Q (F0 m pc ls st0) :=
  wk_V hx hb hml hown hts hE (ci := 4) (by decide) rfl rfl q702 q89 q699 q701 q49 (by decide +kernel) hM hW hS hK hk hst hsize hrest hR hdg hf kk
theorem iv_X4_149 (hx : p.tables.exec = Jvm.exec) (hb : c.code = cc) {nL : Nat} (hml : c.maxLocals = nL) (hown : s.vm.findClass RX4 = some m.cls) (hts : ∀ w ∈ lw_all, w.before args s = true) (hE : En D cy s) {d : Nat} {x : Int32} {As : List Value} {b : Nat} {Y1 : mY} {n1 : Nat} {V1 : mV} {G1 : mG} (hM : CT l yX4_doFinish cX4_doFinish 2 (some .int) (rmd d) D cy z (.ref b :: As) Y n V G (some (.int x)) Y1 n1 V1 G1) (hW : Wd Y cy D z n V G H) (hS : va_S (zA z) H0 H locs) (hK : Y.1 b = 4) (hk : As.length = 1) (hst : st0 = As.reverse ++ .ref b :: rest) (hsize : ls.size = nL) (hrest : (rest.map fun v => v.category).sum ≤ 8) (hR : (rmd d).frames + 1 ≤ R.frames ∧ 8 + (2 + 11) + (rmd d).locals ≤ R.locals) (hdg : decode cc pc = .ok (.invokevirtual 149, 3)) (hf : cells ≤ R.cells ∧ slots ≤ R.slots) (kk : ∀ (H1 : Heap) (locs1 : List Loc), Wd Y1 cy D z n1 V1 G1 H1 → va_S (zA z) H0 H1 locs1 → W p l e R s m args below meth c H1 locs1 cells slots Q (F0 m (pc + 3) ls (.int x :: rest))) : W p l e R s m args below meth c H locs cells slots Q (F0 m pc ls st0) :=
  wk_V hx hb hml hown hts hE (ci := 4) (by decide) rfl rfl q734 q89 q731 q733 q56 (by decide +kernel) hM hW hS hK hk hst hsize hrest hR hdg hf kk
theorem iv_X4_152 (hx : p.tables.exec = Jvm.exec) (hb : c.code = cc) {nL : Nat} (hml : c.maxLocals = nL) (hown : s.vm.findClass RX4 = some m.cls) (hts : ∀ w ∈ lw_all, w.before args s = true) (hE : En D cy s) {d : Nat} {x : Int32} {As : List Value} {b : Nat} {Y1 : mY} {n1 : Nat} {V1 : mV} {G1 : mG} (hM : CT l yX4_doApply cX4_doApply 3 (some .int) (rmd d) D cy z (.ref b :: As) Y n V G (some (.int x)) Y1 n1 V1 G1) (hW : Wd Y cy D z n V G H) (hS : va_S (zA z) H0 H locs) (hK : Y.1 b = 4) (hk : As.length = 2) (hst : st0 = As.reverse ++ .ref b :: rest) (hsize : ls.size = nL) (hrest : (rest.map fun v => v.category).sum ≤ 8) (hR : (rmd d).frames + 1 ≤ R.frames ∧ 8 + (3 + 11) + (rmd d).locals ≤ R.locals) (hdg : decode cc pc = .ok (.invokevirtual 152, 3)) (hf : cells ≤ R.cells ∧ slots ≤ R.slots) (kk : ∀ (H1 : Heap) (locs1 : List Loc), Wd Y1 cy D z n1 V1 G1 H1 → va_S (zA z) H0 H1 locs1 → W p l e R s m args below meth c H1 locs1 cells slots Q (F0 m (pc + 3) ls (.int x :: rest))) : W p l e R s m args below meth c H locs cells slots Q (F0 m pc ls st0) :=
  wk_V hx hb hml hown hts hE (ci := 4) (by decide) rfl rfl q746 q89 q743 q745 q58 (by decide +kernel) hM hW hS hK hk hst hsize hrest hR hdg hf kk
theorem iv_X4_155 (hx : p.tables.exec = Jvm.exec) (hb : c.code = cc) {nL : Nat} (hml : c.maxLocals = nL) (hown : s.vm.findClass RX4 = some m.cls) (hts : ∀ w ∈ lw_all, w.before args s = true) (hE : En D cy s) {d : Nat} {x : Int32} {As : List Value} {b : Nat} {Y1 : mY} {n1 : Nat} {V1 : mV} {G1 : mG} (hM : CT l yX4_doDecide cX4_doDecide 3 (some .int) (rmd d) D cy z (.ref b :: As) Y n V G (some (.int x)) Y1 n1 V1 G1) (hW : Wd Y cy D z n V G H) (hS : va_S (zA z) H0 H locs) (hK : Y.1 b = 4) (hk : As.length = 2) (hst : st0 = As.reverse ++ .ref b :: rest) (hsize : ls.size = nL) (hrest : (rest.map fun v => v.category).sum ≤ 8) (hR : (rmd d).frames + 1 ≤ R.frames ∧ 8 + (3 + 11) + (rmd d).locals ≤ R.locals) (hdg : decode cc pc = .ok (.invokevirtual 155, 3)) (hf : cells ≤ R.cells ∧ slots ≤ R.slots) (kk : ∀ (H1 : Heap) (locs1 : List Loc), Wd Y1 cy D z n1 V1 G1 H1 → va_S (zA z) H0 H1 locs1 → W p l e R s m args below meth c H1 locs1 cells slots Q (F0 m (pc + 3) ls (.int x :: rest))) : W p l e R s m args below meth c H locs cells slots Q (F0 m pc ls st0) :=
  wk_V hx hb hml hown hts hE (ci := 4) (by decide) rfl rfl q758 q89 q755 q757 q60 (by decide +kernel) hM hW hS hK hk hst hsize hrest hR hdg hf kk
theorem iv_X4_158 (hx : p.tables.exec = Jvm.exec) (hb : c.code = cc) {nL : Nat} (hml : c.maxLocals = nL) (hown : s.vm.findClass RX4 = some m.cls) (hts : ∀ w ∈ lw_all, w.before args s = true) (hE : En D cy s) {d : Nat} {x : Int32} {As : List Value} {b : Nat} {Y1 : mY} {n1 : Nat} {V1 : mV} {G1 : mG} (hM : CT l yX4_doLapse cX4_doLapse 2 (some .int) (rmd d) D cy z (.ref b :: As) Y n V G (some (.int x)) Y1 n1 V1 G1) (hW : Wd Y cy D z n V G H) (hS : va_S (zA z) H0 H locs) (hK : Y.1 b = 4) (hk : As.length = 1) (hst : st0 = As.reverse ++ .ref b :: rest) (hsize : ls.size = nL) (hrest : (rest.map fun v => v.category).sum ≤ 8) (hR : (rmd d).frames + 1 ≤ R.frames ∧ 8 + (2 + 11) + (rmd d).locals ≤ R.locals) (hdg : decode cc pc = .ok (.invokevirtual 158, 3)) (hf : cells ≤ R.cells ∧ slots ≤ R.slots) (kk : ∀ (H1 : Heap) (locs1 : List Loc), Wd Y1 cy D z n1 V1 G1 H1 → va_S (zA z) H0 H1 locs1 → W p l e R s m args below meth c H1 locs1 cells slots Q (F0 m (pc + 3) ls (.int x :: rest))) : W p l e R s m args below meth c H locs cells slots Q (F0 m pc ls st0) :=
  wk_V hx hb hml hown hts hE (ci := 4) (by decide) rfl rfl q777 q89 q774 q776 q63 (by decide +kernel) hM hW hS hK hk hst hsize hrest hR hdg hf kk
theorem iv_X4_161 (hx : p.tables.exec = Jvm.exec) (hb : c.code = cc) {nL : Nat} (hml : c.maxLocals = nL) (hown : s.vm.findClass RX4 = some m.cls) (hts : ∀ w ∈ lw_all, w.before args s = true) (hE : En D cy s) {d : Nat} {x : Int32} {As : List Value} {b : Nat} {Y1 : mY} {n1 : Nat} {V1 : mV} {G1 : mG} (hM : CT l yX4_doCure cX4_doCure 3 (some .int) (rmd d) D cy z (.ref b :: As) Y n V G (some (.int x)) Y1 n1 V1 G1) (hW : Wd Y cy D z n V G H) (hS : va_S (zA z) H0 H locs) (hK : Y.1 b = 4) (hk : As.length = 1) (hst : st0 = As.reverse ++ .ref b :: rest) (hsize : ls.size = nL) (hrest : (rest.map fun v => v.category).sum ≤ 8) (hR : (rmd d).frames + 1 ≤ R.frames ∧ 8 + (3 + 11) + (rmd d).locals ≤ R.locals) (hdg : decode cc pc = .ok (.invokevirtual 161, 3)) (hf : cells ≤ R.cells ∧ slots ≤ R.slots) (kk : ∀ (H1 : Heap) (locs1 : List Loc), Wd Y1 cy D z n1 V1 G1 H1 → va_S (zA z) H0 H1 locs1 → W p l e R s m args below meth c H1 locs1 cells slots Q (F0 m (pc + 3) ls (.int x :: rest))) : W p l e R s m args below meth c H locs cells slots Q (F0 m pc ls st0) :=
  wk_V hx hb hml hown hts hE (ci := 4) (by decide) rfl rfl q793 q89 q790 q792 q66 (by decide +kernel) hM hW hS hK hk hst hsize hrest hR hdg hf kk
theorem iv_X4_164 (hx : p.tables.exec = Jvm.exec) (hb : c.code = cc) {nL : Nat} (hml : c.maxLocals = nL) (hown : s.vm.findClass RX4 = some m.cls) (hts : ∀ w ∈ lw_all, w.before args s = true) (hE : En D cy s) {d : Nat} {x : Int32} {As : List Value} {b : Nat} {Y1 : mY} {n1 : Nat} {V1 : mV} {G1 : mG} (hM : CT l yX4_doServe cX4_doServe 3 (some .int) (rmd d) D cy z (.ref b :: As) Y n V G (some (.int x)) Y1 n1 V1 G1) (hW : Wd Y cy D z n V G H) (hS : va_S (zA z) H0 H locs) (hK : Y.1 b = 4) (hk : As.length = 2) (hst : st0 = As.reverse ++ .ref b :: rest) (hsize : ls.size = nL) (hrest : (rest.map fun v => v.category).sum ≤ 8) (hR : (rmd d).frames + 1 ≤ R.frames ∧ 8 + (3 + 11) + (rmd d).locals ≤ R.locals) (hdg : decode cc pc = .ok (.invokevirtual 164, 3)) (hf : cells ≤ R.cells ∧ slots ≤ R.slots) (kk : ∀ (H1 : Heap) (locs1 : List Loc), Wd Y1 cy D z n1 V1 G1 H1 → va_S (zA z) H0 H1 locs1 → W p l e R s m args below meth c H1 locs1 cells slots Q (F0 m (pc + 3) ls (.int x :: rest))) : W p l e R s m args below meth c H locs cells slots Q (F0 m pc ls st0) :=
  wk_V hx hb hml hown hts hE (ci := 4) (by decide) rfl rfl q801 q89 q798 q800 q67 (by decide +kernel) hM hW hS hK hk hst hsize hrest hR hdg hf kk
theorem iv_X4_167 (hx : p.tables.exec = Jvm.exec) (hb : c.code = cc) {nL : Nat} (hml : c.maxLocals = nL) (hown : s.vm.findClass RX4 = some m.cls) (hts : ∀ w ∈ lw_all, w.before args s = true) (hE : En D cy s) {d : Nat} {x : Int32} {As : List Value} {b : Nat} {Y1 : mY} {n1 : Nat} {V1 : mV} {G1 : mG} (hM : CT l yX4_doVary cX4_doVary 6 (some .int) (rmd d) D cy z (.ref b :: As) Y n V G (some (.int x)) Y1 n1 V1 G1) (hW : Wd Y cy D z n V G H) (hS : va_S (zA z) H0 H locs) (hK : Y.1 b = 4) (hk : As.length = 3) (hst : st0 = As.reverse ++ .ref b :: rest) (hsize : ls.size = nL) (hrest : (rest.map fun v => v.category).sum ≤ 8) (hR : (rmd d).frames + 1 ≤ R.frames ∧ 8 + (6 + 11) + (rmd d).locals ≤ R.locals) (hdg : decode cc pc = .ok (.invokevirtual 167, 3)) (hf : cells ≤ R.cells ∧ slots ≤ R.slots) (kk : ∀ (H1 : Heap) (locs1 : List Loc), Wd Y1 cy D z n1 V1 G1 H1 → va_S (zA z) H0 H1 locs1 → W p l e R s m args below meth c H1 locs1 cells slots Q (F0 m (pc + 3) ls (.int x :: rest))) : W p l e R s m args below meth c H locs cells slots Q (F0 m pc ls st0) :=
  wk_V hx hb hml hown hts hE (ci := 4) (by decide) rfl rfl q810 q89 q807 q809 q68 (by decide +kernel) hM hW hS hK hk hst hsize hrest hR hdg hf kk
theorem iv_X4_171 (hx : p.tables.exec = Jvm.exec) (hb : c.code = cc) {nL : Nat} (hml : c.maxLocals = nL) (hown : s.vm.findClass RX4 = some m.cls) (hts : ∀ w ∈ lw_all, w.before args s = true) (hE : En D cy s) {d : Nat} {x : Int32} {As : List Value} {b : Nat} {Y1 : mY} {n1 : Nat} {V1 : mV} {G1 : mG} (hM : CT l yX4_doPass cX4_doPass 3 (some .int) (rmd d) D cy z (.ref b :: As) Y n V G (some (.int x)) Y1 n1 V1 G1) (hW : Wd Y cy D z n V G H) (hS : va_S (zA z) H0 H locs) (hK : Y.1 b = 4) (hk : As.length = 1) (hst : st0 = As.reverse ++ .ref b :: rest) (hsize : ls.size = nL) (hrest : (rest.map fun v => v.category).sum ≤ 8) (hR : (rmd d).frames + 1 ≤ R.frames ∧ 8 + (3 + 11) + (rmd d).locals ≤ R.locals) (hdg : decode cc pc = .ok (.invokevirtual 171, 3)) (hf : cells ≤ R.cells ∧ slots ≤ R.slots) (kk : ∀ (H1 : Heap) (locs1 : List Loc), Wd Y1 cy D z n1 V1 G1 H1 → va_S (zA z) H0 H1 locs1 → W p l e R s m args below meth c H1 locs1 cells slots Q (F0 m (pc + 3) ls (.int x :: rest))) : W p l e R s m args below meth c H locs cells slots Q (F0 m pc ls st0) :=
  wk_V hx hb hml hown hts hE (ci := 4) (by decide) rfl rfl q826 q89 q823 q825 q71 (by decide +kernel) hM hW hS hK hk hst hsize hrest hR hdg hf kk
theorem iv_X4_174 (hx : p.tables.exec = Jvm.exec) (hb : c.code = cc) {nL : Nat} (hml : c.maxLocals = nL) (hown : s.vm.findClass RX4 = some m.cls) (hts : ∀ w ∈ lw_all, w.before args s = true) (hE : En D cy s) {d : Nat} {x : Int32} {As : List Value} {b : Nat} {Y1 : mY} {n1 : Nat} {V1 : mV} {G1 : mG} (hM : CT l yX4_doSet cX4_doSet 4 (some .int) (rmd d) D cy z (.ref b :: As) Y n V G (some (.int x)) Y1 n1 V1 G1) (hW : Wd Y cy D z n V G H) (hS : va_S (zA z) H0 H locs) (hK : Y.1 b = 4) (hk : As.length = 2) (hst : st0 = As.reverse ++ .ref b :: rest) (hsize : ls.size = nL) (hrest : (rest.map fun v => v.category).sum ≤ 8) (hR : (rmd d).frames + 1 ≤ R.frames ∧ 8 + (4 + 11) + (rmd d).locals ≤ R.locals) (hdg : decode cc pc = .ok (.invokevirtual 174, 3)) (hf : cells ≤ R.cells ∧ slots ≤ R.slots) (kk : ∀ (H1 : Heap) (locs1 : List Loc), Wd Y1 cy D z n1 V1 G1 H1 → va_S (zA z) H0 H1 locs1 → W p l e R s m args below meth c H1 locs1 cells slots Q (F0 m (pc + 3) ls (.int x :: rest))) : W p l e R s m args below meth c H locs cells slots Q (F0 m pc ls st0) :=
  wk_V hx hb hml hown hts hE (ci := 4) (by decide) rfl rfl q851 q89 q848 q850 q76 (by decide +kernel) hM hW hS hK hk hst hsize hrest hR hdg hf kk
theorem iv_X4_182 (hx : p.tables.exec = Jvm.exec) (hb : c.code = cc) {nL : Nat} (hml : c.maxLocals = nL) (hown : s.vm.findClass RX4 = some m.cls) (hts : ∀ w ∈ lw_all, w.before args s = true) (hE : En D cy s) {d : Nat} {x : Int32} {As : List Value} {b : Nat} {Y1 : mY} {n1 : Nat} {V1 : mV} {G1 : mG} (hM : CT l yX4_withState cX4_withState 4 (some .int) (rmd d) D cy z (.ref b :: As) Y n V G (some (.int x)) Y1 n1 V1 G1) (hW : Wd Y cy D z n V G H) (hS : va_S (zA z) H0 H locs) (hK : Y.1 b = 4) (hk : As.length = 1) (hst : st0 = As.reverse ++ .ref b :: rest) (hsize : ls.size = nL) (hrest : (rest.map fun v => v.category).sum ≤ 8) (hR : (rmd d).frames + 1 ≤ R.frames ∧ 8 + (4 + 11) + (rmd d).locals ≤ R.locals) (hdg : decode cc pc = .ok (.invokevirtual 182, 3)) (hf : cells ≤ R.cells ∧ slots ≤ R.slots) (kk : ∀ (H1 : Heap) (locs1 : List Loc), Wd Y1 cy D z n1 V1 G1 H1 → va_S (zA z) H0 H1 locs1 → W p l e R s m args below meth c H1 locs1 cells slots Q (F0 m (pc + 3) ls (.int x :: rest))) : W p l e R s m args below meth c H locs cells slots Q (F0 m pc ls st0) :=
  wk_V hx hb hml hown hts hE (ci := 4) (by decide) rfl rfl q870 q89 q867 q869 q77 (by decide +kernel) hM hW hS hK hk hst hsize hrest hR hdg hf kk
theorem gf_X4_16 (hx : p.tables.exec = Jvm.exec) (hb : c.code = cc) (hts : ∀ w ∈ lw_all, w.before args s = true) (hown : s.vm.findClass RX4 = some m.cls) (hE : En D cy s) (hW : Wd Y cy D z n V G H) (hK : Y.1 a = 4) {q : Nat} (hG : G a 2 = some q) (hdg : decode cc pc = .ok (.getfield 16, 3)) (kk : W p l e R s m args below meth c H locs cells slots Q (F0 m (pc + 3) ls (.ref q :: rest))) : W p l e R s m args below meth c H locs cells slots Q (F0 m pc ls (.ref a :: rest)) :=
  wk_get hx hb hts hown hE hW (C := RX4) (T := TX4) (N := 13) (ci := 4) (k := 2) rfl inX4 (by decide) q610 rfl (by decide) (by show some (va_rf (G a 2)) = _; rw [hG]; rfl) hK hdg kk
theorem iv_X4_197 (hx : p.tables.exec = Jvm.exec) (hb : c.code = cc) {nL : Nat} (hml : c.maxLocals = nL) (hown : s.vm.findClass RX4 = some m.cls) (hts : ∀ w ∈ lw_all, w.before args s = true) (hE : En D cy s) {d : Nat} {x : Int32} {As : List Value} {b : Nat} {Y1 : mY} {n1 : Nat} {V1 : mV} {G1 : mG} (hM : CT l yX4_shareBits cX4_shareBits 12 (some .int) (rmd d) D cy z As Y n V G (some (.int x)) Y1 n1 V1 G1) (hW : Wd Y cy D z n V G H) (hS : va_S (zA z) H0 H locs) (hk : As.length = 2) (hst : st0 = As.reverse ++ rest) (hsize : ls.size = nL) (hrest : (rest.map fun v => v.category).sum ≤ 8) (hR : (rmd d).frames + 1 ≤ R.frames ∧ 8 + (12 + 11) + (rmd d).locals ≤ R.locals) (hdg : decode cc pc = .ok (.invokestatic 197, 3)) (hf : cells ≤ R.cells ∧ slots ≤ R.slots) (kk : ∀ (H1 : Heap) (locs1 : List Loc), Wd Y1 cy D z n1 V1 G1 H1 → va_S (zA z) H0 H1 locs1 → W p l e R s m args below meth c H1 locs1 cells slots Q (F0 m (pc + 3) ls (.int x :: rest))) : W p l e R s m args below meth c H locs cells slots Q (F0 m pc ls st0) :=
  wk_S hx hb hml hown hts hE q893 q89 q891 q892 (by decide +kernel) hM hW hS hk hst hsize hrest hR hdg hf kk
theorem iv_X4_200 (hx : p.tables.exec = Jvm.exec) (hb : c.code = cc) {nL : Nat} (hml : c.maxLocals = nL) (hown : s.vm.findClass RX4 = some m.cls) (hts : ∀ w ∈ lw_all, w.before args s = true) (hE : En D cy s) {d : Nat} {x : Int32} {As : List Value} {b : Nat} {Y1 : mY} {n1 : Nat} {V1 : mV} {G1 : mG} (hM : CT l yX4_partsOf cX4_partsOf 4 (some .int) (rmd d) D cy z (.ref b :: As) Y n V G (some (.int x)) Y1 n1 V1 G1) (hW : Wd Y cy D z n V G H) (hS : va_S (zA z) H0 H locs) (hK : Y.1 b = 4) (hk : As.length = 1) (hst : st0 = As.reverse ++ .ref b :: rest) (hsize : ls.size = nL) (hrest : (rest.map fun v => v.category).sum ≤ 8) (hR : (rmd d).frames + 1 ≤ R.frames ∧ 8 + (4 + 11) + (rmd d).locals ≤ R.locals) (hdg : decode cc pc = .ok (.invokevirtual 200, 3)) (hf : cells ≤ R.cells ∧ slots ≤ R.slots) (kk : ∀ (H1 : Heap) (locs1 : List Loc), Wd Y1 cy D z n1 V1 G1 H1 → va_S (zA z) H0 H1 locs1 → W p l e R s m args below meth c H1 locs1 cells slots Q (F0 m (pc + 3) ls (.int x :: rest))) : W p l e R s m args below meth c H locs cells slots Q (F0 m pc ls st0) :=
  wk_V hx hb hml hown hts hE (ci := 4) (by decide) rfl rfl q903 q89 q900 q902 q78 (by decide +kernel) hM hW hS hK hk hst hsize hrest hR hdg hf kk
theorem gf_X4_204 (hx : p.tables.exec = Jvm.exec) (hb : c.code = cc) (hts : ∀ w ∈ lw_all, w.before args s = true) (hown : s.vm.findClass RX4 = some m.cls) (hE : En D cy s) (hW : Wd Y cy D z n V G H) (hK : Y.1 a = 4) (hdg : decode cc pc = .ok (.getfield 204, 3)) (kk : W p l e R s m args below meth c H locs cells slots Q (F0 m (pc + 3) ls (.int (V a 6) :: rest))) : W p l e R s m args below meth c H locs cells slots Q (F0 m pc ls (.ref a :: rest)) :=
  wk_get hx hb hts hown hE hW (C := RX4) (T := TX4) (N := 13) (ci := 4) (k := 6) rfl inX4 (by decide) q614 rfl (by decide) rfl hK hdg kk
theorem gf_X4_22 (hx : p.tables.exec = Jvm.exec) (hb : c.code = cc) (hts : ∀ w ∈ lw_all, w.before args s = true) (hown : s.vm.findClass RX4 = some m.cls) (hE : En D cy s) (hW : Wd Y cy D z n V G H) (hK : Y.1 a = 4) {q : Nat} (hG : G a 5 = some q) (hdg : decode cc pc = .ok (.getfield 22, 3)) (kk : W p l e R s m args below meth c H locs cells slots Q (F0 m (pc + 3) ls (.ref q :: rest))) : W p l e R s m args below meth c H locs cells slots Q (F0 m pc ls (.ref a :: rest)) :=
  wk_get hx hb hts hown hE hW (C := RX4) (T := TX4) (N := 13) (ci := 4) (k := 5) rfl inX4 (by decide) q613 rfl (by decide) (by show some (va_rf (G a 5)) = _; rw [hG]; rfl) hK hdg kk
theorem pf_X4_204 (hx : p.tables.exec = Jvm.exec) (hb : c.code = cc) (hts : ∀ w ∈ lw_all, w.before args s = true) (hown : s.vm.findClass RX4 = some m.cls) (hE : En D cy s) (hW : Wd Y cy D z n V G H) (hS : va_S (zA z) H0 H locs) (hK : Y.1 a = 4) (x : Int32) (hdg : decode cc pc = .ok (.putfield 204, 3)) (kk : ∀ (H1 : Heap) (locs1 : List Loc), Wd Y cy D z n (up2 V a 6 x) G H1 → va_S (zA z) H0 H1 locs1 → W p l e R s m args below meth c H1 locs1 cells slots Q (F0 m (pc + 3) ls rest)) : W p l e R s m args below meth c H locs cells slots Q (F0 m pc ls (.int x :: .ref a :: rest)) :=
  wk_put hx hb hts hown hE hW hS (C := RX4) (T := TX4) (N := 13) (ci := 4) (k := 6) rfl inX4 (by decide) q614 rfl (by decide) tyX4 tyX4_ok nmX4 rfl (ty := .int) (by decide +kernel) rfl rfl (by decide) (by rw [up2_s]; exact fce_seti (k := 6) (by decide) x) (up2_o _ _ _ _) (fun _ _ => rfl) hK hdg kk
theorem gf_X4_211 (hx : p.tables.exec = Jvm.exec) (hb : c.code = cc) (hts : ∀ w ∈ lw_all, w.before args s = true) (hown : s.vm.findClass RX4 = some m.cls) (hE : En D cy s) (hW : Wd Y cy D z n V G H) (hK : Y.1 a = 4) (hdg : decode cc pc = .ok (.getfield 211, 3)) (kk : W p l e R s m args below meth c H locs cells slots Q (F0 m (pc + 3) ls (.int (V a 8) :: rest))) : W p l e R s m args below meth c H locs cells slots Q (F0 m pc ls (.ref a :: rest)) :=
  wk_get hx hb hts hown hE hW (C := RX4) (T := TX4) (N := 13) (ci := 4) (k := 8) rfl inX4 (by decide) q616 rfl (by decide) rfl hK hdg kk
theorem pf_X4_211 (hx : p.tables.exec = Jvm.exec) (hb : c.code = cc) (hts : ∀ w ∈ lw_all, w.before args s = true) (hown : s.vm.findClass RX4 = some m.cls) (hE : En D cy s) (hW : Wd Y cy D z n V G H) (hS : va_S (zA z) H0 H locs) (hK : Y.1 a = 4) (x : Int32) (hdg : decode cc pc = .ok (.putfield 211, 3)) (kk : ∀ (H1 : Heap) (locs1 : List Loc), Wd Y cy D z n (up2 V a 8 x) G H1 → va_S (zA z) H0 H1 locs1 → W p l e R s m args below meth c H1 locs1 cells slots Q (F0 m (pc + 3) ls rest)) : W p l e R s m args below meth c H locs cells slots Q (F0 m pc ls (.int x :: .ref a :: rest)) :=
  wk_put hx hb hts hown hE hW hS (C := RX4) (T := TX4) (N := 13) (ci := 4) (k := 8) rfl inX4 (by decide) q616 rfl (by decide) tyX4 tyX4_ok nmX4 rfl (ty := .int) (by decide +kernel) rfl rfl (by decide) (by rw [up2_s]; exact fce_seti (k := 8) (by decide) x) (up2_o _ _ _ _) (fun _ _ => rfl) hK hdg kk
theorem gf_X4_25 (hx : p.tables.exec = Jvm.exec) (hb : c.code = cc) (hts : ∀ w ∈ lw_all, w.before args s = true) (hown : s.vm.findClass RX4 = some m.cls) (hE : En D cy s) (hW : Wd Y cy D z n V G H) (hK : Y.1 a = 4) {q : Nat} (hG : G a 9 = some q) (hdg : decode cc pc = .ok (.getfield 25, 3)) (kk : W p l e R s m args below meth c H locs cells slots Q (F0 m (pc + 3) ls (.ref q :: rest))) : W p l e R s m args below meth c H locs cells slots Q (F0 m pc ls (.ref a :: rest)) :=
  wk_get hx hb hts hown hE hW (C := RX4) (T := TX4) (N := 13) (ci := 4) (k := 9) rfl inX4 (by decide) q617 rfl (by decide) (by show some (va_rf (G a 9)) = _; rw [hG]; rfl) hK hdg kk
theorem gf_X4_218 (hx : p.tables.exec = Jvm.exec) (hb : c.code = cc) (hts : ∀ w ∈ lw_all, w.before args s = true) (hown : s.vm.findClass RX4 = some m.cls) (hE : En D cy s) (hW : Wd Y cy D z n V G H) (hK : Y.1 a = 4) (hdg : decode cc pc = .ok (.getfield 218, 3)) (kk : W p l e R s m args below meth c H locs cells slots Q (F0 m (pc + 3) ls (.int (V a 7) :: rest))) : W p l e R s m args below meth c H locs cells slots Q (F0 m pc ls (.ref a :: rest)) :=
  wk_get hx hb hts hown hE hW (C := RX4) (T := TX4) (N := 13) (ci := 4) (k := 7) rfl inX4 (by decide) q615 rfl (by decide) rfl hK hdg kk
theorem iv_X4_221 (hx : p.tables.exec = Jvm.exec) (hb : c.code = cc) {nL : Nat} (hml : c.maxLocals = nL) (hown : s.vm.findClass RX4 = some m.cls) (hts : ∀ w ∈ lw_all, w.before args s = true) (hE : En D cy s) {d : Nat} {x : Int32} {As : List Value} {b : Nat} {Y1 : mY} {n1 : Nat} {V1 : mV} {G1 : mG} (hM : CT l yX4_numbersOf cX4_numbersOf 1 (some .int) (rmd d) D cy z As Y n V G (some (.int x)) Y1 n1 V1 G1) (hW : Wd Y cy D z n V G H) (hS : va_S (zA z) H0 H locs) (hk : As.length = 1) (hst : st0 = As.reverse ++ rest) (hsize : ls.size = nL) (hrest : (rest.map fun v => v.category).sum ≤ 8) (hR : (rmd d).frames + 1 ≤ R.frames ∧ 8 + (1 + 11) + (rmd d).locals ≤ R.locals) (hdg : decode cc pc = .ok (.invokestatic 221, 3)) (hf : cells ≤ R.cells ∧ slots ≤ R.slots) (kk : ∀ (H1 : Heap) (locs1 : List Loc), Wd Y1 cy D z n1 V1 G1 H1 → va_S (zA z) H0 H1 locs1 → W p l e R s m args below meth c H1 locs1 cells slots Q (F0 m (pc + 3) ls (.int x :: rest))) : W p l e R s m args below meth c H locs cells slots Q (F0 m pc ls st0) :=
  wk_S hx hb hml hown hts hE q932 q89 q930 q931 (by decide +kernel) hM hW hS hk hst hsize hrest hR hdg hf kk
theorem iv_X4_224 (hx : p.tables.exec = Jvm.exec) (hb : c.code = cc) {nL : Nat} (hml : c.maxLocals = nL) (hown : s.vm.findClass RX4 = some m.cls) (hts : ∀ w ∈ lw_all, w.before args s = true) (hE : En D cy s) {d : Nat} {x : Int32} {As : List Value} {b : Nat} {Y1 : mY} {n1 : Nat} {V1 : mV} {G1 : mG} (hM : CT l yX4_takes cX4_takes 3 (some .boolean) (rmd d) D cy z (.ref b :: As) Y n V G (some (.int x)) Y1 n1 V1 G1) (hW : Wd Y cy D z n V G H) (hS : va_S (zA z) H0 H locs) (hK : Y.1 b = 4) (hk : As.length = 1) (hst : st0 = As.reverse ++ .ref b :: rest) (hsize : ls.size = nL) (hrest : (rest.map fun v => v.category).sum ≤ 8) (hR : (rmd d).frames + 1 ≤ R.frames ∧ 8 + (3 + 11) + (rmd d).locals ≤ R.locals) (hdg : decode cc pc = .ok (.invokevirtual 224, 3)) (hf : cells ≤ R.cells ∧ slots ≤ R.slots) (kk : ∀ (H1 : Heap) (locs1 : List Loc), Wd Y1 cy D z n1 V1 G1 H1 → va_S (zA z) H0 H1 locs1 → W p l e R s m args below meth c H1 locs1 cells slots Q (F0 m (pc + 3) ls (.int x :: rest))) : W p l e R s m args below meth c H locs cells slots Q (F0 m pc ls st0) :=
  wk_V hx hb hml hown hts hE (ci := 4) (by decide) rfl rfl q936 q89 q933 q935 q81 (by decide +kernel) hM hW hS hK hk hst hsize hrest hR hdg hf kk
theorem iv_X4_227 (hx : p.tables.exec = Jvm.exec) (hb : c.code = cc) {nL : Nat} (hml : c.maxLocals = nL) (hown : s.vm.findClass RX4 = some m.cls) (hts : ∀ w ∈ lw_all, w.before args s = true) (hE : En D cy s) {d : Nat} {x : Int32} {As : List Value} {b : Nat} {Y1 : mY} {n1 : Nat} {V1 : mV} {G1 : mG} (hM : CT l yX4_takesNumber cX4_takesNumber 3 (some .boolean) (rmd d) D cy z (.ref b :: As) Y n V G (some (.int x)) Y1 n1 V1 G1) (hW : Wd Y cy D z n V G H) (hS : va_S (zA z) H0 H locs) (hK : Y.1 b = 4) (hk : As.length = 1) (hst : st0 = As.reverse ++ .ref b :: rest) (hsize : ls.size = nL) (hrest : (rest.map fun v => v.category).sum ≤ 8) (hR : (rmd d).frames + 1 ≤ R.frames ∧ 8 + (3 + 11) + (rmd d).locals ≤ R.locals) (hdg : decode cc pc = .ok (.invokevirtual 227, 3)) (hf : cells ≤ R.cells ∧ slots ≤ R.slots) (kk : ∀ (H1 : Heap) (locs1 : List Loc), Wd Y1 cy D z n1 V1 G1 H1 → va_S (zA z) H0 H1 locs1 → W p l e R s m args below meth c H1 locs1 cells slots Q (F0 m (pc + 3) ls (.int x :: rest))) : W p l e R s m args below meth c H locs cells slots Q (F0 m pc ls st0) :=
  wk_V hx hb hml hown hts hE (ci := 4) (by decide) rfl rfl q940 q89 q937 q939 q82 (by decide +kernel) hM hW hS hK hk hst hsize hrest hR hdg hf kk
theorem pf_X4_218 (hx : p.tables.exec = Jvm.exec) (hb : c.code = cc) (hts : ∀ w ∈ lw_all, w.before args s = true) (hown : s.vm.findClass RX4 = some m.cls) (hE : En D cy s) (hW : Wd Y cy D z n V G H) (hS : va_S (zA z) H0 H locs) (hK : Y.1 a = 4) (x : Int32) (hdg : decode cc pc = .ok (.putfield 218, 3)) (kk : ∀ (H1 : Heap) (locs1 : List Loc), Wd Y cy D z n (up2 V a 7 x) G H1 → va_S (zA z) H0 H1 locs1 → W p l e R s m args below meth c H1 locs1 cells slots Q (F0 m (pc + 3) ls rest)) : W p l e R s m args below meth c H locs cells slots Q (F0 m pc ls (.int x :: .ref a :: rest)) :=
  wk_put hx hb hts hown hE hW hS (C := RX4) (T := TX4) (N := 13) (ci := 4) (k := 7) rfl inX4 (by decide) q615 rfl (by decide) tyX4 tyX4_ok nmX4 rfl (ty := .int) (by decide +kernel) rfl rfl (by decide) (by rw [up2_s]; exact fce_seti (k := 7) (by decide) x) (up2_o _ _ _ _) (fun _ _ => rfl) hK hdg kk
theorem pf_X4_230 (hx : p.tables.exec = Jvm.exec) (hb : c.code = cc) (hts : ∀ w ∈ lw_all, w.before args s = true) (hown : s.vm.findClass RX4 = some m.cls) (hE : En D cy s) (hW : Wd Y cy D z n V G H) (hS : va_S (zA z) H0 H locs) (hK : Y.1 a = 4) (x : Int32) (hdg : decode cc pc = .ok (.putfield 230, 3)) (kk : ∀ (H1 : Heap) (locs1 : List Loc), Wd Y cy D z n (up2 V a 12 x) G H1 → va_S (zA z) H0 H1 locs1 → W p l e R s m args below meth c H1 locs1 cells slots Q (F0 m (pc + 3) ls rest)) : W p l e R s m args below meth c H locs cells slots Q (F0 m pc ls (.int x :: .ref a :: rest)) :=
  wk_put hx hb hts hown hE hW hS (C := RX4) (T := TX4) (N := 13) (ci := 4) (k := 12) rfl inX4 (by decide) q620 rfl (by decide) tyX4 tyX4_ok nmX4 rfl (ty := .int) (by decide +kernel) rfl rfl (by decide) (by rw [up2_s]; exact fce_seti (k := 12) (by decide) x) (up2_o _ _ _ _) (fun _ _ => rfl) hK hdg kk
theorem iv_X4_233 (hx : p.tables.exec = Jvm.exec) (hb : c.code = cc) {nL : Nat} (hml : c.maxLocals = nL) (hown : s.vm.findClass RX4 = some m.cls) (hts : ∀ w ∈ lw_all, w.before args s = true) (hE : En D cy s) {d : Nat} {x : Int32} {As : List Value} {b : Nat} {Y1 : mY} {n1 : Nat} {V1 : mV} {G1 : mG} (hM : CT l yX4_readsOrder cX4_readsOrder 3 (some .boolean) (rmd d) D cy z (.ref b :: As) Y n V G (some (.int x)) Y1 n1 V1 G1) (hW : Wd Y cy D z n V G H) (hS : va_S (zA z) H0 H locs) (hK : Y.1 b = 4) (hk : As.length = 0) (hst : st0 = As.reverse ++ .ref b :: rest) (hsize : ls.size = nL) (hrest : (rest.map fun v => v.category).sum ≤ 8) (hR : (rmd d).frames + 1 ≤ R.frames ∧ 8 + (3 + 11) + (rmd d).locals ≤ R.locals) (hdg : decode cc pc = .ok (.invokevirtual 233, 3)) (hf : cells ≤ R.cells ∧ slots ≤ R.slots) (kk : ∀ (H1 : Heap) (locs1 : List Loc), Wd Y1 cy D z n1 V1 G1 H1 → va_S (zA z) H0 H1 locs1 → W p l e R s m args below meth c H1 locs1 cells slots Q (F0 m (pc + 3) ls (.int x :: rest))) : W p l e R s m args below meth c H locs cells slots Q (F0 m pc ls st0) :=
  wk_V hx hb hml hown hts hE (ci := 4) (by decide) rfl rfl q929 q89 q926 q928 q80 (by decide +kernel) hM hW hS hK hk hst hsize hrest hR hdg hf kk
theorem iv_X4_243 (hx : p.tables.exec = Jvm.exec) (hb : c.code = cc) {nL : Nat} (hml : c.maxLocals = nL) (hown : s.vm.findClass RX4 = some m.cls) (hts : ∀ w ∈ lw_all, w.before args s = true) (hE : En D cy s) {d : Nat} {x : Int32} {As : List Value} {b : Nat} {Y1 : mY} {n1 : Nat} {V1 : mV} {G1 : mG} (hM : CT l yX4_doesOrder cX4_doesOrder 1 (some .int) (rmd d) D cy z (.ref b :: As) Y n V G (some (.int x)) Y1 n1 V1 G1) (hW : Wd Y cy D z n V G H) (hS : va_S (zA z) H0 H locs) (hK : Y.1 b = 4) (hk : As.length = 0) (hst : st0 = As.reverse ++ .ref b :: rest) (hsize : ls.size = nL) (hrest : (rest.map fun v => v.category).sum ≤ 8) (hR : (rmd d).frames + 1 ≤ R.frames ∧ 8 + (1 + 11) + (rmd d).locals ≤ R.locals) (hdg : decode cc pc = .ok (.invokevirtual 243, 3)) (hf : cells ≤ R.cells ∧ slots ≤ R.slots) (kk : ∀ (H1 : Heap) (locs1 : List Loc), Wd Y1 cy D z n1 V1 G1 H1 → va_S (zA z) H0 H1 locs1 → W p l e R s m args below meth c H1 locs1 cells slots Q (F0 m (pc + 3) ls (.int x :: rest))) : W p l e R s m args below meth c H locs cells slots Q (F0 m pc ls st0) :=
  wk_V hx hb hml hown hts hE (ci := 4) (by decide) rfl rfl q946 q89 q943 q945 q83 (by decide +kernel) hM hW hS hK hk hst hsize hrest hR hdg hf kk
theorem gf_X4_230 (hx : p.tables.exec = Jvm.exec) (hb : c.code = cc) (hts : ∀ w ∈ lw_all, w.before args s = true) (hown : s.vm.findClass RX4 = some m.cls) (hE : En D cy s) (hW : Wd Y cy D z n V G H) (hK : Y.1 a = 4) (hdg : decode cc pc = .ok (.getfield 230, 3)) (kk : W p l e R s m args below meth c H locs cells slots Q (F0 m (pc + 3) ls (.int (V a 12) :: rest))) : W p l e R s m args below meth c H locs cells slots Q (F0 m pc ls (.ref a :: rest)) :=
  wk_get hx hb hts hown hE hW (C := RX4) (T := TX4) (N := 13) (ci := 4) (k := 12) rfl inX4 (by decide) q620 rfl (by decide) rfl hK hdg kk
theorem pf_X4_237 (hx : p.tables.exec = Jvm.exec) (hb : c.code = cc) (hts : ∀ w ∈ lw_all, w.before args s = true) (hown : s.vm.findClass RX4 = some m.cls) (hE : En D cy s) (hW : Wd Y cy D z n V G H) (hS : va_S (zA z) H0 H locs) (hK : Y.1 a = 4) (x : Int32) (hdg : decode cc pc = .ok (.putfield 237, 3)) (kk : ∀ (H1 : Heap) (locs1 : List Loc), Wd Y cy D z n (up2 V a 10 x) G H1 → va_S (zA z) H0 H1 locs1 → W p l e R s m args below meth c H1 locs1 cells slots Q (F0 m (pc + 3) ls rest)) : W p l e R s m args below meth c H locs cells slots Q (F0 m pc ls (.int x :: .ref a :: rest)) :=
  wk_put hx hb hts hown hE hW hS (C := RX4) (T := TX4) (N := 13) (ci := 4) (k := 10) rfl inX4 (by decide) q618 rfl (by decide) tyX4 tyX4_ok nmX4 rfl (ty := .int) (by decide +kernel) rfl rfl (by decide) (by rw [up2_s]; exact fce_seti (k := 10) (by decide) x) (up2_o _ _ _ _) (fun _ _ => rfl) hK hdg kk
theorem pf_X4_240 (hx : p.tables.exec = Jvm.exec) (hb : c.code = cc) (hts : ∀ w ∈ lw_all, w.before args s = true) (hown : s.vm.findClass RX4 = some m.cls) (hE : En D cy s) (hW : Wd Y cy D z n V G H) (hS : va_S (zA z) H0 H locs) (hK : Y.1 a = 4) (x : Int32) (hdg : decode cc pc = .ok (.putfield 240, 3)) (kk : ∀ (H1 : Heap) (locs1 : List Loc), Wd Y cy D z n (up2 V a 11 x) G H1 → va_S (zA z) H0 H1 locs1 → W p l e R s m args below meth c H1 locs1 cells slots Q (F0 m (pc + 3) ls rest)) : W p l e R s m args below meth c H locs cells slots Q (F0 m pc ls (.int x :: .ref a :: rest)) :=
  wk_put hx hb hts hown hE hW hS (C := RX4) (T := TX4) (N := 13) (ci := 4) (k := 11) rfl inX4 (by decide) q619 rfl (by decide) tyX4 tyX4_ok nmX4 rfl (ty := .int) (by decide +kernel) rfl rfl (by decide) (by rw [up2_s]; exact fce_seti (k := 11) (by decide) x) (up2_o _ _ _ _) (fun _ _ => rfl) hK hdg kk
theorem iv_X4_247 (hx : p.tables.exec = Jvm.exec) (hb : c.code = cc) {nL : Nat} (hml : c.maxLocals = nL) (hown : s.vm.findClass RX4 = some m.cls) (hts : ∀ w ∈ lw_all, w.before args s = true) (hE : En D cy s) {d : Nat} {x : Int32} {As : List Value} {b : Nat} {Y1 : mY} {n1 : Nat} {V1 : mV} {G1 : mG} (hM : CT l yX4_doesAll cX4_doesAll 3 (some .boolean) (rmd d) D cy z (.ref b :: As) Y n V G (some (.int x)) Y1 n1 V1 G1) (hW : Wd Y cy D z n V G H) (hS : va_S (zA z) H0 H locs) (hK : Y.1 b = 4) (hk : As.length = 0) (hst : st0 = As.reverse ++ .ref b :: rest) (hsize : ls.size = nL) (hrest : (rest.map fun v => v.category).sum ≤ 8) (hR : (rmd d).frames + 1 ≤ R.frames ∧ 8 + (3 + 11) + (rmd d).locals ≤ R.locals) (hdg : decode cc pc = .ok (.invokevirtual 247, 3)) (hf : cells ≤ R.cells ∧ slots ≤ R.slots) (kk : ∀ (H1 : Heap) (locs1 : List Loc), Wd Y1 cy D z n1 V1 G1 H1 → va_S (zA z) H0 H1 locs1 → W p l e R s m args below meth c H1 locs1 cells slots Q (F0 m (pc + 3) ls (.int x :: rest))) : W p l e R s m args below meth c H locs cells slots Q (F0 m pc ls st0) :=
  wk_V hx hb hml hown hts hE (ci := 4) (by decide) rfl rfl q925 q89 q922 q924 q79 (by decide +kernel) hM hW hS hK hk hst hsize hrest hR hdg hf kk
theorem gf_X4_240 (hx : p.tables.exec = Jvm.exec) (hb : c.code = cc) (hts : ∀ w ∈ lw_all, w.before args s = true) (hown : s.vm.findClass RX4 = some m.cls) (hE : En D cy s) (hW : Wd Y cy D z n V G H) (hK : Y.1 a = 4) (hdg : decode cc pc = .ok (.getfield 240, 3)) (kk : W p l e R s m args below meth c H locs cells slots Q (F0 m (pc + 3) ls (.int (V a 11) :: rest))) : W p l e R s m args below meth c H locs cells slots Q (F0 m pc ls (.ref a :: rest)) :=
  wk_get hx hb hts hown hE hW (C := RX4) (T := TX4) (N := 13) (ci := 4) (k := 11) rfl inX4 (by decide) q619 rfl (by decide) rfl hK hdg kk
theorem gf_X4_237 (hx : p.tables.exec = Jvm.exec) (hb : c.code = cc) (hts : ∀ w ∈ lw_all, w.before args s = true) (hown : s.vm.findClass RX4 = some m.cls) (hE : En D cy s) (hW : Wd Y cy D z n V G H) (hK : Y.1 a = 4) (hdg : decode cc pc = .ok (.getfield 237, 3)) (kk : W p l e R s m args below meth c H locs cells slots Q (F0 m (pc + 3) ls (.int (V a 10) :: rest))) : W p l e R s m args below meth c H locs cells slots Q (F0 m pc ls (.ref a :: rest)) :=
  wk_get hx hb hts hown hE hW (C := RX4) (T := TX4) (N := 13) (ci := 4) (k := 10) rfl inX4 (by decide) q618 rfl (by decide) rfl hK hdg kk
end LK
end
section
def cf_X0_endBreach (Y : mY) (V : mV) (G : mG) (a0 : Nat) : Option (mV) := if Y.1 a0 = 0 then some (up2 (up2 (up2 V a0 8 (0 : Int32)) a0 10 (0 : Int32)) a0 11 (0 : Int32)) else none
def cf_X0_startAs (Y : mY) (V : mV) (G : mG) (a0 : Nat) (b1 : Int32) (b2 : Int32) (b3 : Int32) (b4 : Int32) : Option (mV) := if Y.1 a0 = 0 then (some (up2 (up2 (up2 (up2 (up2 (up2 V a0 0 b1) a0 1 b2) a0 2 b3) a0 3 b4) a0 4 (0 : Int32)) a0 5 (0 : Int32))).bind (fun V2 => (cf_X0_endBreach Y (up2 (up2 (up2 V2 a0 7 (0 : Int32)) a0 9 (0 : Int32)) a0 13 (0 : Int32)) G a0).bind (fun x3 => some x3)) else none
def cf_X0_copyFrom (Y : mY) (V : mV) (G : mG) (a0 : Nat) (b1 : Nat) : Option (mV) := if Y.1 b1 = 0 then if Y.1 a0 = 0 then (some (up2 (up2 (up2 V a0 0 (V b1 0)) a0 1 ((up2 V a0 0 (V b1 0)) b1 1)) a0 2 ((up2 (up2 V a0 0 (V b1 0)) a0 1 ((up2 V a0 0 (V b1 0)) b1 1)) b1 2))).bind (fun V3 => (some (up2 (up2 (up2 V3 a0 3 (V3 b1 3)) a0 4 ((up2 V3 a0 3 (V3 b1 3)) b1 4)) a0 5 ((up2 (up2 V3 a0 3 (V3 b1 3)) a0 4 ((up2 V3 a0 3 (V3 b1 3)) b1 4)) b1 5))).bind (fun V4 => if ((up2 (up2 V4 a0 6 (V4 b1 6)) a0 7 ((up2 V4 a0 6 (V4 b1 6)) b1 7)) b1 8) = 0 ∨ ((up2 (up2 V4 a0 6 (V4 b1 6)) a0 7 ((up2 V4 a0 6 (V4 b1 6)) b1 7)) b1 8) = 1 then (some (up2 (up2 (up2 V4 a0 6 (V4 b1 6)) a0 7 ((up2 V4 a0 6 (V4 b1 6)) b1 7)) a0 8 ((up2 (up2 V4 a0 6 (V4 b1 6)) a0 7 ((up2 V4 a0 6 (V4 b1 6)) b1 7)) b1 8))).bind (fun V6 => if (V6 b1 9) = 0 ∨ (V6 b1 9) = 1 then if ((up2 (up2 V6 a0 9 (V6 b1 9)) a0 10 ((up2 V6 a0 9 (V6 b1 9)) b1 10)) b1 11) = 0 ∨ ((up2 (up2 V6 a0 9 (V6 b1 9)) a0 10 ((up2 V6 a0 9 (V6 b1 9)) b1 10)) b1 11) = 1 then (some (up2 (up2 (up2 V6 a0 9 (V6 b1 9)) a0 10 ((up2 V6 a0 9 (V6 b1 9)) b1 10)) a0 11 ((up2 (up2 V6 a0 9 (V6 b1 9)) a0 10 ((up2 V6 a0 9 (V6 b1 9)) b1 10)) b1 11))).bind (fun V9 => some (up2 (up2 V9 a0 12 (V9 b1 12)) a0 13 ((up2 V9 a0 12 (V9 b1 12)) b1 13))) else none else none) else none)) else none else none
def cf_X0_isMet (Y : mY) (V : mV) (G : mG) (a0 : Nat) : Option (Int32) := if Y.1 a0 = 0 then if (V a0 0) = (2 : Int32) then (if (V a0 7) < (V a0 2) then (some (0 : Int32)) else (some (1 : Int32))) else (if (V a0 4) = (((1 : Int32) <<< ((V a0 3) &&& 31)) - (1 : Int32)) then (some (1 : Int32)) else (some (0 : Int32))) else none
def cf_X0_isPartsSet (Y : mY) (V : mV) (G : mG) (a0 : Nat) (b1 : Int32) : Option (Int32) := if b1 < 0 then (some (0 : Int32)) else (if Y.1 a0 = 0 then if ((1 : Int32) <<< ((V a0 3) &&& 31)) ≤ b1 then (some (0 : Int32)) else (some (1 : Int32)) else none)
def cf_X0_approve (Y : mY) (V : mV) (G : mG) (a0 : Nat) (b1 : Int32) : Option (mV) := if Y.1 a0 = 0 then if ((up2 (up2 V a0 4 ((V a0 4) ||| b1)) a0 5 (0 : Int32)) a0 8) = 0 then (some (up2 (up2 V a0 4 ((V a0 4) ||| b1)) a0 5 (0 : Int32))) else ((cf_X0_isMet Y (up2 (up2 V a0 4 ((V a0 4) ||| b1)) a0 5 (0 : Int32)) G a0).bind (fun x3 => if x3 = 0 then (some (up2 (up2 V a0 4 ((V a0 4) ||| b1)) a0 5 (0 : Int32))) else ((cf_X0_endBreach Y (up2 (up2 V a0 4 ((V a0 4) ||| b1)) a0 5 (0 : Int32)) G a0).bind (fun x5 => some x5)))) else none
def cf_X0_ageBreach (Y : mY) (V : mV) (G : mG) (a0 : Nat) (b1 : Int32) : Option (mV) := if Y.1 a0 = 0 then if ((up2 V a0 10 ((V a0 10) + (1 : Int32))) a0 11) = 0 then (if ((up2 V a0 10 ((V a0 10) + (1 : Int32))) a0 11) = 0 then (if ((up2 V a0 10 ((V a0 10) + (1 : Int32))) a0 10) < b1 then (some (up2 V a0 10 ((V a0 10) + (1 : Int32)))) else ((cf_X0_endBreach Y (up2 V a0 10 ((V a0 10) + (1 : Int32))) G a0).bind (fun x5 => some (up2 x5 a0 9 (1 : Int32))))) else ((some (up2 (up2 V a0 10 ((V a0 10) + (1 : Int32))) a0 13 (((up2 V a0 10 ((V a0 10) + (1 : Int32))) a0 13) + (1 : Int32)))).bind (fun V6 => some V6))) else (if ((up2 V a0 10 ((V a0 10) + (1 : Int32))) a0 12) ≤ 0 then (if ((up2 V a0 10 ((V a0 10) + (1 : Int32))) a0 11) = 0 then (if ((up2 V a0 10 ((V a0 10) + (1 : Int32))) a0 10) < b1 then (some (up2 V a0 10 ((V a0 10) + (1 : Int32)))) else ((cf_X0_endBreach Y (up2 V a0 10 ((V a0 10) + (1 : Int32))) G a0).bind (fun x10 => some (up2 x10 a0 9 (1 : Int32))))) else ((some (up2 (up2 V a0 10 ((V a0 10) + (1 : Int32))) a0 13 (((up2 V a0 10 ((V a0 10) + (1 : Int32))) a0 13) + (1 : Int32)))).bind (fun V11 => some V11))) else ((some (up2 (up2 V a0 10 ((V a0 10) + (1 : Int32))) a0 12 (((up2 V a0 10 ((V a0 10) + (1 : Int32))) a0 12) - (1 : Int32)))).bind (fun V12 => some V12))) else none
set_option maxHeartbeats 4000000 in
set_option maxRecDepth 100000 in
theorem ct_X0_endBreach (l : Launch) (D : va_G) (cy : Nat → ClassId) (z n : Nat) (Y : mY) (V : mV) (G : mG) (a0 : Nat) (x : mV) (hcf : cf_X0_endBreach Y V G a0 = some x) : CT l yX0_endBreach cX0_endBreach 1 none (rmd 0) D cy z [.ref a0] Y n V G none Y n x G := by
  refine ct_of (by decide) (Nat.le_of_ble_eq_true rfl) ?_
  intro p e s m args below meth c ls hx hb hr hml hown hts hlocks hnm hE hW hl
  have hS : va_S (zA z) s.heap s.heap [] := va_S.rf
  have hl : lv_has ls 1 [(0, .ref a0)] := hl
  have hown : s.vm.findClass RX0 = some m.cls := hown
  rw [cf_X0_endBreach] at hcf
  refine lv_aload_n hx hb dX0_endBreach_0 rfl (lv_at hl 0 rfl) ?_
  refine lv_iconst (v := (0 : Int32)) hx hb dX0_endBreach_1 (by decide) ?_
  obtain ⟨q1, hcf⟩ := og hcf
  refine pf_X0_36 hx hb hts hown hE hW hS q1 (0 : Int32) (by decide) dX0_endBreach_2 (fun H locs hW hS => ?_)
  refine lv_aload_n hx hb dX0_endBreach_5 rfl (lv_at hl 0 rfl) ?_
  refine lv_iconst (v := (0 : Int32)) hx hb dX0_endBreach_6 (by decide) ?_
  refine pf_X0_43 hx hb hts hown hE hW hS q1 (0 : Int32) dX0_endBreach_7 (fun H locs hW hS => ?_)
  refine lv_aload_n hx hb dX0_endBreach_10 rfl (lv_at hl 0 rfl) ?_
  refine lv_iconst (v := (0 : Int32)) hx hb dX0_endBreach_11 (by decide) ?_
  refine pf_X0_46 hx hb hts hown hE hW hS q1 (0 : Int32) (by decide) dX0_endBreach_12 (fun H locs hW hS => ?_)
  cases hcf
  exact wk_vret hx hb hr hlocks hW hS dX0_endBreach_15
set_option maxHeartbeats 4000000 in
set_option maxRecDepth 100000 in
theorem ct_X0_startAs (l : Launch) (D : va_G) (cy : Nat → ClassId) (z n : Nat) (Y : mY) (V : mV) (G : mG) (a0 : Nat) (b1 : Int32) (b2 : Int32) (b3 : Int32) (b4 : Int32) (x : mV) (hcf : cf_X0_startAs Y V G a0 b1 b2 b3 b4 = some x) : CT l yX0_startAs cX0_startAs 5 none (rmd 1) D cy z [.ref a0, .int b1, .int b2, .int b3, .int b4] Y n V G none Y n x G := by
  refine ct_of (by decide) (Nat.le_of_ble_eq_true rfl) ?_
  intro p e s m args below meth c ls hx hb hr hml hown hts hlocks hnm hE hW hl
  have hS : va_S (zA z) s.heap s.heap [] := va_S.rf
  have hl : lv_has ls 5 [(0, .ref a0), (1, .int b1), (2, .int b2), (3, .int b3), (4, .int b4)] := hl
  have hown : s.vm.findClass RX0 = some m.cls := hown
  rw [cf_X0_startAs] at hcf
  refine lv_aload_n hx hb dX0_startAs_0 rfl (lv_at hl 0 rfl) ?_
  refine lv_iload_n hx hb dX0_startAs_1 rfl (lv_at hl 1 rfl) ?_
  obtain ⟨q1, hcf⟩ := og hcf
  refine pf_X0_9 hx hb hts hown hE hW hS q1 b1 dX0_startAs_2 (fun H locs hW hS => ?_)
  refine lv_aload_n hx hb dX0_startAs_5 rfl (lv_at hl 0 rfl) ?_
  refine lv_iload_n hx hb dX0_startAs_6 rfl (lv_at hl 2 rfl) ?_
  refine pf_X0_15 hx hb hts hown hE hW hS q1 b2 dX0_startAs_7 (fun H locs hW hS => ?_)
  refine lv_aload_n hx hb dX0_startAs_10 rfl (lv_at hl 0 rfl) ?_
  refine lv_iload_n hx hb dX0_startAs_11 rfl (lv_at hl 3 rfl) ?_
  refine pf_X0_18 hx hb hts hown hE hW hS q1 b3 dX0_startAs_12 (fun H locs hW hS => ?_)
  refine lv_aload_n hx hb dX0_startAs_15 rfl (lv_at hl 0 rfl) ?_
  refine lv_iload hx hb dX0_startAs_16 (lv_at hl 4 rfl) ?_
  refine pf_X0_21 hx hb hts hown hE hW hS q1 b4 dX0_startAs_18 (fun H locs hW hS => ?_)
  refine lv_aload_n hx hb dX0_startAs_21 rfl (lv_at hl 0 rfl) ?_
  refine lv_iconst (v := (0 : Int32)) hx hb dX0_startAs_22 (by decide) ?_
  refine pf_X0_24 hx hb hts hown hE hW hS q1 (0 : Int32) dX0_startAs_23 (fun H locs hW hS => ?_)
  refine lv_aload_n hx hb dX0_startAs_26 rfl (lv_at hl 0 rfl) ?_
  refine lv_iconst (v := (0 : Int32)) hx hb dX0_startAs_27 (by decide) ?_
  refine pf_X0_27 hx hb hts hown hE hW hS q1 (0 : Int32) dX0_startAs_28 (fun H locs hW hS => ?_)
  obtain ⟨V2, hV2, hcf⟩ := ob hcf
  rw [Option.some.inj hV2] at hW
  refine lv_aload_n hx hb dX0_startAs_31 rfl (lv_at hl 0 rfl) ?_
  refine lv_iconst (v := (0 : Int32)) hx hb dX0_startAs_32 (by decide) ?_
  refine pf_X0_33 hx hb hts hown hE hW hS q1 (0 : Int32) dX0_startAs_33 (fun H locs hW hS => ?_)
  refine lv_aload_n hx hb dX0_startAs_36 rfl (lv_at hl 0 rfl) ?_
  refine lv_iconst (v := (0 : Int32)) hx hb dX0_startAs_37 (by decide) ?_
  refine pf_X0_40 hx hb hts hown hE hW hS q1 (0 : Int32) (by decide) dX0_startAs_38 (fun H locs hW hS => ?_)
  refine lv_aload_n hx hb dX0_startAs_41 rfl (lv_at hl 0 rfl) ?_
  refine lv_iconst (v := (0 : Int32)) hx hb dX0_startAs_42 (by decide) ?_
  refine pf_X0_52 hx hb hts hown hE hW hS q1 (0 : Int32) dX0_startAs_43 (fun H locs hW hS => ?_)
  refine lv_aload_n hx hb dX0_startAs_46 rfl (lv_at hl 0 rfl) ?_
  obtain ⟨x3, hx3, hcf⟩ := ob hcf
  refine iv_X0_55 (As := []) (rest := []) hx hb hml hown hts hE (ct_X0_endBreach l D cy z n Y (up2 (up2 (up2 V2 a0 7 (0 : Int32)) a0 9 (0 : Int32)) a0 13 (0 : Int32)) G a0 x3 hx3) hW hS q1 rfl rfl hl.1 (Nat.le_of_ble_eq_true rfl) ⟨Nat.le_of_ble_eq_true rfl, Nat.le_of_ble_eq_true rfl⟩ dX0_startAs_47 ⟨Nat.zero_le _, Nat.zero_le _⟩ (fun H locs hW hS => ?_)
  cases hcf
  exact wk_vret hx hb hr hlocks hW hS dX0_startAs_50
set_option maxHeartbeats 4000000 in
set_option maxRecDepth 100000 in
theorem ct_X0_copyFrom (l : Launch) (D : va_G) (cy : Nat → ClassId) (z n : Nat) (Y : mY) (V : mV) (G : mG) (a0 : Nat) (b1 : Nat) (x : mV) (hcf : cf_X0_copyFrom Y V G a0 b1 = some x) : CT l yX0_copyFrom cX0_copyFrom 2 none (rmd 0) D cy z [.ref a0, .ref b1] Y n V G none Y n x G := by
  refine ct_of (by decide) (Nat.le_of_ble_eq_true rfl) ?_
  intro p e s m args below meth c ls hx hb hr hml hown hts hlocks hnm hE hW hl
  have hS : va_S (zA z) s.heap s.heap [] := va_S.rf
  have hl : lv_has ls 2 [(0, .ref a0), (1, .ref b1)] := hl
  have hown : s.vm.findClass RX0 = some m.cls := hown
  rw [cf_X0_copyFrom] at hcf
  refine lv_aload_n hx hb dX0_copyFrom_0 rfl (lv_at hl 0 rfl) ?_
  refine lv_aload_n hx hb dX0_copyFrom_1 rfl (lv_at hl 1 rfl) ?_
  obtain ⟨q1, hcf⟩ := og hcf
  refine gf_X0_9 hx hb hts hown hE hW q1 dX0_copyFrom_2 ?_
  obtain ⟨q2, hcf⟩ := og hcf
  refine pf_X0_9 hx hb hts hown hE hW hS q2 (V b1 0) dX0_copyFrom_5 (fun H locs hW hS => ?_)
  refine lv_aload_n hx hb dX0_copyFrom_8 rfl (lv_at hl 0 rfl) ?_
  refine lv_aload_n hx hb dX0_copyFrom_9 rfl (lv_at hl 1 rfl) ?_
  refine gf_X0_15 hx hb hts hown hE hW q1 dX0_copyFrom_10 ?_
  refine pf_X0_15 hx hb hts hown hE hW hS q2 ((up2 V a0 0 (V b1 0)) b1 1) dX0_copyFrom_13 (fun H locs hW hS => ?_)
  refine lv_aload_n hx hb dX0_copyFrom_16 rfl (lv_at hl 0 rfl) ?_
  refine lv_aload_n hx hb dX0_copyFrom_17 rfl (lv_at hl 1 rfl) ?_
  refine gf_X0_18 hx hb hts hown hE hW q1 dX0_copyFrom_18 ?_
  refine pf_X0_18 hx hb hts hown hE hW hS q2 ((up2 (up2 V a0 0 (V b1 0)) a0 1 ((up2 V a0 0 (V b1 0)) b1 1)) b1 2) dX0_copyFrom_21 (fun H locs hW hS => ?_)
  obtain ⟨V3, hV3, hcf⟩ := ob hcf
  rw [Option.some.inj hV3] at hW
  refine lv_aload_n hx hb dX0_copyFrom_24 rfl (lv_at hl 0 rfl) ?_
  refine lv_aload_n hx hb dX0_copyFrom_25 rfl (lv_at hl 1 rfl) ?_
  refine gf_X0_21 hx hb hts hown hE hW q1 dX0_copyFrom_26 ?_
  refine pf_X0_21 hx hb hts hown hE hW hS q2 (V3 b1 3) dX0_copyFrom_29 (fun H locs hW hS => ?_)
  refine lv_aload_n hx hb dX0_copyFrom_32 rfl (lv_at hl 0 rfl) ?_
  refine lv_aload_n hx hb dX0_copyFrom_33 rfl (lv_at hl 1 rfl) ?_
  refine gf_X0_24 hx hb hts hown hE hW q1 dX0_copyFrom_34 ?_
  refine pf_X0_24 hx hb hts hown hE hW hS q2 ((up2 V3 a0 3 (V3 b1 3)) b1 4) dX0_copyFrom_37 (fun H locs hW hS => ?_)
  refine lv_aload_n hx hb dX0_copyFrom_40 rfl (lv_at hl 0 rfl) ?_
  refine lv_aload_n hx hb dX0_copyFrom_41 rfl (lv_at hl 1 rfl) ?_
  refine gf_X0_27 hx hb hts hown hE hW q1 dX0_copyFrom_42 ?_
  refine pf_X0_27 hx hb hts hown hE hW hS q2 ((up2 (up2 V3 a0 3 (V3 b1 3)) a0 4 ((up2 V3 a0 3 (V3 b1 3)) b1 4)) b1 5) dX0_copyFrom_45 (fun H locs hW hS => ?_)
  obtain ⟨V4, hV4, hcf⟩ := ob hcf
  rw [Option.some.inj hV4] at hW
  refine lv_aload_n hx hb dX0_copyFrom_48 rfl (lv_at hl 0 rfl) ?_
  refine lv_aload_n hx hb dX0_copyFrom_49 rfl (lv_at hl 1 rfl) ?_
  refine gf_X0_30 hx hb hts hown hE hW q1 dX0_copyFrom_50 ?_
  refine pf_X0_30 hx hb hts hown hE hW hS q2 (V4 b1 6) dX0_copyFrom_53 (fun H locs hW hS => ?_)
  refine lv_aload_n hx hb dX0_copyFrom_56 rfl (lv_at hl 0 rfl) ?_
  refine lv_aload_n hx hb dX0_copyFrom_57 rfl (lv_at hl 1 rfl) ?_
  refine gf_X0_33 hx hb hts hown hE hW q1 dX0_copyFrom_58 ?_
  refine pf_X0_33 hx hb hts hown hE hW hS q2 ((up2 V4 a0 6 (V4 b1 6)) b1 7) dX0_copyFrom_61 (fun H locs hW hS => ?_)
  refine lv_aload_n hx hb dX0_copyFrom_64 rfl (lv_at hl 0 rfl) ?_
  refine lv_aload_n hx hb dX0_copyFrom_65 rfl (lv_at hl 1 rfl) ?_
  refine gf_X0_36 hx hb hts hown hE hW q1 dX0_copyFrom_66 ?_
  obtain ⟨q5, hcf⟩ := og hcf
  refine pf_X0_36 hx hb hts hown hE hW hS q2 ((up2 (up2 V4 a0 6 (V4 b1 6)) a0 7 ((up2 V4 a0 6 (V4 b1 6)) b1 7)) b1 8) q5 dX0_copyFrom_69 (fun H locs hW hS => ?_)
  obtain ⟨V6, hV6, hcf⟩ := ob hcf
  rw [Option.some.inj hV6] at hW
  refine lv_aload_n hx hb dX0_copyFrom_72 rfl (lv_at hl 0 rfl) ?_
  refine lv_aload_n hx hb dX0_copyFrom_73 rfl (lv_at hl 1 rfl) ?_
  refine gf_X0_40 hx hb hts hown hE hW q1 dX0_copyFrom_74 ?_
  obtain ⟨q7, hcf⟩ := og hcf
  refine pf_X0_40 hx hb hts hown hE hW hS q2 (V6 b1 9) q7 dX0_copyFrom_77 (fun H locs hW hS => ?_)
  refine lv_aload_n hx hb dX0_copyFrom_80 rfl (lv_at hl 0 rfl) ?_
  refine lv_aload_n hx hb dX0_copyFrom_81 rfl (lv_at hl 1 rfl) ?_
  refine gf_X0_43 hx hb hts hown hE hW q1 dX0_copyFrom_82 ?_
  refine pf_X0_43 hx hb hts hown hE hW hS q2 ((up2 V6 a0 9 (V6 b1 9)) b1 10) dX0_copyFrom_85 (fun H locs hW hS => ?_)
  refine lv_aload_n hx hb dX0_copyFrom_88 rfl (lv_at hl 0 rfl) ?_
  refine lv_aload_n hx hb dX0_copyFrom_89 rfl (lv_at hl 1 rfl) ?_
  refine gf_X0_46 hx hb hts hown hE hW q1 dX0_copyFrom_90 ?_
  obtain ⟨q8, hcf⟩ := og hcf
  refine pf_X0_46 hx hb hts hown hE hW hS q2 ((up2 (up2 V6 a0 9 (V6 b1 9)) a0 10 ((up2 V6 a0 9 (V6 b1 9)) b1 10)) b1 11) q8 dX0_copyFrom_93 (fun H locs hW hS => ?_)
  obtain ⟨V9, hV9, hcf⟩ := ob hcf
  rw [Option.some.inj hV9] at hW
  refine lv_aload_n hx hb dX0_copyFrom_96 rfl (lv_at hl 0 rfl) ?_
  refine lv_aload_n hx hb dX0_copyFrom_97 rfl (lv_at hl 1 rfl) ?_
  refine gf_X0_49 hx hb hts hown hE hW q1 dX0_copyFrom_98 ?_
  refine pf_X0_49 hx hb hts hown hE hW hS q2 (V9 b1 12) dX0_copyFrom_101 (fun H locs hW hS => ?_)
  refine lv_aload_n hx hb dX0_copyFrom_104 rfl (lv_at hl 0 rfl) ?_
  refine lv_aload_n hx hb dX0_copyFrom_105 rfl (lv_at hl 1 rfl) ?_
  refine gf_X0_52 hx hb hts hown hE hW q1 dX0_copyFrom_106 ?_
  refine pf_X0_52 hx hb hts hown hE hW hS q2 ((up2 V9 a0 12 (V9 b1 12)) b1 13) dX0_copyFrom_109 (fun H locs hW hS => ?_)
  cases hcf
  exact wk_vret hx hb hr hlocks hW hS dX0_copyFrom_112
set_option maxHeartbeats 4000000 in
set_option maxRecDepth 100000 in
theorem ct_X0_isMet (l : Launch) (D : va_G) (cy : Nat → ClassId) (z n : Nat) (Y : mY) (V : mV) (G : mG) (a0 : Nat) (x : Int32) (hcf : cf_X0_isMet Y V G a0 = some x) : CT l yX0_isMet cX0_isMet 1 (some .boolean) (rmd 0) D cy z [.ref a0] Y n V G (some (.int x)) Y n V G := by
  refine ct_of (by decide) (Nat.le_of_ble_eq_true rfl) ?_
  intro p e s m args below meth c ls hx hb hr hml hown hts hlocks hnm hE hW hl
  have hS : va_S (zA z) s.heap s.heap [] := va_S.rf
  have hl : lv_has ls 1 [(0, .ref a0)] := hl
  have hown : s.vm.findClass RX0 = some m.cls := hown
  rw [cf_X0_isMet] at hcf
  refine lv_aload_n hx hb dX0_isMet_0 rfl (lv_at hl 0 rfl) ?_
  obtain ⟨q1, hcf⟩ := og hcf
  refine gf_X0_9 hx hb hts hown hE hW q1 dX0_isMet_1 ?_
  refine lv_iconst (v := (2 : Int32)) hx hb dX0_isMet_4 (by decide) ?_
  refine lv_icmp_ne (tgt := 25) hx hb dX0_isMet_5 (by decide) (fun q2 => ?_) (fun q2 => ?_)
  · replace hcf := (if_neg q2).symm.trans hcf
    refine lv_aload_n hx hb dX0_isMet_25 rfl (lv_at hl 0 rfl) ?_
    refine gf_X0_24 hx hb hts hown hE hW q1 dX0_isMet_26 ?_
    refine lv_iconst (v := (1 : Int32)) hx hb dX0_isMet_29 (by decide) ?_
    refine lv_aload_n hx hb dX0_isMet_30 rfl (lv_at hl 0 rfl) ?_
    refine gf_X0_21 hx hb hts hown hE hW q1 dX0_isMet_31 ?_
    refine lv_ishl hx hb dX0_isMet_34 ?_
    refine lv_iconst (v := (1 : Int32)) hx hb dX0_isMet_35 (by decide) ?_
    refine lv_isub hx hb dX0_isMet_36 ?_
    refine lv_icmp_ne (tgt := 44) hx hb dX0_isMet_37 (by decide) (fun q3 => ?_) (fun q3 => ?_)
    · replace hcf := (if_neg q3).symm.trans hcf
      refine lv_iconst (v := (0 : Int32)) hx hb dX0_isMet_44 (by decide) ?_
      cases hcf
      exact wk_zret hx hb hr hlocks (by decide) hW hS dX0_isMet_45
    · replace hcf := (if_pos q3).symm.trans hcf
      refine lv_iconst (v := (1 : Int32)) hx hb dX0_isMet_40 (by decide) ?_
      refine lv_goto (tgt := 45) hx hb dX0_isMet_41 (by decide) ?_
      cases hcf
      exact wk_zret hx hb hr hlocks (by decide) hW hS dX0_isMet_45
  · replace hcf := (if_pos q2).symm.trans hcf
    refine lv_aload_n hx hb dX0_isMet_8 rfl (lv_at hl 0 rfl) ?_
    refine gf_X0_33 hx hb hts hown hE hW q1 dX0_isMet_9 ?_
    refine lv_aload_n hx hb dX0_isMet_12 rfl (lv_at hl 0 rfl) ?_
    refine gf_X0_18 hx hb hts hown hE hW q1 dX0_isMet_13 ?_
    refine lv_icmp_lt (tgt := 23) hx hb dX0_isMet_16 (by decide) (fun q4 => ?_) (fun q4 => ?_)
    · replace hcf := (if_pos q4).symm.trans hcf
      refine lv_iconst (v := (0 : Int32)) hx hb dX0_isMet_23 (by decide) ?_
      cases hcf
      exact wk_zret hx hb hr hlocks (by decide) hW hS dX0_isMet_24
    · replace hcf := (if_neg q4).symm.trans hcf
      refine lv_iconst (v := (1 : Int32)) hx hb dX0_isMet_19 (by decide) ?_
      refine lv_goto (tgt := 24) hx hb dX0_isMet_20 (by decide) ?_
      cases hcf
      exact wk_zret hx hb hr hlocks (by decide) hW hS dX0_isMet_24
set_option maxHeartbeats 4000000 in
set_option maxRecDepth 100000 in
theorem ct_X0_isPartsSet (l : Launch) (D : va_G) (cy : Nat → ClassId) (z n : Nat) (Y : mY) (V : mV) (G : mG) (a0 : Nat) (b1 : Int32) (x : Int32) (hcf : cf_X0_isPartsSet Y V G a0 b1 = some x) : CT l yX0_isPartsSet cX0_isPartsSet 2 (some .boolean) (rmd 0) D cy z [.ref a0, .int b1] Y n V G (some (.int x)) Y n V G := by
  refine ct_of (by decide) (Nat.le_of_ble_eq_true rfl) ?_
  intro p e s m args below meth c ls hx hb hr hml hown hts hlocks hnm hE hW hl
  have hS : va_S (zA z) s.heap s.heap [] := va_S.rf
  have hl : lv_has ls 2 [(0, .ref a0), (1, .int b1)] := hl
  have hown : s.vm.findClass RX0 = some m.cls := hown
  rw [cf_X0_isPartsSet] at hcf
  refine lv_iload_n hx hb dX0_isPartsSet_0 rfl (lv_at hl 1 rfl) ?_
  refine lv_if_lt (tgt := 18) hx hb dX0_isPartsSet_1 (by decide) (fun q1 => ?_) (fun q1 => ?_)
  · replace hcf := (if_pos q1).symm.trans hcf
    refine lv_iconst (v := (0 : Int32)) hx hb dX0_isPartsSet_18 (by decide) ?_
    cases hcf
    exact wk_zret hx hb hr hlocks (by decide) hW hS dX0_isPartsSet_19
  · replace hcf := (if_neg q1).symm.trans hcf
    refine lv_iload_n hx hb dX0_isPartsSet_4 rfl (lv_at hl 1 rfl) ?_
    refine lv_iconst (v := (1 : Int32)) hx hb dX0_isPartsSet_5 (by decide) ?_
    refine lv_aload_n hx hb dX0_isPartsSet_6 rfl (lv_at hl 0 rfl) ?_
    obtain ⟨q2, hcf⟩ := og hcf
    refine gf_X0_21 hx hb hts hown hE hW q2 dX0_isPartsSet_7 ?_
    refine lv_ishl hx hb dX0_isPartsSet_10 ?_
    refine lv_icmp_ge (tgt := 18) hx hb dX0_isPartsSet_11 (by decide) (fun q3 => ?_) (fun q3 => ?_)
    · replace hcf := (if_pos q3).symm.trans hcf
      refine lv_iconst (v := (0 : Int32)) hx hb dX0_isPartsSet_18 (by decide) ?_
      cases hcf
      exact wk_zret hx hb hr hlocks (by decide) hW hS dX0_isPartsSet_19
    · replace hcf := (if_neg q3).symm.trans hcf
      refine lv_iconst (v := (1 : Int32)) hx hb dX0_isPartsSet_14 (by decide) ?_
      refine lv_goto (tgt := 19) hx hb dX0_isPartsSet_15 (by decide) ?_
      cases hcf
      exact wk_zret hx hb hr hlocks (by decide) hW hS dX0_isPartsSet_19
set_option maxHeartbeats 4000000 in
set_option maxRecDepth 100000 in
theorem ct_X0_approve (l : Launch) (D : va_G) (cy : Nat → ClassId) (z n : Nat) (Y : mY) (V : mV) (G : mG) (a0 : Nat) (b1 : Int32) (x : mV) (hcf : cf_X0_approve Y V G a0 b1 = some x) : CT l yX0_approve cX0_approve 2 none (rmd 1) D cy z [.ref a0, .int b1] Y n V G none Y n x G := by
  refine ct_of (by decide) (Nat.le_of_ble_eq_true rfl) ?_
  intro p e s m args below meth c ls hx hb hr hml hown hts hlocks hnm hE hW hl
  have hS : va_S (zA z) s.heap s.heap [] := va_S.rf
  have hl : lv_has ls 2 [(0, .ref a0), (1, .int b1)] := hl
  have hown : s.vm.findClass RX0 = some m.cls := hown
  rw [cf_X0_approve] at hcf
  refine lv_aload_n hx hb dX0_approve_0 rfl (lv_at hl 0 rfl) ?_
  refine lv_aload_n hx hb dX0_approve_1 rfl (lv_at hl 0 rfl) ?_
  obtain ⟨q1, hcf⟩ := og hcf
  refine gf_X0_24 hx hb hts hown hE hW q1 dX0_approve_2 ?_
  refine lv_iload_n hx hb dX0_approve_5 rfl (lv_at hl 1 rfl) ?_
  refine lv_ior hx hb dX0_approve_6 ?_
  refine pf_X0_24 hx hb hts hown hE hW hS q1 ((V a0 4) ||| b1) dX0_approve_7 (fun H locs hW hS => ?_)
  refine lv_aload_n hx hb dX0_approve_10 rfl (lv_at hl 0 rfl) ?_
  refine lv_iconst (v := (0 : Int32)) hx hb dX0_approve_11 (by decide) ?_
  refine pf_X0_27 hx hb hts hown hE hW hS q1 (0 : Int32) dX0_approve_12 (fun H locs hW hS => ?_)
  refine lv_aload_n hx hb dX0_approve_15 rfl (lv_at hl 0 rfl) ?_
  refine gf_X0_36 hx hb hts hown hE hW q1 dX0_approve_16 ?_
  refine lv_if_eq (tgt := 33) hx hb dX0_approve_19 (by decide) (fun q2 => ?_) (fun q2 => ?_)
  · replace hcf := (if_pos q2).symm.trans hcf
    cases hcf
    exact wk_vret hx hb hr hlocks hW hS dX0_approve_33
  · replace hcf := (if_neg q2).symm.trans hcf
    refine lv_aload_n hx hb dX0_approve_22 rfl (lv_at hl 0 rfl) ?_
    obtain ⟨x3, hx3, hcf⟩ := ob hcf
    refine iv_X0_58 (As := []) (rest := []) hx hb hml hown hts hE (ct_X0_isMet l D cy z n Y (up2 (up2 V a0 4 ((V a0 4) ||| b1)) a0 5 (0 : Int32)) G a0 x3 hx3) hW hS q1 rfl rfl hl.1 (Nat.le_of_ble_eq_true rfl) ⟨Nat.le_of_ble_eq_true rfl, Nat.le_of_ble_eq_true rfl⟩ dX0_approve_23 ⟨Nat.zero_le _, Nat.zero_le _⟩ (fun H locs hW hS => ?_)
    refine lv_if_eq (tgt := 33) hx hb dX0_approve_26 (by decide) (fun q4 => ?_) (fun q4 => ?_)
    · replace hcf := (if_pos q4).symm.trans hcf
      cases hcf
      exact wk_vret hx hb hr hlocks hW hS dX0_approve_33
    · replace hcf := (if_neg q4).symm.trans hcf
      refine lv_aload_n hx hb dX0_approve_29 rfl (lv_at hl 0 rfl) ?_
      obtain ⟨x5, hx5, hcf⟩ := ob hcf
      refine iv_X0_55 (As := []) (rest := []) hx hb hml hown hts hE (ct_X0_endBreach l D cy z n Y (up2 (up2 V a0 4 ((V a0 4) ||| b1)) a0 5 (0 : Int32)) G a0 x5 hx5) hW hS q1 rfl rfl hl.1 (Nat.le_of_ble_eq_true rfl) ⟨Nat.le_of_ble_eq_true rfl, Nat.le_of_ble_eq_true rfl⟩ dX0_approve_30 ⟨Nat.zero_le _, Nat.zero_le _⟩ (fun H locs hW hS => ?_)
      cases hcf
      exact wk_vret hx hb hr hlocks hW hS dX0_approve_33
set_option maxHeartbeats 4000000 in
set_option maxRecDepth 100000 in
theorem ct_X0_ageBreach (l : Launch) (D : va_G) (cy : Nat → ClassId) (z n : Nat) (Y : mY) (V : mV) (G : mG) (a0 : Nat) (b1 : Int32) (x : mV) (hcf : cf_X0_ageBreach Y V G a0 b1 = some x) : CT l yX0_ageBreach cX0_ageBreach 2 none (rmd 1) D cy z [.ref a0, .int b1] Y n V G none Y n x G := by
  refine ct_of (by decide) (Nat.le_of_ble_eq_true rfl) ?_
  intro p e s m args below meth c ls hx hb hr hml hown hts hlocks hnm hE hW hl
  have hS : va_S (zA z) s.heap s.heap [] := va_S.rf
  have hl : lv_has ls 2 [(0, .ref a0), (1, .int b1)] := hl
  have hown : s.vm.findClass RX0 = some m.cls := hown
  rw [cf_X0_ageBreach] at hcf
  refine lv_aload_n hx hb dX0_ageBreach_0 rfl (lv_at hl 0 rfl) ?_
  refine lv_dup hx hb dX0_ageBreach_1 rfl ?_
  obtain ⟨q1, hcf⟩ := og hcf
  refine gf_X0_43 hx hb hts hown hE hW q1 dX0_ageBreach_2 ?_
  refine lv_iconst (v := (1 : Int32)) hx hb dX0_ageBreach_5 (by decide) ?_
  refine lv_iadd hx hb dX0_ageBreach_6 ?_
  refine pf_X0_43 hx hb hts hown hE hW hS q1 ((V a0 10) + (1 : Int32)) dX0_ageBreach_7 (fun H locs hW hS => ?_)
  refine lv_aload_n hx hb dX0_ageBreach_10 rfl (lv_at hl 0 rfl) ?_
  refine gf_X0_46 hx hb hts hown hE hW q1 dX0_ageBreach_11 ?_
  refine lv_if_eq (tgt := 37) hx hb dX0_ageBreach_14 (by decide) (fun q2 => ?_) (fun q2 => ?_)
  · replace hcf := (if_pos q2).symm.trans hcf
    refine lv_aload_n hx hb dX0_ageBreach_37 rfl (lv_at hl 0 rfl) ?_
    refine gf_X0_46 hx hb hts hown hE hW q1 dX0_ageBreach_38 ?_
    refine lv_if_eq (tgt := 57) hx hb dX0_ageBreach_41 (by decide) (fun q3 => ?_) (fun q3 => ?_)
    · replace hcf := (if_pos q3).symm.trans hcf
      refine lv_aload_n hx hb dX0_ageBreach_57 rfl (lv_at hl 0 rfl) ?_
      refine gf_X0_43 hx hb hts hown hE hW q1 dX0_ageBreach_58 ?_
      refine lv_iload_n hx hb dX0_ageBreach_61 rfl (lv_at hl 1 rfl) ?_
      refine lv_icmp_lt (tgt := 74) hx hb dX0_ageBreach_62 (by decide) (fun q4 => ?_) (fun q4 => ?_)
      · replace hcf := (if_pos q4).symm.trans hcf
        cases hcf
        exact wk_vret hx hb hr hlocks hW hS dX0_ageBreach_74
      · replace hcf := (if_neg q4).symm.trans hcf
        refine lv_aload_n hx hb dX0_ageBreach_65 rfl (lv_at hl 0 rfl) ?_
        obtain ⟨x5, hx5, hcf⟩ := ob hcf
        refine iv_X0_55 (As := []) (rest := []) hx hb hml hown hts hE (ct_X0_endBreach l D cy z n Y (up2 V a0 10 ((V a0 10) + (1 : Int32))) G a0 x5 hx5) hW hS q1 rfl rfl hl.1 (Nat.le_of_ble_eq_true rfl) ⟨Nat.le_of_ble_eq_true rfl, Nat.le_of_ble_eq_true rfl⟩ dX0_ageBreach_66 ⟨Nat.zero_le _, Nat.zero_le _⟩ (fun H locs hW hS => ?_)
        refine lv_aload_n hx hb dX0_ageBreach_69 rfl (lv_at hl 0 rfl) ?_
        refine lv_iconst (v := (1 : Int32)) hx hb dX0_ageBreach_70 (by decide) ?_
        refine pf_X0_40 hx hb hts hown hE hW hS q1 (1 : Int32) (by decide) dX0_ageBreach_71 (fun H locs hW hS => ?_)
        cases hcf
        exact wk_vret hx hb hr hlocks hW hS dX0_ageBreach_74
    · replace hcf := (if_neg q3).symm.trans hcf
      refine lv_aload_n hx hb dX0_ageBreach_44 rfl (lv_at hl 0 rfl) ?_
      refine lv_dup hx hb dX0_ageBreach_45 rfl ?_
      refine gf_X0_52 hx hb hts hown hE hW q1 dX0_ageBreach_46 ?_
      refine lv_iconst (v := (1 : Int32)) hx hb dX0_ageBreach_49 (by decide) ?_
      refine lv_iadd hx hb dX0_ageBreach_50 ?_
      refine pf_X0_52 hx hb hts hown hE hW hS q1 (((up2 V a0 10 ((V a0 10) + (1 : Int32))) a0 13) + (1 : Int32)) dX0_ageBreach_51 (fun H locs hW hS => ?_)
      obtain ⟨V6, hV6, hcf⟩ := ob hcf
      rw [Option.some.inj hV6] at hW
      refine lv_goto (tgt := 74) hx hb dX0_ageBreach_54 (by decide) ?_
      cases hcf
      exact wk_vret hx hb hr hlocks hW hS dX0_ageBreach_74
  · replace hcf := (if_neg q2).symm.trans hcf
    refine lv_aload_n hx hb dX0_ageBreach_17 rfl (lv_at hl 0 rfl) ?_
    refine gf_X0_49 hx hb hts hown hE hW q1 dX0_ageBreach_18 ?_
    refine lv_if_le (tgt := 37) hx hb dX0_ageBreach_21 (by decide) (fun q7 => ?_) (fun q7 => ?_)
    · replace hcf := (if_pos q7).symm.trans hcf
      refine lv_aload_n hx hb dX0_ageBreach_37 rfl (lv_at hl 0 rfl) ?_
      refine gf_X0_46 hx hb hts hown hE hW q1 dX0_ageBreach_38 ?_
      refine lv_if_eq (tgt := 57) hx hb dX0_ageBreach_41 (by decide) (fun q8 => ?_) (fun q8 => ?_)
      · replace hcf := (if_pos q8).symm.trans hcf
        refine lv_aload_n hx hb dX0_ageBreach_57 rfl (lv_at hl 0 rfl) ?_
        refine gf_X0_43 hx hb hts hown hE hW q1 dX0_ageBreach_58 ?_
        refine lv_iload_n hx hb dX0_ageBreach_61 rfl (lv_at hl 1 rfl) ?_
        refine lv_icmp_lt (tgt := 74) hx hb dX0_ageBreach_62 (by decide) (fun q9 => ?_) (fun q9 => ?_)
        · replace hcf := (if_pos q9).symm.trans hcf
          cases hcf
          exact wk_vret hx hb hr hlocks hW hS dX0_ageBreach_74
        · replace hcf := (if_neg q9).symm.trans hcf
          refine lv_aload_n hx hb dX0_ageBreach_65 rfl (lv_at hl 0 rfl) ?_
          obtain ⟨x10, hx10, hcf⟩ := ob hcf
          refine iv_X0_55 (As := []) (rest := []) hx hb hml hown hts hE (ct_X0_endBreach l D cy z n Y (up2 V a0 10 ((V a0 10) + (1 : Int32))) G a0 x10 hx10) hW hS q1 rfl rfl hl.1 (Nat.le_of_ble_eq_true rfl) ⟨Nat.le_of_ble_eq_true rfl, Nat.le_of_ble_eq_true rfl⟩ dX0_ageBreach_66 ⟨Nat.zero_le _, Nat.zero_le _⟩ (fun H locs hW hS => ?_)
          refine lv_aload_n hx hb dX0_ageBreach_69 rfl (lv_at hl 0 rfl) ?_
          refine lv_iconst (v := (1 : Int32)) hx hb dX0_ageBreach_70 (by decide) ?_
          refine pf_X0_40 hx hb hts hown hE hW hS q1 (1 : Int32) (by decide) dX0_ageBreach_71 (fun H locs hW hS => ?_)
          cases hcf
          exact wk_vret hx hb hr hlocks hW hS dX0_ageBreach_74
      · replace hcf := (if_neg q8).symm.trans hcf
        refine lv_aload_n hx hb dX0_ageBreach_44 rfl (lv_at hl 0 rfl) ?_
        refine lv_dup hx hb dX0_ageBreach_45 rfl ?_
        refine gf_X0_52 hx hb hts hown hE hW q1 dX0_ageBreach_46 ?_
        refine lv_iconst (v := (1 : Int32)) hx hb dX0_ageBreach_49 (by decide) ?_
        refine lv_iadd hx hb dX0_ageBreach_50 ?_
        refine pf_X0_52 hx hb hts hown hE hW hS q1 (((up2 V a0 10 ((V a0 10) + (1 : Int32))) a0 13) + (1 : Int32)) dX0_ageBreach_51 (fun H locs hW hS => ?_)
        obtain ⟨V11, hV11, hcf⟩ := ob hcf
        rw [Option.some.inj hV11] at hW
        refine lv_goto (tgt := 74) hx hb dX0_ageBreach_54 (by decide) ?_
        cases hcf
        exact wk_vret hx hb hr hlocks hW hS dX0_ageBreach_74
    · replace hcf := (if_neg q7).symm.trans hcf
      refine lv_aload_n hx hb dX0_ageBreach_24 rfl (lv_at hl 0 rfl) ?_
      refine lv_dup hx hb dX0_ageBreach_25 rfl ?_
      refine gf_X0_49 hx hb hts hown hE hW q1 dX0_ageBreach_26 ?_
      refine lv_iconst (v := (1 : Int32)) hx hb dX0_ageBreach_29 (by decide) ?_
      refine lv_isub hx hb dX0_ageBreach_30 ?_
      refine pf_X0_49 hx hb hts hown hE hW hS q1 (((up2 V a0 10 ((V a0 10) + (1 : Int32))) a0 12) - (1 : Int32)) dX0_ageBreach_31 (fun H locs hW hS => ?_)
      obtain ⟨V12, hV12, hcf⟩ := ob hcf
      rw [Option.some.inj hV12] at hW
      refine lv_goto (tgt := 74) hx hb dX0_ageBreach_34 (by decide) ?_
      cases hcf
      exact wk_vret hx hb hr hlocks hW hS dX0_ageBreach_74
end
section
theorem zz_last : True := trivial
end
